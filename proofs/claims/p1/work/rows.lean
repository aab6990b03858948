section
-- ===== PART A: goes FIRST, ahead of the names: the tables' words, and 'selects' of the private methods out of them =====
/-- a private method of a class that the tables say can be made, by its rows of tables_1 -/
def lw_okq (q : MethodName × Nat) : Prop := (q.1.cls ≠ "java/lang/invoke/MethodHandle" ∧ q.1.cls ≠ "java/lang/invoke/VarHandle") ∧ Cond.instantiable q.1.cls q.2 ∈ tables_1 ∧ Cond.privateMethod q.1 ∈ tables_1 ∧ Cond.instanceMethod q.1 ∈ tables_1
theorem lw_p0 : lw_okq (⟨"java/lang/Throwable", "fillInStackTrace", "(I)Ljava/lang/Throwable;"⟩, 6) := ⟨⟨by decide +kernel, by decide +kernel⟩, List.mem_of_getElem? (i := 296) (by decide +kernel), List.mem_of_getElem? (i := 294) (by decide +kernel), List.mem_of_getElem? (i := 295) (by decide +kernel)⟩
theorem lw_p1 : lw_okq (⟨"PhaserYard$Run", "takeOne", "(I)V"⟩, 15) := ⟨⟨by decide +kernel, by decide +kernel⟩, List.mem_of_getElem? (i := 51) (by decide +kernel), List.mem_of_getElem? (i := 431) (by decide +kernel), List.mem_of_getElem? (i := 432) (by decide +kernel)⟩
theorem lw_p2 : lw_okq (⟨"PhaserYard$Run", "step", "(LPhaserYard$Worker;)V"⟩, 15) := ⟨⟨by decide +kernel, by decide +kernel⟩, List.mem_of_getElem? (i := 51) (by decide +kernel), List.mem_of_getElem? (i := 450) (by decide +kernel), List.mem_of_getElem? (i := 451) (by decide +kernel)⟩
theorem lw_p3 : lw_okq (⟨"PhaserYard$Run", "finishWait", "(LPhaserYard$Task;)I"⟩, 15) := ⟨⟨by decide +kernel, by decide +kernel⟩, List.mem_of_getElem? (i := 51) (by decide +kernel), List.mem_of_getElem? (i := 454) (by decide +kernel), List.mem_of_getElem? (i := 455) (by decide +kernel)⟩
theorem lw_p4 : lw_okq (⟨"PhaserYard$Run", "get", "(LPhaserYard$Task;I)I"⟩, 15) := ⟨⟨by decide +kernel, by decide +kernel⟩, List.mem_of_getElem? (i := 51) (by decide +kernel), List.mem_of_getElem? (i := 458) (by decide +kernel), List.mem_of_getElem? (i := 459) (by decide +kernel)⟩
theorem lw_p5 : lw_okq (⟨"PhaserYard$Run", "passPhases", "(LPhaserYard$Task;)I"⟩, 15) := ⟨⟨by decide +kernel, by decide +kernel⟩, List.mem_of_getElem? (i := 51) (by decide +kernel), List.mem_of_getElem? (i := 466) (by decide +kernel), List.mem_of_getElem? (i := 467) (by decide +kernel)⟩
theorem lw_p6 : lw_okq (⟨"PhaserYard$Run", "isHeldBack", "(LPhaserYard$Task;)Z"⟩, 15) := ⟨⟨by decide +kernel, by decide +kernel⟩, List.mem_of_getElem? (i := 51) (by decide +kernel), List.mem_of_getElem? (i := 470) (by decide +kernel), List.mem_of_getElem? (i := 471) (by decide +kernel)⟩
theorem lw_p7 : lw_okq (⟨"PhaserYard$Run", "endScope", "(LPhaserYard$Task;)I"⟩, 15) := ⟨⟨by decide +kernel, by decide +kernel⟩, List.mem_of_getElem? (i := 51) (by decide +kernel), List.mem_of_getElem? (i := 482) (by decide +kernel), List.mem_of_getElem? (i := 483) (by decide +kernel)⟩
theorem lw_p8 : lw_okq (⟨"PhaserYard$Run", "instruct", "(LPhaserYard$Worker;LPhaserYard$Task;LPhaserYard$Body;)I"⟩, 15) := ⟨⟨by decide +kernel, by decide +kernel⟩, List.mem_of_getElem? (i := 51) (by decide +kernel), List.mem_of_getElem? (i := 494) (by decide +kernel), List.mem_of_getElem? (i := 495) (by decide +kernel)⟩
theorem lw_p9 : lw_okq (⟨"PhaserYard$Run", "spawn", "(LPhaserYard$Worker;LPhaserYard$Task;IZ)I"⟩, 15) := ⟨⟨by decide +kernel, by decide +kernel⟩, List.mem_of_getElem? (i := 51) (by decide +kernel), List.mem_of_getElem? (i := 498) (by decide +kernel), List.mem_of_getElem? (i := 499) (by decide +kernel)⟩
theorem lw_p10 : lw_okq (⟨"PhaserYard$Run", "makeTask", "(LPhaserYard$Task;I)LPhaserYard$Task;"⟩, 15) := ⟨⟨by decide +kernel, by decide +kernel⟩, List.mem_of_getElem? (i := 51) (by decide +kernel), List.mem_of_getElem? (i := 502) (by decide +kernel), List.mem_of_getElem? (i := 503) (by decide +kernel)⟩
theorem lw_p11 : lw_okq (⟨"PhaserYard$Run", "openScope", "(LPhaserYard$Task;II)I"⟩, 15) := ⟨⟨by decide +kernel, by decide +kernel⟩, List.mem_of_getElem? (i := 51) (by decide +kernel), List.mem_of_getElem? (i := 510) (by decide +kernel), List.mem_of_getElem? (i := 511) (by decide +kernel)⟩
theorem lw_p12 : lw_okq (⟨"PhaserYard$Run", "close", "(LPhaserYard$Task;)I"⟩, 15) := ⟨⟨by decide +kernel, by decide +kernel⟩, List.mem_of_getElem? (i := 51) (by decide +kernel), List.mem_of_getElem? (i := 514) (by decide +kernel), List.mem_of_getElem? (i := 515) (by decide +kernel)⟩
theorem lw_p13 : lw_okq (⟨"PhaserYard$Run", "put", "(II)I"⟩, 15) := ⟨⟨by decide +kernel, by decide +kernel⟩, List.mem_of_getElem? (i := 51) (by decide +kernel), List.mem_of_getElem? (i := 528) (by decide +kernel), List.mem_of_getElem? (i := 529) (by decide +kernel)⟩
theorem lw_p14 : lw_okq (⟨"PhaserYard$Run", "spawnWaiting", "(LPhaserYard$Task;II)I"⟩, 15) := ⟨⟨by decide +kernel, by decide +kernel⟩, List.mem_of_getElem? (i := 51) (by decide +kernel), List.mem_of_getElem? (i := 532) (by decide +kernel), List.mem_of_getElem? (i := 533) (by decide +kernel)⟩
theorem lw_p15 : lw_okq (⟨"PhaserYard$Run", "join", "(LPhaserYard$Task;LPhaserYard$Phaser;I)I"⟩, 15) := ⟨⟨by decide +kernel, by decide +kernel⟩, List.mem_of_getElem? (i := 51) (by decide +kernel), List.mem_of_getElem? (i := 536) (by decide +kernel), List.mem_of_getElem? (i := 537) (by decide +kernel)⟩
def lw_privs_1 : List (MethodName × Nat) := [(⟨"java/lang/Throwable", "fillInStackTrace", "(I)Ljava/lang/Throwable;"⟩, 6), (⟨"PhaserYard$Run", "takeOne", "(I)V"⟩, 15), (⟨"PhaserYard$Run", "step", "(LPhaserYard$Worker;)V"⟩, 15), (⟨"PhaserYard$Run", "finishWait", "(LPhaserYard$Task;)I"⟩, 15), (⟨"PhaserYard$Run", "get", "(LPhaserYard$Task;I)I"⟩, 15), (⟨"PhaserYard$Run", "passPhases", "(LPhaserYard$Task;)I"⟩, 15), (⟨"PhaserYard$Run", "isHeldBack", "(LPhaserYard$Task;)Z"⟩, 15), (⟨"PhaserYard$Run", "endScope", "(LPhaserYard$Task;)I"⟩, 15), (⟨"PhaserYard$Run", "instruct", "(LPhaserYard$Worker;LPhaserYard$Task;LPhaserYard$Body;)I"⟩, 15), (⟨"PhaserYard$Run", "spawn", "(LPhaserYard$Worker;LPhaserYard$Task;IZ)I"⟩, 15), (⟨"PhaserYard$Run", "makeTask", "(LPhaserYard$Task;I)LPhaserYard$Task;"⟩, 15), (⟨"PhaserYard$Run", "openScope", "(LPhaserYard$Task;II)I"⟩, 15), (⟨"PhaserYard$Run", "close", "(LPhaserYard$Task;)I"⟩, 15), (⟨"PhaserYard$Run", "put", "(II)I"⟩, 15), (⟨"PhaserYard$Run", "spawnWaiting", "(LPhaserYard$Task;II)I"⟩, 15), (⟨"PhaserYard$Run", "join", "(LPhaserYard$Task;LPhaserYard$Phaser;I)I"⟩, 15)]
theorem lw_r1 : ∀ q ∈ lw_privs_1, lw_okq q := List.forall_mem_cons.mpr ⟨lw_p0, List.forall_mem_cons.mpr ⟨lw_p1, List.forall_mem_cons.mpr ⟨lw_p2, List.forall_mem_cons.mpr ⟨lw_p3, List.forall_mem_cons.mpr ⟨lw_p4, List.forall_mem_cons.mpr ⟨lw_p5, List.forall_mem_cons.mpr ⟨lw_p6, List.forall_mem_cons.mpr ⟨lw_p7, List.forall_mem_cons.mpr ⟨lw_p8, List.forall_mem_cons.mpr ⟨lw_p9, List.forall_mem_cons.mpr ⟨lw_p10, List.forall_mem_cons.mpr ⟨lw_p11, List.forall_mem_cons.mpr ⟨lw_p12, List.forall_mem_cons.mpr ⟨lw_p13, List.forall_mem_cons.mpr ⟨lw_p14, List.forall_mem_cons.mpr ⟨lw_p15, fun _ h => absurd h List.not_mem_nil⟩⟩⟩⟩⟩⟩⟩⟩⟩⟩⟩⟩⟩⟩⟩⟩
theorem lw_p16 : lw_okq (⟨"PhaserYard$Run", "leave", "(LPhaserYard$Task;LPhaserYard$Phaser;)I"⟩, 15) := ⟨⟨by decide +kernel, by decide +kernel⟩, List.mem_of_getElem? (i := 51) (by decide +kernel), List.mem_of_getElem? (i := 544) (by decide +kernel), List.mem_of_getElem? (i := 545) (by decide +kernel)⟩
theorem lw_p17 : lw_okq (⟨"PhaserYard$Phaser", "raisePhase", "()V"⟩, 4) := ⟨⟨by decide +kernel, by decide +kernel⟩, List.mem_of_getElem? (i := 141) (by decide +kernel), List.mem_of_getElem? (i := 552) (by decide +kernel), List.mem_of_getElem? (i := 553) (by decide +kernel)⟩
theorem lw_p18 : lw_okq (⟨"PhaserYard$Run", "signalAll", "(LPhaserYard$Task;)V"⟩, 15) := ⟨⟨by decide +kernel, by decide +kernel⟩, List.mem_of_getElem? (i := 51) (by decide +kernel), List.mem_of_getElem? (i := 556) (by decide +kernel), List.mem_of_getElem? (i := 557) (by decide +kernel)⟩
theorem lw_p19 : lw_okq (⟨"PhaserYard$Run", "say", "(I)V"⟩, 15) := ⟨⟨by decide +kernel, by decide +kernel⟩, List.mem_of_getElem? (i := 51) (by decide +kernel), List.mem_of_getElem? (i := 564) (by decide +kernel), List.mem_of_getElem? (i := 565) (by decide +kernel)⟩
theorem lw_p20 : lw_okq (⟨"PhaserYard$Run", "endInnermost", "(LPhaserYard$Task;)V"⟩, 15) := ⟨⟨by decide +kernel, by decide +kernel⟩, List.mem_of_getElem? (i := 51) (by decide +kernel), List.mem_of_getElem? (i := 568) (by decide +kernel), List.mem_of_getElem? (i := 569) (by decide +kernel)⟩
theorem lw_p21 : lw_okq (⟨"PhaserYard$Run", "finish", "(LPhaserYard$Task;)V"⟩, 15) := ⟨⟨by decide +kernel, by decide +kernel⟩, List.mem_of_getElem? (i := 51) (by decide +kernel), List.mem_of_getElem? (i := 572) (by decide +kernel), List.mem_of_getElem? (i := 573) (by decide +kernel)⟩
theorem lw_p22 : lw_okq (⟨"PhaserYard$Run", "wakeAll", "(LPhaserYard$Worker;)V"⟩, 15) := ⟨⟨by decide +kernel, by decide +kernel⟩, List.mem_of_getElem? (i := 51) (by decide +kernel), List.mem_of_getElem? (i := 580) (by decide +kernel), List.mem_of_getElem? (i := 581) (by decide +kernel)⟩
theorem lw_p23 : lw_okq (⟨"PhaserYard$Run", "isWaitOver", "(LPhaserYard$Task;)Z"⟩, 15) := ⟨⟨by decide +kernel, by decide +kernel⟩, List.mem_of_getElem? (i := 51) (by decide +kernel), List.mem_of_getElem? (i := 584) (by decide +kernel), List.mem_of_getElem? (i := 585) (by decide +kernel)⟩
theorem lw_p24 : lw_okq (⟨"PhaserYard$Run", "unfinishedTasks", "()I"⟩, 15) := ⟨⟨by decide +kernel, by decide +kernel⟩, List.mem_of_getElem? (i := 51) (by decide +kernel), List.mem_of_getElem? (i := 687) (by decide +kernel), List.mem_of_getElem? (i := 688) (by decide +kernel)⟩
theorem lw_p25 : lw_okq (⟨"PhaserYardModel", "fail", "(I)I"⟩, 40) := ⟨⟨by decide +kernel, by decide +kernel⟩, List.mem_of_getElem? (i := 693) (by decide +kernel), List.mem_of_getElem? (i := 831) (by decide +kernel), List.mem_of_getElem? (i := 832) (by decide +kernel)⟩
theorem lw_p26 : lw_okq (⟨"PhaserYardModel", "openScope", "(III)V"⟩, 40) := ⟨⟨by decide +kernel, by decide +kernel⟩, List.mem_of_getElem? (i := 693) (by decide +kernel), List.mem_of_getElem? (i := 846) (by decide +kernel), List.mem_of_getElem? (i := 847) (by decide +kernel)⟩
theorem lw_p27 : lw_okq (⟨"PhaserYardModel", "newTask", "(III)I"⟩, 40) := ⟨⟨by decide +kernel, by decide +kernel⟩, List.mem_of_getElem? (i := 693) (by decide +kernel), List.mem_of_getElem? (i := 852) (by decide +kernel), List.mem_of_getElem? (i := 853) (by decide +kernel)⟩
theorem lw_p28 : lw_okq (⟨"PhaserYardModel", "push", "(II)V"⟩, 40) := ⟨⟨by decide +kernel, by decide +kernel⟩, List.mem_of_getElem? (i := 693) (by decide +kernel), List.mem_of_getElem? (i := 856) (by decide +kernel), List.mem_of_getElem? (i := 857) (by decide +kernel)⟩
theorem lw_p29 : lw_okq (⟨"PhaserYardModel", "isOver", "()Z"⟩, 40) := ⟨⟨by decide +kernel, by decide +kernel⟩, List.mem_of_getElem? (i := 693) (by decide +kernel), List.mem_of_getElem? (i := 864) (by decide +kernel), List.mem_of_getElem? (i := 865) (by decide +kernel)⟩
theorem lw_p30 : lw_okq (⟨"PhaserYardModel", "isStuck", "()Z"⟩, 40) := ⟨⟨by decide +kernel, by decide +kernel⟩, List.mem_of_getElem? (i := 693) (by decide +kernel), List.mem_of_getElem? (i := 868) (by decide +kernel), List.mem_of_getElem? (i := 869) (by decide +kernel)⟩
theorem lw_p31 : lw_okq (⟨"PhaserYardModel", "work", "(I)V"⟩, 40) := ⟨⟨by decide +kernel, by decide +kernel⟩, List.mem_of_getElem? (i := 693) (by decide +kernel), List.mem_of_getElem? (i := 872) (by decide +kernel), List.mem_of_getElem? (i := 873) (by decide +kernel)⟩
def lw_privs_2 : List (MethodName × Nat) := [(⟨"PhaserYard$Run", "leave", "(LPhaserYard$Task;LPhaserYard$Phaser;)I"⟩, 15), (⟨"PhaserYard$Phaser", "raisePhase", "()V"⟩, 4), (⟨"PhaserYard$Run", "signalAll", "(LPhaserYard$Task;)V"⟩, 15), (⟨"PhaserYard$Run", "say", "(I)V"⟩, 15), (⟨"PhaserYard$Run", "endInnermost", "(LPhaserYard$Task;)V"⟩, 15), (⟨"PhaserYard$Run", "finish", "(LPhaserYard$Task;)V"⟩, 15), (⟨"PhaserYard$Run", "wakeAll", "(LPhaserYard$Worker;)V"⟩, 15), (⟨"PhaserYard$Run", "isWaitOver", "(LPhaserYard$Task;)Z"⟩, 15), (⟨"PhaserYard$Run", "unfinishedTasks", "()I"⟩, 15), (⟨"PhaserYardModel", "fail", "(I)I"⟩, 40), (⟨"PhaserYardModel", "openScope", "(III)V"⟩, 40), (⟨"PhaserYardModel", "newTask", "(III)I"⟩, 40), (⟨"PhaserYardModel", "push", "(II)V"⟩, 40), (⟨"PhaserYardModel", "isOver", "()Z"⟩, 40), (⟨"PhaserYardModel", "isStuck", "()Z"⟩, 40), (⟨"PhaserYardModel", "work", "(I)V"⟩, 40)]
theorem lw_r2 : ∀ q ∈ lw_privs_2, lw_okq q := List.forall_mem_cons.mpr ⟨lw_p16, List.forall_mem_cons.mpr ⟨lw_p17, List.forall_mem_cons.mpr ⟨lw_p18, List.forall_mem_cons.mpr ⟨lw_p19, List.forall_mem_cons.mpr ⟨lw_p20, List.forall_mem_cons.mpr ⟨lw_p21, List.forall_mem_cons.mpr ⟨lw_p22, List.forall_mem_cons.mpr ⟨lw_p23, List.forall_mem_cons.mpr ⟨lw_p24, List.forall_mem_cons.mpr ⟨lw_p25, List.forall_mem_cons.mpr ⟨lw_p26, List.forall_mem_cons.mpr ⟨lw_p27, List.forall_mem_cons.mpr ⟨lw_p28, List.forall_mem_cons.mpr ⟨lw_p29, List.forall_mem_cons.mpr ⟨lw_p30, List.forall_mem_cons.mpr ⟨lw_p31, fun _ h => absurd h List.not_mem_nil⟩⟩⟩⟩⟩⟩⟩⟩⟩⟩⟩⟩⟩⟩⟩⟩
theorem lw_p32 : lw_okq (⟨"PhaserYardModel", "take", "(I)I"⟩, 40) := ⟨⟨by decide +kernel, by decide +kernel⟩, List.mem_of_getElem? (i := 693) (by decide +kernel), List.mem_of_getElem? (i := 876) (by decide +kernel), List.mem_of_getElem? (i := 877) (by decide +kernel)⟩
theorem lw_p33 : lw_okq (⟨"PhaserYardModel", "step", "(I)V"⟩, 40) := ⟨⟨by decide +kernel, by decide +kernel⟩, List.mem_of_getElem? (i := 693) (by decide +kernel), List.mem_of_getElem? (i := 880) (by decide +kernel), List.mem_of_getElem? (i := 881) (by decide +kernel)⟩
theorem lw_p34 : lw_okq (⟨"PhaserYardModel", "end", "(I)V"⟩, 40) := ⟨⟨by decide +kernel, by decide +kernel⟩, List.mem_of_getElem? (i := 693) (by decide +kernel), List.mem_of_getElem? (i := 884) (by decide +kernel), List.mem_of_getElem? (i := 885) (by decide +kernel)⟩
theorem lw_p35 : lw_okq (⟨"PhaserYardModel", "inner", "(I)I"⟩, 40) := ⟨⟨by decide +kernel, by decide +kernel⟩, List.mem_of_getElem? (i := 693) (by decide +kernel), List.mem_of_getElem? (i := 888) (by decide +kernel), List.mem_of_getElem? (i := 889) (by decide +kernel)⟩
theorem lw_p36 : lw_okq (⟨"PhaserYardModel", "set", "(II)V"⟩, 40) := ⟨⟨by decide +kernel, by decide +kernel⟩, List.mem_of_getElem? (i := 693) (by decide +kernel), List.mem_of_getElem? (i := 892) (by decide +kernel), List.mem_of_getElem? (i := 893) (by decide +kernel)⟩
theorem lw_p37 : lw_okq (⟨"PhaserYardModel", "raise", "(II)V"⟩, 40) := ⟨⟨by decide +kernel, by decide +kernel⟩, List.mem_of_getElem? (i := 693) (by decide +kernel), List.mem_of_getElem? (i := 896) (by decide +kernel), List.mem_of_getElem? (i := 897) (by decide +kernel)⟩
theorem lw_p38 : lw_okq (⟨"PhaserYardModel", "note", "(II)V"⟩, 40) := ⟨⟨by decide +kernel, by decide +kernel⟩, List.mem_of_getElem? (i := 693) (by decide +kernel), List.mem_of_getElem? (i := 900) (by decide +kernel), List.mem_of_getElem? (i := 901) (by decide +kernel)⟩
theorem lw_p39 : lw_okq (⟨"PhaserYardModel", "finish", "(I)V"⟩, 40) := ⟨⟨by decide +kernel, by decide +kernel⟩, List.mem_of_getElem? (i := 693) (by decide +kernel), List.mem_of_getElem? (i := 904) (by decide +kernel), List.mem_of_getElem? (i := 905) (by decide +kernel)⟩
theorem lw_p40 : lw_okq (⟨"PhaserYardModel", "move", "()V"⟩, 40) := ⟨⟨by decide +kernel, by decide +kernel⟩, List.mem_of_getElem? (i := 693) (by decide +kernel), List.mem_of_getElem? (i := 908) (by decide +kernel), List.mem_of_getElem? (i := 909) (by decide +kernel)⟩
theorem lw_p41 : lw_okq (⟨"PhaserYardModel", "spawn", "(III)V"⟩, 40) := ⟨⟨by decide +kernel, by decide +kernel⟩, List.mem_of_getElem? (i := 693) (by decide +kernel), List.mem_of_getElem? (i := 912) (by decide +kernel), List.mem_of_getElem? (i := 913) (by decide +kernel)⟩
theorem lw_p42 : lw_okq (⟨"PhaserYardModel", "onScope", "(III)V"⟩, 40) := ⟨⟨by decide +kernel, by decide +kernel⟩, List.mem_of_getElem? (i := 693) (by decide +kernel), List.mem_of_getElem? (i := 916) (by decide +kernel), List.mem_of_getElem? (i := 917) (by decide +kernel)⟩
theorem lw_p43 : lw_okq (⟨"PhaserYardModel", "onFuture", "(III)V"⟩, 40) := ⟨⟨by decide +kernel, by decide +kernel⟩, List.mem_of_getElem? (i := 693) (by decide +kernel), List.mem_of_getElem? (i := 920) (by decide +kernel), List.mem_of_getElem? (i := 921) (by decide +kernel)⟩
theorem lw_p44 : lw_okq (⟨"PhaserYardModel", "join", "(III)V"⟩, 40) := ⟨⟨by decide +kernel, by decide +kernel⟩, List.mem_of_getElem? (i := 693) (by decide +kernel), List.mem_of_getElem? (i := 924) (by decide +kernel), List.mem_of_getElem? (i := 925) (by decide +kernel)⟩
theorem lw_p45 : lw_okq (⟨"PhaserYardModel", "next", "(I)V"⟩, 40) := ⟨⟨by decide +kernel, by decide +kernel⟩, List.mem_of_getElem? (i := 693) (by decide +kernel), List.mem_of_getElem? (i := 928) (by decide +kernel), List.mem_of_getElem? (i := 929) (by decide +kernel)⟩
theorem lw_p46 : lw_okq (⟨"PhaserYardModel", "isPassed", "(I)Z"⟩, 40) := ⟨⟨by decide +kernel, by decide +kernel⟩, List.mem_of_getElem? (i := 693) (by decide +kernel), List.mem_of_getElem? (i := 932) (by decide +kernel), List.mem_of_getElem? (i := 933) (by decide +kernel)⟩
theorem lw_p47 : lw_okq (⟨"PhaserYardModel", "give", "(I)V"⟩, 40) := ⟨⟨by decide +kernel, by decide +kernel⟩, List.mem_of_getElem? (i := 693) (by decide +kernel), List.mem_of_getElem? (i := 936) (by decide +kernel), List.mem_of_getElem? (i := 937) (by decide +kernel)⟩
def lw_privs_3 : List (MethodName × Nat) := [(⟨"PhaserYardModel", "take", "(I)I"⟩, 40), (⟨"PhaserYardModel", "step", "(I)V"⟩, 40), (⟨"PhaserYardModel", "end", "(I)V"⟩, 40), (⟨"PhaserYardModel", "inner", "(I)I"⟩, 40), (⟨"PhaserYardModel", "set", "(II)V"⟩, 40), (⟨"PhaserYardModel", "raise", "(II)V"⟩, 40), (⟨"PhaserYardModel", "note", "(II)V"⟩, 40), (⟨"PhaserYardModel", "finish", "(I)V"⟩, 40), (⟨"PhaserYardModel", "move", "()V"⟩, 40), (⟨"PhaserYardModel", "spawn", "(III)V"⟩, 40), (⟨"PhaserYardModel", "onScope", "(III)V"⟩, 40), (⟨"PhaserYardModel", "onFuture", "(III)V"⟩, 40), (⟨"PhaserYardModel", "join", "(III)V"⟩, 40), (⟨"PhaserYardModel", "next", "(I)V"⟩, 40), (⟨"PhaserYardModel", "isPassed", "(I)Z"⟩, 40), (⟨"PhaserYardModel", "give", "(I)V"⟩, 40)]
theorem lw_r3 : ∀ q ∈ lw_privs_3, lw_okq q := List.forall_mem_cons.mpr ⟨lw_p32, List.forall_mem_cons.mpr ⟨lw_p33, List.forall_mem_cons.mpr ⟨lw_p34, List.forall_mem_cons.mpr ⟨lw_p35, List.forall_mem_cons.mpr ⟨lw_p36, List.forall_mem_cons.mpr ⟨lw_p37, List.forall_mem_cons.mpr ⟨lw_p38, List.forall_mem_cons.mpr ⟨lw_p39, List.forall_mem_cons.mpr ⟨lw_p40, List.forall_mem_cons.mpr ⟨lw_p41, List.forall_mem_cons.mpr ⟨lw_p42, List.forall_mem_cons.mpr ⟨lw_p43, List.forall_mem_cons.mpr ⟨lw_p44, List.forall_mem_cons.mpr ⟨lw_p45, List.forall_mem_cons.mpr ⟨lw_p46, List.forall_mem_cons.mpr ⟨lw_p47, fun _ h => absurd h List.not_mem_nil⟩⟩⟩⟩⟩⟩⟩⟩⟩⟩⟩⟩⟩⟩⟩⟩
theorem lw_p48 : lw_okq (⟨"PhaserYardModel", "ready", "(II)V"⟩, 40) := ⟨⟨by decide +kernel, by decide +kernel⟩, List.mem_of_getElem? (i := 693) (by decide +kernel), List.mem_of_getElem? (i := 940) (by decide +kernel), List.mem_of_getElem? (i := 941) (by decide +kernel)⟩
theorem lw_p49 : lw_okq (⟨"PhaserYardModel", "isReady", "(I)Z"⟩, 40) := ⟨⟨by decide +kernel, by decide +kernel⟩, List.mem_of_getElem? (i := 693) (by decide +kernel), List.mem_of_getElem? (i := 944) (by decide +kernel), List.mem_of_getElem? (i := 945) (by decide +kernel)⟩
theorem lw_p50 : lw_okq (⟨"PhaserYardModel", "queuedAt", "(II)I"⟩, 40) := ⟨⟨by decide +kernel, by decide +kernel⟩, List.mem_of_getElem? (i := 693) (by decide +kernel), List.mem_of_getElem? (i := 968) (by decide +kernel), List.mem_of_getElem? (i := 969) (by decide +kernel)⟩
def lw_privs_4 : List (MethodName × Nat) := [(⟨"PhaserYardModel", "ready", "(II)V"⟩, 40), (⟨"PhaserYardModel", "isReady", "(I)Z"⟩, 40), (⟨"PhaserYardModel", "queuedAt", "(II)I"⟩, 40)]
theorem lw_r4 : ∀ q ∈ lw_privs_4, lw_okq q := List.forall_mem_cons.mpr ⟨lw_p48, List.forall_mem_cons.mpr ⟨lw_p49, List.forall_mem_cons.mpr ⟨lw_p50, fun _ h => absurd h List.not_mem_nil⟩⟩⟩
def lw_privs : List (MethodName × Nat) := lw_privs_1 ++ (lw_privs_2 ++ (lw_privs_3 ++ (lw_privs_4)))
def lw_tbl : List Cond := k2_sels lw_privs ++ tables_1
theorem lw_privs_ok : ∀ q ∈ lw_privs, lw_okq q := by
  show ∀ q ∈ lw_privs_1 ++ (lw_privs_2 ++ (lw_privs_3 ++ (lw_privs_4))), lw_okq q
  exact List.forall_mem_append.mpr ⟨lw_r1, List.forall_mem_append.mpr ⟨lw_r2, List.forall_mem_append.mpr ⟨lw_r3, lw_r4⟩⟩⟩
end
section
/-! NAMES, by wip/whole/draft/names.py out of claim/Statement.lean and claim/JAVAP.txt: classes, fields, the good words of the tables, methods. -/
def am_words : List Cond := lw_tbl.filter goodWord
theorem am_good : ∀ w ∈ am_words, (w.onTables && w.keeps) = true ∨ ∃ ty, w = .arrayClass ty := fun w h => good_of_word (List.mem_filter.mp h).2
theorem am_tbl {w : Cond} (h : w ∈ am_words) : w ∈ lw_tbl := (List.mem_filter.mp h).1
theorem am_in {w : Cond} (i : Nat) (h : tables_1[i]? = some w) (hg : goodWord w = true) : w ∈ am_words := List.mem_filter.mpr ⟨List.mem_append_right _ (List.mem_of_getElem? h), hg⟩
theorem am_inS {w : Cond} (i : Nat) (h : (k2_sels lw_privs)[i]? = some w) (hg : goodWord w = true) : w ∈ am_words := List.mem_filter.mpr ⟨List.mem_append_left _ (List.mem_of_getElem? h), hg⟩
def RX0 : String := "PhaserYard$Body"
def TX0 : u_T := fun k => match k with
  | 0 => ("PhaserYard$Body", "ops", "[I", true)
  | 1 => ("PhaserYard$Body", "operands", "[I", true)
  | _ => ("PhaserYard$Body", "size", "I", false)
def tyX0 : Nat → FieldType := fun k => match k with
  | 0 => .array (.int)
  | 1 => .array (.int)
  | _ => .int
def RX1 : String := "PhaserYard$Phaser"
def TX1 : u_T := fun k => match k with
  | 0 => ("PhaserYard$Phaser", "phase", "I", false)
  | 1 => ("PhaserYard$Phaser", "modes", "[I", true)
  | 2 => ("PhaserYard$Phaser", "sent", "[I", true)
  | _ => ("PhaserYard$Phaser", "seen", "[I", true)
def tyX1 : Nat → FieldType := fun k => match k with
  | 0 => .int
  | 1 => .array (.int)
  | 2 => .array (.int)
  | _ => .array (.int)
def RX2 : String := "PhaserYard$Run"
def TX2 : u_T := fun k => match k with
  | 0 => ("PhaserYard$Run", "bodies", "[LPhaserYard$Body;", true)
  | 1 => ("PhaserYard$Run", "tasks", "[LPhaserYard$Task;", true)
  | 2 => ("PhaserYard$Run", "taskCount", "I", false)
  | 3 => ("PhaserYard$Run", "root", "LPhaserYard$Scope;", true)
  | 4 => ("PhaserYard$Run", "phasers", "[LPhaserYard$Phaser;", true)
  | 5 => ("PhaserYard$Run", "workers", "[LPhaserYard$Worker;", true)
  | 6 => ("PhaserYard$Run", "workerCount", "I", false)
  | 7 => ("PhaserYard$Run", "isNewFirst", "Z", false)
  | 8 => ("PhaserYard$Run", "values", "[I", true)
  | 9 => ("PhaserYard$Run", "isPut", "[Z", true)
  | 10 => ("PhaserYard$Run", "spoken", "[I", true)
  | 11 => ("PhaserYard$Run", "spokenCount", "I", false)
  | 12 => ("PhaserYard$Run", "ticks", "I", false)
  | 13 => ("PhaserYard$Run", "steps", "I", false)
  | _ => ("PhaserYard$Run", "stolen", "I", false)
def tyX2 : Nat → FieldType := fun k => match k with
  | 0 => .array (.object "PhaserYard$Body")
  | 1 => .array (.object "PhaserYard$Task")
  | 2 => .int
  | 3 => .object "PhaserYard$Scope"
  | 4 => .array (.object "PhaserYard$Phaser")
  | 5 => .array (.object "PhaserYard$Worker")
  | 6 => .int
  | 7 => .boolean
  | 8 => .array (.int)
  | 9 => .array (.boolean)
  | 10 => .array (.int)
  | 11 => .int
  | 12 => .int
  | 13 => .int
  | _ => .int
def RX3 : String := "PhaserYard$Scope"
def TX3 : u_T := fun k => match k with
  | 0 => ("PhaserYard$Scope", "kind", "I", false)
  | 1 => ("PhaserYard$Scope", "handler", "I", false)
  | 2 => ("PhaserYard$Scope", "unfinished", "I", false)
  | 3 => ("PhaserYard$Scope", "total", "I", false)
  | 4 => ("PhaserYard$Scope", "noted", "I", false)
  | _ => ("PhaserYard$Scope", "leastNoted", "I", false)
def tyX3 : Nat → FieldType := fun k => match k with
  | 0 => .int
  | 1 => .int
  | 2 => .int
  | 3 => .int
  | 4 => .int
  | _ => .int
def RX4 : String := "PhaserYard$Task"
def TX4 : u_T := fun k => match k with
  | 0 => ("PhaserYard$Task", "number", "I", true)
  | 1 => ("PhaserYard$Task", "own", "[LPhaserYard$Scope;", true)
  | 2 => ("PhaserYard$Task", "ownOpen", "I", false)
  | 3 => ("PhaserYard$Task", "home", "LPhaserYard$Scope;", false)
  | 4 => ("PhaserYard$Task", "bodyNumber", "I", false)
  | 5 => ("PhaserYard$Task", "sum", "I", false)
  | 6 => ("PhaserYard$Task", "place", "I", false)
  | 7 => ("PhaserYard$Task", "state", "I", false)
  | 8 => ("PhaserYard$Task", "due", "I", false)
  | _ => ("PhaserYard$Task", "awaited", "I", false)
def tyX4 : Nat → FieldType := fun k => match k with
  | 0 => .int
  | 1 => .array (.object "PhaserYard$Scope")
  | 2 => .int
  | 3 => .object "PhaserYard$Scope"
  | 4 => .int
  | 5 => .int
  | 6 => .int
  | 7 => .int
  | 8 => .int
  | _ => .int
def RX5 : String := "PhaserYard$Worker"
def TX5 : u_T := fun k => match k with
  | 0 => ("PhaserYard$Worker", "deque", "[I", true)
  | 1 => ("PhaserYard$Worker", "size", "I", false)
  | _ => ("PhaserYard$Worker", "hand", "I", false)
def tyX5 : Nat → FieldType := fun k => match k with
  | 0 => .array (.int)
  | 1 => .int
  | _ => .int
def RX6 : String := "PhaserYard"
def TX6 : u_T := fun k => match k with
  | 0 => ("PhaserYard", "bodies", "[LPhaserYard$Body;", true)
  | _ => ("PhaserYard", "current", "LPhaserYard$Run;", true)
def tyX6 : Nat → FieldType := fun k => match k with
  | 0 => .array (.object "PhaserYard$Body")
  | _ => .object "PhaserYard$Run"
def RX7 : String := "PhaserYardModel"
def TX7 : u_T := fun k => match k with
  | 0 => ("PhaserYardModel", "many", "[I", true)
  | 1 => ("PhaserYardModel", "op", "[I", true)
  | 2 => ("PhaserYardModel", "arg", "[I", true)
  | 3 => ("PhaserYardModel", "state", "[I", true)
  | 4 => ("PhaserYardModel", "sum", "[I", true)
  | 5 => ("PhaserYardModel", "place", "[I", true)
  | 6 => ("PhaserYardModel", "bodyOf", "[I", true)
  | 7 => ("PhaserYardModel", "home", "[I", true)
  | 8 => ("PhaserYardModel", "own", "[I", true)
  | 9 => ("PhaserYardModel", "waits", "[I", true)
  | 10 => ("PhaserYardModel", "awaited", "[I", true)
  | 11 => ("PhaserYardModel", "future", "[I", true)
  | 12 => ("PhaserYardModel", "ends", "[Z", true)
  | 13 => ("PhaserYardModel", "closes", "[Z", true)
  | 14 => ("PhaserYardModel", "sent", "[Z", true)
  | 15 => ("PhaserYardModel", "isPut", "[Z", true)
  | 16 => ("PhaserYardModel", "mode", "[I", true)
  | 17 => ("PhaserYardModel", "sends", "[I", true)
  | 18 => ("PhaserYardModel", "seen", "[I", true)
  | 19 => ("PhaserYardModel", "phase", "[I", true)
  | 20 => ("PhaserYardModel", "count", "[I", true)
  | 21 => ("PhaserYardModel", "total", "[I", true)
  | 22 => ("PhaserYardModel", "kind", "[I", true)
  | 23 => ("PhaserYardModel", "handler", "[I", true)
  | 24 => ("PhaserYardModel", "noted", "[I", true)
  | 25 => ("PhaserYardModel", "least", "[I", true)
  | 26 => ("PhaserYardModel", "hand", "[I", true)
  | 27 => ("PhaserYardModel", "queued", "[I", true)
  | 28 => ("PhaserYardModel", "queue", "[I", true)
  | 29 => ("PhaserYardModel", "said", "[I", true)
  | 30 => ("PhaserYardModel", "tasks", "I", false)
  | 31 => ("PhaserYardModel", "workers", "I", false)
  | 32 => ("PhaserYardModel", "policy", "I", false)
  | 33 => ("PhaserYardModel", "ticks", "I", false)
  | 34 => ("PhaserYardModel", "steps", "I", false)
  | 35 => ("PhaserYardModel", "stolen", "I", false)
  | 36 => ("PhaserYardModel", "saidMany", "I", false)
  | 37 => ("PhaserYardModel", "thrown", "I", false)
  | 38 => ("PhaserYardModel", "fresh", "I", false)
  | _ => ("PhaserYardModel", "begun", "Z", false)
def tyX7 : Nat → FieldType := fun k => match k with
  | 0 => .array (.int)
  | 1 => .array (.int)
  | 2 => .array (.int)
  | 3 => .array (.int)
  | 4 => .array (.int)
  | 5 => .array (.int)
  | 6 => .array (.int)
  | 7 => .array (.int)
  | 8 => .array (.int)
  | 9 => .array (.int)
  | 10 => .array (.int)
  | 11 => .array (.int)
  | 12 => .array (.boolean)
  | 13 => .array (.boolean)
  | 14 => .array (.boolean)
  | 15 => .array (.boolean)
  | 16 => .array (.int)
  | 17 => .array (.int)
  | 18 => .array (.int)
  | 19 => .array (.int)
  | 20 => .array (.int)
  | 21 => .array (.int)
  | 22 => .array (.int)
  | 23 => .array (.int)
  | 24 => .array (.int)
  | 25 => .array (.int)
  | 26 => .array (.int)
  | 27 => .array (.int)
  | 28 => .array (.int)
  | 29 => .array (.int)
  | 30 => .int
  | 31 => .int
  | 32 => .int
  | 33 => .int
  | 34 => .int
  | 35 => .int
  | 36 => .int
  | 37 => .int
  | 38 => .int
  | _ => .boolean
abbrev vwCl : List vw_C := [(RX0, TX0, 3), (RX1, TX1, 4), (RX2, TX2, 15), (RX3, TX3, 6), (RX4, TX4, 10), (RX5, TX5, 3), (RX6, TX6, 2), (RX7, TX7, 40)]
def am_Nf (ci : Nat) : Nat := [3, 4, 15, 6, 10, 3, 2, 40].getD ci 0
def am_rt : List (List Bool) := [[true, true, false], [false, true, true, true], [true, true, false, true, true, true, false, false, true, true, true, false, false, false, false], [false, false, false, false, false, false], [false, true, false, true, false, false, false, false, false, false], [true, false, false], [true, true], [true, true, true, true, true, true, true, true, true, true, true, true, true, true, true, true, true, true, true, true, true, true, true, true, true, true, true, true, true, true, false, false, false, false, false, false, false, false, false, false]]
def am_isr (k i : Nat) : Bool := (am_rt.getD k []).getD i false
def am_kinds : List (Nat × FieldType) := [(100, .int), (101, .boolean), (102, .long), (103 + 0, .object RX0), (103 + 1, .object RX1), (103 + 3, .object RX3), (103 + 4, .object RX4), (103 + 5, .object RX5)]
def am_aos : List String := [RX0, RX1, RX3, RX4, RX5]
def am_txs : List (String × Nat × String) := [("PhaserYard", 31, "no such body"), ("PhaserYard", 44, "no such body or instruction"), ("PhaserYard", 48, "the body is full"), ("PhaserYard", 55, "no such body, number of workers or policy"), ("PhaserYard", 64, "too few or too many ticks"), ("PhaserYard", 70, "nothing was begun"), ("PhaserYard", 83, "the run is stuck"), ("PhaserYard", 86, "the run is not over"), ("PhaserYard", 99, "a code came to the root scope"), ("PhaserYard", 125, "no such number is kept"), ("PhaserYard", 132, "no such question of a task"), ("PhaserYard", 137, "no such task"), ("PhaserYard", 143, "no such future"), ("PhaserYard", 149, "the future was not put"), ("PhaserYard", 171, "no such count")]
/-- static arrays: class, name, descriptor, the number of the outer array -/
def am_sts : List (String × String × String × Nat) := [("PhaserYard", "LEAST_A", "[I", 1), ("PhaserYard", "GREATEST_A", "[I", 2), ("PhaserYard", "TOTAL_OF_NOTHING", "[I", 3)]
def am_nst : List Cond := [(Jvm.Cond.methodLinkNest "PhaserYard$Run" (17 : Nat) ({ cls := "PhaserYard$Scope", name := "<init>", desc := "()V" } : Jvm.MethodName) "PhaserYard"), (Jvm.Cond.methodLinkNest "PhaserYard$Task" (25 : Nat) ({ cls := "PhaserYard$Scope", name := "<init>", desc := "()V" } : Jvm.MethodName) "PhaserYard"), (Jvm.Cond.castable "java/lang/IllegalArgumentException" "java/lang/IllegalArgumentException"), (Jvm.Cond.castable "java/lang/IllegalStateException" "java/lang/IllegalStateException"), (Jvm.Cond.fieldLinkNest "PhaserYard$Scope" (21 : Nat) "PhaserYard" "TOTAL_OF_NOTHING" "[I" "PhaserYard"), (Jvm.Cond.castable "java/lang/UnsupportedOperationException" "java/lang/UnsupportedOperationException"), (Jvm.Cond.castable "java/lang/ArithmeticException" "java/lang/ArithmeticException"), (Jvm.Cond.castable "java/lang/IndexOutOfBoundsException" "java/lang/IndexOutOfBoundsException")]
def am_ncs : List (String × String) := [("java/lang/IllegalStateException", "java/lang/IllegalArgumentException"), ("java/lang/UnsupportedOperationException", "java/lang/IllegalArgumentException"), ("java/lang/UnsupportedOperationException", "java/lang/IllegalStateException"), ("java/lang/ArithmeticException", "java/lang/IllegalStateException"), ("java/lang/IndexOutOfBoundsException", "java/lang/IllegalArgumentException")]
def am_tsq : List (String × String × String) := [("java/lang/Throwable", "UNASSIGNED_STACK", "[Ljava/lang/StackTraceElement;"), ("java/lang/Throwable", "SUPPRESSED_SENTINEL", "Ljava/util/List;")]
end
section
/-! WORDS, by wip/whole/draft/names.py: each good word of the tables by its place; classes; fields; methods. -/
theorem aw_0 : (Jvm.Cond.initialized "PhaserYardLaw") ∈ am_words := am_in 0 (by decide +kernel) (by decide +kernel)
theorem aw_1 : (Jvm.Cond.initialized "PhaserYard") ∈ am_words := am_in 1 (by decide +kernel) (by decide +kernel)
theorem aw_2 : (Jvm.Cond.initialized "PhaserYard$Body") ∈ am_words := am_in 2 (by decide +kernel) (by decide +kernel)
theorem aw_3 : (Jvm.Cond.initialized "PhaserYard$Run") ∈ am_words := am_in 3 (by decide +kernel) (by decide +kernel)
theorem aw_4 : (Jvm.Cond.initialized "PhaserYard$Scope") ∈ am_words := am_in 4 (by decide +kernel) (by decide +kernel)
theorem aw_5 : (Jvm.Cond.initialized "PhaserYard$Task") ∈ am_words := am_in 5 (by decide +kernel) (by decide +kernel)
theorem aw_6 : (Jvm.Cond.initialized "PhaserYard$Phaser") ∈ am_words := am_in 6 (by decide +kernel) (by decide +kernel)
theorem aw_7 : (Jvm.Cond.initialized "PhaserYard$Worker") ∈ am_words := am_in 7 (by decide +kernel) (by decide +kernel)
theorem aw_8 : (Jvm.Cond.initialized "PhaserYardModel") ∈ am_words := am_in 8 (by decide +kernel) (by decide +kernel)
theorem aw_9 : (Jvm.Cond.initialized "java/lang/Throwable") ∈ am_words := am_in 9 (by decide +kernel) (by decide +kernel)
theorem aw_10 : (Jvm.Cond.initialized "java/lang/Exception") ∈ am_words := am_in 10 (by decide +kernel) (by decide +kernel)
theorem aw_11 : (Jvm.Cond.initialized "java/lang/RuntimeException") ∈ am_words := am_in 11 (by decide +kernel) (by decide +kernel)
theorem aw_12 : (Jvm.Cond.initialized "java/lang/IllegalArgumentException") ∈ am_words := am_in 12 (by decide +kernel) (by decide +kernel)
theorem aw_13 : (Jvm.Cond.initialized "java/lang/IllegalStateException") ∈ am_words := am_in 13 (by decide +kernel) (by decide +kernel)
theorem aw_14 : (Jvm.Cond.initialized "java/util/Arrays") ∈ am_words := am_in 14 (by decide +kernel) (by decide +kernel)
theorem aw_15 : (Jvm.Cond.initialized "java/lang/System") ∈ am_words := am_in 15 (by decide +kernel) (by decide +kernel)
theorem aw_16 : (Jvm.Cond.initialized "java/lang/Math") ∈ am_words := am_in 16 (by decide +kernel) (by decide +kernel)
theorem aw_17 : (Jvm.Cond.initialized "java/lang/UnsupportedOperationException") ∈ am_words := am_in 17 (by decide +kernel) (by decide +kernel)
theorem aw_18 : (Jvm.Cond.initialized "java/lang/ArithmeticException") ∈ am_words := am_in 18 (by decide +kernel) (by decide +kernel)
theorem aw_19 : (Jvm.Cond.initialized "java/lang/IndexOutOfBoundsException") ∈ am_words := am_in 19 (by decide +kernel) (by decide +kernel)
theorem aw_20 : (Jvm.Cond.classLink "PhaserYardLaw" (8 : Nat) "PhaserYard") ∈ am_words := am_in 20 (by decide +kernel) (by decide +kernel)
theorem aw_21 : (Jvm.Cond.instantiable "PhaserYard" (2 : Nat)) ∈ am_words := am_in 21 (by decide +kernel) (by decide +kernel)
theorem aw_22 : (Jvm.Cond.methodLink "PhaserYardLaw" (51 : Nat) ({ cls := "PhaserYard", name := "<init>", desc := "()V" } : Jvm.MethodName)) ∈ am_words := am_in 22 (by decide +kernel) (by decide +kernel)
theorem aw_23 : (Jvm.Cond.instanceMethod ({ cls := "PhaserYard", name := "<init>", desc := "()V" } : Jvm.MethodName)) ∈ am_words := am_in 23 (by decide +kernel) (by decide +kernel)
theorem aw_24 : (Jvm.Cond.code ({ cls := "PhaserYard", name := "<init>", desc := "()V" } : Jvm.MethodName) prog_1_method_1_code (2 : Nat) (Option.none : Option Jvm.ClassFile.FieldType)) ∈ am_words := am_in 24 (by decide +kernel) (by decide +kernel)
theorem aw_25 : (Jvm.Cond.methodLink "PhaserYard" (1 : Nat) ({ cls := "java/lang/Object", name := "<init>", desc := "()V" } : Jvm.MethodName)) ∈ am_words := am_in 25 (by decide +kernel) (by decide +kernel)
theorem aw_26 : (Jvm.Cond.instanceMethod ({ cls := "java/lang/Object", name := "<init>", desc := "()V" } : Jvm.MethodName)) ∈ am_words := am_in 26 (by decide +kernel) (by decide +kernel)
theorem aw_27 : (Jvm.Cond.code ({ cls := "java/lang/Object", name := "<init>", desc := "()V" } : Jvm.MethodName) object_method_1_code (1 : Nat) (Option.none : Option Jvm.ClassFile.FieldType)) ∈ am_words := am_in 27 (by decide +kernel) (by decide +kernel)
theorem aw_28 : (Jvm.Cond.classLink "PhaserYard" (9 : Nat) "PhaserYard$Body") ∈ am_words := am_in 28 (by decide +kernel) (by decide +kernel)
theorem aw_30 : (Jvm.Cond.instantiable "PhaserYard$Body" (3 : Nat)) ∈ am_words := am_in 30 (by decide +kernel) (by decide +kernel)
theorem aw_31 : (Jvm.Cond.methodLink "PhaserYard" (15 : Nat) ({ cls := "PhaserYard$Body", name := "<init>", desc := "()V" } : Jvm.MethodName)) ∈ am_words := am_in 31 (by decide +kernel) (by decide +kernel)
theorem aw_32 : (Jvm.Cond.instanceMethod ({ cls := "PhaserYard$Body", name := "<init>", desc := "()V" } : Jvm.MethodName)) ∈ am_words := am_in 32 (by decide +kernel) (by decide +kernel)
theorem aw_33 : (Jvm.Cond.code ({ cls := "PhaserYard$Body", name := "<init>", desc := "()V" } : Jvm.MethodName) prog_2_method_1_code (1 : Nat) (Option.none : Option Jvm.ClassFile.FieldType)) ∈ am_words := am_in 33 (by decide +kernel) (by decide +kernel)
theorem aw_34 : (Jvm.Cond.methodLink "PhaserYard$Body" (3 : Nat) ({ cls := "java/lang/Object", name := "<init>", desc := "()V" } : Jvm.MethodName)) ∈ am_words := am_in 34 (by decide +kernel) (by decide +kernel)
theorem aw_35 : (Jvm.Cond.fieldLink "PhaserYard$Body" (9 : Nat) "PhaserYard$Body" "ops" "[I") ∈ am_words := am_in 35 (by decide +kernel) (by decide +kernel)
theorem aw_36 : (Jvm.Cond.fieldLink "PhaserYard$Run" (177 : Nat) "PhaserYard$Body" "ops" "[I") ∈ am_words := am_in 36 (by decide +kernel) (by decide +kernel)
theorem aw_37 : (Jvm.Cond.fieldLink "PhaserYard$Body" (15 : Nat) "PhaserYard$Body" "operands" "[I") ∈ am_words := am_in 37 (by decide +kernel) (by decide +kernel)
theorem aw_38 : (Jvm.Cond.fieldLink "PhaserYard$Run" (174 : Nat) "PhaserYard$Body" "operands" "[I") ∈ am_words := am_in 38 (by decide +kernel) (by decide +kernel)
theorem aw_39 : (Jvm.Cond.fieldLink "PhaserYard$Body" (18 : Nat) "PhaserYard$Body" "size" "I") ∈ am_words := am_in 39 (by decide +kernel) (by decide +kernel)
theorem aw_40 : (Jvm.Cond.fieldLink "PhaserYard" (36 : Nat) "PhaserYard$Body" "size" "I") ∈ am_words := am_in 40 (by decide +kernel) (by decide +kernel)
theorem aw_41 : (Jvm.Cond.fieldLink "PhaserYard$Run" (140 : Nat) "PhaserYard$Body" "size" "I") ∈ am_words := am_in 41 (by decide +kernel) (by decide +kernel)
theorem aw_48 : (Jvm.Cond.superclass "PhaserYard$Body" "java/lang/Object") ∈ am_words := am_in 48 (by decide +kernel) (by decide +kernel)
theorem aw_49 : (Jvm.Cond.arrayClass Jvm.ClassFile.FieldType.int) ∈ am_words := am_in 49 (by decide +kernel) (by decide +kernel)
theorem aw_50 : (Jvm.Cond.classLink "PhaserYard" (16 : Nat) "PhaserYard$Run") ∈ am_words := am_in 50 (by decide +kernel) (by decide +kernel)
theorem aw_51 : (Jvm.Cond.instantiable "PhaserYard$Run" (15 : Nat)) ∈ am_words := am_in 51 (by decide +kernel) (by decide +kernel)
theorem aw_52 : (Jvm.Cond.methodLink "PhaserYard" (18 : Nat) ({ cls := "PhaserYard$Run", name := "<init>", desc := "([LPhaserYard$Body;)V" } : Jvm.MethodName)) ∈ am_words := am_in 52 (by decide +kernel) (by decide +kernel)
theorem aw_53 : (Jvm.Cond.instanceMethod ({ cls := "PhaserYard$Run", name := "<init>", desc := "([LPhaserYard$Body;)V" } : Jvm.MethodName)) ∈ am_words := am_in 53 (by decide +kernel) (by decide +kernel)
theorem aw_54 : (Jvm.Cond.code ({ cls := "PhaserYard$Run", name := "<init>", desc := "([LPhaserYard$Body;)V" } : Jvm.MethodName) prog_4_method_1_code (3 : Nat) (Option.none : Option Jvm.ClassFile.FieldType)) ∈ am_words := am_in 54 (by decide +kernel) (by decide +kernel)
theorem aw_55 : (Jvm.Cond.methodLink "PhaserYard$Run" (3 : Nat) ({ cls := "java/lang/Object", name := "<init>", desc := "()V" } : Jvm.MethodName)) ∈ am_words := am_in 55 (by decide +kernel) (by decide +kernel)
theorem aw_56 : (Jvm.Cond.classLink "PhaserYard$Run" (15 : Nat) "PhaserYard$Scope") ∈ am_words := am_in 56 (by decide +kernel) (by decide +kernel)
theorem aw_57 : (Jvm.Cond.instantiable "PhaserYard$Scope" (6 : Nat)) ∈ am_words := am_in 57 (by decide +kernel) (by decide +kernel)
theorem aw_59 : (Jvm.Cond.instanceMethod ({ cls := "PhaserYard$Scope", name := "<init>", desc := "()V" } : Jvm.MethodName)) ∈ am_words := am_in 59 (by decide +kernel) (by decide +kernel)
theorem aw_60 : (Jvm.Cond.code ({ cls := "PhaserYard$Scope", name := "<init>", desc := "()V" } : Jvm.MethodName) prog_5_method_1_code (1 : Nat) (Option.none : Option Jvm.ClassFile.FieldType)) ∈ am_words := am_in 60 (by decide +kernel) (by decide +kernel)
theorem aw_61 : (Jvm.Cond.methodLink "PhaserYard$Scope" (3 : Nat) ({ cls := "java/lang/Object", name := "<init>", desc := "()V" } : Jvm.MethodName)) ∈ am_words := am_in 61 (by decide +kernel) (by decide +kernel)
theorem aw_62 : (Jvm.Cond.fieldLink "PhaserYard$Scope" (9 : Nat) "PhaserYard$Scope" "kind" "I") ∈ am_words := am_in 62 (by decide +kernel) (by decide +kernel)
theorem aw_63 : (Jvm.Cond.fieldLink "PhaserYard$Scope" (15 : Nat) "PhaserYard$Scope" "handler" "I") ∈ am_words := am_in 63 (by decide +kernel) (by decide +kernel)
theorem aw_64 : (Jvm.Cond.fieldLink "PhaserYard$Run" (266 : Nat) "PhaserYard$Scope" "handler" "I") ∈ am_words := am_in 64 (by decide +kernel) (by decide +kernel)
theorem aw_65 : (Jvm.Cond.fieldLink "PhaserYard$Scope" (18 : Nat) "PhaserYard$Scope" "unfinished" "I") ∈ am_words := am_in 65 (by decide +kernel) (by decide +kernel)
theorem aw_66 : (Jvm.Cond.fieldLink "PhaserYard$Run" (90 : Nat) "PhaserYard$Scope" "unfinished" "I") ∈ am_words := am_in 66 (by decide +kernel) (by decide +kernel)
theorem aw_67 : (Jvm.Cond.fieldLink "PhaserYard$Scope" (25 : Nat) "PhaserYard$Scope" "total" "I") ∈ am_words := am_in 67 (by decide +kernel) (by decide +kernel)
theorem aw_68 : (Jvm.Cond.fieldLink "PhaserYard" (111 : Nat) "PhaserYard$Scope" "total" "I") ∈ am_words := am_in 68 (by decide +kernel) (by decide +kernel)
theorem aw_69 : (Jvm.Cond.fieldLink "PhaserYard$Scope" (28 : Nat) "PhaserYard$Scope" "noted" "I") ∈ am_words := am_in 69 (by decide +kernel) (by decide +kernel)
theorem aw_70 : (Jvm.Cond.fieldLink "PhaserYard" (92 : Nat) "PhaserYard$Scope" "noted" "I") ∈ am_words := am_in 70 (by decide +kernel) (by decide +kernel)
theorem aw_71 : (Jvm.Cond.fieldLink "PhaserYard$Run" (259 : Nat) "PhaserYard$Scope" "noted" "I") ∈ am_words := am_in 71 (by decide +kernel) (by decide +kernel)
theorem aw_72 : (Jvm.Cond.fieldLink "PhaserYard$Scope" (31 : Nat) "PhaserYard$Scope" "leastNoted" "I") ∈ am_words := am_in 72 (by decide +kernel) (by decide +kernel)
theorem aw_73 : (Jvm.Cond.fieldLink "PhaserYard$Run" (269 : Nat) "PhaserYard$Scope" "leastNoted" "I") ∈ am_words := am_in 73 (by decide +kernel) (by decide +kernel)
theorem aw_86 : (Jvm.Cond.superclass "PhaserYard$Scope" "java/lang/Object") ∈ am_words := am_in 86 (by decide +kernel) (by decide +kernel)
theorem aw_87 : (Jvm.Cond.classLink "PhaserYard$Run" (22 : Nat) "PhaserYard$Task") ∈ am_words := am_in 87 (by decide +kernel) (by decide +kernel)
theorem aw_89 : (Jvm.Cond.instantiable "PhaserYard$Task" (10 : Nat)) ∈ am_words := am_in 89 (by decide +kernel) (by decide +kernel)
theorem aw_90 : (Jvm.Cond.methodLink "PhaserYard$Run" (28 : Nat) ({ cls := "PhaserYard$Task", name := "<init>", desc := "(ILPhaserYard$Scope;)V" } : Jvm.MethodName)) ∈ am_words := am_in 90 (by decide +kernel) (by decide +kernel)
theorem aw_91 : (Jvm.Cond.instanceMethod ({ cls := "PhaserYard$Task", name := "<init>", desc := "(ILPhaserYard$Scope;)V" } : Jvm.MethodName)) ∈ am_words := am_in 91 (by decide +kernel) (by decide +kernel)
theorem aw_92 : (Jvm.Cond.code ({ cls := "PhaserYard$Task", name := "<init>", desc := "(ILPhaserYard$Scope;)V" } : Jvm.MethodName) prog_6_method_1_code (4 : Nat) (Option.none : Option Jvm.ClassFile.FieldType)) ∈ am_words := am_in 92 (by decide +kernel) (by decide +kernel)
theorem aw_93 : (Jvm.Cond.methodLink "PhaserYard$Task" (3 : Nat) ({ cls := "java/lang/Object", name := "<init>", desc := "()V" } : Jvm.MethodName)) ∈ am_words := am_in 93 (by decide +kernel) (by decide +kernel)
theorem aw_94 : (Jvm.Cond.classLink "PhaserYard$Task" (19 : Nat) "PhaserYard$Scope") ∈ am_words := am_in 94 (by decide +kernel) (by decide +kernel)
theorem aw_97 : (Jvm.Cond.fieldLink "PhaserYard$Task" (9 : Nat) "PhaserYard$Task" "number" "I") ∈ am_words := am_in 97 (by decide +kernel) (by decide +kernel)
theorem aw_98 : (Jvm.Cond.fieldLink "PhaserYard$Run" (222 : Nat) "PhaserYard$Task" "number" "I") ∈ am_words := am_in 98 (by decide +kernel) (by decide +kernel)
theorem aw_99 : (Jvm.Cond.fieldLink "PhaserYard$Task" (21 : Nat) "PhaserYard$Task" "own" "[LPhaserYard$Scope;") ∈ am_words := am_in 99 (by decide +kernel) (by decide +kernel)
theorem aw_100 : (Jvm.Cond.fieldLink "PhaserYard$Run" (234 : Nat) "PhaserYard$Task" "own" "[LPhaserYard$Scope;") ∈ am_words := am_in 100 (by decide +kernel) (by decide +kernel)
theorem aw_101 : (Jvm.Cond.fieldLink "PhaserYard$Task" (35 : Nat) "PhaserYard$Task" "ownOpen" "I") ∈ am_words := am_in 101 (by decide +kernel) (by decide +kernel)
theorem aw_102 : (Jvm.Cond.fieldLink "PhaserYard$Run" (231 : Nat) "PhaserYard$Task" "ownOpen" "I") ∈ am_words := am_in 102 (by decide +kernel) (by decide +kernel)
theorem aw_103 : (Jvm.Cond.fieldLink "PhaserYard$Task" (15 : Nat) "PhaserYard$Task" "home" "LPhaserYard$Scope;") ∈ am_words := am_in 103 (by decide +kernel) (by decide +kernel)
theorem aw_104 : (Jvm.Cond.fieldLink "PhaserYard$Run" (275 : Nat) "PhaserYard$Task" "home" "LPhaserYard$Scope;") ∈ am_words := am_in 104 (by decide +kernel) (by decide +kernel)
theorem aw_105 : (Jvm.Cond.fieldLink "PhaserYard$Task" (26 : Nat) "PhaserYard$Task" "bodyNumber" "I") ∈ am_words := am_in 105 (by decide +kernel) (by decide +kernel)
theorem aw_106 : (Jvm.Cond.fieldLink "PhaserYard$Run" (137 : Nat) "PhaserYard$Task" "bodyNumber" "I") ∈ am_words := am_in 106 (by decide +kernel) (by decide +kernel)
theorem aw_107 : (Jvm.Cond.fieldLink "PhaserYard$Task" (29 : Nat) "PhaserYard$Task" "sum" "I") ∈ am_words := am_in 107 (by decide +kernel) (by decide +kernel)
theorem aw_108 : (Jvm.Cond.fieldLink "PhaserYard" (106 : Nat) "PhaserYard$Task" "sum" "I") ∈ am_words := am_in 108 (by decide +kernel) (by decide +kernel)
theorem aw_109 : (Jvm.Cond.fieldLink "PhaserYard$Run" (180 : Nat) "PhaserYard$Task" "sum" "I") ∈ am_words := am_in 109 (by decide +kernel) (by decide +kernel)
theorem aw_110 : (Jvm.Cond.fieldLink "PhaserYard$Task" (32 : Nat) "PhaserYard$Task" "place" "I") ∈ am_words := am_in 110 (by decide +kernel) (by decide +kernel)
theorem aw_111 : (Jvm.Cond.fieldLink "PhaserYard$Run" (134 : Nat) "PhaserYard$Task" "place" "I") ∈ am_words := am_in 111 (by decide +kernel) (by decide +kernel)
theorem aw_112 : (Jvm.Cond.fieldLink "PhaserYard$Task" (38 : Nat) "PhaserYard$Task" "state" "I") ∈ am_words := am_in 112 (by decide +kernel) (by decide +kernel)
theorem aw_113 : (Jvm.Cond.fieldLink "PhaserYard$Run" (124 : Nat) "PhaserYard$Task" "state" "I") ∈ am_words := am_in 113 (by decide +kernel) (by decide +kernel)
theorem aw_114 : (Jvm.Cond.fieldLink "PhaserYard$Task" (41 : Nat) "PhaserYard$Task" "due" "I") ∈ am_words := am_in 114 (by decide +kernel) (by decide +kernel)
theorem aw_115 : (Jvm.Cond.fieldLink "PhaserYard$Run" (127 : Nat) "PhaserYard$Task" "due" "I") ∈ am_words := am_in 115 (by decide +kernel) (by decide +kernel)
theorem aw_116 : (Jvm.Cond.fieldLink "PhaserYard$Task" (44 : Nat) "PhaserYard$Task" "awaited" "I") ∈ am_words := am_in 116 (by decide +kernel) (by decide +kernel)
theorem aw_117 : (Jvm.Cond.fieldLink "PhaserYard$Run" (161 : Nat) "PhaserYard$Task" "awaited" "I") ∈ am_words := am_in 117 (by decide +kernel) (by decide +kernel)
theorem aw_138 : (Jvm.Cond.superclass "PhaserYard$Task" "java/lang/Object") ∈ am_words := am_in 138 (by decide +kernel) (by decide +kernel)
theorem aw_139 : (Jvm.Cond.classLink "PhaserYard$Run" (31 : Nat) "PhaserYard$Phaser") ∈ am_words := am_in 139 (by decide +kernel) (by decide +kernel)
theorem aw_141 : (Jvm.Cond.instantiable "PhaserYard$Phaser" (4 : Nat)) ∈ am_words := am_in 141 (by decide +kernel) (by decide +kernel)
theorem aw_142 : (Jvm.Cond.methodLink "PhaserYard$Run" (37 : Nat) ({ cls := "PhaserYard$Phaser", name := "<init>", desc := "()V" } : Jvm.MethodName)) ∈ am_words := am_in 142 (by decide +kernel) (by decide +kernel)
theorem aw_143 : (Jvm.Cond.instanceMethod ({ cls := "PhaserYard$Phaser", name := "<init>", desc := "()V" } : Jvm.MethodName)) ∈ am_words := am_in 143 (by decide +kernel) (by decide +kernel)
theorem aw_144 : (Jvm.Cond.code ({ cls := "PhaserYard$Phaser", name := "<init>", desc := "()V" } : Jvm.MethodName) prog_3_method_1_code (1 : Nat) (Option.none : Option Jvm.ClassFile.FieldType)) ∈ am_words := am_in 144 (by decide +kernel) (by decide +kernel)
theorem aw_145 : (Jvm.Cond.methodLink "PhaserYard$Phaser" (3 : Nat) ({ cls := "java/lang/Object", name := "<init>", desc := "()V" } : Jvm.MethodName)) ∈ am_words := am_in 145 (by decide +kernel) (by decide +kernel)
theorem aw_146 : (Jvm.Cond.fieldLink "PhaserYard$Phaser" (21 : Nat) "PhaserYard$Phaser" "phase" "I") ∈ am_words := am_in 146 (by decide +kernel) (by decide +kernel)
theorem aw_147 : (Jvm.Cond.fieldLink "PhaserYard$Run" (284 : Nat) "PhaserYard$Phaser" "phase" "I") ∈ am_words := am_in 147 (by decide +kernel) (by decide +kernel)
theorem aw_148 : (Jvm.Cond.fieldLink "PhaserYard$Phaser" (9 : Nat) "PhaserYard$Phaser" "modes" "[I") ∈ am_words := am_in 148 (by decide +kernel) (by decide +kernel)
theorem aw_149 : (Jvm.Cond.fieldLink "PhaserYard$Run" (238 : Nat) "PhaserYard$Phaser" "modes" "[I") ∈ am_words := am_in 149 (by decide +kernel) (by decide +kernel)
theorem aw_150 : (Jvm.Cond.fieldLink "PhaserYard$Phaser" (15 : Nat) "PhaserYard$Phaser" "sent" "[I") ∈ am_words := am_in 150 (by decide +kernel) (by decide +kernel)
theorem aw_151 : (Jvm.Cond.fieldLink "PhaserYard$Phaser" (18 : Nat) "PhaserYard$Phaser" "seen" "[I") ∈ am_words := am_in 151 (by decide +kernel) (by decide +kernel)
theorem aw_160 : (Jvm.Cond.superclass "PhaserYard$Phaser" "java/lang/Object") ∈ am_words := am_in 160 (by decide +kernel) (by decide +kernel)
theorem aw_161 : (Jvm.Cond.classLink "PhaserYard$Run" (38 : Nat) "PhaserYard$Worker") ∈ am_words := am_in 161 (by decide +kernel) (by decide +kernel)
theorem aw_163 : (Jvm.Cond.instantiable "PhaserYard$Worker" (3 : Nat)) ∈ am_words := am_in 163 (by decide +kernel) (by decide +kernel)
theorem aw_164 : (Jvm.Cond.methodLink "PhaserYard$Run" (44 : Nat) ({ cls := "PhaserYard$Worker", name := "<init>", desc := "()V" } : Jvm.MethodName)) ∈ am_words := am_in 164 (by decide +kernel) (by decide +kernel)
theorem aw_165 : (Jvm.Cond.instanceMethod ({ cls := "PhaserYard$Worker", name := "<init>", desc := "()V" } : Jvm.MethodName)) ∈ am_words := am_in 165 (by decide +kernel) (by decide +kernel)
theorem aw_166 : (Jvm.Cond.code ({ cls := "PhaserYard$Worker", name := "<init>", desc := "()V" } : Jvm.MethodName) prog_7_method_1_code (1 : Nat) (Option.none : Option Jvm.ClassFile.FieldType)) ∈ am_words := am_in 166 (by decide +kernel) (by decide +kernel)
theorem aw_167 : (Jvm.Cond.methodLink "PhaserYard$Worker" (3 : Nat) ({ cls := "java/lang/Object", name := "<init>", desc := "()V" } : Jvm.MethodName)) ∈ am_words := am_in 167 (by decide +kernel) (by decide +kernel)
theorem aw_168 : (Jvm.Cond.fieldLink "PhaserYard$Worker" (9 : Nat) "PhaserYard$Worker" "deque" "[I") ∈ am_words := am_in 168 (by decide +kernel) (by decide +kernel)
theorem aw_169 : (Jvm.Cond.fieldLink "PhaserYard$Worker" (19 : Nat) "PhaserYard$Worker" "size" "I") ∈ am_words := am_in 169 (by decide +kernel) (by decide +kernel)
theorem aw_170 : (Jvm.Cond.fieldLink "PhaserYard$Run" (104 : Nat) "PhaserYard$Worker" "size" "I") ∈ am_words := am_in 170 (by decide +kernel) (by decide +kernel)
theorem aw_171 : (Jvm.Cond.fieldLink "PhaserYard" (167 : Nat) "PhaserYard$Worker" "size" "I") ∈ am_words := am_in 171 (by decide +kernel) (by decide +kernel)
theorem aw_172 : (Jvm.Cond.fieldLink "PhaserYard$Worker" (15 : Nat) "PhaserYard$Worker" "hand" "I") ∈ am_words := am_in 172 (by decide +kernel) (by decide +kernel)
theorem aw_173 : (Jvm.Cond.fieldLink "PhaserYard$Run" (101 : Nat) "PhaserYard$Worker" "hand" "I") ∈ am_words := am_in 173 (by decide +kernel) (by decide +kernel)
theorem aw_174 : (Jvm.Cond.fieldLink "PhaserYard" (162 : Nat) "PhaserYard$Worker" "hand" "I") ∈ am_words := am_in 174 (by decide +kernel) (by decide +kernel)
theorem aw_181 : (Jvm.Cond.superclass "PhaserYard$Worker" "java/lang/Object") ∈ am_words := am_in 181 (by decide +kernel) (by decide +kernel)
theorem aw_182 : (Jvm.Cond.fieldLink "PhaserYard$Run" (9 : Nat) "PhaserYard$Run" "bodies" "[LPhaserYard$Body;") ∈ am_words := am_in 182 (by decide +kernel) (by decide +kernel)
theorem aw_183 : (Jvm.Cond.fieldLink "PhaserYard$Run" (24 : Nat) "PhaserYard$Run" "tasks" "[LPhaserYard$Task;") ∈ am_words := am_in 183 (by decide +kernel) (by decide +kernel)
theorem aw_184 : (Jvm.Cond.fieldLink "PhaserYard" (102 : Nat) "PhaserYard$Run" "tasks" "[LPhaserYard$Task;") ∈ am_words := am_in 184 (by decide +kernel) (by decide +kernel)
theorem aw_185 : (Jvm.Cond.fieldLink "PhaserYard$Run" (64 : Nat) "PhaserYard$Run" "taskCount" "I") ∈ am_words := am_in 185 (by decide +kernel) (by decide +kernel)
theorem aw_186 : (Jvm.Cond.fieldLink "PhaserYard" (134 : Nat) "PhaserYard$Run" "taskCount" "I") ∈ am_words := am_in 186 (by decide +kernel) (by decide +kernel)
theorem aw_187 : (Jvm.Cond.fieldLink "PhaserYard$Run" (18 : Nat) "PhaserYard$Run" "root" "LPhaserYard$Scope;") ∈ am_words := am_in 187 (by decide +kernel) (by decide +kernel)
theorem aw_188 : (Jvm.Cond.fieldLink "PhaserYard" (88 : Nat) "PhaserYard$Run" "root" "LPhaserYard$Scope;") ∈ am_words := am_in 188 (by decide +kernel) (by decide +kernel)
theorem aw_189 : (Jvm.Cond.fieldLink "PhaserYard$Run" (33 : Nat) "PhaserYard$Run" "phasers" "[LPhaserYard$Phaser;") ∈ am_words := am_in 189 (by decide +kernel) (by decide +kernel)
theorem aw_190 : (Jvm.Cond.fieldLink "PhaserYard$Run" (40 : Nat) "PhaserYard$Run" "workers" "[LPhaserYard$Worker;") ∈ am_words := am_in 190 (by decide +kernel) (by decide +kernel)
theorem aw_191 : (Jvm.Cond.fieldLink "PhaserYard" (158 : Nat) "PhaserYard$Run" "workers" "[LPhaserYard$Worker;") ∈ am_words := am_in 191 (by decide +kernel) (by decide +kernel)
theorem aw_192 : (Jvm.Cond.fieldLink "PhaserYard$Run" (56 : Nat) "PhaserYard$Run" "workerCount" "I") ∈ am_words := am_in 192 (by decide +kernel) (by decide +kernel)
theorem aw_193 : (Jvm.Cond.fieldLink "PhaserYard$Run" (60 : Nat) "PhaserYard$Run" "isNewFirst" "Z") ∈ am_words := am_in 193 (by decide +kernel) (by decide +kernel)
theorem aw_194 : (Jvm.Cond.fieldLink "PhaserYard$Run" (45 : Nat) "PhaserYard$Run" "values" "[I") ∈ am_words := am_in 194 (by decide +kernel) (by decide +kernel)
theorem aw_195 : (Jvm.Cond.fieldLink "PhaserYard" (151 : Nat) "PhaserYard$Run" "values" "[I") ∈ am_words := am_in 195 (by decide +kernel) (by decide +kernel)
theorem aw_196 : (Jvm.Cond.fieldLink "PhaserYard$Run" (49 : Nat) "PhaserYard$Run" "isPut" "[Z") ∈ am_words := am_in 196 (by decide +kernel) (by decide +kernel)
theorem aw_197 : (Jvm.Cond.fieldLink "PhaserYard" (145 : Nat) "PhaserYard$Run" "isPut" "[Z") ∈ am_words := am_in 197 (by decide +kernel) (by decide +kernel)
theorem aw_198 : (Jvm.Cond.fieldLink "PhaserYard$Run" (53 : Nat) "PhaserYard$Run" "spoken" "[I") ∈ am_words := am_in 198 (by decide +kernel) (by decide +kernel)
theorem aw_199 : (Jvm.Cond.fieldLink "PhaserYard" (128 : Nat) "PhaserYard$Run" "spoken" "[I") ∈ am_words := am_in 199 (by decide +kernel) (by decide +kernel)
theorem aw_200 : (Jvm.Cond.fieldLink "PhaserYard$Run" (67 : Nat) "PhaserYard$Run" "spokenCount" "I") ∈ am_words := am_in 200 (by decide +kernel) (by decide +kernel)
theorem aw_201 : (Jvm.Cond.fieldLink "PhaserYard" (114 : Nat) "PhaserYard$Run" "spokenCount" "I") ∈ am_words := am_in 201 (by decide +kernel) (by decide +kernel)
theorem aw_202 : (Jvm.Cond.fieldLink "PhaserYard$Run" (70 : Nat) "PhaserYard$Run" "ticks" "I") ∈ am_words := am_in 202 (by decide +kernel) (by decide +kernel)
theorem aw_203 : (Jvm.Cond.fieldLink "PhaserYard$Run" (73 : Nat) "PhaserYard$Run" "steps" "I") ∈ am_words := am_in 203 (by decide +kernel) (by decide +kernel)
theorem aw_204 : (Jvm.Cond.fieldLink "PhaserYard$Run" (76 : Nat) "PhaserYard$Run" "stolen" "I") ∈ am_words := am_in 204 (by decide +kernel) (by decide +kernel)
theorem aw_235 : (Jvm.Cond.superclass "PhaserYard$Run" "java/lang/Object") ∈ am_words := am_in 235 (by decide +kernel) (by decide +kernel)
theorem aw_236 : (Jvm.Cond.arrayClass Jvm.ClassFile.FieldType.boolean) ∈ am_words := am_in 236 (by decide +kernel) (by decide +kernel)
theorem aw_237 : (Jvm.Cond.fieldLink "PhaserYard" (11 : Nat) "PhaserYard" "bodies" "[LPhaserYard$Body;") ∈ am_words := am_in 237 (by decide +kernel) (by decide +kernel)
theorem aw_238 : (Jvm.Cond.fieldLink "PhaserYard" (21 : Nat) "PhaserYard" "current" "LPhaserYard$Run;") ∈ am_words := am_in 238 (by decide +kernel) (by decide +kernel)
theorem aw_243 : (Jvm.Cond.superclass "PhaserYard" "java/lang/Object") ∈ am_words := am_in 243 (by decide +kernel) (by decide +kernel)
theorem aw_244 : (Jvm.Cond.methodLink "PhaserYardLaw" (55 : Nat) ({ cls := "PhaserYardLaw", name := "body", desc := "(LPhaserYard;I[J)I" } : Jvm.MethodName)) ∈ am_words := am_in 244 (by decide +kernel) (by decide +kernel)
theorem aw_245 : (Jvm.Cond.static ({ cls := "PhaserYardLaw", name := "body", desc := "(LPhaserYard;I[J)I" } : Jvm.MethodName)) ∈ am_words := am_in 245 (by decide +kernel) (by decide +kernel)
theorem aw_247 : (Jvm.Cond.classLink "PhaserYardLaw" (13 : Nat) "java/lang/IllegalArgumentException") ∈ am_words := am_in 247 (by decide +kernel) (by decide +kernel)
theorem aw_248 : (Jvm.Cond.methodLink "PhaserYardLaw" (7 : Nat) ({ cls := "PhaserYard", name := "body", desc := "(I)I" } : Jvm.MethodName)) ∈ am_words := am_in 248 (by decide +kernel) (by decide +kernel)
theorem aw_249 : (Jvm.Cond.instanceMethod ({ cls := "PhaserYard", name := "body", desc := "(I)I" } : Jvm.MethodName)) ∈ am_words := am_in 249 (by decide +kernel) (by decide +kernel)
theorem aw_250 : (Jvm.Cond.selects "PhaserYard" ({ cls := "PhaserYard", name := "body", desc := "(I)I" } : Jvm.MethodName) ({ cls := "PhaserYard", name := "body", desc := "(I)I" } : Jvm.MethodName)) ∈ am_words := am_in 250 (by decide +kernel) (by decide +kernel)
theorem aw_251 : (Jvm.Cond.code ({ cls := "PhaserYard", name := "body", desc := "(I)I" } : Jvm.MethodName) prog_1_method_2_code (3 : Nat) (Option.some Jvm.ClassFile.FieldType.int)) ∈ am_words := am_in 251 (by decide +kernel) (by decide +kernel)
theorem aw_252 : (Jvm.Cond.methodLink "PhaserYard" (25 : Nat) ({ cls := "PhaserYard", name := "isWithin", desc := "(III)Z" } : Jvm.MethodName)) ∈ am_words := am_in 252 (by decide +kernel) (by decide +kernel)
theorem aw_253 : (Jvm.Cond.static ({ cls := "PhaserYard", name := "isWithin", desc := "(III)Z" } : Jvm.MethodName)) ∈ am_words := am_in 253 (by decide +kernel) (by decide +kernel)
theorem aw_254 : (Jvm.Cond.code ({ cls := "PhaserYard", name := "isWithin", desc := "(III)Z" } : Jvm.MethodName) prog_1_method_11_code (3 : Nat) (Option.some Jvm.ClassFile.FieldType.boolean)) ∈ am_words := am_in 254 (by decide +kernel) (by decide +kernel)
theorem aw_255 : (Jvm.Cond.classLink "PhaserYard" (29 : Nat) "java/lang/IllegalArgumentException") ∈ am_words := am_in 255 (by decide +kernel) (by decide +kernel)
theorem aw_256 : (Jvm.Cond.instantiable "java/lang/IllegalArgumentException" (6 : Nat)) ∈ am_words := am_in 256 (by decide +kernel) (by decide +kernel)
theorem aw_264 : (Jvm.Cond.selects "java/lang/IllegalArgumentException" ({ cls := "java/lang/Throwable", name := "fillInStackTrace", desc := "(I)Ljava/lang/Throwable;" } : Jvm.MethodName) ({ cls := "java/lang/Throwable", name := "fillInStackTrace", desc := "(I)Ljava/lang/Throwable;" } : Jvm.MethodName)) ∈ am_words := am_in 264 (by decide +kernel) (by decide +kernel)
theorem aw_265 : (Jvm.Cond.selects "java/lang/IllegalArgumentException" ({ cls := "java/lang/Throwable", name := "fillInStackTrace", desc := "()Ljava/lang/Throwable;" } : Jvm.MethodName) ({ cls := "java/lang/Throwable", name := "fillInStackTrace", desc := "()Ljava/lang/Throwable;" } : Jvm.MethodName)) ∈ am_words := am_in 265 (by decide +kernel) (by decide +kernel)
theorem aw_276 : (Jvm.Cond.fieldLink "java/lang/Throwable" (198 : Nat) "java/lang/Throwable" "backtrace" "Ljava/lang/Object;") ∈ am_words := am_in 276 (by decide +kernel) (by decide +kernel)
theorem aw_277 : (Jvm.Cond.superclass "java/lang/Throwable" "java/lang/Object") ∈ am_words := am_in 277 (by decide +kernel) (by decide +kernel)
theorem aw_278 : (Jvm.Cond.instanceMethod ({ cls := "java/lang/Throwable", name := "<init>", desc := "()V" } : Jvm.MethodName)) ∈ am_words := am_in 278 (by decide +kernel) (by decide +kernel)
theorem aw_279 : (Jvm.Cond.code ({ cls := "java/lang/Throwable", name := "<init>", desc := "()V" } : Jvm.MethodName) prog_19_method_1_code (1 : Nat) (Option.none : Option Jvm.ClassFile.FieldType)) ∈ am_words := am_in 279 (by decide +kernel) (by decide +kernel)
theorem aw_280 : (Jvm.Cond.methodLink "java/lang/Throwable" (1 : Nat) ({ cls := "java/lang/Object", name := "<init>", desc := "()V" } : Jvm.MethodName)) ∈ am_words := am_in 280 (by decide +kernel) (by decide +kernel)
theorem aw_281 : (Jvm.Cond.fieldLink "java/lang/Throwable" (13 : Nat) "java/lang/Throwable" "UNASSIGNED_STACK" "[Ljava/lang/StackTraceElement;") ∈ am_words := am_in 281 (by decide +kernel) (by decide +kernel)
theorem aw_283 : (Jvm.Cond.fieldLink "java/lang/Throwable" (20 : Nat) "java/lang/Throwable" "SUPPRESSED_SENTINEL" "Ljava/util/List;") ∈ am_words := am_in 283 (by decide +kernel) (by decide +kernel)
theorem aw_285 : (Jvm.Cond.methodLink "java/lang/Throwable" (27 : Nat) ({ cls := "java/lang/Throwable", name := "fillInStackTrace", desc := "()Ljava/lang/Throwable;" } : Jvm.MethodName)) ∈ am_words := am_in 285 (by decide +kernel) (by decide +kernel)
theorem aw_286 : (Jvm.Cond.instanceMethod ({ cls := "java/lang/Throwable", name := "fillInStackTrace", desc := "()Ljava/lang/Throwable;" } : Jvm.MethodName)) ∈ am_words := am_in 286 (by decide +kernel) (by decide +kernel)
theorem aw_288 : (Jvm.Cond.selects "java/lang/ArithmeticException" ({ cls := "java/lang/Throwable", name := "fillInStackTrace", desc := "()Ljava/lang/Throwable;" } : Jvm.MethodName) ({ cls := "java/lang/Throwable", name := "fillInStackTrace", desc := "()Ljava/lang/Throwable;" } : Jvm.MethodName)) ∈ am_words := am_in 288 (by decide +kernel) (by decide +kernel)
theorem aw_289 : (Jvm.Cond.selects "java/lang/IllegalStateException" ({ cls := "java/lang/Throwable", name := "fillInStackTrace", desc := "()Ljava/lang/Throwable;" } : Jvm.MethodName) ({ cls := "java/lang/Throwable", name := "fillInStackTrace", desc := "()Ljava/lang/Throwable;" } : Jvm.MethodName)) ∈ am_words := am_in 289 (by decide +kernel) (by decide +kernel)
theorem aw_290 : (Jvm.Cond.selects "java/lang/IndexOutOfBoundsException" ({ cls := "java/lang/Throwable", name := "fillInStackTrace", desc := "()Ljava/lang/Throwable;" } : Jvm.MethodName) ({ cls := "java/lang/Throwable", name := "fillInStackTrace", desc := "()Ljava/lang/Throwable;" } : Jvm.MethodName)) ∈ am_words := am_in 290 (by decide +kernel) (by decide +kernel)
theorem aw_291 : (Jvm.Cond.selects "java/lang/UnsupportedOperationException" ({ cls := "java/lang/Throwable", name := "fillInStackTrace", desc := "()Ljava/lang/Throwable;" } : Jvm.MethodName) ({ cls := "java/lang/Throwable", name := "fillInStackTrace", desc := "()Ljava/lang/Throwable;" } : Jvm.MethodName)) ∈ am_words := am_in 291 (by decide +kernel) (by decide +kernel)
theorem aw_293 : (Jvm.Cond.methodLink "java/lang/Throwable" (202 : Nat) ({ cls := "java/lang/Throwable", name := "fillInStackTrace", desc := "(I)Ljava/lang/Throwable;" } : Jvm.MethodName)) ∈ am_words := am_in 293 (by decide +kernel) (by decide +kernel)
theorem aw_295 : (Jvm.Cond.instanceMethod ({ cls := "java/lang/Throwable", name := "fillInStackTrace", desc := "(I)Ljava/lang/Throwable;" } : Jvm.MethodName)) ∈ am_words := am_in 295 (by decide +kernel) (by decide +kernel)
theorem aw_296 : (Jvm.Cond.instantiable "java/lang/Throwable" (6 : Nat)) ∈ am_words := am_in 296 (by decide +kernel) (by decide +kernel)
theorem aw_297 : (Jvm.Cond.native ({ cls := "java/lang/Throwable", name := "fillInStackTrace", desc := "(I)Ljava/lang/Throwable;" } : Jvm.MethodName)) ∈ am_words := am_in 297 (by decide +kernel) (by decide +kernel)
theorem aw_299 : (Jvm.Cond.methodLink "PhaserYard" (33 : Nat) ({ cls := "java/lang/IllegalArgumentException", name := "<init>", desc := "(Ljava/lang/String;)V" } : Jvm.MethodName)) ∈ am_words := am_in 299 (by decide +kernel) (by decide +kernel)
theorem aw_300 : (Jvm.Cond.instanceMethod ({ cls := "java/lang/IllegalArgumentException", name := "<init>", desc := "(Ljava/lang/String;)V" } : Jvm.MethodName)) ∈ am_words := am_in 300 (by decide +kernel) (by decide +kernel)
theorem aw_301 : (Jvm.Cond.code ({ cls := "java/lang/IllegalArgumentException", name := "<init>", desc := "(Ljava/lang/String;)V" } : Jvm.MethodName) prog_12_method_2_code (2 : Nat) (Option.none : Option Jvm.ClassFile.FieldType)) ∈ am_words := am_in 301 (by decide +kernel) (by decide +kernel)
theorem aw_302 : (Jvm.Cond.methodLink "java/lang/IllegalArgumentException" (7 : Nat) ({ cls := "java/lang/RuntimeException", name := "<init>", desc := "(Ljava/lang/String;)V" } : Jvm.MethodName)) ∈ am_words := am_in 302 (by decide +kernel) (by decide +kernel)
theorem aw_303 : (Jvm.Cond.instanceMethod ({ cls := "java/lang/RuntimeException", name := "<init>", desc := "(Ljava/lang/String;)V" } : Jvm.MethodName)) ∈ am_words := am_in 303 (by decide +kernel) (by decide +kernel)
theorem aw_304 : (Jvm.Cond.code ({ cls := "java/lang/RuntimeException", name := "<init>", desc := "(Ljava/lang/String;)V" } : Jvm.MethodName) prog_16_method_2_code (2 : Nat) (Option.none : Option Jvm.ClassFile.FieldType)) ∈ am_words := am_in 304 (by decide +kernel) (by decide +kernel)
theorem aw_305 : (Jvm.Cond.methodLink "java/lang/RuntimeException" (7 : Nat) ({ cls := "java/lang/Exception", name := "<init>", desc := "(Ljava/lang/String;)V" } : Jvm.MethodName)) ∈ am_words := am_in 305 (by decide +kernel) (by decide +kernel)
theorem aw_306 : (Jvm.Cond.instanceMethod ({ cls := "java/lang/Exception", name := "<init>", desc := "(Ljava/lang/String;)V" } : Jvm.MethodName)) ∈ am_words := am_in 306 (by decide +kernel) (by decide +kernel)
theorem aw_307 : (Jvm.Cond.code ({ cls := "java/lang/Exception", name := "<init>", desc := "(Ljava/lang/String;)V" } : Jvm.MethodName) prog_11_method_2_code (2 : Nat) (Option.none : Option Jvm.ClassFile.FieldType)) ∈ am_words := am_in 307 (by decide +kernel) (by decide +kernel)
theorem aw_308 : (Jvm.Cond.methodLink "java/lang/Exception" (7 : Nat) ({ cls := "java/lang/Throwable", name := "<init>", desc := "(Ljava/lang/String;)V" } : Jvm.MethodName)) ∈ am_words := am_in 308 (by decide +kernel) (by decide +kernel)
theorem aw_309 : (Jvm.Cond.instanceMethod ({ cls := "java/lang/Throwable", name := "<init>", desc := "(Ljava/lang/String;)V" } : Jvm.MethodName)) ∈ am_words := am_in 309 (by decide +kernel) (by decide +kernel)
theorem aw_310 : (Jvm.Cond.code ({ cls := "java/lang/Throwable", name := "<init>", desc := "(Ljava/lang/String;)V" } : Jvm.MethodName) prog_19_method_2_code (2 : Nat) (Option.none : Option Jvm.ClassFile.FieldType)) ∈ am_words := am_in 310 (by decide +kernel) (by decide +kernel)
theorem aw_312 : (Jvm.Cond.fieldLink "java/lang/Throwable" (31 : Nat) "java/lang/Throwable" "detailMessage" "Ljava/lang/String;") ∈ am_words := am_in 312 (by decide +kernel) (by decide +kernel)
theorem aw_313 : (Jvm.Cond.fieldLink "java/lang/Throwable" (7 : Nat) "java/lang/Throwable" "cause" "Ljava/lang/Throwable;") ∈ am_words := am_in 313 (by decide +kernel) (by decide +kernel)
theorem aw_314 : (Jvm.Cond.fieldLink "java/lang/Throwable" (17 : Nat) "java/lang/Throwable" "stackTrace" "[Ljava/lang/StackTraceElement;") ∈ am_words := am_in 314 (by decide +kernel) (by decide +kernel)
theorem aw_315 : (Jvm.Cond.fieldLink "java/lang/Throwable" (24 : Nat) "java/lang/Throwable" "suppressedExceptions" "Ljava/util/List;") ∈ am_words := am_in 315 (by decide +kernel) (by decide +kernel)
theorem aw_323 : (Jvm.Cond.superclass "java/lang/IllegalArgumentException" "java/lang/RuntimeException") ∈ am_words := am_in 323 (by decide +kernel) (by decide +kernel)
theorem aw_324 : (Jvm.Cond.arrayClass Jvm.ClassFile.FieldType.byte) ∈ am_words := am_in 324 (by decide +kernel) (by decide +kernel)
theorem aw_325 : (Jvm.Cond.methodLink "PhaserYardLaw" (64 : Nat) ({ cls := "PhaserYardLaw", name := "add", desc := "(LPhaserYard;III[J)I" } : Jvm.MethodName)) ∈ am_words := am_in 325 (by decide +kernel) (by decide +kernel)
theorem aw_326 : (Jvm.Cond.static ({ cls := "PhaserYardLaw", name := "add", desc := "(LPhaserYard;III[J)I" } : Jvm.MethodName)) ∈ am_words := am_in 326 (by decide +kernel) (by decide +kernel)
theorem aw_328 : (Jvm.Cond.classLink "PhaserYardLaw" (19 : Nat) "java/lang/IllegalStateException") ∈ am_words := am_in 328 (by decide +kernel) (by decide +kernel)
theorem aw_329 : (Jvm.Cond.methodLink "PhaserYardLaw" (15 : Nat) ({ cls := "PhaserYard", name := "add", desc := "(III)I" } : Jvm.MethodName)) ∈ am_words := am_in 329 (by decide +kernel) (by decide +kernel)
theorem aw_330 : (Jvm.Cond.instanceMethod ({ cls := "PhaserYard", name := "add", desc := "(III)I" } : Jvm.MethodName)) ∈ am_words := am_in 330 (by decide +kernel) (by decide +kernel)
theorem aw_331 : (Jvm.Cond.selects "PhaserYard" ({ cls := "PhaserYard", name := "add", desc := "(III)I" } : Jvm.MethodName) ({ cls := "PhaserYard", name := "add", desc := "(III)I" } : Jvm.MethodName)) ∈ am_words := am_in 331 (by decide +kernel) (by decide +kernel)
theorem aw_332 : (Jvm.Cond.code ({ cls := "PhaserYard", name := "add", desc := "(III)I" } : Jvm.MethodName) prog_1_method_3_code (4 : Nat) (Option.some Jvm.ClassFile.FieldType.int)) ∈ am_words := am_in 332 (by decide +kernel) (by decide +kernel)
theorem aw_333 : (Jvm.Cond.methodLink "PhaserYard" (40 : Nat) ({ cls := "PhaserYard", name := "isInstruction", desc := "(II)Z" } : Jvm.MethodName)) ∈ am_words := am_in 333 (by decide +kernel) (by decide +kernel)
theorem aw_334 : (Jvm.Cond.static ({ cls := "PhaserYard", name := "isInstruction", desc := "(II)Z" } : Jvm.MethodName)) ∈ am_words := am_in 334 (by decide +kernel) (by decide +kernel)
theorem aw_335 : (Jvm.Cond.code ({ cls := "PhaserYard", name := "isInstruction", desc := "(II)Z" } : Jvm.MethodName) prog_1_method_12_code (2 : Nat) (Option.some Jvm.ClassFile.FieldType.boolean)) ∈ am_words := am_in 335 (by decide +kernel) (by decide +kernel)
theorem aw_336 : (Jvm.Cond.fieldLink "PhaserYard" (173 : Nat) "PhaserYard" "LEAST_A" "[I") ∈ am_words := am_in 336 (by decide +kernel) (by decide +kernel)
theorem aw_338 : (Jvm.Cond.fieldLink "PhaserYard" (176 : Nat) "PhaserYard" "GREATEST_A" "[I") ∈ am_words := am_in 338 (by decide +kernel) (by decide +kernel)
theorem aw_341 : (Jvm.Cond.classLink "PhaserYard" (46 : Nat) "java/lang/IllegalStateException") ∈ am_words := am_in 341 (by decide +kernel) (by decide +kernel)
theorem aw_342 : (Jvm.Cond.instantiable "java/lang/IllegalStateException" (6 : Nat)) ∈ am_words := am_in 342 (by decide +kernel) (by decide +kernel)
theorem aw_344 : (Jvm.Cond.selects "java/lang/IllegalStateException" ({ cls := "java/lang/Throwable", name := "fillInStackTrace", desc := "(I)Ljava/lang/Throwable;" } : Jvm.MethodName) ({ cls := "java/lang/Throwable", name := "fillInStackTrace", desc := "(I)Ljava/lang/Throwable;" } : Jvm.MethodName)) ∈ am_words := am_in 344 (by decide +kernel) (by decide +kernel)
theorem aw_351 : (Jvm.Cond.methodLink "PhaserYard" (50 : Nat) ({ cls := "java/lang/IllegalStateException", name := "<init>", desc := "(Ljava/lang/String;)V" } : Jvm.MethodName)) ∈ am_words := am_in 351 (by decide +kernel) (by decide +kernel)
theorem aw_352 : (Jvm.Cond.instanceMethod ({ cls := "java/lang/IllegalStateException", name := "<init>", desc := "(Ljava/lang/String;)V" } : Jvm.MethodName)) ∈ am_words := am_in 352 (by decide +kernel) (by decide +kernel)
theorem aw_353 : (Jvm.Cond.code ({ cls := "java/lang/IllegalStateException", name := "<init>", desc := "(Ljava/lang/String;)V" } : Jvm.MethodName) prog_13_method_2_code (2 : Nat) (Option.none : Option Jvm.ClassFile.FieldType)) ∈ am_words := am_in 353 (by decide +kernel) (by decide +kernel)
theorem aw_354 : (Jvm.Cond.methodLink "java/lang/IllegalStateException" (7 : Nat) ({ cls := "java/lang/RuntimeException", name := "<init>", desc := "(Ljava/lang/String;)V" } : Jvm.MethodName)) ∈ am_words := am_in 354 (by decide +kernel) (by decide +kernel)
theorem aw_356 : (Jvm.Cond.superclass "java/lang/IllegalStateException" "java/lang/RuntimeException") ∈ am_words := am_in 356 (by decide +kernel) (by decide +kernel)
theorem aw_357 : (Jvm.Cond.methodLink "PhaserYard" (51 : Nat) ({ cls := "PhaserYard$Body", name := "append", desc := "(II)V" } : Jvm.MethodName)) ∈ am_words := am_in 357 (by decide +kernel) (by decide +kernel)
theorem aw_358 : (Jvm.Cond.instanceMethod ({ cls := "PhaserYard$Body", name := "append", desc := "(II)V" } : Jvm.MethodName)) ∈ am_words := am_in 358 (by decide +kernel) (by decide +kernel)
theorem aw_359 : (Jvm.Cond.selects "PhaserYard$Body" ({ cls := "PhaserYard$Body", name := "append", desc := "(II)V" } : Jvm.MethodName) ({ cls := "PhaserYard$Body", name := "append", desc := "(II)V" } : Jvm.MethodName)) ∈ am_words := am_in 359 (by decide +kernel) (by decide +kernel)
theorem aw_360 : (Jvm.Cond.code ({ cls := "PhaserYard$Body", name := "append", desc := "(II)V" } : Jvm.MethodName) prog_2_method_2_code (3 : Nat) (Option.none : Option Jvm.ClassFile.FieldType)) ∈ am_words := am_in 360 (by decide +kernel) (by decide +kernel)
theorem aw_361 : (Jvm.Cond.methodLink "PhaserYardLaw" (68 : Nat) ({ cls := "PhaserYardLaw", name := "begin", desc := "(LPhaserYard;IIII)I" } : Jvm.MethodName)) ∈ am_words := am_in 361 (by decide +kernel) (by decide +kernel)
theorem aw_362 : (Jvm.Cond.static ({ cls := "PhaserYardLaw", name := "begin", desc := "(LPhaserYard;IIII)I" } : Jvm.MethodName)) ∈ am_words := am_in 362 (by decide +kernel) (by decide +kernel)
theorem aw_364 : (Jvm.Cond.methodLink "PhaserYardLaw" (21 : Nat) ({ cls := "PhaserYard", name := "begin", desc := "(IIII)V" } : Jvm.MethodName)) ∈ am_words := am_in 364 (by decide +kernel) (by decide +kernel)
theorem aw_365 : (Jvm.Cond.instanceMethod ({ cls := "PhaserYard", name := "begin", desc := "(IIII)V" } : Jvm.MethodName)) ∈ am_words := am_in 365 (by decide +kernel) (by decide +kernel)
theorem aw_366 : (Jvm.Cond.selects "PhaserYard" ({ cls := "PhaserYard", name := "begin", desc := "(IIII)V" } : Jvm.MethodName) ({ cls := "PhaserYard", name := "begin", desc := "(IIII)V" } : Jvm.MethodName)) ∈ am_words := am_in 366 (by decide +kernel) (by decide +kernel)
theorem aw_367 : (Jvm.Cond.code ({ cls := "PhaserYard", name := "begin", desc := "(IIII)V" } : Jvm.MethodName) prog_1_method_4_code (5 : Nat) (Option.none : Option Jvm.ClassFile.FieldType)) ∈ am_words := am_in 367 (by decide +kernel) (by decide +kernel)
theorem aw_369 : (Jvm.Cond.methodLink "PhaserYard" (57 : Nat) ({ cls := "PhaserYard$Run", name := "reset", desc := "(IZ)V" } : Jvm.MethodName)) ∈ am_words := am_in 369 (by decide +kernel) (by decide +kernel)
theorem aw_370 : (Jvm.Cond.instanceMethod ({ cls := "PhaserYard$Run", name := "reset", desc := "(IZ)V" } : Jvm.MethodName)) ∈ am_words := am_in 370 (by decide +kernel) (by decide +kernel)
theorem aw_371 : (Jvm.Cond.selects "PhaserYard$Run" ({ cls := "PhaserYard$Run", name := "reset", desc := "(IZ)V" } : Jvm.MethodName) ({ cls := "PhaserYard$Run", name := "reset", desc := "(IZ)V" } : Jvm.MethodName)) ∈ am_words := am_in 371 (by decide +kernel) (by decide +kernel)
theorem aw_372 : (Jvm.Cond.code ({ cls := "PhaserYard$Run", name := "reset", desc := "(IZ)V" } : Jvm.MethodName) prog_4_method_2_code (4 : Nat) (Option.none : Option Jvm.ClassFile.FieldType)) ∈ am_words := am_in 372 (by decide +kernel) (by decide +kernel)
theorem aw_373 : (Jvm.Cond.methodLink "PhaserYard$Run" (79 : Nat) ({ cls := "PhaserYard$Scope", name := "open", desc := "(II)V" } : Jvm.MethodName)) ∈ am_words := am_in 373 (by decide +kernel) (by decide +kernel)
theorem aw_374 : (Jvm.Cond.instanceMethod ({ cls := "PhaserYard$Scope", name := "open", desc := "(II)V" } : Jvm.MethodName)) ∈ am_words := am_in 374 (by decide +kernel) (by decide +kernel)
theorem aw_375 : (Jvm.Cond.selects "PhaserYard$Scope" ({ cls := "PhaserYard$Scope", name := "open", desc := "(II)V" } : Jvm.MethodName) ({ cls := "PhaserYard$Scope", name := "open", desc := "(II)V" } : Jvm.MethodName)) ∈ am_words := am_in 375 (by decide +kernel) (by decide +kernel)
theorem aw_376 : (Jvm.Cond.code ({ cls := "PhaserYard$Scope", name := "open", desc := "(II)V" } : Jvm.MethodName) prog_5_method_2_code (3 : Nat) (Option.none : Option Jvm.ClassFile.FieldType)) ∈ am_words := am_in 376 (by decide +kernel) (by decide +kernel)
theorem aw_379 : (Jvm.Cond.methodLink "PhaserYard$Run" (83 : Nat) ({ cls := "PhaserYard$Phaser", name := "reset", desc := "()V" } : Jvm.MethodName)) ∈ am_words := am_in 379 (by decide +kernel) (by decide +kernel)
theorem aw_380 : (Jvm.Cond.instanceMethod ({ cls := "PhaserYard$Phaser", name := "reset", desc := "()V" } : Jvm.MethodName)) ∈ am_words := am_in 380 (by decide +kernel) (by decide +kernel)
theorem aw_381 : (Jvm.Cond.selects "PhaserYard$Phaser" ({ cls := "PhaserYard$Phaser", name := "reset", desc := "()V" } : Jvm.MethodName) ({ cls := "PhaserYard$Phaser", name := "reset", desc := "()V" } : Jvm.MethodName)) ∈ am_words := am_in 381 (by decide +kernel) (by decide +kernel)
theorem aw_382 : (Jvm.Cond.code ({ cls := "PhaserYard$Phaser", name := "reset", desc := "()V" } : Jvm.MethodName) prog_3_method_2_code (1 : Nat) (Option.none : Option Jvm.ClassFile.FieldType)) ∈ am_words := am_in 382 (by decide +kernel) (by decide +kernel)
theorem aw_383 : (Jvm.Cond.methodLink "PhaserYard$Phaser" (25 : Nat) ({ cls := "java/util/Arrays", name := "fill", desc := "([II)V" } : Jvm.MethodName)) ∈ am_words := am_in 383 (by decide +kernel) (by decide +kernel)
theorem aw_384 : (Jvm.Cond.static ({ cls := "java/util/Arrays", name := "fill", desc := "([II)V" } : Jvm.MethodName)) ∈ am_words := am_in 384 (by decide +kernel) (by decide +kernel)
theorem aw_385 : (Jvm.Cond.code ({ cls := "java/util/Arrays", name := "fill", desc := "([II)V" } : Jvm.MethodName) prog_21_method_103_code (4 : Nat) (Option.none : Option Jvm.ClassFile.FieldType)) ∈ am_words := am_in 385 (by decide +kernel) (by decide +kernel)
theorem aw_386 : (Jvm.Cond.methodLink "PhaserYard$Run" (86 : Nat) ({ cls := "PhaserYard$Worker", name := "reset", desc := "()V" } : Jvm.MethodName)) ∈ am_words := am_in 386 (by decide +kernel) (by decide +kernel)
theorem aw_387 : (Jvm.Cond.instanceMethod ({ cls := "PhaserYard$Worker", name := "reset", desc := "()V" } : Jvm.MethodName)) ∈ am_words := am_in 387 (by decide +kernel) (by decide +kernel)
theorem aw_388 : (Jvm.Cond.selects "PhaserYard$Worker" ({ cls := "PhaserYard$Worker", name := "reset", desc := "()V" } : Jvm.MethodName) ({ cls := "PhaserYard$Worker", name := "reset", desc := "()V" } : Jvm.MethodName)) ∈ am_words := am_in 388 (by decide +kernel) (by decide +kernel)
theorem aw_389 : (Jvm.Cond.code ({ cls := "PhaserYard$Worker", name := "reset", desc := "()V" } : Jvm.MethodName) prog_7_method_2_code (1 : Nat) (Option.none : Option Jvm.ClassFile.FieldType)) ∈ am_words := am_in 389 (by decide +kernel) (by decide +kernel)
theorem aw_390 : (Jvm.Cond.methodLink "PhaserYard" (61 : Nat) ({ cls := "PhaserYard$Run", name := "beginFirst", desc := "(II)V" } : Jvm.MethodName)) ∈ am_words := am_in 390 (by decide +kernel) (by decide +kernel)
theorem aw_391 : (Jvm.Cond.instanceMethod ({ cls := "PhaserYard$Run", name := "beginFirst", desc := "(II)V" } : Jvm.MethodName)) ∈ am_words := am_in 391 (by decide +kernel) (by decide +kernel)
theorem aw_392 : (Jvm.Cond.selects "PhaserYard$Run" ({ cls := "PhaserYard$Run", name := "beginFirst", desc := "(II)V" } : Jvm.MethodName) ({ cls := "PhaserYard$Run", name := "beginFirst", desc := "(II)V" } : Jvm.MethodName)) ∈ am_words := am_in 392 (by decide +kernel) (by decide +kernel)
theorem aw_393 : (Jvm.Cond.code ({ cls := "PhaserYard$Run", name := "beginFirst", desc := "(II)V" } : Jvm.MethodName) prog_4_method_3_code (3 : Nat) (Option.none : Option Jvm.ClassFile.FieldType)) ∈ am_words := am_in 393 (by decide +kernel) (by decide +kernel)
theorem aw_394 : (Jvm.Cond.methodLink "PhaserYard$Run" (87 : Nat) ({ cls := "PhaserYard$Task", name := "reset", desc := "(IILPhaserYard$Scope;)V" } : Jvm.MethodName)) ∈ am_words := am_in 394 (by decide +kernel) (by decide +kernel)
theorem aw_395 : (Jvm.Cond.instanceMethod ({ cls := "PhaserYard$Task", name := "reset", desc := "(IILPhaserYard$Scope;)V" } : Jvm.MethodName)) ∈ am_words := am_in 395 (by decide +kernel) (by decide +kernel)
theorem aw_396 : (Jvm.Cond.selects "PhaserYard$Task" ({ cls := "PhaserYard$Task", name := "reset", desc := "(IILPhaserYard$Scope;)V" } : Jvm.MethodName) ({ cls := "PhaserYard$Task", name := "reset", desc := "(IILPhaserYard$Scope;)V" } : Jvm.MethodName)) ∈ am_words := am_in 396 (by decide +kernel) (by decide +kernel)
theorem aw_397 : (Jvm.Cond.code ({ cls := "PhaserYard$Task", name := "reset", desc := "(IILPhaserYard$Scope;)V" } : Jvm.MethodName) prog_6_method_2_code (4 : Nat) (Option.none : Option Jvm.ClassFile.FieldType)) ∈ am_words := am_in 397 (by decide +kernel) (by decide +kernel)
theorem aw_398 : (Jvm.Cond.methodLink "PhaserYard$Run" (93 : Nat) ({ cls := "PhaserYard$Worker", name := "append", desc := "(I)V" } : Jvm.MethodName)) ∈ am_words := am_in 398 (by decide +kernel) (by decide +kernel)
theorem aw_399 : (Jvm.Cond.instanceMethod ({ cls := "PhaserYard$Worker", name := "append", desc := "(I)V" } : Jvm.MethodName)) ∈ am_words := am_in 399 (by decide +kernel) (by decide +kernel)
theorem aw_400 : (Jvm.Cond.selects "PhaserYard$Worker" ({ cls := "PhaserYard$Worker", name := "append", desc := "(I)V" } : Jvm.MethodName) ({ cls := "PhaserYard$Worker", name := "append", desc := "(I)V" } : Jvm.MethodName)) ∈ am_words := am_in 400 (by decide +kernel) (by decide +kernel)
theorem aw_401 : (Jvm.Cond.code ({ cls := "PhaserYard$Worker", name := "append", desc := "(I)V" } : Jvm.MethodName) prog_7_method_4_code (2 : Nat) (Option.none : Option Jvm.ClassFile.FieldType)) ∈ am_words := am_in 401 (by decide +kernel) (by decide +kernel)
theorem aw_402 : (Jvm.Cond.methodLink "PhaserYardLaw" (72 : Nat) ({ cls := "PhaserYardLaw", name := "run", desc := "(LPhaserYard;I[J)I" } : Jvm.MethodName)) ∈ am_words := am_in 402 (by decide +kernel) (by decide +kernel)
theorem aw_403 : (Jvm.Cond.static ({ cls := "PhaserYardLaw", name := "run", desc := "(LPhaserYard;I[J)I" } : Jvm.MethodName)) ∈ am_words := am_in 403 (by decide +kernel) (by decide +kernel)
theorem aw_405 : (Jvm.Cond.classLink "PhaserYardLaw" (28 : Nat) "java/lang/UnsupportedOperationException") ∈ am_words := am_in 405 (by decide +kernel) (by decide +kernel)
theorem aw_406 : (Jvm.Cond.methodLink "PhaserYardLaw" (25 : Nat) ({ cls := "PhaserYard", name := "run", desc := "(I)I" } : Jvm.MethodName)) ∈ am_words := am_in 406 (by decide +kernel) (by decide +kernel)
theorem aw_407 : (Jvm.Cond.instanceMethod ({ cls := "PhaserYard", name := "run", desc := "(I)I" } : Jvm.MethodName)) ∈ am_words := am_in 407 (by decide +kernel) (by decide +kernel)
theorem aw_408 : (Jvm.Cond.selects "PhaserYard" ({ cls := "PhaserYard", name := "run", desc := "(I)I" } : Jvm.MethodName) ({ cls := "PhaserYard", name := "run", desc := "(I)I" } : Jvm.MethodName)) ∈ am_words := am_in 408 (by decide +kernel) (by decide +kernel)
theorem aw_409 : (Jvm.Cond.code ({ cls := "PhaserYard", name := "run", desc := "(I)I" } : Jvm.MethodName) prog_1_method_5_code (3 : Nat) (Option.some Jvm.ClassFile.FieldType.int)) ∈ am_words := am_in 409 (by decide +kernel) (by decide +kernel)
theorem aw_411 : (Jvm.Cond.methodLink "PhaserYard" (66 : Nat) ({ cls := "PhaserYard$Run", name := "isBegun", desc := "()Z" } : Jvm.MethodName)) ∈ am_words := am_in 411 (by decide +kernel) (by decide +kernel)
theorem aw_412 : (Jvm.Cond.instanceMethod ({ cls := "PhaserYard$Run", name := "isBegun", desc := "()Z" } : Jvm.MethodName)) ∈ am_words := am_in 412 (by decide +kernel) (by decide +kernel)
theorem aw_413 : (Jvm.Cond.selects "PhaserYard$Run" ({ cls := "PhaserYard$Run", name := "isBegun", desc := "()Z" } : Jvm.MethodName) ({ cls := "PhaserYard$Run", name := "isBegun", desc := "()Z" } : Jvm.MethodName)) ∈ am_words := am_in 413 (by decide +kernel) (by decide +kernel)
theorem aw_414 : (Jvm.Cond.code ({ cls := "PhaserYard$Run", name := "isBegun", desc := "()Z" } : Jvm.MethodName) prog_4_method_4_code (1 : Nat) (Option.some Jvm.ClassFile.FieldType.boolean)) ∈ am_words := am_in 414 (by decide +kernel) (by decide +kernel)
theorem aw_416 : (Jvm.Cond.methodLink "PhaserYard" (72 : Nat) ({ cls := "PhaserYard$Run", name := "isOver", desc := "()Z" } : Jvm.MethodName)) ∈ am_words := am_in 416 (by decide +kernel) (by decide +kernel)
theorem aw_417 : (Jvm.Cond.instanceMethod ({ cls := "PhaserYard$Run", name := "isOver", desc := "()Z" } : Jvm.MethodName)) ∈ am_words := am_in 417 (by decide +kernel) (by decide +kernel)
theorem aw_418 : (Jvm.Cond.selects "PhaserYard$Run" ({ cls := "PhaserYard$Run", name := "isOver", desc := "()Z" } : Jvm.MethodName) ({ cls := "PhaserYard$Run", name := "isOver", desc := "()Z" } : Jvm.MethodName)) ∈ am_words := am_in 418 (by decide +kernel) (by decide +kernel)
theorem aw_419 : (Jvm.Cond.code ({ cls := "PhaserYard$Run", name := "isOver", desc := "()Z" } : Jvm.MethodName) prog_4_method_5_code (1 : Nat) (Option.some Jvm.ClassFile.FieldType.boolean)) ∈ am_words := am_in 419 (by decide +kernel) (by decide +kernel)
theorem aw_420 : (Jvm.Cond.methodLink "PhaserYard$Run" (97 : Nat) ({ cls := "PhaserYard$Run", name := "isBegun", desc := "()Z" } : Jvm.MethodName)) ∈ am_words := am_in 420 (by decide +kernel) (by decide +kernel)
theorem aw_421 : (Jvm.Cond.methodLink "PhaserYard" (75 : Nat) ({ cls := "PhaserYard$Run", name := "isStuck", desc := "()Z" } : Jvm.MethodName)) ∈ am_words := am_in 421 (by decide +kernel) (by decide +kernel)
theorem aw_422 : (Jvm.Cond.instanceMethod ({ cls := "PhaserYard$Run", name := "isStuck", desc := "()Z" } : Jvm.MethodName)) ∈ am_words := am_in 422 (by decide +kernel) (by decide +kernel)
theorem aw_423 : (Jvm.Cond.selects "PhaserYard$Run" ({ cls := "PhaserYard$Run", name := "isStuck", desc := "()Z" } : Jvm.MethodName) ({ cls := "PhaserYard$Run", name := "isStuck", desc := "()Z" } : Jvm.MethodName)) ∈ am_words := am_in 423 (by decide +kernel) (by decide +kernel)
theorem aw_424 : (Jvm.Cond.code ({ cls := "PhaserYard$Run", name := "isStuck", desc := "()Z" } : Jvm.MethodName) prog_4_method_6_code (2 : Nat) (Option.some Jvm.ClassFile.FieldType.boolean)) ∈ am_words := am_in 424 (by decide +kernel) (by decide +kernel)
theorem aw_425 : (Jvm.Cond.methodLink "PhaserYard$Run" (107 : Nat) ({ cls := "PhaserYard$Run", name := "isOver", desc := "()Z" } : Jvm.MethodName)) ∈ am_words := am_in 425 (by decide +kernel) (by decide +kernel)
theorem aw_426 : (Jvm.Cond.methodLink "PhaserYard" (78 : Nat) ({ cls := "PhaserYard$Run", name := "tick", desc := "()V" } : Jvm.MethodName)) ∈ am_words := am_in 426 (by decide +kernel) (by decide +kernel)
theorem aw_427 : (Jvm.Cond.instanceMethod ({ cls := "PhaserYard$Run", name := "tick", desc := "()V" } : Jvm.MethodName)) ∈ am_words := am_in 427 (by decide +kernel) (by decide +kernel)
theorem aw_428 : (Jvm.Cond.selects "PhaserYard$Run" ({ cls := "PhaserYard$Run", name := "tick", desc := "()V" } : Jvm.MethodName) ({ cls := "PhaserYard$Run", name := "tick", desc := "()V" } : Jvm.MethodName)) ∈ am_words := am_in 428 (by decide +kernel) (by decide +kernel)
theorem aw_429 : (Jvm.Cond.code ({ cls := "PhaserYard$Run", name := "tick", desc := "()V" } : Jvm.MethodName) prog_4_method_7_code (2 : Nat) (Option.none : Option Jvm.ClassFile.FieldType)) ∈ am_words := am_in 429 (by decide +kernel) (by decide +kernel)
theorem aw_430 : (Jvm.Cond.methodLink "PhaserYard$Run" (110 : Nat) ({ cls := "PhaserYard$Run", name := "takeOne", desc := "(I)V" } : Jvm.MethodName)) ∈ am_words := am_in 430 (by decide +kernel) (by decide +kernel)
theorem aw_432 : (Jvm.Cond.instanceMethod ({ cls := "PhaserYard$Run", name := "takeOne", desc := "(I)V" } : Jvm.MethodName)) ∈ am_words := am_in 432 (by decide +kernel) (by decide +kernel)
theorem aw_433 : (Jvm.Cond.code ({ cls := "PhaserYard$Run", name := "takeOne", desc := "(I)V" } : Jvm.MethodName) prog_4_method_8_code (4 : Nat) (Option.none : Option Jvm.ClassFile.FieldType)) ∈ am_words := am_in 433 (by decide +kernel) (by decide +kernel)
theorem aw_434 : (Jvm.Cond.methodLink "PhaserYard$Run" (117 : Nat) ({ cls := "PhaserYard$Worker", name := "takeLast", desc := "()I" } : Jvm.MethodName)) ∈ am_words := am_in 434 (by decide +kernel) (by decide +kernel)
theorem aw_435 : (Jvm.Cond.instanceMethod ({ cls := "PhaserYard$Worker", name := "takeLast", desc := "()I" } : Jvm.MethodName)) ∈ am_words := am_in 435 (by decide +kernel) (by decide +kernel)
theorem aw_436 : (Jvm.Cond.selects "PhaserYard$Worker" ({ cls := "PhaserYard$Worker", name := "takeLast", desc := "()I" } : Jvm.MethodName) ({ cls := "PhaserYard$Worker", name := "takeLast", desc := "()I" } : Jvm.MethodName)) ∈ am_words := am_in 436 (by decide +kernel) (by decide +kernel)
theorem aw_437 : (Jvm.Cond.code ({ cls := "PhaserYard$Worker", name := "takeLast", desc := "()I" } : Jvm.MethodName) prog_7_method_5_code (2 : Nat) (Option.some Jvm.ClassFile.FieldType.int)) ∈ am_words := am_in 437 (by decide +kernel) (by decide +kernel)
theorem aw_438 : (Jvm.Cond.methodLink "PhaserYard$Worker" (22 : Nat) ({ cls := "PhaserYard$Worker", name := "taskAt", desc := "(I)I" } : Jvm.MethodName)) ∈ am_words := am_in 438 (by decide +kernel) (by decide +kernel)
theorem aw_439 : (Jvm.Cond.instanceMethod ({ cls := "PhaserYard$Worker", name := "taskAt", desc := "(I)I" } : Jvm.MethodName)) ∈ am_words := am_in 439 (by decide +kernel) (by decide +kernel)
theorem aw_440 : (Jvm.Cond.selects "PhaserYard$Worker" ({ cls := "PhaserYard$Worker", name := "taskAt", desc := "(I)I" } : Jvm.MethodName) ({ cls := "PhaserYard$Worker", name := "taskAt", desc := "(I)I" } : Jvm.MethodName)) ∈ am_words := am_in 440 (by decide +kernel) (by decide +kernel)
theorem aw_441 : (Jvm.Cond.code ({ cls := "PhaserYard$Worker", name := "taskAt", desc := "(I)I" } : Jvm.MethodName) prog_7_method_3_code (2 : Nat) (Option.some Jvm.ClassFile.FieldType.int)) ∈ am_words := am_in 441 (by decide +kernel) (by decide +kernel)
theorem aw_442 : (Jvm.Cond.methodLink "PhaserYard$Run" (121 : Nat) ({ cls := "PhaserYard$Worker", name := "takeFirst", desc := "()I" } : Jvm.MethodName)) ∈ am_words := am_in 442 (by decide +kernel) (by decide +kernel)
theorem aw_443 : (Jvm.Cond.instanceMethod ({ cls := "PhaserYard$Worker", name := "takeFirst", desc := "()I" } : Jvm.MethodName)) ∈ am_words := am_in 443 (by decide +kernel) (by decide +kernel)
theorem aw_444 : (Jvm.Cond.selects "PhaserYard$Worker" ({ cls := "PhaserYard$Worker", name := "takeFirst", desc := "()I" } : Jvm.MethodName) ({ cls := "PhaserYard$Worker", name := "takeFirst", desc := "()I" } : Jvm.MethodName)) ∈ am_words := am_in 444 (by decide +kernel) (by decide +kernel)
theorem aw_445 : (Jvm.Cond.code ({ cls := "PhaserYard$Worker", name := "takeFirst", desc := "()I" } : Jvm.MethodName) prog_7_method_6_code (2 : Nat) (Option.some Jvm.ClassFile.FieldType.int)) ∈ am_words := am_in 445 (by decide +kernel) (by decide +kernel)
theorem aw_446 : (Jvm.Cond.methodLink "PhaserYard$Worker" (26 : Nat) ({ cls := "java/lang/System", name := "arraycopy", desc := "(Ljava/lang/Object;ILjava/lang/Object;II)V" } : Jvm.MethodName)) ∈ am_words := am_in 446 (by decide +kernel) (by decide +kernel)
theorem aw_447 : (Jvm.Cond.static ({ cls := "java/lang/System", name := "arraycopy", desc := "(Ljava/lang/Object;ILjava/lang/Object;II)V" } : Jvm.MethodName)) ∈ am_words := am_in 447 (by decide +kernel) (by decide +kernel)
theorem aw_448 : (Jvm.Cond.native ({ cls := "java/lang/System", name := "arraycopy", desc := "(Ljava/lang/Object;ILjava/lang/Object;II)V" } : Jvm.MethodName)) ∈ am_words := am_in 448 (by decide +kernel) (by decide +kernel)
theorem aw_449 : (Jvm.Cond.methodLink "PhaserYard$Run" (113 : Nat) ({ cls := "PhaserYard$Run", name := "step", desc := "(LPhaserYard$Worker;)V" } : Jvm.MethodName)) ∈ am_words := am_in 449 (by decide +kernel) (by decide +kernel)
theorem aw_451 : (Jvm.Cond.instanceMethod ({ cls := "PhaserYard$Run", name := "step", desc := "(LPhaserYard$Worker;)V" } : Jvm.MethodName)) ∈ am_words := am_in 451 (by decide +kernel) (by decide +kernel)
theorem aw_452 : (Jvm.Cond.code ({ cls := "PhaserYard$Run", name := "step", desc := "(LPhaserYard$Worker;)V" } : Jvm.MethodName) prog_4_method_9_code (4 : Nat) (Option.none : Option Jvm.ClassFile.FieldType)) ∈ am_words := am_in 452 (by decide +kernel) (by decide +kernel)
theorem aw_453 : (Jvm.Cond.methodLink "PhaserYard$Run" (130 : Nat) ({ cls := "PhaserYard$Run", name := "finishWait", desc := "(LPhaserYard$Task;)I" } : Jvm.MethodName)) ∈ am_words := am_in 453 (by decide +kernel) (by decide +kernel)
theorem aw_455 : (Jvm.Cond.instanceMethod ({ cls := "PhaserYard$Run", name := "finishWait", desc := "(LPhaserYard$Task;)I" } : Jvm.MethodName)) ∈ am_words := am_in 455 (by decide +kernel) (by decide +kernel)
theorem aw_456 : (Jvm.Cond.code ({ cls := "PhaserYard$Run", name := "finishWait", desc := "(LPhaserYard$Task;)I" } : Jvm.MethodName) prog_4_method_10_code (2 : Nat) (Option.some Jvm.ClassFile.FieldType.int)) ∈ am_words := am_in 456 (by decide +kernel) (by decide +kernel)
theorem aw_457 : (Jvm.Cond.methodLink "PhaserYard$Run" (164 : Nat) ({ cls := "PhaserYard$Run", name := "get", desc := "(LPhaserYard$Task;I)I" } : Jvm.MethodName)) ∈ am_words := am_in 457 (by decide +kernel) (by decide +kernel)
theorem aw_459 : (Jvm.Cond.instanceMethod ({ cls := "PhaserYard$Run", name := "get", desc := "(LPhaserYard$Task;I)I" } : Jvm.MethodName)) ∈ am_words := am_in 459 (by decide +kernel) (by decide +kernel)
theorem aw_460 : (Jvm.Cond.code ({ cls := "PhaserYard$Run", name := "get", desc := "(LPhaserYard$Task;I)I" } : Jvm.MethodName) prog_4_method_18_code (3 : Nat) (Option.some Jvm.ClassFile.FieldType.int)) ∈ am_words := am_in 460 (by decide +kernel) (by decide +kernel)
theorem aw_461 : (Jvm.Cond.methodLink "PhaserYard$Run" (228 : Nat) ({ cls := "PhaserYard$Task", name := "waitFor", desc := "(II)V" } : Jvm.MethodName)) ∈ am_words := am_in 461 (by decide +kernel) (by decide +kernel)
theorem aw_462 : (Jvm.Cond.instanceMethod ({ cls := "PhaserYard$Task", name := "waitFor", desc := "(II)V" } : Jvm.MethodName)) ∈ am_words := am_in 462 (by decide +kernel) (by decide +kernel)
theorem aw_463 : (Jvm.Cond.selects "PhaserYard$Task" ({ cls := "PhaserYard$Task", name := "waitFor", desc := "(II)V" } : Jvm.MethodName) ({ cls := "PhaserYard$Task", name := "waitFor", desc := "(II)V" } : Jvm.MethodName)) ∈ am_words := am_in 463 (by decide +kernel) (by decide +kernel)
theorem aw_464 : (Jvm.Cond.code ({ cls := "PhaserYard$Task", name := "waitFor", desc := "(II)V" } : Jvm.MethodName) prog_6_method_4_code (3 : Nat) (Option.none : Option Jvm.ClassFile.FieldType)) ∈ am_words := am_in 464 (by decide +kernel) (by decide +kernel)
theorem aw_465 : (Jvm.Cond.methodLink "PhaserYard$Run" (168 : Nat) ({ cls := "PhaserYard$Run", name := "passPhases", desc := "(LPhaserYard$Task;)I" } : Jvm.MethodName)) ∈ am_words := am_in 465 (by decide +kernel) (by decide +kernel)
theorem aw_467 : (Jvm.Cond.instanceMethod ({ cls := "PhaserYard$Run", name := "passPhases", desc := "(LPhaserYard$Task;)I" } : Jvm.MethodName)) ∈ am_words := am_in 467 (by decide +kernel) (by decide +kernel)
theorem aw_468 : (Jvm.Cond.code ({ cls := "PhaserYard$Run", name := "passPhases", desc := "(LPhaserYard$Task;)I" } : Jvm.MethodName) prog_4_method_22_code (3 : Nat) (Option.some Jvm.ClassFile.FieldType.int)) ∈ am_words := am_in 468 (by decide +kernel) (by decide +kernel)
theorem aw_469 : (Jvm.Cond.methodLink "PhaserYard$Run" (248 : Nat) ({ cls := "PhaserYard$Run", name := "isHeldBack", desc := "(LPhaserYard$Task;)Z" } : Jvm.MethodName)) ∈ am_words := am_in 469 (by decide +kernel) (by decide +kernel)
theorem aw_471 : (Jvm.Cond.instanceMethod ({ cls := "PhaserYard$Run", name := "isHeldBack", desc := "(LPhaserYard$Task;)Z" } : Jvm.MethodName)) ∈ am_words := am_in 471 (by decide +kernel) (by decide +kernel)
theorem aw_472 : (Jvm.Cond.code ({ cls := "PhaserYard$Run", name := "isHeldBack", desc := "(LPhaserYard$Task;)Z" } : Jvm.MethodName) prog_4_method_23_code (3 : Nat) (Option.some Jvm.ClassFile.FieldType.boolean)) ∈ am_words := am_in 472 (by decide +kernel) (by decide +kernel)
theorem aw_473 : (Jvm.Cond.methodLink "PhaserYard$Run" (255 : Nat) ({ cls := "PhaserYard$Phaser", name := "holdsBack", desc := "(I)Z" } : Jvm.MethodName)) ∈ am_words := am_in 473 (by decide +kernel) (by decide +kernel)
theorem aw_474 : (Jvm.Cond.instanceMethod ({ cls := "PhaserYard$Phaser", name := "holdsBack", desc := "(I)Z" } : Jvm.MethodName)) ∈ am_words := am_in 474 (by decide +kernel) (by decide +kernel)
theorem aw_475 : (Jvm.Cond.selects "PhaserYard$Phaser" ({ cls := "PhaserYard$Phaser", name := "holdsBack", desc := "(I)Z" } : Jvm.MethodName) ({ cls := "PhaserYard$Phaser", name := "holdsBack", desc := "(I)Z" } : Jvm.MethodName)) ∈ am_words := am_in 475 (by decide +kernel) (by decide +kernel)
theorem aw_476 : (Jvm.Cond.code ({ cls := "PhaserYard$Phaser", name := "holdsBack", desc := "(I)Z" } : Jvm.MethodName) prog_3_method_7_code (2 : Nat) (Option.some Jvm.ClassFile.FieldType.boolean)) ∈ am_words := am_in 476 (by decide +kernel) (by decide +kernel)
theorem aw_477 : (Jvm.Cond.methodLink "PhaserYard$Run" (252 : Nat) ({ cls := "PhaserYard$Phaser", name := "pass", desc := "(I)V" } : Jvm.MethodName)) ∈ am_words := am_in 477 (by decide +kernel) (by decide +kernel)
theorem aw_478 : (Jvm.Cond.instanceMethod ({ cls := "PhaserYard$Phaser", name := "pass", desc := "(I)V" } : Jvm.MethodName)) ∈ am_words := am_in 478 (by decide +kernel) (by decide +kernel)
theorem aw_479 : (Jvm.Cond.selects "PhaserYard$Phaser" ({ cls := "PhaserYard$Phaser", name := "pass", desc := "(I)V" } : Jvm.MethodName) ({ cls := "PhaserYard$Phaser", name := "pass", desc := "(I)V" } : Jvm.MethodName)) ∈ am_words := am_in 479 (by decide +kernel) (by decide +kernel)
theorem aw_480 : (Jvm.Cond.code ({ cls := "PhaserYard$Phaser", name := "pass", desc := "(I)V" } : Jvm.MethodName) prog_3_method_8_code (2 : Nat) (Option.none : Option Jvm.ClassFile.FieldType)) ∈ am_words := am_in 480 (by decide +kernel) (by decide +kernel)
theorem aw_481 : (Jvm.Cond.methodLink "PhaserYard$Run" (171 : Nat) ({ cls := "PhaserYard$Run", name := "endScope", desc := "(LPhaserYard$Task;)I" } : Jvm.MethodName)) ∈ am_words := am_in 481 (by decide +kernel) (by decide +kernel)
theorem aw_483 : (Jvm.Cond.instanceMethod ({ cls := "PhaserYard$Run", name := "endScope", desc := "(LPhaserYard$Task;)I" } : Jvm.MethodName)) ∈ am_words := am_in 483 (by decide +kernel) (by decide +kernel)
theorem aw_484 : (Jvm.Cond.code ({ cls := "PhaserYard$Run", name := "endScope", desc := "(LPhaserYard$Task;)I" } : Jvm.MethodName) prog_4_method_25_code (4 : Nat) (Option.some Jvm.ClassFile.FieldType.int)) ∈ am_words := am_in 484 (by decide +kernel) (by decide +kernel)
theorem aw_485 : (Jvm.Cond.methodLink "PhaserYard$Run" (151 : Nat) ({ cls := "PhaserYard$Task", name := "innerScope", desc := "()LPhaserYard$Scope;" } : Jvm.MethodName)) ∈ am_words := am_in 485 (by decide +kernel) (by decide +kernel)
theorem aw_486 : (Jvm.Cond.instanceMethod ({ cls := "PhaserYard$Task", name := "innerScope", desc := "()LPhaserYard$Scope;" } : Jvm.MethodName)) ∈ am_words := am_in 486 (by decide +kernel) (by decide +kernel)
theorem aw_487 : (Jvm.Cond.selects "PhaserYard$Task" ({ cls := "PhaserYard$Task", name := "innerScope", desc := "()LPhaserYard$Scope;" } : Jvm.MethodName) ({ cls := "PhaserYard$Task", name := "innerScope", desc := "()LPhaserYard$Scope;" } : Jvm.MethodName)) ∈ am_words := am_in 487 (by decide +kernel) (by decide +kernel)
theorem aw_488 : (Jvm.Cond.code ({ cls := "PhaserYard$Task", name := "innerScope", desc := "()LPhaserYard$Scope;" } : Jvm.MethodName) prog_6_method_3_code (1 : Nat) (Option.some (Jvm.ClassFile.FieldType.object "PhaserYard$Scope"))) ∈ am_words := am_in 488 (by decide +kernel) (by decide +kernel)
theorem aw_489 : (Jvm.Cond.methodLink "PhaserYard$Run" (262 : Nat) ({ cls := "PhaserYard$Scope", name := "sumAfter", desc := "(I)I" } : Jvm.MethodName)) ∈ am_words := am_in 489 (by decide +kernel) (by decide +kernel)
theorem aw_490 : (Jvm.Cond.instanceMethod ({ cls := "PhaserYard$Scope", name := "sumAfter", desc := "(I)I" } : Jvm.MethodName)) ∈ am_words := am_in 490 (by decide +kernel) (by decide +kernel)
theorem aw_491 : (Jvm.Cond.selects "PhaserYard$Scope" ({ cls := "PhaserYard$Scope", name := "sumAfter", desc := "(I)I" } : Jvm.MethodName) ({ cls := "PhaserYard$Scope", name := "sumAfter", desc := "(I)I" } : Jvm.MethodName)) ∈ am_words := am_in 491 (by decide +kernel) (by decide +kernel)
theorem aw_492 : (Jvm.Cond.code ({ cls := "PhaserYard$Scope", name := "sumAfter", desc := "(I)I" } : Jvm.MethodName) prog_5_method_5_code (2 : Nat) (Option.some Jvm.ClassFile.FieldType.int)) ∈ am_words := am_in 492 (by decide +kernel) (by decide +kernel)
theorem aw_493 : (Jvm.Cond.methodLink "PhaserYard$Run" (143 : Nat) ({ cls := "PhaserYard$Run", name := "instruct", desc := "(LPhaserYard$Worker;LPhaserYard$Task;LPhaserYard$Body;)I" } : Jvm.MethodName)) ∈ am_words := am_in 493 (by decide +kernel) (by decide +kernel)
theorem aw_495 : (Jvm.Cond.instanceMethod ({ cls := "PhaserYard$Run", name := "instruct", desc := "(LPhaserYard$Worker;LPhaserYard$Task;LPhaserYard$Body;)I" } : Jvm.MethodName)) ∈ am_words := am_in 495 (by decide +kernel) (by decide +kernel)
theorem aw_496 : (Jvm.Cond.code ({ cls := "PhaserYard$Run", name := "instruct", desc := "(LPhaserYard$Worker;LPhaserYard$Task;LPhaserYard$Body;)I" } : Jvm.MethodName) prog_4_method_11_code (7 : Nat) (Option.some Jvm.ClassFile.FieldType.int)) ∈ am_words := am_in 496 (by decide +kernel) (by decide +kernel)
theorem aw_497 : (Jvm.Cond.methodLink "PhaserYard$Run" (183 : Nat) ({ cls := "PhaserYard$Run", name := "spawn", desc := "(LPhaserYard$Worker;LPhaserYard$Task;IZ)I" } : Jvm.MethodName)) ∈ am_words := am_in 497 (by decide +kernel) (by decide +kernel)
theorem aw_499 : (Jvm.Cond.instanceMethod ({ cls := "PhaserYard$Run", name := "spawn", desc := "(LPhaserYard$Worker;LPhaserYard$Task;IZ)I" } : Jvm.MethodName)) ∈ am_words := am_in 499 (by decide +kernel) (by decide +kernel)
theorem aw_500 : (Jvm.Cond.code ({ cls := "PhaserYard$Run", name := "spawn", desc := "(LPhaserYard$Worker;LPhaserYard$Task;IZ)I" } : Jvm.MethodName) prog_4_method_12_code (7 : Nat) (Option.some Jvm.ClassFile.FieldType.int)) ∈ am_words := am_in 500 (by decide +kernel) (by decide +kernel)
theorem aw_501 : (Jvm.Cond.methodLink "PhaserYard$Run" (218 : Nat) ({ cls := "PhaserYard$Run", name := "makeTask", desc := "(LPhaserYard$Task;I)LPhaserYard$Task;" } : Jvm.MethodName)) ∈ am_words := am_in 501 (by decide +kernel) (by decide +kernel)
theorem aw_503 : (Jvm.Cond.instanceMethod ({ cls := "PhaserYard$Run", name := "makeTask", desc := "(LPhaserYard$Task;I)LPhaserYard$Task;" } : Jvm.MethodName)) ∈ am_words := am_in 503 (by decide +kernel) (by decide +kernel)
theorem aw_504 : (Jvm.Cond.code ({ cls := "PhaserYard$Run", name := "makeTask", desc := "(LPhaserYard$Task;I)LPhaserYard$Task;" } : Jvm.MethodName) prog_4_method_14_code (5 : Nat) (Option.some (Jvm.ClassFile.FieldType.object "PhaserYard$Task"))) ∈ am_words := am_in 504 (by decide +kernel) (by decide +kernel)
theorem aw_505 : (Jvm.Cond.methodLink "PhaserYard$Run" (225 : Nat) ({ cls := "PhaserYard$Phaser", name := "copy", desc := "(II)V" } : Jvm.MethodName)) ∈ am_words := am_in 505 (by decide +kernel) (by decide +kernel)
theorem aw_506 : (Jvm.Cond.instanceMethod ({ cls := "PhaserYard$Phaser", name := "copy", desc := "(II)V" } : Jvm.MethodName)) ∈ am_words := am_in 506 (by decide +kernel) (by decide +kernel)
theorem aw_507 : (Jvm.Cond.selects "PhaserYard$Phaser" ({ cls := "PhaserYard$Phaser", name := "copy", desc := "(II)V" } : Jvm.MethodName) ({ cls := "PhaserYard$Phaser", name := "copy", desc := "(II)V" } : Jvm.MethodName)) ∈ am_words := am_in 507 (by decide +kernel) (by decide +kernel)
theorem aw_508 : (Jvm.Cond.code ({ cls := "PhaserYard$Phaser", name := "copy", desc := "(II)V" } : Jvm.MethodName) prog_3_method_4_code (3 : Nat) (Option.none : Option Jvm.ClassFile.FieldType)) ∈ am_words := am_in 508 (by decide +kernel) (by decide +kernel)
theorem aw_509 : (Jvm.Cond.methodLink "PhaserYard$Run" (187 : Nat) ({ cls := "PhaserYard$Run", name := "openScope", desc := "(LPhaserYard$Task;II)I" } : Jvm.MethodName)) ∈ am_words := am_in 509 (by decide +kernel) (by decide +kernel)
theorem aw_511 : (Jvm.Cond.instanceMethod ({ cls := "PhaserYard$Run", name := "openScope", desc := "(LPhaserYard$Task;II)I" } : Jvm.MethodName)) ∈ am_words := am_in 511 (by decide +kernel) (by decide +kernel)
theorem aw_512 : (Jvm.Cond.code ({ cls := "PhaserYard$Run", name := "openScope", desc := "(LPhaserYard$Task;II)I" } : Jvm.MethodName) prog_4_method_15_code (4 : Nat) (Option.some Jvm.ClassFile.FieldType.int)) ∈ am_words := am_in 512 (by decide +kernel) (by decide +kernel)
theorem aw_513 : (Jvm.Cond.methodLink "PhaserYard$Run" (191 : Nat) ({ cls := "PhaserYard$Run", name := "close", desc := "(LPhaserYard$Task;)I" } : Jvm.MethodName)) ∈ am_words := am_in 513 (by decide +kernel) (by decide +kernel)
theorem aw_515 : (Jvm.Cond.instanceMethod ({ cls := "PhaserYard$Run", name := "close", desc := "(LPhaserYard$Task;)I" } : Jvm.MethodName)) ∈ am_words := am_in 515 (by decide +kernel) (by decide +kernel)
theorem aw_516 : (Jvm.Cond.code ({ cls := "PhaserYard$Run", name := "close", desc := "(LPhaserYard$Task;)I" } : Jvm.MethodName) prog_4_method_16_code (2 : Nat) (Option.some Jvm.ClassFile.FieldType.int)) ∈ am_words := am_in 516 (by decide +kernel) (by decide +kernel)
theorem aw_517 : (Jvm.Cond.methodLink "PhaserYard$Run" (194 : Nat) ({ cls := "PhaserYard$Scope", name := "give", desc := "(I)V" } : Jvm.MethodName)) ∈ am_words := am_in 517 (by decide +kernel) (by decide +kernel)
theorem aw_518 : (Jvm.Cond.instanceMethod ({ cls := "PhaserYard$Scope", name := "give", desc := "(I)V" } : Jvm.MethodName)) ∈ am_words := am_in 518 (by decide +kernel) (by decide +kernel)
theorem aw_519 : (Jvm.Cond.selects "PhaserYard$Scope" ({ cls := "PhaserYard$Scope", name := "give", desc := "(I)V" } : Jvm.MethodName) ({ cls := "PhaserYard$Scope", name := "give", desc := "(I)V" } : Jvm.MethodName)) ∈ am_words := am_in 519 (by decide +kernel) (by decide +kernel)
theorem aw_520 : (Jvm.Cond.code ({ cls := "PhaserYard$Scope", name := "give", desc := "(I)V" } : Jvm.MethodName) prog_5_method_3_code (2 : Nat) (Option.none : Option Jvm.ClassFile.FieldType)) ∈ am_words := am_in 520 (by decide +kernel) (by decide +kernel)
theorem aw_521 : (Jvm.Cond.methodLink "PhaserYard$Scope" (34 : Nat) ({ cls := "java/lang/Math", name := "min", desc := "(II)I" } : Jvm.MethodName)) ∈ am_words := am_in 521 (by decide +kernel) (by decide +kernel)
theorem aw_522 : (Jvm.Cond.static ({ cls := "java/lang/Math", name := "min", desc := "(II)I" } : Jvm.MethodName)) ∈ am_words := am_in 522 (by decide +kernel) (by decide +kernel)
theorem aw_523 : (Jvm.Cond.code ({ cls := "java/lang/Math", name := "min", desc := "(II)I" } : Jvm.MethodName) prog_15_method_69_code (2 : Nat) (Option.some Jvm.ClassFile.FieldType.int)) ∈ am_words := am_in 523 (by decide +kernel) (by decide +kernel)
theorem aw_524 : (Jvm.Cond.methodLink "PhaserYard$Scope" (40 : Nat) ({ cls := "java/lang/Math", name := "max", desc := "(II)I" } : Jvm.MethodName)) ∈ am_words := am_in 524 (by decide +kernel) (by decide +kernel)
theorem aw_525 : (Jvm.Cond.static ({ cls := "java/lang/Math", name := "max", desc := "(II)I" } : Jvm.MethodName)) ∈ am_words := am_in 525 (by decide +kernel) (by decide +kernel)
theorem aw_526 : (Jvm.Cond.code ({ cls := "java/lang/Math", name := "max", desc := "(II)I" } : Jvm.MethodName) prog_15_method_65_code (2 : Nat) (Option.some Jvm.ClassFile.FieldType.int)) ∈ am_words := am_in 526 (by decide +kernel) (by decide +kernel)
theorem aw_527 : (Jvm.Cond.methodLink "PhaserYard$Run" (197 : Nat) ({ cls := "PhaserYard$Run", name := "put", desc := "(II)I" } : Jvm.MethodName)) ∈ am_words := am_in 527 (by decide +kernel) (by decide +kernel)
theorem aw_529 : (Jvm.Cond.instanceMethod ({ cls := "PhaserYard$Run", name := "put", desc := "(II)I" } : Jvm.MethodName)) ∈ am_words := am_in 529 (by decide +kernel) (by decide +kernel)
theorem aw_530 : (Jvm.Cond.code ({ cls := "PhaserYard$Run", name := "put", desc := "(II)I" } : Jvm.MethodName) prog_4_method_17_code (3 : Nat) (Option.some Jvm.ClassFile.FieldType.int)) ∈ am_words := am_in 530 (by decide +kernel) (by decide +kernel)
theorem aw_531 : (Jvm.Cond.methodLink "PhaserYard$Run" (201 : Nat) ({ cls := "PhaserYard$Run", name := "spawnWaiting", desc := "(LPhaserYard$Task;II)I" } : Jvm.MethodName)) ∈ am_words := am_in 531 (by decide +kernel) (by decide +kernel)
theorem aw_533 : (Jvm.Cond.instanceMethod ({ cls := "PhaserYard$Run", name := "spawnWaiting", desc := "(LPhaserYard$Task;II)I" } : Jvm.MethodName)) ∈ am_words := am_in 533 (by decide +kernel) (by decide +kernel)
theorem aw_534 : (Jvm.Cond.code ({ cls := "PhaserYard$Run", name := "spawnWaiting", desc := "(LPhaserYard$Task;II)I" } : Jvm.MethodName) prog_4_method_13_code (4 : Nat) (Option.some Jvm.ClassFile.FieldType.int)) ∈ am_words := am_in 534 (by decide +kernel) (by decide +kernel)
theorem aw_535 : (Jvm.Cond.methodLink "PhaserYard$Run" (204 : Nat) ({ cls := "PhaserYard$Run", name := "join", desc := "(LPhaserYard$Task;LPhaserYard$Phaser;I)I" } : Jvm.MethodName)) ∈ am_words := am_in 535 (by decide +kernel) (by decide +kernel)
theorem aw_537 : (Jvm.Cond.instanceMethod ({ cls := "PhaserYard$Run", name := "join", desc := "(LPhaserYard$Task;LPhaserYard$Phaser;I)I" } : Jvm.MethodName)) ∈ am_words := am_in 537 (by decide +kernel) (by decide +kernel)
theorem aw_538 : (Jvm.Cond.code ({ cls := "PhaserYard$Run", name := "join", desc := "(LPhaserYard$Task;LPhaserYard$Phaser;I)I" } : Jvm.MethodName) prog_4_method_19_code (4 : Nat) (Option.some Jvm.ClassFile.FieldType.int)) ∈ am_words := am_in 538 (by decide +kernel) (by decide +kernel)
theorem aw_539 : (Jvm.Cond.methodLink "PhaserYard$Run" (241 : Nat) ({ cls := "PhaserYard$Phaser", name := "join", desc := "(II)V" } : Jvm.MethodName)) ∈ am_words := am_in 539 (by decide +kernel) (by decide +kernel)
theorem aw_540 : (Jvm.Cond.instanceMethod ({ cls := "PhaserYard$Phaser", name := "join", desc := "(II)V" } : Jvm.MethodName)) ∈ am_words := am_in 540 (by decide +kernel) (by decide +kernel)
theorem aw_541 : (Jvm.Cond.selects "PhaserYard$Phaser" ({ cls := "PhaserYard$Phaser", name := "join", desc := "(II)V" } : Jvm.MethodName) ({ cls := "PhaserYard$Phaser", name := "join", desc := "(II)V" } : Jvm.MethodName)) ∈ am_words := am_in 541 (by decide +kernel) (by decide +kernel)
theorem aw_542 : (Jvm.Cond.code ({ cls := "PhaserYard$Phaser", name := "join", desc := "(II)V" } : Jvm.MethodName) prog_3_method_3_code (3 : Nat) (Option.none : Option Jvm.ClassFile.FieldType)) ∈ am_words := am_in 542 (by decide +kernel) (by decide +kernel)
theorem aw_543 : (Jvm.Cond.methodLink "PhaserYard$Run" (208 : Nat) ({ cls := "PhaserYard$Run", name := "leave", desc := "(LPhaserYard$Task;LPhaserYard$Phaser;)I" } : Jvm.MethodName)) ∈ am_words := am_in 543 (by decide +kernel) (by decide +kernel)
theorem aw_545 : (Jvm.Cond.instanceMethod ({ cls := "PhaserYard$Run", name := "leave", desc := "(LPhaserYard$Task;LPhaserYard$Phaser;)I" } : Jvm.MethodName)) ∈ am_words := am_in 545 (by decide +kernel) (by decide +kernel)
theorem aw_546 : (Jvm.Cond.code ({ cls := "PhaserYard$Run", name := "leave", desc := "(LPhaserYard$Task;LPhaserYard$Phaser;)I" } : Jvm.MethodName) prog_4_method_20_code (3 : Nat) (Option.some Jvm.ClassFile.FieldType.int)) ∈ am_words := am_in 546 (by decide +kernel) (by decide +kernel)
theorem aw_547 : (Jvm.Cond.methodLink "PhaserYard$Run" (243 : Nat) ({ cls := "PhaserYard$Phaser", name := "leave", desc := "(I)V" } : Jvm.MethodName)) ∈ am_words := am_in 547 (by decide +kernel) (by decide +kernel)
theorem aw_548 : (Jvm.Cond.instanceMethod ({ cls := "PhaserYard$Phaser", name := "leave", desc := "(I)V" } : Jvm.MethodName)) ∈ am_words := am_in 548 (by decide +kernel) (by decide +kernel)
theorem aw_549 : (Jvm.Cond.selects "PhaserYard$Phaser" ({ cls := "PhaserYard$Phaser", name := "leave", desc := "(I)V" } : Jvm.MethodName) ({ cls := "PhaserYard$Phaser", name := "leave", desc := "(I)V" } : Jvm.MethodName)) ∈ am_words := am_in 549 (by decide +kernel) (by decide +kernel)
theorem aw_550 : (Jvm.Cond.code ({ cls := "PhaserYard$Phaser", name := "leave", desc := "(I)V" } : Jvm.MethodName) prog_3_method_5_code (2 : Nat) (Option.none : Option Jvm.ClassFile.FieldType)) ∈ am_words := am_in 550 (by decide +kernel) (by decide +kernel)
theorem aw_551 : (Jvm.Cond.methodLink "PhaserYard$Phaser" (31 : Nat) ({ cls := "PhaserYard$Phaser", name := "raisePhase", desc := "()V" } : Jvm.MethodName)) ∈ am_words := am_in 551 (by decide +kernel) (by decide +kernel)
theorem aw_553 : (Jvm.Cond.instanceMethod ({ cls := "PhaserYard$Phaser", name := "raisePhase", desc := "()V" } : Jvm.MethodName)) ∈ am_words := am_in 553 (by decide +kernel) (by decide +kernel)
theorem aw_554 : (Jvm.Cond.code ({ cls := "PhaserYard$Phaser", name := "raisePhase", desc := "()V" } : Jvm.MethodName) prog_3_method_9_code (4 : Nat) (Option.none : Option Jvm.ClassFile.FieldType)) ∈ am_words := am_in 554 (by decide +kernel) (by decide +kernel)
theorem aw_555 : (Jvm.Cond.methodLink "PhaserYard$Run" (212 : Nat) ({ cls := "PhaserYard$Run", name := "signalAll", desc := "(LPhaserYard$Task;)V" } : Jvm.MethodName)) ∈ am_words := am_in 555 (by decide +kernel) (by decide +kernel)
theorem aw_557 : (Jvm.Cond.instanceMethod ({ cls := "PhaserYard$Run", name := "signalAll", desc := "(LPhaserYard$Task;)V" } : Jvm.MethodName)) ∈ am_words := am_in 557 (by decide +kernel) (by decide +kernel)
theorem aw_558 : (Jvm.Cond.code ({ cls := "PhaserYard$Run", name := "signalAll", desc := "(LPhaserYard$Task;)V" } : Jvm.MethodName) prog_4_method_21_code (3 : Nat) (Option.none : Option Jvm.ClassFile.FieldType)) ∈ am_words := am_in 558 (by decide +kernel) (by decide +kernel)
theorem aw_559 : (Jvm.Cond.methodLink "PhaserYard$Run" (245 : Nat) ({ cls := "PhaserYard$Phaser", name := "signal", desc := "(I)V" } : Jvm.MethodName)) ∈ am_words := am_in 559 (by decide +kernel) (by decide +kernel)
theorem aw_560 : (Jvm.Cond.instanceMethod ({ cls := "PhaserYard$Phaser", name := "signal", desc := "(I)V" } : Jvm.MethodName)) ∈ am_words := am_in 560 (by decide +kernel) (by decide +kernel)
theorem aw_561 : (Jvm.Cond.selects "PhaserYard$Phaser" ({ cls := "PhaserYard$Phaser", name := "signal", desc := "(I)V" } : Jvm.MethodName) ({ cls := "PhaserYard$Phaser", name := "signal", desc := "(I)V" } : Jvm.MethodName)) ∈ am_words := am_in 561 (by decide +kernel) (by decide +kernel)
theorem aw_562 : (Jvm.Cond.code ({ cls := "PhaserYard$Phaser", name := "signal", desc := "(I)V" } : Jvm.MethodName) prog_3_method_6_code (2 : Nat) (Option.none : Option Jvm.ClassFile.FieldType)) ∈ am_words := am_in 562 (by decide +kernel) (by decide +kernel)
theorem aw_563 : (Jvm.Cond.methodLink "PhaserYard$Run" (215 : Nat) ({ cls := "PhaserYard$Run", name := "say", desc := "(I)V" } : Jvm.MethodName)) ∈ am_words := am_in 563 (by decide +kernel) (by decide +kernel)
theorem aw_565 : (Jvm.Cond.instanceMethod ({ cls := "PhaserYard$Run", name := "say", desc := "(I)V" } : Jvm.MethodName)) ∈ am_words := am_in 565 (by decide +kernel) (by decide +kernel)
theorem aw_566 : (Jvm.Cond.code ({ cls := "PhaserYard$Run", name := "say", desc := "(I)V" } : Jvm.MethodName) prog_4_method_24_code (2 : Nat) (Option.none : Option Jvm.ClassFile.FieldType)) ∈ am_words := am_in 566 (by decide +kernel) (by decide +kernel)
theorem aw_567 : (Jvm.Cond.methodLink "PhaserYard$Run" (147 : Nat) ({ cls := "PhaserYard$Run", name := "endInnermost", desc := "(LPhaserYard$Task;)V" } : Jvm.MethodName)) ∈ am_words := am_in 567 (by decide +kernel) (by decide +kernel)
theorem aw_569 : (Jvm.Cond.instanceMethod ({ cls := "PhaserYard$Run", name := "endInnermost", desc := "(LPhaserYard$Task;)V" } : Jvm.MethodName)) ∈ am_words := am_in 569 (by decide +kernel) (by decide +kernel)
theorem aw_570 : (Jvm.Cond.code ({ cls := "PhaserYard$Run", name := "endInnermost", desc := "(LPhaserYard$Task;)V" } : Jvm.MethodName) prog_4_method_26_code (2 : Nat) (Option.none : Option Jvm.ClassFile.FieldType)) ∈ am_words := am_in 570 (by decide +kernel) (by decide +kernel)
theorem aw_571 : (Jvm.Cond.methodLink "PhaserYard$Run" (272 : Nat) ({ cls := "PhaserYard$Run", name := "finish", desc := "(LPhaserYard$Task;)V" } : Jvm.MethodName)) ∈ am_words := am_in 571 (by decide +kernel) (by decide +kernel)
theorem aw_573 : (Jvm.Cond.instanceMethod ({ cls := "PhaserYard$Run", name := "finish", desc := "(LPhaserYard$Task;)V" } : Jvm.MethodName)) ∈ am_words := am_in 573 (by decide +kernel) (by decide +kernel)
theorem aw_574 : (Jvm.Cond.code ({ cls := "PhaserYard$Run", name := "finish", desc := "(LPhaserYard$Task;)V" } : Jvm.MethodName) prog_4_method_27_code (3 : Nat) (Option.none : Option Jvm.ClassFile.FieldType)) ∈ am_words := am_in 574 (by decide +kernel) (by decide +kernel)
theorem aw_575 : (Jvm.Cond.methodLink "PhaserYard$Run" (155 : Nat) ({ cls := "PhaserYard$Scope", name := "note", desc := "(I)V" } : Jvm.MethodName)) ∈ am_words := am_in 575 (by decide +kernel) (by decide +kernel)
theorem aw_576 : (Jvm.Cond.instanceMethod ({ cls := "PhaserYard$Scope", name := "note", desc := "(I)V" } : Jvm.MethodName)) ∈ am_words := am_in 576 (by decide +kernel) (by decide +kernel)
theorem aw_577 : (Jvm.Cond.selects "PhaserYard$Scope" ({ cls := "PhaserYard$Scope", name := "note", desc := "(I)V" } : Jvm.MethodName) ({ cls := "PhaserYard$Scope", name := "note", desc := "(I)V" } : Jvm.MethodName)) ∈ am_words := am_in 577 (by decide +kernel) (by decide +kernel)
theorem aw_578 : (Jvm.Cond.code ({ cls := "PhaserYard$Scope", name := "note", desc := "(I)V" } : Jvm.MethodName) prog_5_method_4_code (2 : Nat) (Option.none : Option Jvm.ClassFile.FieldType)) ∈ am_words := am_in 578 (by decide +kernel) (by decide +kernel)
theorem aw_579 : (Jvm.Cond.methodLink "PhaserYard$Run" (158 : Nat) ({ cls := "PhaserYard$Run", name := "wakeAll", desc := "(LPhaserYard$Worker;)V" } : Jvm.MethodName)) ∈ am_words := am_in 579 (by decide +kernel) (by decide +kernel)
theorem aw_581 : (Jvm.Cond.instanceMethod ({ cls := "PhaserYard$Run", name := "wakeAll", desc := "(LPhaserYard$Worker;)V" } : Jvm.MethodName)) ∈ am_words := am_in 581 (by decide +kernel) (by decide +kernel)
theorem aw_582 : (Jvm.Cond.code ({ cls := "PhaserYard$Run", name := "wakeAll", desc := "(LPhaserYard$Worker;)V" } : Jvm.MethodName) prog_4_method_28_code (3 : Nat) (Option.none : Option Jvm.ClassFile.FieldType)) ∈ am_words := am_in 582 (by decide +kernel) (by decide +kernel)
theorem aw_583 : (Jvm.Cond.methodLink "PhaserYard$Run" (278 : Nat) ({ cls := "PhaserYard$Run", name := "isWaitOver", desc := "(LPhaserYard$Task;)Z" } : Jvm.MethodName)) ∈ am_words := am_in 583 (by decide +kernel) (by decide +kernel)
theorem aw_585 : (Jvm.Cond.instanceMethod ({ cls := "PhaserYard$Run", name := "isWaitOver", desc := "(LPhaserYard$Task;)Z" } : Jvm.MethodName)) ∈ am_words := am_in 585 (by decide +kernel) (by decide +kernel)
theorem aw_586 : (Jvm.Cond.code ({ cls := "PhaserYard$Run", name := "isWaitOver", desc := "(LPhaserYard$Task;)Z" } : Jvm.MethodName) prog_4_method_29_code (2 : Nat) (Option.some Jvm.ClassFile.FieldType.boolean)) ∈ am_words := am_in 586 (by decide +kernel) (by decide +kernel)
theorem aw_587 : (Jvm.Cond.classLink "PhaserYard" (81 : Nat) "java/lang/UnsupportedOperationException") ∈ am_words := am_in 587 (by decide +kernel) (by decide +kernel)
theorem aw_588 : (Jvm.Cond.instantiable "java/lang/UnsupportedOperationException" (6 : Nat)) ∈ am_words := am_in 588 (by decide +kernel) (by decide +kernel)
theorem aw_590 : (Jvm.Cond.selects "java/lang/UnsupportedOperationException" ({ cls := "java/lang/Throwable", name := "fillInStackTrace", desc := "(I)Ljava/lang/Throwable;" } : Jvm.MethodName) ({ cls := "java/lang/Throwable", name := "fillInStackTrace", desc := "(I)Ljava/lang/Throwable;" } : Jvm.MethodName)) ∈ am_words := am_in 590 (by decide +kernel) (by decide +kernel)
theorem aw_597 : (Jvm.Cond.methodLink "PhaserYard" (85 : Nat) ({ cls := "java/lang/UnsupportedOperationException", name := "<init>", desc := "(Ljava/lang/String;)V" } : Jvm.MethodName)) ∈ am_words := am_in 597 (by decide +kernel) (by decide +kernel)
theorem aw_598 : (Jvm.Cond.instanceMethod ({ cls := "java/lang/UnsupportedOperationException", name := "<init>", desc := "(Ljava/lang/String;)V" } : Jvm.MethodName)) ∈ am_words := am_in 598 (by decide +kernel) (by decide +kernel)
theorem aw_599 : (Jvm.Cond.code ({ cls := "java/lang/UnsupportedOperationException", name := "<init>", desc := "(Ljava/lang/String;)V" } : Jvm.MethodName) prog_20_method_2_code (2 : Nat) (Option.none : Option Jvm.ClassFile.FieldType)) ∈ am_words := am_in 599 (by decide +kernel) (by decide +kernel)
theorem aw_600 : (Jvm.Cond.methodLink "java/lang/UnsupportedOperationException" (7 : Nat) ({ cls := "java/lang/RuntimeException", name := "<init>", desc := "(Ljava/lang/String;)V" } : Jvm.MethodName)) ∈ am_words := am_in 600 (by decide +kernel) (by decide +kernel)
theorem aw_602 : (Jvm.Cond.superclass "java/lang/UnsupportedOperationException" "java/lang/RuntimeException") ∈ am_words := am_in 602 (by decide +kernel) (by decide +kernel)
theorem aw_603 : (Jvm.Cond.methodLink "PhaserYardLaw" (75 : Nat) ({ cls := "PhaserYardLaw", name := "result", desc := "(LPhaserYard;[J)I" } : Jvm.MethodName)) ∈ am_words := am_in 603 (by decide +kernel) (by decide +kernel)
theorem aw_604 : (Jvm.Cond.static ({ cls := "PhaserYardLaw", name := "result", desc := "(LPhaserYard;[J)I" } : Jvm.MethodName)) ∈ am_words := am_in 604 (by decide +kernel) (by decide +kernel)
theorem aw_606 : (Jvm.Cond.classLink "PhaserYardLaw" (34 : Nat) "java/lang/ArithmeticException") ∈ am_words := am_in 606 (by decide +kernel) (by decide +kernel)
theorem aw_607 : (Jvm.Cond.methodLink "PhaserYardLaw" (30 : Nat) ({ cls := "PhaserYard", name := "result", desc := "()I" } : Jvm.MethodName)) ∈ am_words := am_in 607 (by decide +kernel) (by decide +kernel)
theorem aw_608 : (Jvm.Cond.instanceMethod ({ cls := "PhaserYard", name := "result", desc := "()I" } : Jvm.MethodName)) ∈ am_words := am_in 608 (by decide +kernel) (by decide +kernel)
theorem aw_609 : (Jvm.Cond.selects "PhaserYard" ({ cls := "PhaserYard", name := "result", desc := "()I" } : Jvm.MethodName) ({ cls := "PhaserYard", name := "result", desc := "()I" } : Jvm.MethodName)) ∈ am_words := am_in 609 (by decide +kernel) (by decide +kernel)
theorem aw_610 : (Jvm.Cond.code ({ cls := "PhaserYard", name := "result", desc := "()I" } : Jvm.MethodName) prog_1_method_6_code (1 : Nat) (Option.some Jvm.ClassFile.FieldType.int)) ∈ am_words := am_in 610 (by decide +kernel) (by decide +kernel)
theorem aw_612 : (Jvm.Cond.classLink "PhaserYard" (97 : Nat) "java/lang/ArithmeticException") ∈ am_words := am_in 612 (by decide +kernel) (by decide +kernel)
theorem aw_613 : (Jvm.Cond.instantiable "java/lang/ArithmeticException" (6 : Nat)) ∈ am_words := am_in 613 (by decide +kernel) (by decide +kernel)
theorem aw_615 : (Jvm.Cond.selects "java/lang/ArithmeticException" ({ cls := "java/lang/Throwable", name := "fillInStackTrace", desc := "(I)Ljava/lang/Throwable;" } : Jvm.MethodName) ({ cls := "java/lang/Throwable", name := "fillInStackTrace", desc := "(I)Ljava/lang/Throwable;" } : Jvm.MethodName)) ∈ am_words := am_in 615 (by decide +kernel) (by decide +kernel)
theorem aw_622 : (Jvm.Cond.methodLink "PhaserYard" (101 : Nat) ({ cls := "java/lang/ArithmeticException", name := "<init>", desc := "(Ljava/lang/String;)V" } : Jvm.MethodName)) ∈ am_words := am_in 622 (by decide +kernel) (by decide +kernel)
theorem aw_623 : (Jvm.Cond.instanceMethod ({ cls := "java/lang/ArithmeticException", name := "<init>", desc := "(Ljava/lang/String;)V" } : Jvm.MethodName)) ∈ am_words := am_in 623 (by decide +kernel) (by decide +kernel)
theorem aw_624 : (Jvm.Cond.code ({ cls := "java/lang/ArithmeticException", name := "<init>", desc := "(Ljava/lang/String;)V" } : Jvm.MethodName) prog_10_method_2_code (2 : Nat) (Option.none : Option Jvm.ClassFile.FieldType)) ∈ am_words := am_in 624 (by decide +kernel) (by decide +kernel)
theorem aw_625 : (Jvm.Cond.methodLink "java/lang/ArithmeticException" (7 : Nat) ({ cls := "java/lang/RuntimeException", name := "<init>", desc := "(Ljava/lang/String;)V" } : Jvm.MethodName)) ∈ am_words := am_in 625 (by decide +kernel) (by decide +kernel)
theorem aw_627 : (Jvm.Cond.superclass "java/lang/ArithmeticException" "java/lang/RuntimeException") ∈ am_words := am_in 627 (by decide +kernel) (by decide +kernel)
theorem aw_628 : (Jvm.Cond.methodLink "PhaserYardLaw" (79 : Nat) ({ cls := "PhaserYardLaw", name := "said", desc := "(LPhaserYard;I[J)I" } : Jvm.MethodName)) ∈ am_words := am_in 628 (by decide +kernel) (by decide +kernel)
theorem aw_629 : (Jvm.Cond.static ({ cls := "PhaserYardLaw", name := "said", desc := "(LPhaserYard;I[J)I" } : Jvm.MethodName)) ∈ am_words := am_in 629 (by decide +kernel) (by decide +kernel)
theorem aw_631 : (Jvm.Cond.classLink "PhaserYardLaw" (39 : Nat) "java/lang/IndexOutOfBoundsException") ∈ am_words := am_in 631 (by decide +kernel) (by decide +kernel)
theorem aw_632 : (Jvm.Cond.methodLink "PhaserYardLaw" (36 : Nat) ({ cls := "PhaserYard", name := "said", desc := "(I)I" } : Jvm.MethodName)) ∈ am_words := am_in 632 (by decide +kernel) (by decide +kernel)
theorem aw_633 : (Jvm.Cond.instanceMethod ({ cls := "PhaserYard", name := "said", desc := "(I)I" } : Jvm.MethodName)) ∈ am_words := am_in 633 (by decide +kernel) (by decide +kernel)
theorem aw_634 : (Jvm.Cond.selects "PhaserYard" ({ cls := "PhaserYard", name := "said", desc := "(I)I" } : Jvm.MethodName) ({ cls := "PhaserYard", name := "said", desc := "(I)I" } : Jvm.MethodName)) ∈ am_words := am_in 634 (by decide +kernel) (by decide +kernel)
theorem aw_635 : (Jvm.Cond.code ({ cls := "PhaserYard", name := "said", desc := "(I)I" } : Jvm.MethodName) prog_1_method_7_code (2 : Nat) (Option.some Jvm.ClassFile.FieldType.int)) ∈ am_words := am_in 635 (by decide +kernel) (by decide +kernel)
theorem aw_636 : (Jvm.Cond.methodLink "PhaserYard" (117 : Nat) ({ cls := "java/lang/Math", name := "min", desc := "(II)I" } : Jvm.MethodName)) ∈ am_words := am_in 636 (by decide +kernel) (by decide +kernel)
theorem aw_637 : (Jvm.Cond.classLink "PhaserYard" (123 : Nat) "java/lang/IndexOutOfBoundsException") ∈ am_words := am_in 637 (by decide +kernel) (by decide +kernel)
theorem aw_638 : (Jvm.Cond.instantiable "java/lang/IndexOutOfBoundsException" (6 : Nat)) ∈ am_words := am_in 638 (by decide +kernel) (by decide +kernel)
theorem aw_640 : (Jvm.Cond.selects "java/lang/IndexOutOfBoundsException" ({ cls := "java/lang/Throwable", name := "fillInStackTrace", desc := "(I)Ljava/lang/Throwable;" } : Jvm.MethodName) ({ cls := "java/lang/Throwable", name := "fillInStackTrace", desc := "(I)Ljava/lang/Throwable;" } : Jvm.MethodName)) ∈ am_words := am_in 640 (by decide +kernel) (by decide +kernel)
theorem aw_647 : (Jvm.Cond.methodLink "PhaserYard" (127 : Nat) ({ cls := "java/lang/IndexOutOfBoundsException", name := "<init>", desc := "(Ljava/lang/String;)V" } : Jvm.MethodName)) ∈ am_words := am_in 647 (by decide +kernel) (by decide +kernel)
theorem aw_648 : (Jvm.Cond.instanceMethod ({ cls := "java/lang/IndexOutOfBoundsException", name := "<init>", desc := "(Ljava/lang/String;)V" } : Jvm.MethodName)) ∈ am_words := am_in 648 (by decide +kernel) (by decide +kernel)
theorem aw_649 : (Jvm.Cond.code ({ cls := "java/lang/IndexOutOfBoundsException", name := "<init>", desc := "(Ljava/lang/String;)V" } : Jvm.MethodName) prog_14_method_2_code (2 : Nat) (Option.none : Option Jvm.ClassFile.FieldType)) ∈ am_words := am_in 649 (by decide +kernel) (by decide +kernel)
theorem aw_650 : (Jvm.Cond.methodLink "java/lang/IndexOutOfBoundsException" (7 : Nat) ({ cls := "java/lang/RuntimeException", name := "<init>", desc := "(Ljava/lang/String;)V" } : Jvm.MethodName)) ∈ am_words := am_in 650 (by decide +kernel) (by decide +kernel)
theorem aw_652 : (Jvm.Cond.superclass "java/lang/IndexOutOfBoundsException" "java/lang/RuntimeException") ∈ am_words := am_in 652 (by decide +kernel) (by decide +kernel)
theorem aw_653 : (Jvm.Cond.methodLink "PhaserYardLaw" (82 : Nat) ({ cls := "PhaserYardLaw", name := "task", desc := "(LPhaserYard;II[J)I" } : Jvm.MethodName)) ∈ am_words := am_in 653 (by decide +kernel) (by decide +kernel)
theorem aw_654 : (Jvm.Cond.static ({ cls := "PhaserYardLaw", name := "task", desc := "(LPhaserYard;II[J)I" } : Jvm.MethodName)) ∈ am_words := am_in 654 (by decide +kernel) (by decide +kernel)
theorem aw_656 : (Jvm.Cond.methodLink "PhaserYardLaw" (41 : Nat) ({ cls := "PhaserYard", name := "task", desc := "(II)I" } : Jvm.MethodName)) ∈ am_words := am_in 656 (by decide +kernel) (by decide +kernel)
theorem aw_657 : (Jvm.Cond.instanceMethod ({ cls := "PhaserYard", name := "task", desc := "(II)I" } : Jvm.MethodName)) ∈ am_words := am_in 657 (by decide +kernel) (by decide +kernel)
theorem aw_658 : (Jvm.Cond.selects "PhaserYard" ({ cls := "PhaserYard", name := "task", desc := "(II)I" } : Jvm.MethodName) ({ cls := "PhaserYard", name := "task", desc := "(II)I" } : Jvm.MethodName)) ∈ am_words := am_in 658 (by decide +kernel) (by decide +kernel)
theorem aw_659 : (Jvm.Cond.code ({ cls := "PhaserYard", name := "task", desc := "(II)I" } : Jvm.MethodName) prog_1_method_8_code (3 : Nat) (Option.some Jvm.ClassFile.FieldType.int)) ∈ am_words := am_in 659 (by decide +kernel) (by decide +kernel)
theorem aw_662 : (Jvm.Cond.methodLink "PhaserYard" (139 : Nat) ({ cls := "PhaserYard$Run", name := "answerOf", desc := "(LPhaserYard$Task;I)I" } : Jvm.MethodName)) ∈ am_words := am_in 662 (by decide +kernel) (by decide +kernel)
theorem aw_663 : (Jvm.Cond.instanceMethod ({ cls := "PhaserYard$Run", name := "answerOf", desc := "(LPhaserYard$Task;I)I" } : Jvm.MethodName)) ∈ am_words := am_in 663 (by decide +kernel) (by decide +kernel)
theorem aw_664 : (Jvm.Cond.selects "PhaserYard$Run" ({ cls := "PhaserYard$Run", name := "answerOf", desc := "(LPhaserYard$Task;I)I" } : Jvm.MethodName) ({ cls := "PhaserYard$Run", name := "answerOf", desc := "(LPhaserYard$Task;I)I" } : Jvm.MethodName)) ∈ am_words := am_in 664 (by decide +kernel) (by decide +kernel)
theorem aw_665 : (Jvm.Cond.code ({ cls := "PhaserYard$Run", name := "answerOf", desc := "(LPhaserYard$Task;I)I" } : Jvm.MethodName) prog_4_method_30_code (3 : Nat) (Option.some Jvm.ClassFile.FieldType.int)) ∈ am_words := am_in 665 (by decide +kernel) (by decide +kernel)
theorem aw_666 : (Jvm.Cond.methodLink "PhaserYardLaw" (86 : Nat) ({ cls := "PhaserYardLaw", name := "future", desc := "(LPhaserYard;I[J)I" } : Jvm.MethodName)) ∈ am_words := am_in 666 (by decide +kernel) (by decide +kernel)
theorem aw_667 : (Jvm.Cond.static ({ cls := "PhaserYardLaw", name := "future", desc := "(LPhaserYard;I[J)I" } : Jvm.MethodName)) ∈ am_words := am_in 667 (by decide +kernel) (by decide +kernel)
theorem aw_669 : (Jvm.Cond.methodLink "PhaserYardLaw" (45 : Nat) ({ cls := "PhaserYard", name := "future", desc := "(I)I" } : Jvm.MethodName)) ∈ am_words := am_in 669 (by decide +kernel) (by decide +kernel)
theorem aw_670 : (Jvm.Cond.instanceMethod ({ cls := "PhaserYard", name := "future", desc := "(I)I" } : Jvm.MethodName)) ∈ am_words := am_in 670 (by decide +kernel) (by decide +kernel)
theorem aw_671 : (Jvm.Cond.selects "PhaserYard" ({ cls := "PhaserYard", name := "future", desc := "(I)I" } : Jvm.MethodName) ({ cls := "PhaserYard", name := "future", desc := "(I)I" } : Jvm.MethodName)) ∈ am_words := am_in 671 (by decide +kernel) (by decide +kernel)
theorem aw_672 : (Jvm.Cond.code ({ cls := "PhaserYard", name := "future", desc := "(I)I" } : Jvm.MethodName) prog_1_method_9_code (2 : Nat) (Option.some Jvm.ClassFile.FieldType.int)) ∈ am_words := am_in 672 (by decide +kernel) (by decide +kernel)
theorem aw_675 : (Jvm.Cond.methodLink "PhaserYardLaw" (89 : Nat) ({ cls := "PhaserYardLaw", name := "count", desc := "(LPhaserYard;I[J)I" } : Jvm.MethodName)) ∈ am_words := am_in 675 (by decide +kernel) (by decide +kernel)
theorem aw_676 : (Jvm.Cond.static ({ cls := "PhaserYardLaw", name := "count", desc := "(LPhaserYard;I[J)I" } : Jvm.MethodName)) ∈ am_words := am_in 676 (by decide +kernel) (by decide +kernel)
theorem aw_678 : (Jvm.Cond.methodLink "PhaserYardLaw" (48 : Nat) ({ cls := "PhaserYard", name := "count", desc := "(I)I" } : Jvm.MethodName)) ∈ am_words := am_in 678 (by decide +kernel) (by decide +kernel)
theorem aw_679 : (Jvm.Cond.instanceMethod ({ cls := "PhaserYard", name := "count", desc := "(I)I" } : Jvm.MethodName)) ∈ am_words := am_in 679 (by decide +kernel) (by decide +kernel)
theorem aw_680 : (Jvm.Cond.selects "PhaserYard" ({ cls := "PhaserYard", name := "count", desc := "(I)I" } : Jvm.MethodName) ({ cls := "PhaserYard", name := "count", desc := "(I)I" } : Jvm.MethodName)) ∈ am_words := am_in 680 (by decide +kernel) (by decide +kernel)
theorem aw_681 : (Jvm.Cond.code ({ cls := "PhaserYard", name := "count", desc := "(I)I" } : Jvm.MethodName) prog_1_method_10_code (2 : Nat) (Option.some Jvm.ClassFile.FieldType.int)) ∈ am_words := am_in 681 (by decide +kernel) (by decide +kernel)
theorem aw_682 : (Jvm.Cond.methodLink "PhaserYard" (154 : Nat) ({ cls := "PhaserYard$Run", name := "figure", desc := "(I)I" } : Jvm.MethodName)) ∈ am_words := am_in 682 (by decide +kernel) (by decide +kernel)
theorem aw_683 : (Jvm.Cond.instanceMethod ({ cls := "PhaserYard$Run", name := "figure", desc := "(I)I" } : Jvm.MethodName)) ∈ am_words := am_in 683 (by decide +kernel) (by decide +kernel)
theorem aw_684 : (Jvm.Cond.selects "PhaserYard$Run" ({ cls := "PhaserYard$Run", name := "figure", desc := "(I)I" } : Jvm.MethodName) ({ cls := "PhaserYard$Run", name := "figure", desc := "(I)I" } : Jvm.MethodName)) ∈ am_words := am_in 684 (by decide +kernel) (by decide +kernel)
theorem aw_685 : (Jvm.Cond.code ({ cls := "PhaserYard$Run", name := "figure", desc := "(I)I" } : Jvm.MethodName) prog_4_method_31_code (2 : Nat) (Option.some Jvm.ClassFile.FieldType.int)) ∈ am_words := am_in 685 (by decide +kernel) (by decide +kernel)
theorem aw_686 : (Jvm.Cond.methodLink "PhaserYard$Run" (281 : Nat) ({ cls := "PhaserYard$Run", name := "unfinishedTasks", desc := "()I" } : Jvm.MethodName)) ∈ am_words := am_in 686 (by decide +kernel) (by decide +kernel)
theorem aw_688 : (Jvm.Cond.instanceMethod ({ cls := "PhaserYard$Run", name := "unfinishedTasks", desc := "()I" } : Jvm.MethodName)) ∈ am_words := am_in 688 (by decide +kernel) (by decide +kernel)
theorem aw_689 : (Jvm.Cond.code ({ cls := "PhaserYard$Run", name := "unfinishedTasks", desc := "()I" } : Jvm.MethodName) prog_4_method_32_code (3 : Nat) (Option.some Jvm.ClassFile.FieldType.int)) ∈ am_words := am_in 689 (by decide +kernel) (by decide +kernel)
theorem aw_690 : (Jvm.Cond.methodLink "PhaserYard" (168 : Nat) ({ cls := "PhaserYard$Worker", name := "taskAt", desc := "(I)I" } : Jvm.MethodName)) ∈ am_words := am_in 690 (by decide +kernel) (by decide +kernel)
theorem aw_692 : (Jvm.Cond.classLink "PhaserYardLaw" (52 : Nat) "PhaserYardModel") ∈ am_words := am_in 692 (by decide +kernel) (by decide +kernel)
theorem aw_693 : (Jvm.Cond.instantiable "PhaserYardModel" (40 : Nat)) ∈ am_words := am_in 693 (by decide +kernel) (by decide +kernel)
theorem aw_694 : (Jvm.Cond.methodLink "PhaserYardLaw" (54 : Nat) ({ cls := "PhaserYardModel", name := "<init>", desc := "()V" } : Jvm.MethodName)) ∈ am_words := am_in 694 (by decide +kernel) (by decide +kernel)
theorem aw_695 : (Jvm.Cond.instanceMethod ({ cls := "PhaserYardModel", name := "<init>", desc := "()V" } : Jvm.MethodName)) ∈ am_words := am_in 695 (by decide +kernel) (by decide +kernel)
theorem aw_696 : (Jvm.Cond.code ({ cls := "PhaserYardModel", name := "<init>", desc := "()V" } : Jvm.MethodName) prog_9_method_1_code (1 : Nat) (Option.none : Option Jvm.ClassFile.FieldType)) ∈ am_words := am_in 696 (by decide +kernel) (by decide +kernel)
theorem aw_697 : (Jvm.Cond.methodLink "PhaserYardModel" (1 : Nat) ({ cls := "java/lang/Object", name := "<init>", desc := "()V" } : Jvm.MethodName)) ∈ am_words := am_in 697 (by decide +kernel) (by decide +kernel)
theorem aw_698 : (Jvm.Cond.fieldLink "PhaserYardModel" (7 : Nat) "PhaserYardModel" "many" "[I") ∈ am_words := am_in 698 (by decide +kernel) (by decide +kernel)
theorem aw_699 : (Jvm.Cond.fieldLink "PhaserYardModel" (13 : Nat) "PhaserYardModel" "op" "[I") ∈ am_words := am_in 699 (by decide +kernel) (by decide +kernel)
theorem aw_700 : (Jvm.Cond.fieldLink "PhaserYardModel" (16 : Nat) "PhaserYardModel" "arg" "[I") ∈ am_words := am_in 700 (by decide +kernel) (by decide +kernel)
theorem aw_701 : (Jvm.Cond.fieldLink "PhaserYardModel" (19 : Nat) "PhaserYardModel" "state" "[I") ∈ am_words := am_in 701 (by decide +kernel) (by decide +kernel)
theorem aw_702 : (Jvm.Cond.fieldLink "PhaserYardModel" (22 : Nat) "PhaserYardModel" "sum" "[I") ∈ am_words := am_in 702 (by decide +kernel) (by decide +kernel)
theorem aw_703 : (Jvm.Cond.fieldLink "PhaserYardModel" (25 : Nat) "PhaserYardModel" "place" "[I") ∈ am_words := am_in 703 (by decide +kernel) (by decide +kernel)
theorem aw_704 : (Jvm.Cond.fieldLink "PhaserYardModel" (28 : Nat) "PhaserYardModel" "bodyOf" "[I") ∈ am_words := am_in 704 (by decide +kernel) (by decide +kernel)
theorem aw_705 : (Jvm.Cond.fieldLink "PhaserYardModel" (31 : Nat) "PhaserYardModel" "home" "[I") ∈ am_words := am_in 705 (by decide +kernel) (by decide +kernel)
theorem aw_706 : (Jvm.Cond.fieldLink "PhaserYardModel" (34 : Nat) "PhaserYardModel" "own" "[I") ∈ am_words := am_in 706 (by decide +kernel) (by decide +kernel)
theorem aw_707 : (Jvm.Cond.fieldLink "PhaserYardModel" (37 : Nat) "PhaserYardModel" "waits" "[I") ∈ am_words := am_in 707 (by decide +kernel) (by decide +kernel)
theorem aw_708 : (Jvm.Cond.fieldLink "PhaserYardModel" (40 : Nat) "PhaserYardModel" "awaited" "[I") ∈ am_words := am_in 708 (by decide +kernel) (by decide +kernel)
theorem aw_709 : (Jvm.Cond.fieldLink "PhaserYardModel" (43 : Nat) "PhaserYardModel" "future" "[I") ∈ am_words := am_in 709 (by decide +kernel) (by decide +kernel)
theorem aw_710 : (Jvm.Cond.fieldLink "PhaserYardModel" (46 : Nat) "PhaserYardModel" "ends" "[Z") ∈ am_words := am_in 710 (by decide +kernel) (by decide +kernel)
theorem aw_711 : (Jvm.Cond.fieldLink "PhaserYardModel" (50 : Nat) "PhaserYardModel" "closes" "[Z") ∈ am_words := am_in 711 (by decide +kernel) (by decide +kernel)
theorem aw_712 : (Jvm.Cond.fieldLink "PhaserYardModel" (53 : Nat) "PhaserYardModel" "sent" "[Z") ∈ am_words := am_in 712 (by decide +kernel) (by decide +kernel)
theorem aw_713 : (Jvm.Cond.fieldLink "PhaserYardModel" (56 : Nat) "PhaserYardModel" "isPut" "[Z") ∈ am_words := am_in 713 (by decide +kernel) (by decide +kernel)
theorem aw_714 : (Jvm.Cond.fieldLink "PhaserYardModel" (59 : Nat) "PhaserYardModel" "mode" "[I") ∈ am_words := am_in 714 (by decide +kernel) (by decide +kernel)
theorem aw_715 : (Jvm.Cond.fieldLink "PhaserYardModel" (62 : Nat) "PhaserYardModel" "sends" "[I") ∈ am_words := am_in 715 (by decide +kernel) (by decide +kernel)
theorem aw_716 : (Jvm.Cond.fieldLink "PhaserYardModel" (65 : Nat) "PhaserYardModel" "seen" "[I") ∈ am_words := am_in 716 (by decide +kernel) (by decide +kernel)
theorem aw_717 : (Jvm.Cond.fieldLink "PhaserYardModel" (68 : Nat) "PhaserYardModel" "phase" "[I") ∈ am_words := am_in 717 (by decide +kernel) (by decide +kernel)
theorem aw_718 : (Jvm.Cond.fieldLink "PhaserYardModel" (71 : Nat) "PhaserYardModel" "count" "[I") ∈ am_words := am_in 718 (by decide +kernel) (by decide +kernel)
theorem aw_719 : (Jvm.Cond.fieldLink "PhaserYardModel" (74 : Nat) "PhaserYardModel" "total" "[I") ∈ am_words := am_in 719 (by decide +kernel) (by decide +kernel)
theorem aw_720 : (Jvm.Cond.fieldLink "PhaserYardModel" (77 : Nat) "PhaserYardModel" "kind" "[I") ∈ am_words := am_in 720 (by decide +kernel) (by decide +kernel)
theorem aw_721 : (Jvm.Cond.fieldLink "PhaserYardModel" (80 : Nat) "PhaserYardModel" "handler" "[I") ∈ am_words := am_in 721 (by decide +kernel) (by decide +kernel)
theorem aw_722 : (Jvm.Cond.fieldLink "PhaserYardModel" (83 : Nat) "PhaserYardModel" "noted" "[I") ∈ am_words := am_in 722 (by decide +kernel) (by decide +kernel)
theorem aw_723 : (Jvm.Cond.fieldLink "PhaserYardModel" (86 : Nat) "PhaserYardModel" "least" "[I") ∈ am_words := am_in 723 (by decide +kernel) (by decide +kernel)
theorem aw_724 : (Jvm.Cond.fieldLink "PhaserYardModel" (89 : Nat) "PhaserYardModel" "hand" "[I") ∈ am_words := am_in 724 (by decide +kernel) (by decide +kernel)
theorem aw_725 : (Jvm.Cond.fieldLink "PhaserYardModel" (92 : Nat) "PhaserYardModel" "queued" "[I") ∈ am_words := am_in 725 (by decide +kernel) (by decide +kernel)
theorem aw_726 : (Jvm.Cond.fieldLink "PhaserYardModel" (95 : Nat) "PhaserYardModel" "queue" "[I") ∈ am_words := am_in 726 (by decide +kernel) (by decide +kernel)
theorem aw_727 : (Jvm.Cond.fieldLink "PhaserYardModel" (98 : Nat) "PhaserYardModel" "said" "[I") ∈ am_words := am_in 727 (by decide +kernel) (by decide +kernel)
theorem aw_728 : (Jvm.Cond.fieldLink "PhaserYardModel" (119 : Nat) "PhaserYardModel" "tasks" "I") ∈ am_words := am_in 728 (by decide +kernel) (by decide +kernel)
theorem aw_729 : (Jvm.Cond.fieldLink "PhaserYardModel" (138 : Nat) "PhaserYardModel" "workers" "I") ∈ am_words := am_in 729 (by decide +kernel) (by decide +kernel)
theorem aw_730 : (Jvm.Cond.fieldLink "PhaserYardModel" (141 : Nat) "PhaserYardModel" "policy" "I") ∈ am_words := am_in 730 (by decide +kernel) (by decide +kernel)
theorem aw_731 : (Jvm.Cond.fieldLink "PhaserYardModel" (126 : Nat) "PhaserYardModel" "ticks" "I") ∈ am_words := am_in 731 (by decide +kernel) (by decide +kernel)
theorem aw_732 : (Jvm.Cond.fieldLink "PhaserYardModel" (129 : Nat) "PhaserYardModel" "steps" "I") ∈ am_words := am_in 732 (by decide +kernel) (by decide +kernel)
theorem aw_733 : (Jvm.Cond.fieldLink "PhaserYardModel" (132 : Nat) "PhaserYardModel" "stolen" "I") ∈ am_words := am_in 733 (by decide +kernel) (by decide +kernel)
theorem aw_734 : (Jvm.Cond.fieldLink "PhaserYardModel" (135 : Nat) "PhaserYardModel" "saidMany" "I") ∈ am_words := am_in 734 (by decide +kernel) (by decide +kernel)
theorem aw_735 : (Jvm.Cond.fieldLink "PhaserYardModel" (101 : Nat) "PhaserYardModel" "thrown" "I") ∈ am_words := am_in 735 (by decide +kernel) (by decide +kernel)
theorem aw_736 : (Jvm.Cond.fieldLink "PhaserYardModel" (179 : Nat) "PhaserYardModel" "fresh" "I") ∈ am_words := am_in 736 (by decide +kernel) (by decide +kernel)
theorem aw_737 : (Jvm.Cond.fieldLink "PhaserYardModel" (122 : Nat) "PhaserYardModel" "begun" "Z") ∈ am_words := am_in 737 (by decide +kernel) (by decide +kernel)
theorem aw_818 : (Jvm.Cond.superclass "PhaserYardModel" "java/lang/Object") ∈ am_words := am_in 818 (by decide +kernel) (by decide +kernel)
theorem aw_819 : (Jvm.Cond.methodLink "PhaserYardLaw" (61 : Nat) ({ cls := "PhaserYardModel", name := "thrown", desc := "()I" } : Jvm.MethodName)) ∈ am_words := am_in 819 (by decide +kernel) (by decide +kernel)
theorem aw_820 : (Jvm.Cond.instanceMethod ({ cls := "PhaserYardModel", name := "thrown", desc := "()I" } : Jvm.MethodName)) ∈ am_words := am_in 820 (by decide +kernel) (by decide +kernel)
theorem aw_821 : (Jvm.Cond.selects "PhaserYardModel" ({ cls := "PhaserYardModel", name := "thrown", desc := "()I" } : Jvm.MethodName) ({ cls := "PhaserYardModel", name := "thrown", desc := "()I" } : Jvm.MethodName)) ∈ am_words := am_in 821 (by decide +kernel) (by decide +kernel)
theorem aw_822 : (Jvm.Cond.code ({ cls := "PhaserYardModel", name := "thrown", desc := "()I" } : Jvm.MethodName) prog_9_method_2_code (1 : Nat) (Option.some Jvm.ClassFile.FieldType.int)) ∈ am_words := am_in 822 (by decide +kernel) (by decide +kernel)
theorem aw_823 : (Jvm.Cond.methodLink "PhaserYardLaw" (60 : Nat) ({ cls := "PhaserYardModel", name := "body", desc := "(I)I" } : Jvm.MethodName)) ∈ am_words := am_in 823 (by decide +kernel) (by decide +kernel)
theorem aw_824 : (Jvm.Cond.instanceMethod ({ cls := "PhaserYardModel", name := "body", desc := "(I)I" } : Jvm.MethodName)) ∈ am_words := am_in 824 (by decide +kernel) (by decide +kernel)
theorem aw_825 : (Jvm.Cond.selects "PhaserYardModel" ({ cls := "PhaserYardModel", name := "body", desc := "(I)I" } : Jvm.MethodName) ({ cls := "PhaserYardModel", name := "body", desc := "(I)I" } : Jvm.MethodName)) ∈ am_words := am_in 825 (by decide +kernel) (by decide +kernel)
theorem aw_826 : (Jvm.Cond.code ({ cls := "PhaserYardModel", name := "body", desc := "(I)I" } : Jvm.MethodName) prog_9_method_5_code (3 : Nat) (Option.some Jvm.ClassFile.FieldType.int)) ∈ am_words := am_in 826 (by decide +kernel) (by decide +kernel)
theorem aw_827 : (Jvm.Cond.methodLink "PhaserYardModel" (105 : Nat) ({ cls := "PhaserYardModel", name := "in", desc := "(III)Z" } : Jvm.MethodName)) ∈ am_words := am_in 827 (by decide +kernel) (by decide +kernel)
theorem aw_828 : (Jvm.Cond.static ({ cls := "PhaserYardModel", name := "in", desc := "(III)Z" } : Jvm.MethodName)) ∈ am_words := am_in 828 (by decide +kernel) (by decide +kernel)
theorem aw_829 : (Jvm.Cond.code ({ cls := "PhaserYardModel", name := "in", desc := "(III)Z" } : Jvm.MethodName) prog_9_method_3_code (3 : Nat) (Option.some Jvm.ClassFile.FieldType.boolean)) ∈ am_words := am_in 829 (by decide +kernel) (by decide +kernel)
theorem aw_830 : (Jvm.Cond.methodLink "PhaserYardModel" (109 : Nat) ({ cls := "PhaserYardModel", name := "fail", desc := "(I)I" } : Jvm.MethodName)) ∈ am_words := am_in 830 (by decide +kernel) (by decide +kernel)
theorem aw_832 : (Jvm.Cond.instanceMethod ({ cls := "PhaserYardModel", name := "fail", desc := "(I)I" } : Jvm.MethodName)) ∈ am_words := am_in 832 (by decide +kernel) (by decide +kernel)
theorem aw_833 : (Jvm.Cond.code ({ cls := "PhaserYardModel", name := "fail", desc := "(I)I" } : Jvm.MethodName) prog_9_method_4_code (2 : Nat) (Option.some Jvm.ClassFile.FieldType.int)) ∈ am_words := am_in 833 (by decide +kernel) (by decide +kernel)
theorem aw_834 : (Jvm.Cond.methodLink "PhaserYardLaw" (67 : Nat) ({ cls := "PhaserYardModel", name := "add", desc := "(III)I" } : Jvm.MethodName)) ∈ am_words := am_in 834 (by decide +kernel) (by decide +kernel)
theorem aw_835 : (Jvm.Cond.instanceMethod ({ cls := "PhaserYardModel", name := "add", desc := "(III)I" } : Jvm.MethodName)) ∈ am_words := am_in 835 (by decide +kernel) (by decide +kernel)
theorem aw_836 : (Jvm.Cond.selects "PhaserYardModel" ({ cls := "PhaserYardModel", name := "add", desc := "(III)I" } : Jvm.MethodName) ({ cls := "PhaserYardModel", name := "add", desc := "(III)I" } : Jvm.MethodName)) ∈ am_words := am_in 836 (by decide +kernel) (by decide +kernel)
theorem aw_837 : (Jvm.Cond.code ({ cls := "PhaserYardModel", name := "add", desc := "(III)I" } : Jvm.MethodName) prog_9_method_7_code (4 : Nat) (Option.some Jvm.ClassFile.FieldType.int)) ∈ am_words := am_in 837 (by decide +kernel) (by decide +kernel)
theorem aw_838 : (Jvm.Cond.methodLink "PhaserYardModel" (113 : Nat) ({ cls := "PhaserYardModel", name := "fits", desc := "(II)Z" } : Jvm.MethodName)) ∈ am_words := am_in 838 (by decide +kernel) (by decide +kernel)
theorem aw_839 : (Jvm.Cond.static ({ cls := "PhaserYardModel", name := "fits", desc := "(II)Z" } : Jvm.MethodName)) ∈ am_words := am_in 839 (by decide +kernel) (by decide +kernel)
theorem aw_840 : (Jvm.Cond.code ({ cls := "PhaserYardModel", name := "fits", desc := "(II)Z" } : Jvm.MethodName) prog_9_method_6_code (2 : Nat) (Option.some Jvm.ClassFile.FieldType.boolean)) ∈ am_words := am_in 840 (by decide +kernel) (by decide +kernel)
theorem aw_841 : (Jvm.Cond.methodLink "PhaserYardLaw" (71 : Nat) ({ cls := "PhaserYardModel", name := "begin", desc := "(IIII)V" } : Jvm.MethodName)) ∈ am_words := am_in 841 (by decide +kernel) (by decide +kernel)
theorem aw_842 : (Jvm.Cond.instanceMethod ({ cls := "PhaserYardModel", name := "begin", desc := "(IIII)V" } : Jvm.MethodName)) ∈ am_words := am_in 842 (by decide +kernel) (by decide +kernel)
theorem aw_843 : (Jvm.Cond.selects "PhaserYardModel" ({ cls := "PhaserYardModel", name := "begin", desc := "(IIII)V" } : Jvm.MethodName) ({ cls := "PhaserYardModel", name := "begin", desc := "(IIII)V" } : Jvm.MethodName)) ∈ am_words := am_in 843 (by decide +kernel) (by decide +kernel)
theorem aw_844 : (Jvm.Cond.code ({ cls := "PhaserYardModel", name := "begin", desc := "(IIII)V" } : Jvm.MethodName) prog_9_method_12_code (6 : Nat) (Option.none : Option Jvm.ClassFile.FieldType)) ∈ am_words := am_in 844 (by decide +kernel) (by decide +kernel)
theorem aw_845 : (Jvm.Cond.methodLink "PhaserYardModel" (144 : Nat) ({ cls := "PhaserYardModel", name := "openScope", desc := "(III)V" } : Jvm.MethodName)) ∈ am_words := am_in 845 (by decide +kernel) (by decide +kernel)
theorem aw_847 : (Jvm.Cond.instanceMethod ({ cls := "PhaserYardModel", name := "openScope", desc := "(III)V" } : Jvm.MethodName)) ∈ am_words := am_in 847 (by decide +kernel) (by decide +kernel)
theorem aw_848 : (Jvm.Cond.code ({ cls := "PhaserYardModel", name := "openScope", desc := "(III)V" } : Jvm.MethodName) prog_9_method_8_code (4 : Nat) (Option.none : Option Jvm.ClassFile.FieldType)) ∈ am_words := am_in 848 (by decide +kernel) (by decide +kernel)
theorem aw_849 : (Jvm.Cond.constant "PhaserYardModel" (117 : Nat) (2147483647 : Int32)) ∈ am_words := am_in 849 (by decide +kernel) (by decide +kernel)
theorem aw_850 : (Jvm.Cond.constant "PhaserYardModel" (118 : Nat) (-2147483648 : Int32)) ∈ am_words := am_in 850 (by decide +kernel) (by decide +kernel)
theorem aw_851 : (Jvm.Cond.methodLink "PhaserYardModel" (148 : Nat) ({ cls := "PhaserYardModel", name := "newTask", desc := "(III)I" } : Jvm.MethodName)) ∈ am_words := am_in 851 (by decide +kernel) (by decide +kernel)
theorem aw_853 : (Jvm.Cond.instanceMethod ({ cls := "PhaserYardModel", name := "newTask", desc := "(III)I" } : Jvm.MethodName)) ∈ am_words := am_in 853 (by decide +kernel) (by decide +kernel)
theorem aw_854 : (Jvm.Cond.code ({ cls := "PhaserYardModel", name := "newTask", desc := "(III)I" } : Jvm.MethodName) prog_9_method_11_code (6 : Nat) (Option.some Jvm.ClassFile.FieldType.int)) ∈ am_words := am_in 854 (by decide +kernel) (by decide +kernel)
theorem aw_855 : (Jvm.Cond.methodLink "PhaserYardModel" (152 : Nat) ({ cls := "PhaserYardModel", name := "push", desc := "(II)V" } : Jvm.MethodName)) ∈ am_words := am_in 855 (by decide +kernel) (by decide +kernel)
theorem aw_857 : (Jvm.Cond.instanceMethod ({ cls := "PhaserYardModel", name := "push", desc := "(II)V" } : Jvm.MethodName)) ∈ am_words := am_in 857 (by decide +kernel) (by decide +kernel)
theorem aw_858 : (Jvm.Cond.code ({ cls := "PhaserYardModel", name := "push", desc := "(II)V" } : Jvm.MethodName) prog_9_method_13_code (3 : Nat) (Option.none : Option Jvm.ClassFile.FieldType)) ∈ am_words := am_in 858 (by decide +kernel) (by decide +kernel)
theorem aw_859 : (Jvm.Cond.methodLink "PhaserYardLaw" (74 : Nat) ({ cls := "PhaserYardModel", name := "run", desc := "(I)I" } : Jvm.MethodName)) ∈ am_words := am_in 859 (by decide +kernel) (by decide +kernel)
theorem aw_860 : (Jvm.Cond.instanceMethod ({ cls := "PhaserYardModel", name := "run", desc := "(I)I" } : Jvm.MethodName)) ∈ am_words := am_in 860 (by decide +kernel) (by decide +kernel)
theorem aw_861 : (Jvm.Cond.selects "PhaserYardModel" ({ cls := "PhaserYardModel", name := "run", desc := "(I)I" } : Jvm.MethodName) ({ cls := "PhaserYardModel", name := "run", desc := "(I)I" } : Jvm.MethodName)) ∈ am_words := am_in 861 (by decide +kernel) (by decide +kernel)
theorem aw_862 : (Jvm.Cond.code ({ cls := "PhaserYardModel", name := "run", desc := "(I)I" } : Jvm.MethodName) prog_9_method_33_code (6 : Nat) (Option.some Jvm.ClassFile.FieldType.int)) ∈ am_words := am_in 862 (by decide +kernel) (by decide +kernel)
theorem aw_863 : (Jvm.Cond.methodLink "PhaserYardModel" (215 : Nat) ({ cls := "PhaserYardModel", name := "isOver", desc := "()Z" } : Jvm.MethodName)) ∈ am_words := am_in 863 (by decide +kernel) (by decide +kernel)
theorem aw_865 : (Jvm.Cond.instanceMethod ({ cls := "PhaserYardModel", name := "isOver", desc := "()Z" } : Jvm.MethodName)) ∈ am_words := am_in 865 (by decide +kernel) (by decide +kernel)
theorem aw_866 : (Jvm.Cond.code ({ cls := "PhaserYardModel", name := "isOver", desc := "()Z" } : Jvm.MethodName) prog_9_method_31_code (1 : Nat) (Option.some Jvm.ClassFile.FieldType.boolean)) ∈ am_words := am_in 866 (by decide +kernel) (by decide +kernel)
theorem aw_867 : (Jvm.Cond.methodLink "PhaserYardModel" (219 : Nat) ({ cls := "PhaserYardModel", name := "isStuck", desc := "()Z" } : Jvm.MethodName)) ∈ am_words := am_in 867 (by decide +kernel) (by decide +kernel)
theorem aw_869 : (Jvm.Cond.instanceMethod ({ cls := "PhaserYardModel", name := "isStuck", desc := "()Z" } : Jvm.MethodName)) ∈ am_words := am_in 869 (by decide +kernel) (by decide +kernel)
theorem aw_870 : (Jvm.Cond.code ({ cls := "PhaserYardModel", name := "isStuck", desc := "()Z" } : Jvm.MethodName) prog_9_method_32_code (2 : Nat) (Option.some Jvm.ClassFile.FieldType.boolean)) ∈ am_words := am_in 870 (by decide +kernel) (by decide +kernel)
theorem aw_871 : (Jvm.Cond.methodLink "PhaserYardModel" (222 : Nat) ({ cls := "PhaserYardModel", name := "work", desc := "(I)V" } : Jvm.MethodName)) ∈ am_words := am_in 871 (by decide +kernel) (by decide +kernel)
theorem aw_873 : (Jvm.Cond.instanceMethod ({ cls := "PhaserYardModel", name := "work", desc := "(I)V" } : Jvm.MethodName)) ∈ am_words := am_in 873 (by decide +kernel) (by decide +kernel)
theorem aw_874 : (Jvm.Cond.code ({ cls := "PhaserYardModel", name := "work", desc := "(I)V" } : Jvm.MethodName) prog_9_method_30_code (3 : Nat) (Option.none : Option Jvm.ClassFile.FieldType)) ∈ am_words := am_in 874 (by decide +kernel) (by decide +kernel)
theorem aw_875 : (Jvm.Cond.methodLink "PhaserYardModel" (206 : Nat) ({ cls := "PhaserYardModel", name := "take", desc := "(I)I" } : Jvm.MethodName)) ∈ am_words := am_in 875 (by decide +kernel) (by decide +kernel)
theorem aw_877 : (Jvm.Cond.instanceMethod ({ cls := "PhaserYardModel", name := "take", desc := "(I)I" } : Jvm.MethodName)) ∈ am_words := am_in 877 (by decide +kernel) (by decide +kernel)
theorem aw_878 : (Jvm.Cond.code ({ cls := "PhaserYardModel", name := "take", desc := "(I)I" } : Jvm.MethodName) prog_9_method_29_code (6 : Nat) (Option.some Jvm.ClassFile.FieldType.int)) ∈ am_words := am_in 878 (by decide +kernel) (by decide +kernel)
theorem aw_879 : (Jvm.Cond.methodLink "PhaserYardModel" (209 : Nat) ({ cls := "PhaserYardModel", name := "step", desc := "(I)V" } : Jvm.MethodName)) ∈ am_words := am_in 879 (by decide +kernel) (by decide +kernel)
theorem aw_881 : (Jvm.Cond.instanceMethod ({ cls := "PhaserYardModel", name := "step", desc := "(I)V" } : Jvm.MethodName)) ∈ am_words := am_in 881 (by decide +kernel) (by decide +kernel)
theorem aw_882 : (Jvm.Cond.code ({ cls := "PhaserYardModel", name := "step", desc := "(I)V" } : Jvm.MethodName) prog_9_method_26_code (5 : Nat) (Option.none : Option Jvm.ClassFile.FieldType)) ∈ am_words := am_in 882 (by decide +kernel) (by decide +kernel)
theorem aw_883 : (Jvm.Cond.methodLink "PhaserYardModel" (182 : Nat) ({ cls := "PhaserYardModel", name := "end", desc := "(I)V" } : Jvm.MethodName)) ∈ am_words := am_in 883 (by decide +kernel) (by decide +kernel)
theorem aw_885 : (Jvm.Cond.instanceMethod ({ cls := "PhaserYardModel", name := "end", desc := "(I)V" } : Jvm.MethodName)) ∈ am_words := am_in 885 (by decide +kernel) (by decide +kernel)
theorem aw_886 : (Jvm.Cond.code ({ cls := "PhaserYardModel", name := "end", desc := "(I)V" } : Jvm.MethodName) prog_9_method_20_code (3 : Nat) (Option.none : Option Jvm.ClassFile.FieldType)) ∈ am_words := am_in 886 (by decide +kernel) (by decide +kernel)
theorem aw_887 : (Jvm.Cond.methodLink "PhaserYardModel" (166 : Nat) ({ cls := "PhaserYardModel", name := "inner", desc := "(I)I" } : Jvm.MethodName)) ∈ am_words := am_in 887 (by decide +kernel) (by decide +kernel)
theorem aw_889 : (Jvm.Cond.instanceMethod ({ cls := "PhaserYardModel", name := "inner", desc := "(I)I" } : Jvm.MethodName)) ∈ am_words := am_in 889 (by decide +kernel) (by decide +kernel)
theorem aw_890 : (Jvm.Cond.code ({ cls := "PhaserYardModel", name := "inner", desc := "(I)I" } : Jvm.MethodName) prog_9_method_10_code (2 : Nat) (Option.some Jvm.ClassFile.FieldType.int)) ∈ am_words := am_in 890 (by decide +kernel) (by decide +kernel)
theorem aw_891 : (Jvm.Cond.methodLink "PhaserYardModel" (163 : Nat) ({ cls := "PhaserYardModel", name := "set", desc := "(II)V" } : Jvm.MethodName)) ∈ am_words := am_in 891 (by decide +kernel) (by decide +kernel)
theorem aw_893 : (Jvm.Cond.instanceMethod ({ cls := "PhaserYardModel", name := "set", desc := "(II)V" } : Jvm.MethodName)) ∈ am_words := am_in 893 (by decide +kernel) (by decide +kernel)
theorem aw_894 : (Jvm.Cond.code ({ cls := "PhaserYardModel", name := "set", desc := "(II)V" } : Jvm.MethodName) prog_9_method_17_code (3 : Nat) (Option.none : Option Jvm.ClassFile.FieldType)) ∈ am_words := am_in 894 (by decide +kernel) (by decide +kernel)
theorem aw_895 : (Jvm.Cond.methodLink "PhaserYardModel" (176 : Nat) ({ cls := "PhaserYardModel", name := "raise", desc := "(II)V" } : Jvm.MethodName)) ∈ am_words := am_in 895 (by decide +kernel) (by decide +kernel)
theorem aw_897 : (Jvm.Cond.instanceMethod ({ cls := "PhaserYardModel", name := "raise", desc := "(II)V" } : Jvm.MethodName)) ∈ am_words := am_in 897 (by decide +kernel) (by decide +kernel)
theorem aw_898 : (Jvm.Cond.code ({ cls := "PhaserYardModel", name := "raise", desc := "(II)V" } : Jvm.MethodName) prog_9_method_19_code (3 : Nat) (Option.none : Option Jvm.ClassFile.FieldType)) ∈ am_words := am_in 898 (by decide +kernel) (by decide +kernel)
theorem aw_899 : (Jvm.Cond.methodLink "PhaserYardModel" (169 : Nat) ({ cls := "PhaserYardModel", name := "note", desc := "(II)V" } : Jvm.MethodName)) ∈ am_words := am_in 899 (by decide +kernel) (by decide +kernel)
theorem aw_901 : (Jvm.Cond.instanceMethod ({ cls := "PhaserYardModel", name := "note", desc := "(II)V" } : Jvm.MethodName)) ∈ am_words := am_in 901 (by decide +kernel) (by decide +kernel)
theorem aw_902 : (Jvm.Cond.code ({ cls := "PhaserYardModel", name := "note", desc := "(II)V" } : Jvm.MethodName) prog_9_method_9_code (3 : Nat) (Option.none : Option Jvm.ClassFile.FieldType)) ∈ am_words := am_in 902 (by decide +kernel) (by decide +kernel)
theorem aw_903 : (Jvm.Cond.methodLink "PhaserYardModel" (172 : Nat) ({ cls := "PhaserYardModel", name := "finish", desc := "(I)V" } : Jvm.MethodName)) ∈ am_words := am_in 903 (by decide +kernel) (by decide +kernel)
theorem aw_905 : (Jvm.Cond.instanceMethod ({ cls := "PhaserYardModel", name := "finish", desc := "(I)V" } : Jvm.MethodName)) ∈ am_words := am_in 905 (by decide +kernel) (by decide +kernel)
theorem aw_906 : (Jvm.Cond.code ({ cls := "PhaserYardModel", name := "finish", desc := "(I)V" } : Jvm.MethodName) prog_9_method_18_code (3 : Nat) (Option.none : Option Jvm.ClassFile.FieldType)) ∈ am_words := am_in 906 (by decide +kernel) (by decide +kernel)
theorem aw_907 : (Jvm.Cond.methodLink "PhaserYardModel" (156 : Nat) ({ cls := "PhaserYardModel", name := "move", desc := "()V" } : Jvm.MethodName)) ∈ am_words := am_in 907 (by decide +kernel) (by decide +kernel)
theorem aw_909 : (Jvm.Cond.instanceMethod ({ cls := "PhaserYardModel", name := "move", desc := "()V" } : Jvm.MethodName)) ∈ am_words := am_in 909 (by decide +kernel) (by decide +kernel)
theorem aw_910 : (Jvm.Cond.code ({ cls := "PhaserYardModel", name := "move", desc := "()V" } : Jvm.MethodName) prog_9_method_14_code (4 : Nat) (Option.none : Option Jvm.ClassFile.FieldType)) ∈ am_words := am_in 910 (by decide +kernel) (by decide +kernel)
theorem aw_911 : (Jvm.Cond.methodLink "PhaserYardModel" (185 : Nat) ({ cls := "PhaserYardModel", name := "spawn", desc := "(III)V" } : Jvm.MethodName)) ∈ am_words := am_in 911 (by decide +kernel) (by decide +kernel)
theorem aw_913 : (Jvm.Cond.instanceMethod ({ cls := "PhaserYardModel", name := "spawn", desc := "(III)V" } : Jvm.MethodName)) ∈ am_words := am_in 913 (by decide +kernel) (by decide +kernel)
theorem aw_914 : (Jvm.Cond.code ({ cls := "PhaserYardModel", name := "spawn", desc := "(III)V" } : Jvm.MethodName) prog_9_method_22_code (6 : Nat) (Option.none : Option Jvm.ClassFile.FieldType)) ∈ am_words := am_in 914 (by decide +kernel) (by decide +kernel)
theorem aw_915 : (Jvm.Cond.methodLink "PhaserYardModel" (188 : Nat) ({ cls := "PhaserYardModel", name := "onScope", desc := "(III)V" } : Jvm.MethodName)) ∈ am_words := am_in 915 (by decide +kernel) (by decide +kernel)
theorem aw_917 : (Jvm.Cond.instanceMethod ({ cls := "PhaserYardModel", name := "onScope", desc := "(III)V" } : Jvm.MethodName)) ∈ am_words := am_in 917 (by decide +kernel) (by decide +kernel)
theorem aw_918 : (Jvm.Cond.code ({ cls := "PhaserYardModel", name := "onScope", desc := "(III)V" } : Jvm.MethodName) prog_9_method_25_code (4 : Nat) (Option.none : Option Jvm.ClassFile.FieldType)) ∈ am_words := am_in 918 (by decide +kernel) (by decide +kernel)
theorem aw_919 : (Jvm.Cond.methodLink "PhaserYardModel" (191 : Nat) ({ cls := "PhaserYardModel", name := "onFuture", desc := "(III)V" } : Jvm.MethodName)) ∈ am_words := am_in 919 (by decide +kernel) (by decide +kernel)
theorem aw_921 : (Jvm.Cond.instanceMethod ({ cls := "PhaserYardModel", name := "onFuture", desc := "(III)V" } : Jvm.MethodName)) ∈ am_words := am_in 921 (by decide +kernel) (by decide +kernel)
theorem aw_922 : (Jvm.Cond.code ({ cls := "PhaserYardModel", name := "onFuture", desc := "(III)V" } : Jvm.MethodName) prog_9_method_24_code (4 : Nat) (Option.none : Option Jvm.ClassFile.FieldType)) ∈ am_words := am_in 922 (by decide +kernel) (by decide +kernel)
theorem aw_923 : (Jvm.Cond.methodLink "PhaserYardModel" (194 : Nat) ({ cls := "PhaserYardModel", name := "join", desc := "(III)V" } : Jvm.MethodName)) ∈ am_words := am_in 923 (by decide +kernel) (by decide +kernel)
theorem aw_925 : (Jvm.Cond.instanceMethod ({ cls := "PhaserYardModel", name := "join", desc := "(III)V" } : Jvm.MethodName)) ∈ am_words := am_in 925 (by decide +kernel) (by decide +kernel)
theorem aw_926 : (Jvm.Cond.code ({ cls := "PhaserYardModel", name := "join", desc := "(III)V" } : Jvm.MethodName) prog_9_method_23_code (7 : Nat) (Option.none : Option Jvm.ClassFile.FieldType)) ∈ am_words := am_in 926 (by decide +kernel) (by decide +kernel)
theorem aw_927 : (Jvm.Cond.methodLink "PhaserYardModel" (197 : Nat) ({ cls := "PhaserYardModel", name := "next", desc := "(I)V" } : Jvm.MethodName)) ∈ am_words := am_in 927 (by decide +kernel) (by decide +kernel)
theorem aw_929 : (Jvm.Cond.instanceMethod ({ cls := "PhaserYardModel", name := "next", desc := "(I)V" } : Jvm.MethodName)) ∈ am_words := am_in 929 (by decide +kernel) (by decide +kernel)
theorem aw_930 : (Jvm.Cond.code ({ cls := "PhaserYardModel", name := "next", desc := "(I)V" } : Jvm.MethodName) prog_9_method_16_code (4 : Nat) (Option.none : Option Jvm.ClassFile.FieldType)) ∈ am_words := am_in 930 (by decide +kernel) (by decide +kernel)
theorem aw_931 : (Jvm.Cond.methodLink "PhaserYardModel" (159 : Nat) ({ cls := "PhaserYardModel", name := "isPassed", desc := "(I)Z" } : Jvm.MethodName)) ∈ am_words := am_in 931 (by decide +kernel) (by decide +kernel)
theorem aw_933 : (Jvm.Cond.instanceMethod ({ cls := "PhaserYardModel", name := "isPassed", desc := "(I)Z" } : Jvm.MethodName)) ∈ am_words := am_in 933 (by decide +kernel) (by decide +kernel)
theorem aw_934 : (Jvm.Cond.code ({ cls := "PhaserYardModel", name := "isPassed", desc := "(I)Z" } : Jvm.MethodName) prog_9_method_15_code (3 : Nat) (Option.some Jvm.ClassFile.FieldType.boolean)) ∈ am_words := am_in 934 (by decide +kernel) (by decide +kernel)
theorem aw_935 : (Jvm.Cond.methodLink "PhaserYardModel" (200 : Nat) ({ cls := "PhaserYardModel", name := "give", desc := "(I)V" } : Jvm.MethodName)) ∈ am_words := am_in 935 (by decide +kernel) (by decide +kernel)
theorem aw_937 : (Jvm.Cond.instanceMethod ({ cls := "PhaserYardModel", name := "give", desc := "(I)V" } : Jvm.MethodName)) ∈ am_words := am_in 937 (by decide +kernel) (by decide +kernel)
theorem aw_938 : (Jvm.Cond.code ({ cls := "PhaserYardModel", name := "give", desc := "(I)V" } : Jvm.MethodName) prog_9_method_21_code (4 : Nat) (Option.none : Option Jvm.ClassFile.FieldType)) ∈ am_words := am_in 938 (by decide +kernel) (by decide +kernel)
theorem aw_939 : (Jvm.Cond.methodLink "PhaserYardModel" (212 : Nat) ({ cls := "PhaserYardModel", name := "ready", desc := "(II)V" } : Jvm.MethodName)) ∈ am_words := am_in 939 (by decide +kernel) (by decide +kernel)
theorem aw_941 : (Jvm.Cond.instanceMethod ({ cls := "PhaserYardModel", name := "ready", desc := "(II)V" } : Jvm.MethodName)) ∈ am_words := am_in 941 (by decide +kernel) (by decide +kernel)
theorem aw_942 : (Jvm.Cond.code ({ cls := "PhaserYardModel", name := "ready", desc := "(II)V" } : Jvm.MethodName) prog_9_method_28_code (5 : Nat) (Option.none : Option Jvm.ClassFile.FieldType)) ∈ am_words := am_in 942 (by decide +kernel) (by decide +kernel)
theorem aw_943 : (Jvm.Cond.methodLink "PhaserYardModel" (203 : Nat) ({ cls := "PhaserYardModel", name := "isReady", desc := "(I)Z" } : Jvm.MethodName)) ∈ am_words := am_in 943 (by decide +kernel) (by decide +kernel)
theorem aw_945 : (Jvm.Cond.instanceMethod ({ cls := "PhaserYardModel", name := "isReady", desc := "(I)Z" } : Jvm.MethodName)) ∈ am_words := am_in 945 (by decide +kernel) (by decide +kernel)
theorem aw_946 : (Jvm.Cond.code ({ cls := "PhaserYardModel", name := "isReady", desc := "(I)Z" } : Jvm.MethodName) prog_9_method_27_code (2 : Nat) (Option.some Jvm.ClassFile.FieldType.boolean)) ∈ am_words := am_in 946 (by decide +kernel) (by decide +kernel)
theorem aw_947 : (Jvm.Cond.methodLink "PhaserYardLaw" (78 : Nat) ({ cls := "PhaserYardModel", name := "result", desc := "()I" } : Jvm.MethodName)) ∈ am_words := am_in 947 (by decide +kernel) (by decide +kernel)
theorem aw_948 : (Jvm.Cond.instanceMethod ({ cls := "PhaserYardModel", name := "result", desc := "()I" } : Jvm.MethodName)) ∈ am_words := am_in 948 (by decide +kernel) (by decide +kernel)
theorem aw_949 : (Jvm.Cond.selects "PhaserYardModel" ({ cls := "PhaserYardModel", name := "result", desc := "()I" } : Jvm.MethodName) ({ cls := "PhaserYardModel", name := "result", desc := "()I" } : Jvm.MethodName)) ∈ am_words := am_in 949 (by decide +kernel) (by decide +kernel)
theorem aw_950 : (Jvm.Cond.code ({ cls := "PhaserYardModel", name := "result", desc := "()I" } : Jvm.MethodName) prog_9_method_34_code (2 : Nat) (Option.some Jvm.ClassFile.FieldType.int)) ∈ am_words := am_in 950 (by decide +kernel) (by decide +kernel)
theorem aw_951 : (Jvm.Cond.methodLink "PhaserYardLaw" (81 : Nat) ({ cls := "PhaserYardModel", name := "said", desc := "(I)I" } : Jvm.MethodName)) ∈ am_words := am_in 951 (by decide +kernel) (by decide +kernel)
theorem aw_952 : (Jvm.Cond.instanceMethod ({ cls := "PhaserYardModel", name := "said", desc := "(I)I" } : Jvm.MethodName)) ∈ am_words := am_in 952 (by decide +kernel) (by decide +kernel)
theorem aw_953 : (Jvm.Cond.selects "PhaserYardModel" ({ cls := "PhaserYardModel", name := "said", desc := "(I)I" } : Jvm.MethodName) ({ cls := "PhaserYardModel", name := "said", desc := "(I)I" } : Jvm.MethodName)) ∈ am_words := am_in 953 (by decide +kernel) (by decide +kernel)
theorem aw_954 : (Jvm.Cond.code ({ cls := "PhaserYardModel", name := "said", desc := "(I)I" } : Jvm.MethodName) prog_9_method_35_code (2 : Nat) (Option.some Jvm.ClassFile.FieldType.int)) ∈ am_words := am_in 954 (by decide +kernel) (by decide +kernel)
theorem aw_955 : (Jvm.Cond.methodLink "PhaserYardLaw" (85 : Nat) ({ cls := "PhaserYardModel", name := "task", desc := "(II)I" } : Jvm.MethodName)) ∈ am_words := am_in 955 (by decide +kernel) (by decide +kernel)
theorem aw_956 : (Jvm.Cond.instanceMethod ({ cls := "PhaserYardModel", name := "task", desc := "(II)I" } : Jvm.MethodName)) ∈ am_words := am_in 956 (by decide +kernel) (by decide +kernel)
theorem aw_957 : (Jvm.Cond.selects "PhaserYardModel" ({ cls := "PhaserYardModel", name := "task", desc := "(II)I" } : Jvm.MethodName) ({ cls := "PhaserYardModel", name := "task", desc := "(II)I" } : Jvm.MethodName)) ∈ am_words := am_in 957 (by decide +kernel) (by decide +kernel)
theorem aw_958 : (Jvm.Cond.code ({ cls := "PhaserYardModel", name := "task", desc := "(II)I" } : Jvm.MethodName) prog_9_method_36_code (3 : Nat) (Option.some Jvm.ClassFile.FieldType.int)) ∈ am_words := am_in 958 (by decide +kernel) (by decide +kernel)
theorem aw_959 : (Jvm.Cond.methodLink "PhaserYardLaw" (88 : Nat) ({ cls := "PhaserYardModel", name := "future", desc := "(I)I" } : Jvm.MethodName)) ∈ am_words := am_in 959 (by decide +kernel) (by decide +kernel)
theorem aw_960 : (Jvm.Cond.instanceMethod ({ cls := "PhaserYardModel", name := "future", desc := "(I)I" } : Jvm.MethodName)) ∈ am_words := am_in 960 (by decide +kernel) (by decide +kernel)
theorem aw_961 : (Jvm.Cond.selects "PhaserYardModel" ({ cls := "PhaserYardModel", name := "future", desc := "(I)I" } : Jvm.MethodName) ({ cls := "PhaserYardModel", name := "future", desc := "(I)I" } : Jvm.MethodName)) ∈ am_words := am_in 961 (by decide +kernel) (by decide +kernel)
theorem aw_962 : (Jvm.Cond.code ({ cls := "PhaserYardModel", name := "future", desc := "(I)I" } : Jvm.MethodName) prog_9_method_37_code (2 : Nat) (Option.some Jvm.ClassFile.FieldType.int)) ∈ am_words := am_in 962 (by decide +kernel) (by decide +kernel)
theorem aw_963 : (Jvm.Cond.methodLink "PhaserYardLaw" (91 : Nat) ({ cls := "PhaserYardModel", name := "count", desc := "(I)I" } : Jvm.MethodName)) ∈ am_words := am_in 963 (by decide +kernel) (by decide +kernel)
theorem aw_964 : (Jvm.Cond.instanceMethod ({ cls := "PhaserYardModel", name := "count", desc := "(I)I" } : Jvm.MethodName)) ∈ am_words := am_in 964 (by decide +kernel) (by decide +kernel)
theorem aw_965 : (Jvm.Cond.selects "PhaserYardModel" ({ cls := "PhaserYardModel", name := "count", desc := "(I)I" } : Jvm.MethodName) ({ cls := "PhaserYardModel", name := "count", desc := "(I)I" } : Jvm.MethodName)) ∈ am_words := am_in 965 (by decide +kernel) (by decide +kernel)
theorem aw_966 : (Jvm.Cond.code ({ cls := "PhaserYardModel", name := "count", desc := "(I)I" } : Jvm.MethodName) prog_9_method_39_code (5 : Nat) (Option.some Jvm.ClassFile.FieldType.int)) ∈ am_words := am_in 966 (by decide +kernel) (by decide +kernel)
theorem aw_967 : (Jvm.Cond.methodLink "PhaserYardModel" (225 : Nat) ({ cls := "PhaserYardModel", name := "queuedAt", desc := "(II)I" } : Jvm.MethodName)) ∈ am_words := am_in 967 (by decide +kernel) (by decide +kernel)
theorem aw_969 : (Jvm.Cond.instanceMethod ({ cls := "PhaserYardModel", name := "queuedAt", desc := "(II)I" } : Jvm.MethodName)) ∈ am_words := am_in 969 (by decide +kernel) (by decide +kernel)
theorem aw_970 : (Jvm.Cond.code ({ cls := "PhaserYardModel", name := "queuedAt", desc := "(II)I" } : Jvm.MethodName) prog_9_method_38_code (3 : Nat) (Option.some Jvm.ClassFile.FieldType.int)) ∈ am_words := am_in 970 (by decide +kernel) (by decide +kernel)
theorem aw_971 : (Jvm.Cond.arrayClass Jvm.ClassFile.FieldType.long) ∈ am_words := am_in 971 (by decide +kernel) (by decide +kernel)
theorem am_uw0 : ∀ w ∈ u_ws RX0 TX0 3, w ∈ am_words := fun w h => by
  have e : (u_ws RX0 TX0 3).all (fun w => decide (w ∈ tables_1) && goodWord w) = true := by decide +kernel
  have e1 := List.all_eq_true.mp e w h
  simp only [Bool.and_eq_true, decide_eq_true_eq] at e1
  exact List.mem_filter.mpr ⟨List.mem_append_right _ e1.1, e1.2⟩
theorem am_uw1 : ∀ w ∈ u_ws RX1 TX1 4, w ∈ am_words := fun w h => by
  have e : (u_ws RX1 TX1 4).all (fun w => decide (w ∈ tables_1) && goodWord w) = true := by decide +kernel
  have e1 := List.all_eq_true.mp e w h
  simp only [Bool.and_eq_true, decide_eq_true_eq] at e1
  exact List.mem_filter.mpr ⟨List.mem_append_right _ e1.1, e1.2⟩
theorem am_uw2 : ∀ w ∈ u_ws RX2 TX2 15, w ∈ am_words := fun w h => by
  have e : (u_ws RX2 TX2 15).all (fun w => decide (w ∈ tables_1) && goodWord w) = true := by decide +kernel
  have e1 := List.all_eq_true.mp e w h
  simp only [Bool.and_eq_true, decide_eq_true_eq] at e1
  exact List.mem_filter.mpr ⟨List.mem_append_right _ e1.1, e1.2⟩
theorem am_uw3 : ∀ w ∈ u_ws RX3 TX3 6, w ∈ am_words := fun w h => by
  have e : (u_ws RX3 TX3 6).all (fun w => decide (w ∈ tables_1) && goodWord w) = true := by decide +kernel
  have e1 := List.all_eq_true.mp e w h
  simp only [Bool.and_eq_true, decide_eq_true_eq] at e1
  exact List.mem_filter.mpr ⟨List.mem_append_right _ e1.1, e1.2⟩
theorem am_uw4 : ∀ w ∈ u_ws RX4 TX4 10, w ∈ am_words := fun w h => by
  have e : (u_ws RX4 TX4 10).all (fun w => decide (w ∈ tables_1) && goodWord w) = true := by decide +kernel
  have e1 := List.all_eq_true.mp e w h
  simp only [Bool.and_eq_true, decide_eq_true_eq] at e1
  exact List.mem_filter.mpr ⟨List.mem_append_right _ e1.1, e1.2⟩
theorem am_uw5 : ∀ w ∈ u_ws RX5 TX5 3, w ∈ am_words := fun w h => by
  have e : (u_ws RX5 TX5 3).all (fun w => decide (w ∈ tables_1) && goodWord w) = true := by decide +kernel
  have e1 := List.all_eq_true.mp e w h
  simp only [Bool.and_eq_true, decide_eq_true_eq] at e1
  exact List.mem_filter.mpr ⟨List.mem_append_right _ e1.1, e1.2⟩
theorem am_uw6 : ∀ w ∈ u_ws RX6 TX6 2, w ∈ am_words := fun w h => by
  have e : (u_ws RX6 TX6 2).all (fun w => decide (w ∈ tables_1) && goodWord w) = true := by decide +kernel
  have e1 := List.all_eq_true.mp e w h
  simp only [Bool.and_eq_true, decide_eq_true_eq] at e1
  exact List.mem_filter.mpr ⟨List.mem_append_right _ e1.1, e1.2⟩
theorem am_uw7 : ∀ w ∈ u_ws RX7 TX7 40, w ∈ am_words := fun w h => by
  have e : (u_ws RX7 TX7 40).all (fun w => decide (w ∈ tables_1) && goodWord w) = true := by decide +kernel
  have e1 := List.all_eq_true.mp e w h
  simp only [Bool.and_eq_true, decide_eq_true_eq] at e1
  exact List.mem_filter.mpr ⟨List.mem_append_right _ e1.1, e1.2⟩
end
section
/-! THE ABSTRACT MACHINE, part 1: all cells that the law has made, as ONE heap of numbered cells: next number, shapes (kind, length), ints, references, longs, cells made, slots made.
Kinds: below 100 an object of that class of vwCl; 100 int[], 101 boolean[], 102 long[], 103 + k an array of class k's objects. Numbers from 1000000 on are arrays that were there before (the script, tables). -/
abbrev am_H : Type := Nat × (Nat → Nat × Nat) × (Nat → Nat → Int32) × (Nat → Nat → Option Nat) × (Nat → Nat → Int64) × Nat × Nat
def am_nx (H : am_H) : Nat := H.1
def am_sh (H : am_H) : Nat → Nat × Nat := H.2.1
def am_gi (H : am_H) : Nat → Nat → Int32 := H.2.2.1
def am_gr (H : am_H) : Nat → Nat → Option Nat := H.2.2.2.1
def am_gl (H : am_H) : Nat → Nat → Int64 := H.2.2.2.2.1
def am_nc (H : am_H) : Nat := H.2.2.2.2.2.1
def am_nz (H : am_H) : Nat := H.2.2.2.2.2.2
def am_u2 {α : Type} (f : Nat → Nat → α) (a k : Nat) (v : α) : Nat → Nat → α := fun x y => if x = a ∧ y = k then v else f x y
def am_si (H : am_H) (a k : Nat) (v : Int32) : am_H := (am_nx H, am_sh H, am_u2 (am_gi H) a k v, am_gr H, am_gl H, am_nc H, am_nz H)
def am_sr (H : am_H) (a k : Nat) (v : Option Nat) : am_H := (am_nx H, am_sh H, am_gi H, am_u2 (am_gr H) a k v, am_gl H, am_nc H, am_nz H)
def am_sl (H : am_H) (a k : Nat) (v : Int64) : am_H := (am_nx H, am_sh H, am_gi H, am_gr H, am_u2 (am_gl H) a k v, am_nc H, am_nz H)
/-- a row of ints anew -/
def am_sf (H : am_H) (a : Nat) (f : Nat → Int32) : am_H := (am_nx H, am_sh H, (fun x y => if x = a then f y else am_gi H x y), am_gr H, am_gl H, am_nc H, am_nz H)
/-- a new cell of kind k with n slots -/
def am_nw (H : am_H) (k n : Nat) : am_H := (am_nx H + 1, va_up (am_sh H) (am_nx H) (k, n), (fun x y => if x = am_nx H then 0 else am_gi H x y), (fun x y => if x = am_nx H then none else am_gr H x y), (fun x y => if x = am_nx H then 0 else am_gl H x y), am_nc H + 1, am_nz H + n)
/-- cells that are made and forgotten (an exception) -/
def am_ga (H : am_H) (k n : Nat) : am_H := (am_nx H, am_sh H, am_gi H, am_gr H, am_gl H, am_nc H + k, am_nz H + n)
theorem am_u2_self {α : Type} (f : Nat → Nat → α) (a k : Nat) (v : α) : am_u2 f a k v a k = v := by simp [am_u2]
theorem am_u2_ne {α : Type} (f : Nat → Nat → α) {a k x y : Nat} (v : α) (h : ¬ (x = a ∧ y = k)) : am_u2 f a k v x y = f x y := by simp only [am_u2, if_neg h]
-- values
def am_cv (ρ : Nat → Nat) (v : Value) : Value := match v with
  | .ref b => .ref (ρ b)
  | .int x => .int x
  | .long x => .long x
  | .float x => .float x
  | .double x => .double x
  | .null => .null
  | .retAddr x => .retAddr x
theorem am_cv_cat (ρ : Nat → Nat) (v : Value) : (am_cv ρ v).category = v.category := by cases v <;> rfl
theorem am_cv_rf (ρ : Nat → Nat) (r : Option Nat) : am_cv ρ (va_rf r) = va_rf (r.map ρ) := by cases r <;> rfl
def am_ok (n : Nat) (v : Value) : Prop := match v with
  | .ref b => b < n ∨ 1000000 ≤ b
  | _ => True
def am_cl (ρ : Nat → Nat) (lv : List (Nat × Value)) : List (Nat × Value) := lv.map (fun q => (q.1, am_cv ρ q.2))
def am_ext (n : Nat) (ρ ρ' : Nat → Nat) : Prop := ∀ b, (b < n ∨ 1000000 ≤ b) → ρ' b = ρ b
theorem am_ext.rf {n : Nat} {ρ : Nat → Nat} : am_ext n ρ ρ := fun _ _ => rfl
theorem am_ext.trans {n k : Nat} {ρ ρ1 ρ2 : Nat → Nat} (h1 : am_ext n ρ ρ1) (h2 : am_ext k ρ1 ρ2) (hn : n ≤ k) : am_ext n ρ ρ2 := fun b hb => (h2 b (by omega)).trans (h1 b hb)
theorem am_cv_ext {n : Nat} {ρ ρ' : Nat → Nat} (h : am_ext n ρ ρ') {v : Value} (hv : am_ok n v) : am_cv ρ' v = am_cv ρ v := by
  cases v with
  | ref b => show Value.ref (ρ' b) = Value.ref (ρ b); rw [h b hv]
  | _ => rfl
theorem am_cvs_ext {n : Nat} {ρ ρ' : Nat → Nat} (h : am_ext n ρ ρ') {st : List Value} (hv : ∀ v ∈ st, am_ok n v) : st.map (am_cv ρ') = st.map (am_cv ρ) := List.map_congr_left fun v m => am_cv_ext h (hv v m)
theorem am_cl_ext {n : Nat} {ρ ρ' : Nat → Nat} (h : am_ext n ρ ρ') {lv : List (Nat × Value)} (hv : ∀ q ∈ lv, am_ok n q.2) : am_cl ρ' lv = am_cl ρ lv := List.map_congr_left fun q m => by rw [am_cv_ext h (hv q m)]
-- cells
def am_fs (ρ : Nat → Nat) (H : am_H) (a k n : Nat) : List Value := (List.range n).map (fun i => if am_isr k i = true then va_rf ((am_gr H a i).map ρ) else .int (am_gi H a i))
def am_cell (τ : Nat → ClassId) (ρ : Nat → Nat) (H : am_H) (a : Nat) : va_E :=
  if (am_sh H a).1 < 100 then .inr ((am_sh H a).1, am_fs ρ H a (am_sh H a).1 (am_sh H a).2)
  else if (am_sh H a).1 < 102 then .inl (τ (am_sh H a).1, (am_sh H a).2, .inl (am_gi H a))
  else if (am_sh H a).1 < 103 then .inl (τ (am_sh H a).1, (am_sh H a).2, .inr (.inl (am_gl H a)))
  else .inl (τ (am_sh H a).1, (am_sh H a).2, .inr (.inr (.inr (.inr (fun i => (am_gr H a i).map ρ)))))
theorem am_cell_o {τ : Nat → ClassId} {ρ : Nat → Nat} {H : am_H} {a k n : Nat} (h : am_sh H a = (k, n)) (hk : k < 100) : am_cell τ ρ H a = .inr (k, am_fs ρ H a k n) := by
  simp only [am_cell, h, if_pos hk]
theorem am_cell_i {τ : Nat → ClassId} {ρ : Nat → Nat} {H : am_H} {a n : Nat} (h : am_sh H a = (100, n)) : am_cell τ ρ H a = .inl (τ 100, n, .inl (am_gi H a)) := by
  simp [am_cell, h]
theorem am_cell_z {τ : Nat → ClassId} {ρ : Nat → Nat} {H : am_H} {a n : Nat} (h : am_sh H a = (101, n)) : am_cell τ ρ H a = .inl (τ 101, n, .inl (am_gi H a)) := by
  simp [am_cell, h]
theorem am_cell_l {τ : Nat → ClassId} {ρ : Nat → Nat} {H : am_H} {a n : Nat} (h : am_sh H a = (102, n)) : am_cell τ ρ H a = .inl (τ 102, n, .inr (.inl (am_gl H a))) := by
  simp [am_cell, h]
theorem am_cell_q {τ : Nat → ClassId} {ρ : Nat → Nat} {H : am_H} {a k n : Nat} (h : am_sh H a = (103 + k, n)) : am_cell τ ρ H a = .inl (τ (103 + k), n, .inr (.inr (.inr (.inr (fun i => (am_gr H a i).map ρ))))) := by
  simp only [am_cell, h]
  rw [if_neg (by omega), if_neg (by omega), if_neg (by omega)]
theorem am_fs_at {ρ : Nat → Nat} {H : am_H} {a k n i : Nat} (hi : i < n) : (am_fs ρ H a k n)[i]? = some (if am_isr k i = true then va_rf ((am_gr H a i).map ρ) else .int (am_gi H a i)) := by
  simp [am_fs, hi]
theorem am_fs_len {ρ : Nat → Nat} {H : am_H} {a k n : Nat} : (am_fs ρ H a k n).length = n := by simp [am_fs]
def am_ws (τ : Nat → ClassId) (ρ : Nat → Nat) (H : am_H) : va_W := (List.range (am_nx H)).map (fun a => (ρ a, am_cell τ ρ H a))
theorem am_ws_at {τ : Nat → ClassId} {ρ : Nat → Nat} {H : am_H} {a : Nat} (h : a < am_nx H) : (am_ws τ ρ H)[a]? = some (ρ a, am_cell τ ρ H a) := by
  simp [am_ws, h]
theorem am_ws_set {τ : Nat → ClassId} {ρ : Nat → Nat} {H H2 : am_H} {a : Nat} {e : va_E} (hn : am_nx H2 = am_nx H) (he : am_cell τ ρ H2 a = e) (ho : ∀ b, b ≠ a → am_cell τ ρ H2 b = am_cell τ ρ H b) : (am_ws τ ρ H).set a (ρ a, e) = am_ws τ ρ H2 := by
  subst he
  apply List.ext_getElem?
  intro j
  unfold am_ws
  rw [hn, List.getElem?_set]
  by_cases hj : a = j
  · subst hj
    by_cases hl : a < am_nx H
    · simp [hl]
    · simp [hl]
  · simp only [if_neg hj, List.getElem?_map]
    by_cases hl : j < am_nx H
    · simp [hl, ho j (fun h => hj h.symm)]
    · simp [hl]
theorem am_cell_si {τ : Nat → ClassId} {ρ : Nat → Nat} {H : am_H} {a i b : Nat} {v : Int32} (h : b ≠ a) : am_cell τ ρ (am_si H a i v) b = am_cell τ ρ H b := by
  have e1 : am_gi (am_si H a i v) b = am_gi H b := by funext y; exact am_u2_ne _ _ (fun q => h q.1)
  have e2 : ∀ k n, am_fs ρ (am_si H a i v) b k n = am_fs ρ H b k n := fun k n => by unfold am_fs; rw [e1]; rfl
  unfold am_cell
  rw [e1, e2]; rfl
theorem am_cell_sf {τ : Nat → ClassId} {ρ : Nat → Nat} {H : am_H} {a b : Nat} {f : Nat → Int32} (h : b ≠ a) : am_cell τ ρ (am_sf H a f) b = am_cell τ ρ H b := by
  have e1 : am_gi (am_sf H a f) b = am_gi H b := by funext y; exact if_neg h
  have e2 : ∀ k n, am_fs ρ (am_sf H a f) b k n = am_fs ρ H b k n := fun k n => by unfold am_fs; rw [e1]; rfl
  unfold am_cell
  rw [e1, e2]; rfl
theorem am_cell_sl {τ : Nat → ClassId} {ρ : Nat → Nat} {H : am_H} {a i b : Nat} {v : Int64} (h : b ≠ a) : am_cell τ ρ (am_sl H a i v) b = am_cell τ ρ H b := by
  have e1 : am_gl (am_sl H a i v) b = am_gl H b := by funext y; exact am_u2_ne _ _ (fun q => h q.1)
  unfold am_cell
  rw [e1]; rfl
theorem am_cell_sr {τ : Nat → ClassId} {ρ : Nat → Nat} {H : am_H} {a i b : Nat} {v : Option Nat} (h : b ≠ a) : am_cell τ ρ (am_sr H a i v) b = am_cell τ ρ H b := by
  have e1 : am_gr (am_sr H a i v) b = am_gr H b := by funext y; exact am_u2_ne _ _ (fun q => h q.1)
  have e2 : ∀ k n, am_fs ρ (am_sr H a i v) b k n = am_fs ρ H b k n := fun k n => by unfold am_fs; rw [e1]; rfl
  unfold am_cell
  rw [e1, e2]; rfl
theorem am_fs_si {ρ : Nat → Nat} {H : am_H} {a k n i : Nat} {v : Int32} (hr : am_isr k i = false) : (am_fs ρ H a k n).set i (.int v) = am_fs ρ (am_si H a i v) a k n := by
  apply List.ext_getElem?
  intro j
  unfold am_fs
  rw [List.getElem?_set]
  by_cases hj : i = j
  · subst hj
    by_cases hl : i < n
    · simp [hl, hr, am_gi, am_si, am_u2]
    · simp [hl]
  · have e1 : am_gi (am_si H a i v) a j = am_gi H a j := am_u2_ne _ _ (fun q => hj q.2.symm)
    by_cases hl : j < n
    · simp [hj, hl, e1]; rfl
    · simp [hj, hl]
theorem am_fs_sr {ρ : Nat → Nat} {H : am_H} {a k n i : Nat} {v : Option Nat} (hr : am_isr k i = true) : (am_fs ρ H a k n).set i (va_rf (v.map ρ)) = am_fs ρ (am_sr H a i v) a k n := by
  apply List.ext_getElem?
  intro j
  unfold am_fs
  rw [List.getElem?_set]
  by_cases hj : i = j
  · subst hj
    by_cases hl : i < n
    · simp [hl, hr, am_gr, am_sr, am_u2]
    · simp [hl]
  · have e1 : am_gr (am_sr H a i v) a j = am_gr H a j := am_u2_ne _ _ (fun q => hj q.2.symm)
    by_cases hl : j < n
    · simp [hj, hl, e1]; rfl
    · simp [hj, hl]
theorem am_ws_nw {τ : Nat → ClassId} {ρ : Nat → Nat} {H : am_H} {k n q : Nat} {e : va_E} (hg : ∀ a i b, am_gr H a i = some b → b < am_nx H) (he : am_cell τ (va_up ρ (am_nx H) q) (am_nw H k n) (am_nx H) = e) : am_ws τ ρ H ++ [(q, e)] = am_ws τ (va_up ρ (am_nx H) q) (am_nw H k n) := by
  subst he
  have hc : ∀ a, a < am_nx H → am_cell τ (va_up ρ (am_nx H) q) (am_nw H k n) a = am_cell τ ρ H a := by
    intro a ha
    have hne : a ≠ am_nx H := by omega
    have e0 : am_sh (am_nw H k n) a = am_sh H a := va_up_ne _ _ hne
    have e1 : am_gi (am_nw H k n) a = am_gi H a := by funext y; exact if_neg hne
    have e2 : am_gl (am_nw H k n) a = am_gl H a := by funext y; exact if_neg hne
    have e3 : am_gr (am_nw H k n) a = am_gr H a := by funext y; exact if_neg hne
    have e4 : ∀ i, (am_gr H a i).map (va_up ρ (am_nx H) q) = (am_gr H a i).map ρ := by
      intro i
      cases hr : am_gr H a i with
      | none => rfl
      | some b => show some _ = some _; rw [va_up_ne _ _ (show b ≠ am_nx H by have := hg a i b hr; omega)]
    unfold am_cell am_fs
    rw [e0, e1, e2, e3]
    simp only [e4]
  unfold am_ws
  rw [show am_nx (am_nw H k n) = am_nx H + 1 from rfl, List.range_succ, List.map_append]
  congr 1
  · apply List.map_congr_left
    intro a ha
    have ha' : a < am_nx H := List.mem_range.mp ha
    rw [hc a ha', va_up_ne _ _ (show a ≠ am_nx H by omega)]
  · simp [va_up_self]
/-! THE ABSTRACT MACHINE, part 0: what was there before the law began and stays: arrays (the script, the class's tables), static fields, texts, array classes, links between nest mates. -/
/-- a static field that was there before, of a class that lays it, holds a reference or null -/
def am_Sq (z : String × String × String) (B0 : Nat) (U : State) (hp : Heap) : Prop := ∃ (c : ClassId) (k : Class) (i : Nat) (f : Field) (a : Nat) (cell : Cell) (v : Value), (U.vm.findClass z.1 = some c ∧ U.fieldFound? z.1 z.2.1 z.2.2 = some (c, k, i, f) ∧ k.statics = some a ∧ k.staticTypes[f.slot]? = some f.type) ∧ (f.isStatic = true ∧ hp[a]? = some cell ∧ cell.vm.isStatics = true ∧ cell.cls = c ∧ cell.slots[f.slot]? = some v ∧ v.isRef = true ∧ a < B0)
theorem am_Sq.moved {z : String × String × String} {B0 : Nat} {u U : State} {hp : Heap} (hvm : u.vm.Alike U.vm) (h : am_Sq z B0 u hp) : am_Sq z B0 U hp := by
  obtain ⟨c, k, i, f, a, cell, v, ⟨h1, h2, h3, h4⟩, h5⟩ := h
  obtain ⟨k', hi', he⟩ := State.fieldFound?_setVm hvm h2
  exact ⟨c, k', i, f, a, cell, v, ⟨by rw [hvm.findClass]; exact h1, hi', by rw [he]; exact h3, by rw [he]; exact h4⟩, h5⟩
theorem am_Sq.kept {z : String × String × String} {B0 : Nat} {U : State} {hp hp1 : Heap} (h : am_Sq z B0 U hp) (hq : ∀ a, a < B0 → hp1[a]? = hp[a]?) : am_Sq z B0 U hp1 := by
  obtain ⟨c, k, i, f, a, cell, v, h1, h2, h3, h4⟩ := h
  exact ⟨c, k, i, f, a, cell, v, h1, h2, (hq a h4.2.2.2.2).trans h3, h4⟩
theorem am_Sq.lays {z : String × String × String} {B0 : Nat} {s : State} {args : Array Value} (h : am_Sq z B0 s s.heap) : (Cond.laysStatic z.1 z.2.1 z.2.2).before args s = true := by
  obtain ⟨c, k, i, f, a, cell, v, ⟨h1, h2, h3, h4⟩, h5, h6, h7, h8, h9, -⟩ := h
  exact Cond.laysStatic_of h1 h2 h5 h3 h6 h7 h8 (Array.getElem?_eq_some_iff.mp h9).1 h4
theorem am_Sq.isRef {z : String × String × String} {B0 : Nat} {s : State} {args : Array Value} (h : am_Sq z B0 s s.heap) : (Cond.isRef (.static z.1 z.2.1 z.2.2)).before args s = true := by
  obtain ⟨c, k, i, f, a, cell, v, ⟨h1, h2, h3, h4⟩, h5, h6, h7, h8, h9, hv, -⟩ := h
  have he : (Term.static z.1 z.2.1 z.2.2).eval args s none [] s = some v := by
    simp [Term.eval, State.fieldNamed?, h2, h5, h3, h6, h7, h9]
  simp only [Cond.before, Cond.holds, Cond.value, he]
  cases v <;> simp_all [Value.isRef]
theorem am_Sq.of {z : String × String × String} {s : State} {args : Array Value} (hl : (Cond.laysStatic z.1 z.2.1 z.2.2).before args s = true) (hini : (Cond.initialized z.1).before args s = true) (h : (Cond.isRef (.static z.1 z.2.1 z.2.2)).before args s = true) : am_Sq z s.heap.size s s.heap := by
  obtain ⟨c, k, i, f, a, cell, h1, h2, h3, h4, h5, h6, h7, h8, h9⟩ := Cond.laysStatic_spec hl
  have hb := (Array.getElem?_eq_some_iff.mp h5).1
  refine ⟨c, k, i, f, a, cell, cell.slots[f.slot], ⟨h1, h2, h4, h9⟩, h3, h5, h6, h7, Array.getElem?_eq_getElem h8, ?_, hb⟩
  have he : (Term.static z.1 z.2.1 z.2.2).eval args s none [] s = some cell.slots[f.slot] := by
    simp [Term.eval, State.fieldNamed?, h2, h3, h4, h5, h6, Array.getElem?_eq_getElem h8]
  simp only [Cond.before, Cond.holds, Cond.value, he] at h
  generalize cell.slots[f.slot] = v at h
  cases v <;> simp_all [Value.isRef]
def am_O (ox : List (Nat × (Nat → Int32))) (B0 : Nat) (ρ : Nat → Nat) (s : State) : Prop :=
  (∀ (i : Nat) (r : Nat × (Nat → Int32)), ox[i]? = some r → va_X (ρ (1000000 + i)) r.1 r.2 s s.heap ∧ ρ (1000000 + i) < B0) ∧
  (∀ z ∈ am_sts, va_Z z.1 z.2.1 z.2.2.1 (.ref (ρ (1000000 + z.2.2.2))) (fun q => B0 ≤ q) s s.heap) ∧
  (∀ z ∈ am_txs, ∃ sa, vk_R z.1 z.2.1 z.2.2 sa s) ∧ (∀ C ∈ am_aos, va_AO C s) ∧ (∀ w ∈ am_nst, va_Nw w s) ∧ (∀ z ∈ am_tsq, am_Sq z B0 s s.heap) ∧ ∀ z ∈ am_ncs, va_Nc z.1 z.2 s
theorem am_O.ext {ox : List (Nat × (Nat → Int32))} {B0 n : Nat} {ρ ρ' : Nat → Nat} {s : State} (h : am_O ox B0 ρ s) (hx : am_ext n ρ ρ') : am_O ox B0 ρ' s := by
  have e : ∀ i, ρ' (1000000 + i) = ρ (1000000 + i) := fun i => hx _ (Or.inr (Nat.le_add_right _ _))
  refine ⟨fun i r hi => ?_, fun z hz => ?_, h.2.2⟩
  · rw [e]; exact h.1 i r hi
  · rw [e]; exact h.2.1 z hz
theorem am_nst_warm {w : Cond} (hw : w ∈ am_nst) {s U : State} (hW : s.WarmedH U.vm) (h : va_Nw w s) : va_Nw w U := by
  simp only [am_nst, List.mem_cons, List.not_mem_nil, or_false] at hw
  rcases hw with rfl | rfl | rfl | rfl | rfl | rfl | rfl | rfl <;> first | exact va_Nw.warmM hW h | exact va_Nw.warmF hW h | exact va_Nw.warmC hW h
theorem am_nst_tab : ∀ w ∈ am_nst, w.onTables = true := by decide +kernel
theorem am_O.to {ox : List (Nat × (Nat → Int32))} {B0 : Nat} {ρ : Nat → Nat} {s U : State} (h : am_O ox B0 ρ s) (hW : s.WarmedH U.vm) (hk : ∀ x, x < B0 → U.heap[x]? = s.heap[x]?) : am_O ox B0 ρ U := by
  have hk' : ∀ a : Nat, a < s.heap.size → ¬ B0 ≤ a → U.heap[a]? = s.heap[a]? := fun a _ ha => hk a (Nat.not_le.mp ha)
  refine ⟨fun i r hi => ⟨va_X.moved hW.alike ((h.1 i r hi).1.kept (hk _ (h.1 i r hi).2)), (h.1 i r hi).2⟩, fun z hz => va_Z.moved hW.alike ((h.2.1 z hz).kept hk'), fun z hz => ?_, fun C hC => va_AO.moved hW.alike (h.2.2.2.1 C hC), fun w hw => am_nst_warm hw hW (h.2.2.2.2.1 w hw), fun z hz => ((h.2.2.2.2.2.1 z hz).kept hk).moved hW.alike, fun z hz => (h.2.2.2.2.2.2 z hz).moved hW.alike⟩
  obtain ⟨sa, hs⟩ := h.2.2.1 z hz
  exact ⟨sa, hs.warm hW⟩
theorem am_O.calling {ox : List (Nat × (Nat → Int32))} {B0 : Nat} {ρ : Nat → Nat} {U : State} {g : JFrame} {mk : MethodId} {a : Array Value} (h : am_O ox B0 ρ U) : am_O ox B0 ρ (U.calling g mk a) := by
  refine ⟨fun i r hi => ⟨va_X.moved (u := U) (U := U.calling g mk a) (Vm.Alike.refl U.vm) (h.1 i r hi).1, (h.1 i r hi).2⟩, fun z hz => va_Z.moved (u := U) (U := U.calling g mk a) (Vm.Alike.refl U.vm) (h.2.1 z hz), fun z hz => ?_, fun C hC => va_AO.moved (u := U) (U := U.calling g mk a) (Vm.Alike.refl U.vm) (h.2.2.2.1 C hC), fun w hw => va_Nw.same (am_nst_tab w hw) (u := U) (U := U.calling g mk a) rfl (h.2.2.2.2.1 w hw), fun z hz => am_Sq.moved (u := U) (U := U.calling g mk a) (Vm.Alike.refl U.vm) (h.2.2.2.2.2.1 z hz), fun z hz => va_Nc.moved (u := U) (U := U.calling g mk a) (Vm.Alike.refl U.vm) (h.2.2.2.2.2.2 z hz)⟩
  obtain ⟨sa, hs⟩ := h.2.2.1 z hz
  exact ⟨sa, vk_R.same (u := U) (U := U.calling g mk a) rfl hs⟩
/-! THE ABSTRACT MACHINE, part 2: what is fixed while a method runs, the judgement am_V, the contract am_C. -/
def am_A (B0 : Nat) : Nat → Prop := fun q => B0 ≤ q
def am_tys (τ : Nat → ClassId) : List (ClassId × FieldType) := am_kinds.map (fun q => (τ q.1, q.2))
theorem am_tys_at {τ : Nat → ClassId} {t k : Nat} {ty : FieldType} (h : am_kinds[t]? = some (k, ty)) : (am_tys τ)[t]? = some (τ k, ty) := by
  simp [am_tys, h]
/-- the cells in a heap -/
def am_P (dC : Nat → ClassId) (dI : Nat → Nat → Nat) (τ : Nat → ClassId) (B0 : Nat) (ρ : Nat → Nat) (H : am_H) (hp : Heap) : Prop :=
  va_P (dC, dI) vwCl (am_ws τ ρ H) hp ∧ va_D (am_A B0) (am_ws τ ρ H) ∧ (∀ a i b, am_gr H a i = some b → b < am_nx H) ∧ am_nx H ≤ 1000000 ∧ B0 ≤ hp.size
/-- since the method's start the numbering has only grown -/
def am_J (nx0 : Nat) (ρ0 ρ : Nat → Nat) (H : am_H) : Prop := nx0 ≤ am_nx H ∧ (am_nx H = nx0 → ρ = ρ0) ∧ am_ext nx0 ρ0 ρ
/-- a method's end -/
def am_Q (dC : Nat → ClassId) (dI : Nat → Nat → Nat) (τ : Nat → ClassId) (B0 : Nat) (ρ0 : Nat → Nat) (nx0 : Nat) (o : Option Value ⊕ String) (H' : am_H) : Array Value → State → Outcome → State → Prop := fun _ st oc t =>
  (∃ (v : Option Value) (ρ' : Nat → Nat), o = .inl v ∧ oc = .returned (v.map (am_cv ρ')) ∧ am_J nx0 ρ0 ρ' H' ∧ am_P dC dI τ B0 ρ' H' t.heap) ∧ va_F (am_A B0) st t
def am_X (dC : Nat → ClassId) (dI : Nat → Nat → Nat) (τ : Nat → ClassId) (B0 : Nat) (ρ0 : Nat → Nat) (nx0 : Nat) (o : Option Value ⊕ String) (H' : am_H) : String → State → State → Prop := fun E st t =>
  (∃ ρ' : Nat → Nat, o = .inr E ∧ am_J nx0 ρ0 ρ' H' ∧ am_P dC dI τ B0 ρ' H' t.heap) ∧ va_F (am_A B0) st t
/-- where a method has thrown q: the class by its name, its cell, what was written -/
def am_T (XC : String → State → State → Prop) (st : State) (q : Addr) (t : State) (mc ms : Nat) (free : Addr → Prop) : Prop :=
  ∃ (E : String) (ce : Cell), (XC E st t ∧ t.heap[q]? = some ce ∧ ce.vm = .none ∧ st.vm.findClass E = some ce.cls) ∧ ∃ L : List Loc, st.WarmedH t.vm ∧ st.sameButNew ({ t with vm := st.vm } : State) L mc ms ∧ ∀ z ∈ L, free z.base
def am_QQ (Qc : Array Value → State → Outcome → State → Prop) (XC : String → State → State → Prop) (mc ms : Nat) (free : Addr → Prop) : Array Value → State → Outcome → State → Prop := fun a st o t =>
  (Qc a st o t ∧ ∃ L, FrameEnd st o t L mc ms ∧ ∀ q ∈ L, free q.base) ∨ ∃ q, o = .threw q ∧ am_T XC st q t mc ms free
/-- a method that returns, or throws -/
def am_Met (l : Launch) (y : MethodName) (ws : List Cond) (rm : Room) (Pc : Array Value → State → Prop) (Qc : Array Value → State → Outcome → State → Prop) (XC : String → State → State → Prop) (mc ms : Nat) (free : Addr → Prop) : Prop :=
  MetFree l y (headSpec ws rm) Pc (fun _ _ _ _ _ => True) (am_QQ Qc XC mc ms free)
def am_MQ (below : List Frame) (Qc : Array Value → State → Outcome → State → Prop) (XC : String → State → State → Prop) (a : Array Value) (s : State) (mc ms : Nat) (free : Addr → Prop) : State → Prop := fun t =>
  ∃ o, t.status = .running ∧ Ended t below o ∧ am_QQ Qc XC mc ms free a s o t
theorem am_ret {p : Program} {l : Launch} {e : Env} {R : Room} {s : State} {m : MethodId} {args : Array Value} {below : List Frame} {meth : Method} {c : Code} {H : Heap} {locs : List Loc} {cells slots mc ms : Nat} {free : Addr → Prop} {g : JFrame} {Qc : Array Value → State → Outcome → State → Prop} {XC : String → State → State → Prop} (k : W p l e R s m args below meth c H locs cells slots (MQ below Qc args s mc ms free) g) : W p l e R s m args below meth c H locs cells slots (am_MQ below Qc XC args s mc ms free) g := by
  intro T hT X
  obtain ⟨t, a1, o, b1, b2, b3⟩ := k T hT X
  exact ⟨t, a1, o, b1, b2, Or.inl b3⟩
theorem am_ofW {l : Launch} {y : MethodName} {ws ws' : List Cond} {rm : Room} {Pc : Array Value → State → Prop} {Qc : Array Value → State → Outcome → State → Prop} {XC : String → State → State → Prop} {mc ms : Nat} {free : Addr → Prop} {cc : ByteArray} {maxL : Nat} {ret : Option FieldType}
    (hy : plainName y.cls = true) (hw : ws = Cond.code y cc maxL ret :: ws')
    (body : ∀ p e s m args below meth c s₁, BodyLoose p l y (headSpec ws rm) cc maxL ret e s m args below meth c s₁ → c.maxLocals = maxL → c.exceptionTable.toList = [] → Pc args s →
      W p l e (headSpec ws rm).room s m args below meth c s.heap [] 0 0 (am_MQ below Qc XC args s mc ms free) (entryFrame m args maxL)) : am_Met l y ws rm Pc Qc XC mc ms free := by
  have hmem : Cond.code y cc maxL ret ∈ ws := by rw [hw]; exact List.mem_cons_self
  refine MetFree.of_bodyS (code := cc) (maxLocals := maxL) (ret := ret) hy (fun args s m h hn => ?_) (fun p e s m args below meth c s₁ B hml hP _ => ?_)
  · obtain ⟨meth, c, h1, h2, h3, h4, h5, h6, -, -⟩ := Cond.code_spec hn (atoms_spec (ws := ws) h _ hmem)
    exact ⟨meth, c, h1, h2, h3, h4, h5, h6⟩
  · have hh0 : s₁.heap = s.heap := by rw [B.state]; rfl
    obtain ⟨meth9, c9, h1, h2, -, -, -, -, h7, -⟩ := Cond.code_spec B.named (atoms_spec (ws := ws) B.pre _ hmem)
    cases Option.some.inj (h1.symm.trans B.method)
    cases Option.some.inj (h2.symm.trans (Stand.of_body B).code)
    obtain ⟨t, a1, o, b1, b2, b3⟩ := body p e s m args below meth _ s₁ B hml (by rw [Array.isEmpty_iff.mp h7]) hP s₁ hh0 (Stand.of_body B)
    exact ⟨t, o, a1, b1, b2, b3⟩
/-- a method: its class, code, locals, answer's type, name, handlers -/
abbrev am_M : Type := String × ByteArray × Nat × Option FieldType × String × List ExceptionTableEntry
def am_Cx (ox : List (Nat × (Nat → Int32))) (d : Nat) (M : am_M) (l : Launch) (p : Program) (R : Room) (s : State) (m : MethodId) (args : Array Value) (meth : Method) (c : Code) (dC : Nat → ClassId) (dI : Nat → Nat → Nat) (τ : Nat → ClassId) (B0 : Nat) (ρ0 : Nat → Nat) (n0 z0 : Nat) (H' : am_H) : Prop :=
  p.tables.exec = Jvm.exec ∧ c.code = M.2.1 ∧ c.maxLocals = M.2.2.1 ∧ meth.sig.returnType = M.2.2.2.1 ∧ s.vm.findClass M.1 = some m.cls ∧ (∀ w ∈ am_words, w.before args s = true) ∧ meth.locks = false ∧ va_K (dC, dI) vwCl (am_tys τ) s ∧
  l.stackTraces = false ∧ B0 ≤ s.heap.size ∧ d ≤ R.frames ∧ 116 + 26 * d ≤ R.locals ∧ am_nc H' ≤ n0 + R.cells ∧ am_nz H' ≤ z0 + R.slots ∧ (M.2.2.2.2.1 ≠ "" → meth.name = M.2.2.2.2.1) ∧ (M.2.2.2.2.1 ≠ "" → c.exceptionTable.toList = M.2.2.2.2.2) ∧ am_O ox B0 ρ0 s
def am_St (nL : Nat) (lv : List (Nat × Value)) (H : am_H) (s : State) (dC : Nat → ClassId) (dI : Nat → Nat → Nat) (τ : Nat → ClassId) (B0 : Nat) (ρ0 : Nat → Nat) (nx0 n0 z0 : Nat) (ρ : Nat → Nat) (hp : Heap) (locs : List Loc) (cells slots : Nat) (ls : Array Slot) : Prop :=
  am_J nx0 ρ0 ρ H ∧ am_P dC dI τ B0 ρ H hp ∧ va_S (am_A B0) s.heap hp locs ∧ cells + n0 = am_nc H ∧ slots + z0 = am_nz H ∧ lv_has ls nL (am_cl ρ lv)
/-- from this frame the method comes to its end o with the heap H' -/
def am_V (ox : List (Nat × (Nat → Int32))) (d : Nat) (M : am_M) (pc : Nat) (lv : List (Nat × Value)) (st : List Value) (H : am_H) (o : Option Value ⊕ String) (H' : am_H) : Prop :=
  ∀ (l : Launch) (p : Program) (e : Env) (R : Room) (s : State) (m : MethodId) (args : Array Value) (below : List Frame) (meth : Method) (c : Code) (dC : Nat → ClassId) (dI : Nat → Nat → Nat) (τ : Nat → ClassId) (B0 : Nat) (ρ0 : Nat → Nat) (nx0 n0 z0 : Nat),
    am_Cx ox d M l p R s m args meth c dC dI τ B0 ρ0 n0 z0 H' → ∀ (ρ : Nat → Nat) (hp : Heap) (locs : List Loc) (cells slots : Nat) (ls : Array Slot),
      am_St M.2.2.1 lv H s dC dI τ B0 ρ0 nx0 n0 z0 ρ hp locs cells slots ls →
      W p l e R s m args below meth c hp locs cells slots (am_MQ below (am_Q dC dI τ B0 ρ0 nx0 o H') (am_X dC dI τ B0 ρ0 nx0 o H') args s (am_nc H' - n0) (am_nz H' - z0) (am_A B0)) (F0 m pc ls (st.map (am_cv ρ)))
def am_rm (d mc ms : Nat) : Room := { frames := d, cells := mc, slots := ms, locals := 116 + 26 * d }
/-- a method's start -/

def am_B (ox : List (Nat × (Nat → Int32))) (dC : Nat → ClassId) (dI : Nat → Nat → Nat) (τ : Nat → ClassId) (B0 : Nat) (ρ : Nat → Nat) (H : am_H) (U : State) : Prop :=
  am_P dC dI τ B0 ρ H U.heap ∧ va_K (dC, dI) vwCl (am_tys τ) U ∧ am_O ox B0 ρ U
-- locals
def am_lk (i : Nat) : List (Nat × Value) → Option Value
  | [] => none
  | q :: r => if q.1 = i then some q.2 else am_lk i r
theorem am_lk_mem {i : Nat} {v : Value} : ∀ {lv : List (Nat × Value)}, am_lk i lv = some v → (i, v) ∈ lv
  | [], h => by cases h
  | q :: r, h => by
    unfold am_lk at h
    by_cases hq : q.1 = i
    · rw [if_pos hq] at h
      have e : q = (i, v) := by cases q; cases h; cases hq; rfl
      rw [e]; exact List.mem_cons_self
    · rw [if_neg hq] at h
      exact List.mem_cons_of_mem _ (am_lk_mem h)
theorem am_lk_at {ls : Array Slot} {nL i : Nat} {ρ : Nat → Nat} {lv : List (Nat × Value)} {v : Value} (h : lv_has ls nL (am_cl ρ lv)) (hk : am_lk i lv = some v) : ls[i]? = some (.val (am_cv ρ v)) :=
  h.2.2 (i, am_cv ρ v) (List.mem_map.mpr ⟨(i, v), am_lk_mem hk, rfl⟩)
def am_sv (i : Nat) (v : Value) (lv : List (Nat × Value)) : List (Nat × Value) := (i, v) :: lv.filter (fun q => !(q.1 == i) && !(q.1 + 1 == i && q.2.category == 2))
theorem am_sv_cl {i : Nat} {v : Value} {lv : List (Nat × Value)} {ρ : Nat → Nat} : (i, am_cv ρ v) :: (am_cl ρ lv).filter (fun q => !(q.1 == i) && !(q.1 + 1 == i && q.2.category == 2)) = am_cl ρ (am_sv i v lv) := by
  unfold am_cl am_sv
  rw [List.map_cons, List.filter_map]
  congr 2
  apply List.filter_congr
  intro q _
  simp [am_cv_cat]
end
section
section AMR
variable {ox : List (Nat × (Nat → Int32))} {d : Nat} {M : am_M} {pc q : Nat} {lv : List (Nat × Value)} {st : List Value} {H H' : am_H} {o : Option Value ⊕ String}
theorem am_iconst {n : Int} {v : Int32} (hd : decode M.2.1 pc = .ok (.iconst n, 1)) (hv : Int32.ofInt n = v) (hq : pc + 1 = q) (k : am_V ox d M q lv (.int v :: st) H o H') : am_V ox d M pc lv st H o H' := by
  subst hq
  intro l p e R s m args below meth c dC dI τ B0 ρ0 nx0 n0 z0 C ρ hp locs cells slots ls S
  exact lv_iconst C.1 C.2.1 hd hv (k l p e R s m args below meth c dC dI τ B0 ρ0 nx0 n0 z0 C ρ hp locs cells slots ls S)
theorem am_bipush {n : Int} {v : Int32} (hd : decode M.2.1 pc = .ok (.bipush n, 2)) (hv : (Int8.ofInt n).toInt32 = v) (hq : pc + 2 = q) (k : am_V ox d M q lv (.int v :: st) H o H') : am_V ox d M pc lv st H o H' := by
  subst hq
  intro l p e R s m args below meth c dC dI τ B0 ρ0 nx0 n0 z0 C ρ hp locs cells slots ls S
  exact lv_bipush C.1 C.2.1 hd hv (k l p e R s m args below meth c dC dI τ B0 ρ0 nx0 n0 z0 C ρ hp locs cells slots ls S)
theorem am_sipush {n : Int} {v : Int32} (hd : decode M.2.1 pc = .ok (.sipush n, 3)) (hv : (Int16.ofInt n).toInt32 = v) (hq : pc + 3 = q) (k : am_V ox d M q lv (.int v :: st) H o H') : am_V ox d M pc lv st H o H' := by
  subst hq
  intro l p e R s m args below meth c dC dI τ B0 ρ0 nx0 n0 z0 C ρ hp locs cells slots ls S
  exact lv_sipush C.1 C.2.1 hd hv (k l p e R s m args below meth c dC dI τ B0 ρ0 nx0 n0 z0 C ρ hp locs cells slots ls S)
theorem am_ldc {n : Nat} {v : Int32} (hd : decode M.2.1 pc = .ok (.ldc n, 2)) (hv : Cond.constant M.1 n v ∈ am_words) (hq : pc + 2 = q) (k : am_V ox d M q lv (.int v :: st) H o H') : am_V ox d M pc lv st H o H' := by
  subst hq
  intro l p e R s m args below meth c dC dI τ B0 ρ0 nx0 n0 z0 C ρ hp locs cells slots ls S
  exact lv_ldc C.1 C.2.1 C.2.2.2.2.1 (C.2.2.2.2.2.1 _ hv) hd (k l p e R s m args below meth c dC dI τ B0 ρ0 nx0 n0 z0 C ρ hp locs cells slots ls S)
theorem am_iload_n {i : Nat} {x : Int32} {w : Fin 4} (hd : decode M.2.1 pc = .ok (.iload_n w, 1)) (hi : (w : Nat) = i) (hl : am_lk i lv = some (.int x)) (hq : pc + 1 = q) (k : am_V ox d M q lv (.int x :: st) H o H') : am_V ox d M pc lv st H o H' := by
  subst hq
  intro l p e R s m args below meth c dC dI τ B0 ρ0 nx0 n0 z0 C ρ hp locs cells slots ls S
  exact lv_iload_n C.1 C.2.1 hd hi (am_lk_at S.2.2.2.2.2 hl) (k l p e R s m args below meth c dC dI τ B0 ρ0 nx0 n0 z0 C ρ hp locs cells slots ls S)
theorem am_iload {i : Nat} {x : Int32} (hd : decode M.2.1 pc = .ok (.iload i, 2)) (hl : am_lk i lv = some (.int x)) (hq : pc + 2 = q) (k : am_V ox d M q lv (.int x :: st) H o H') : am_V ox d M pc lv st H o H' := by
  subst hq
  intro l p e R s m args below meth c dC dI τ B0 ρ0 nx0 n0 z0 C ρ hp locs cells slots ls S
  exact lv_iload C.1 C.2.1 hd (am_lk_at S.2.2.2.2.2 hl) (k l p e R s m args below meth c dC dI τ B0 ρ0 nx0 n0 z0 C ρ hp locs cells slots ls S)
theorem am_aload_n {i : Nat} {x : Nat} {w : Fin 4} (hd : decode M.2.1 pc = .ok (.aload_n w, 1)) (hi : (w : Nat) = i) (hl : am_lk i lv = some (.ref x)) (hq : pc + 1 = q) (k : am_V ox d M q lv (.ref x :: st) H o H') : am_V ox d M pc lv st H o H' := by
  subst hq
  intro l p e R s m args below meth c dC dI τ B0 ρ0 nx0 n0 z0 C ρ hp locs cells slots ls S
  exact lv_aload_n C.1 C.2.1 hd hi (am_lk_at S.2.2.2.2.2 hl) (k l p e R s m args below meth c dC dI τ B0 ρ0 nx0 n0 z0 C ρ hp locs cells slots ls S)
theorem am_aload {i : Nat} {x : Nat} (hd : decode M.2.1 pc = .ok (.aload i, 2)) (hl : am_lk i lv = some (.ref x)) (hq : pc + 2 = q) (k : am_V ox d M q lv (.ref x :: st) H o H') : am_V ox d M pc lv st H o H' := by
  subst hq
  intro l p e R s m args below meth c dC dI τ B0 ρ0 nx0 n0 z0 C ρ hp locs cells slots ls S
  exact lv_aload C.1 C.2.1 hd (am_lk_at S.2.2.2.2.2 hl) (k l p e R s m args below meth c dC dI τ B0 ρ0 nx0 n0 z0 C ρ hp locs cells slots ls S)
theorem am_iadd {x y : Int32} (hd : decode M.2.1 pc = .ok (.iadd, 1))  (hq : pc + 1 = q) (k : am_V ox d M q lv (.int (x + y) :: st) H o H') : am_V ox d M pc lv (.int y :: .int x :: st) H o H' := by
  subst hq
  intro l p e R s m args below meth c dC dI τ B0 ρ0 nx0 n0 z0 C ρ hp locs cells slots ls S
  exact lv_iadd C.1 C.2.1 hd (k l p e R s m args below meth c dC dI τ B0 ρ0 nx0 n0 z0 C ρ hp locs cells slots ls S)
theorem am_isub {x y : Int32} (hd : decode M.2.1 pc = .ok (.isub, 1))  (hq : pc + 1 = q) (k : am_V ox d M q lv (.int (x - y) :: st) H o H') : am_V ox d M pc lv (.int y :: .int x :: st) H o H' := by
  subst hq
  intro l p e R s m args below meth c dC dI τ B0 ρ0 nx0 n0 z0 C ρ hp locs cells slots ls S
  exact lv_isub C.1 C.2.1 hd (k l p e R s m args below meth c dC dI τ B0 ρ0 nx0 n0 z0 C ρ hp locs cells slots ls S)
theorem am_imul {x y : Int32} (hd : decode M.2.1 pc = .ok (.imul, 1))  (hq : pc + 1 = q) (k : am_V ox d M q lv (.int (x * y) :: st) H o H') : am_V ox d M pc lv (.int y :: .int x :: st) H o H' := by
  subst hq
  intro l p e R s m args below meth c dC dI τ B0 ρ0 nx0 n0 z0 C ρ hp locs cells slots ls S
  exact lv_imul C.1 C.2.1 hd (k l p e R s m args below meth c dC dI τ B0 ρ0 nx0 n0 z0 C ρ hp locs cells slots ls S)
theorem am_iand {x y : Int32} (hd : decode M.2.1 pc = .ok (.iand, 1))  (hq : pc + 1 = q) (k : am_V ox d M q lv (.int (x &&& y) :: st) H o H') : am_V ox d M pc lv (.int y :: .int x :: st) H o H' := by
  subst hq
  intro l p e R s m args below meth c dC dI τ B0 ρ0 nx0 n0 z0 C ρ hp locs cells slots ls S
  exact lv_iand C.1 C.2.1 hd (k l p e R s m args below meth c dC dI τ B0 ρ0 nx0 n0 z0 C ρ hp locs cells slots ls S)
theorem am_ior {x y : Int32} (hd : decode M.2.1 pc = .ok (.ior, 1))  (hq : pc + 1 = q) (k : am_V ox d M q lv (.int (x ||| y) :: st) H o H') : am_V ox d M pc lv (.int y :: .int x :: st) H o H' := by
  subst hq
  intro l p e R s m args below meth c dC dI τ B0 ρ0 nx0 n0 z0 C ρ hp locs cells slots ls S
  exact lv_ior C.1 C.2.1 hd (k l p e R s m args below meth c dC dI τ B0 ρ0 nx0 n0 z0 C ρ hp locs cells slots ls S)
theorem am_ixor {x y : Int32} (hd : decode M.2.1 pc = .ok (.ixor, 1))  (hq : pc + 1 = q) (k : am_V ox d M q lv (.int (x ^^^ y) :: st) H o H') : am_V ox d M pc lv (.int y :: .int x :: st) H o H' := by
  subst hq
  intro l p e R s m args below meth c dC dI τ B0 ρ0 nx0 n0 z0 C ρ hp locs cells slots ls S
  exact lv_ixor C.1 C.2.1 hd (k l p e R s m args below meth c dC dI τ B0 ρ0 nx0 n0 z0 C ρ hp locs cells slots ls S)
theorem am_idiv {x y : Int32} (hd : decode M.2.1 pc = .ok (.idiv, 1)) (hne : ¬ y = 0) (hq : pc + 1 = q) (k : am_V ox d M q lv (.int (x / y) :: st) H o H') : am_V ox d M pc lv (.int y :: .int x :: st) H o H' := by
  subst hq
  intro l p e R s m args below meth c dC dI τ B0 ρ0 nx0 n0 z0 C ρ hp locs cells slots ls S
  exact lv_idiv C.1 C.2.1 hd hne (k l p e R s m args below meth c dC dI τ B0 ρ0 nx0 n0 z0 C ρ hp locs cells slots ls S)
theorem am_irem {x y : Int32} (hd : decode M.2.1 pc = .ok (.irem, 1)) (hne : ¬ y = 0) (hq : pc + 1 = q) (k : am_V ox d M q lv (.int (x - x / y * y) :: st) H o H') : am_V ox d M pc lv (.int y :: .int x :: st) H o H' := by
  subst hq
  intro l p e R s m args below meth c dC dI τ B0 ρ0 nx0 n0 z0 C ρ hp locs cells slots ls S
  exact lv_irem C.1 C.2.1 hd hne (k l p e R s m args below meth c dC dI τ B0 ρ0 nx0 n0 z0 C ρ hp locs cells slots ls S)
theorem am_ineg {x : Int32} (hd : decode M.2.1 pc = .ok (.ineg, 1))  (hq : pc + 1 = q) (k : am_V ox d M q lv (.int (-x) :: st) H o H') : am_V ox d M pc lv (.int x :: st) H o H' := by
  subst hq
  intro l p e R s m args below meth c dC dI τ B0 ρ0 nx0 n0 z0 C ρ hp locs cells slots ls S
  exact lv_ineg C.1 C.2.1 hd (k l p e R s m args below meth c dC dI τ B0 ρ0 nx0 n0 z0 C ρ hp locs cells slots ls S)
theorem am_ishl {x y : Int32} (hd : decode M.2.1 pc = .ok (.ishl, 1))  (hq : pc + 1 = q) (k : am_V ox d M q lv (.int (x <<< (y &&& 31)) :: st) H o H') : am_V ox d M pc lv (.int y :: .int x :: st) H o H' := by
  subst hq
  intro l p e R s m args below meth c dC dI τ B0 ρ0 nx0 n0 z0 C ρ hp locs cells slots ls S
  exact lv_ishl C.1 C.2.1 hd (k l p e R s m args below meth c dC dI τ B0 ρ0 nx0 n0 z0 C ρ hp locs cells slots ls S)
theorem am_ishr {x y : Int32} (hd : decode M.2.1 pc = .ok (.ishr, 1))  (hq : pc + 1 = q) (k : am_V ox d M q lv (.int (x >>> (y &&& 31)) :: st) H o H') : am_V ox d M pc lv (.int y :: .int x :: st) H o H' := by
  subst hq
  intro l p e R s m args below meth c dC dI τ B0 ρ0 nx0 n0 z0 C ρ hp locs cells slots ls S
  exact lv_ishr C.1 C.2.1 hd (k l p e R s m args below meth c dC dI τ B0 ρ0 nx0 n0 z0 C ρ hp locs cells slots ls S)
theorem am_i2l {x : Int32} (hd : decode M.2.1 pc = .ok (.i2l, 1))  (hq : pc + 1 = q) (k : am_V ox d M q lv (.long x.toInt64 :: st) H o H') : am_V ox d M pc lv (.int x :: st) H o H' := by
  subst hq
  intro l p e R s m args below meth c dC dI τ B0 ρ0 nx0 n0 z0 C ρ hp locs cells slots ls S
  exact lv_i2l C.1 C.2.1 hd rfl (k l p e R s m args below meth c dC dI τ B0 ρ0 nx0 n0 z0 C ρ hp locs cells slots ls S)
theorem am_lcmp {x y : Int64} (hd : decode M.2.1 pc = .ok (.lcmp, 1))  (hq : pc + 1 = q) (k : am_V ox d M q lv (.int (lg_cmp x y) :: st) H o H') : am_V ox d M pc lv (.long y :: .long x :: st) H o H' := by
  subst hq
  intro l p e R s m args below meth c dC dI τ B0 ρ0 nx0 n0 z0 C ρ hp locs cells slots ls S
  exact W.lcmp C.1 C.2.1 hd (k l p e R s m args below meth c dC dI τ B0 ρ0 nx0 n0 z0 C ρ hp locs cells slots ls S)
theorem am_dup {a : Value} (hd : decode M.2.1 pc = .ok (.dup, 1)) (ha : a.category = 1) (hq : pc + 1 = q) (k : am_V ox d M q lv (a :: a :: st) H o H') : am_V ox d M pc lv (a :: st) H o H' := by
  subst hq
  intro l p e R s m args below meth c dC dI τ B0 ρ0 nx0 n0 z0 C ρ hp locs cells slots ls S
  exact lv_dup C.1 C.2.1 hd (by rw [am_cv_cat]; exact ha) (k l p e R s m args below meth c dC dI τ B0 ρ0 nx0 n0 z0 C ρ hp locs cells slots ls S)
theorem am_pop {a : Value} (hd : decode M.2.1 pc = .ok (.pop, 1)) (ha : a.category = 1) (hq : pc + 1 = q) (k : am_V ox d M q lv st H o H') : am_V ox d M pc lv (a :: st) H o H' := by
  subst hq
  intro l p e R s m args below meth c dC dI τ B0 ρ0 nx0 n0 z0 C ρ hp locs cells slots ls S
  exact lv_pop C.1 C.2.1 hd (by rw [am_cv_cat]; exact ha) (k l p e R s m args below meth c dC dI τ B0 ρ0 nx0 n0 z0 C ρ hp locs cells slots ls S)
theorem am_dup_x1 {a b : Value} (hd : decode M.2.1 pc = .ok (.dup_x1, 1)) (ha : a.category = 1) (hb : b.category = 1) (hq : pc + 1 = q) (k : am_V ox d M q lv (a :: b :: a :: st) H o H') : am_V ox d M pc lv (a :: b :: st) H o H' := by
  subst hq
  intro l p e R s m args below meth c dC dI τ B0 ρ0 nx0 n0 z0 C ρ hp locs cells slots ls S
  exact lv_dup_x1 C.1 C.2.1 hd (by rw [am_cv_cat]; exact ha) (by rw [am_cv_cat]; exact hb) (k l p e R s m args below meth c dC dI τ B0 ρ0 nx0 n0 z0 C ρ hp locs cells slots ls S)
theorem am_dup2 {a b : Value} (hd : decode M.2.1 pc = .ok (.dup2, 1)) (ha : a.category = 1) (hb : b.category = 1) (hq : pc + 1 = q) (k : am_V ox d M q lv (a :: b :: a :: b :: st) H o H') : am_V ox d M pc lv (a :: b :: st) H o H' := by
  subst hq
  intro l p e R s m args below meth c dC dI τ B0 ρ0 nx0 n0 z0 C ρ hp locs cells slots ls S
  exact lv_dup2_11 C.1 C.2.1 hd (by rw [am_cv_cat]; exact ha) (by rw [am_cv_cat]; exact hb) (k l p e R s m args below meth c dC dI τ B0 ρ0 nx0 n0 z0 C ρ hp locs cells slots ls S)
theorem am_goto {off : Int} (hd : decode M.2.1 pc = .ok (.goto off, 3)) (ht : (pc : Int) + off = (q : Int)) (k : am_V ox d M q lv st H o H') : am_V ox d M pc lv st H o H' := by
  intro l p e R s m args below meth c dC dI τ B0 ρ0 nx0 n0 z0 C ρ hp locs cells slots ls S
  exact lv_goto C.1 C.2.1 hd ht (k l p e R s m args below meth c dC dI τ B0 ρ0 nx0 n0 z0 C ρ hp locs cells slots ls S)
theorem am_if_eq {x : Int32} {off : Int} {t : Nat} (hd : decode M.2.1 pc = .ok (.ifCond .eq off, 3)) (ht : (pc : Int) + off = (t : Int)) (hq : pc + 3 = q) (kt : x = 0 → am_V ox d M t lv st H o H') (kf : ¬ x = 0 → am_V ox d M q lv st H o H') : am_V ox d M pc lv (.int x :: st) H o H' := by
  subst hq
  intro l p e R s m args below meth c dC dI τ B0 ρ0 nx0 n0 z0 C ρ hp locs cells slots ls S
  exact lv_if_eq C.1 C.2.1 hd ht (fun h => kt h l p e R s m args below meth c dC dI τ B0 ρ0 nx0 n0 z0 C ρ hp locs cells slots ls S) (fun h => kf h l p e R s m args below meth c dC dI τ B0 ρ0 nx0 n0 z0 C ρ hp locs cells slots ls S)
theorem am_icmp_eq {x y : Int32} {off : Int} {t : Nat} (hd : decode M.2.1 pc = .ok (.if_icmp .eq off, 3)) (ht : (pc : Int) + off = (t : Int)) (hq : pc + 3 = q) (kt : x = y → am_V ox d M t lv st H o H') (kf : ¬ x = y → am_V ox d M q lv st H o H') : am_V ox d M pc lv (.int y :: .int x :: st) H o H' := by
  subst hq
  intro l p e R s m args below meth c dC dI τ B0 ρ0 nx0 n0 z0 C ρ hp locs cells slots ls S
  exact lv_icmp_eq C.1 C.2.1 hd ht (fun h => kt h l p e R s m args below meth c dC dI τ B0 ρ0 nx0 n0 z0 C ρ hp locs cells slots ls S) (fun h => kf h l p e R s m args below meth c dC dI τ B0 ρ0 nx0 n0 z0 C ρ hp locs cells slots ls S)
theorem am_if_ne {x : Int32} {off : Int} {t : Nat} (hd : decode M.2.1 pc = .ok (.ifCond .ne off, 3)) (ht : (pc : Int) + off = (t : Int)) (hq : pc + 3 = q) (kt : ¬ x = 0 → am_V ox d M t lv st H o H') (kf : x = 0 → am_V ox d M q lv st H o H') : am_V ox d M pc lv (.int x :: st) H o H' := by
  subst hq
  intro l p e R s m args below meth c dC dI τ B0 ρ0 nx0 n0 z0 C ρ hp locs cells slots ls S
  exact lv_if_ne C.1 C.2.1 hd ht (fun h => kt h l p e R s m args below meth c dC dI τ B0 ρ0 nx0 n0 z0 C ρ hp locs cells slots ls S) (fun h => kf h l p e R s m args below meth c dC dI τ B0 ρ0 nx0 n0 z0 C ρ hp locs cells slots ls S)
theorem am_icmp_ne {x y : Int32} {off : Int} {t : Nat} (hd : decode M.2.1 pc = .ok (.if_icmp .ne off, 3)) (ht : (pc : Int) + off = (t : Int)) (hq : pc + 3 = q) (kt : ¬ x = y → am_V ox d M t lv st H o H') (kf : x = y → am_V ox d M q lv st H o H') : am_V ox d M pc lv (.int y :: .int x :: st) H o H' := by
  subst hq
  intro l p e R s m args below meth c dC dI τ B0 ρ0 nx0 n0 z0 C ρ hp locs cells slots ls S
  exact lv_icmp_ne C.1 C.2.1 hd ht (fun h => kt h l p e R s m args below meth c dC dI τ B0 ρ0 nx0 n0 z0 C ρ hp locs cells slots ls S) (fun h => kf h l p e R s m args below meth c dC dI τ B0 ρ0 nx0 n0 z0 C ρ hp locs cells slots ls S)
theorem am_if_lt {x : Int32} {off : Int} {t : Nat} (hd : decode M.2.1 pc = .ok (.ifCond .lt off, 3)) (ht : (pc : Int) + off = (t : Int)) (hq : pc + 3 = q) (kt : x < 0 → am_V ox d M t lv st H o H') (kf : ¬ x < 0 → am_V ox d M q lv st H o H') : am_V ox d M pc lv (.int x :: st) H o H' := by
  subst hq
  intro l p e R s m args below meth c dC dI τ B0 ρ0 nx0 n0 z0 C ρ hp locs cells slots ls S
  exact lv_if_lt C.1 C.2.1 hd ht (fun h => kt h l p e R s m args below meth c dC dI τ B0 ρ0 nx0 n0 z0 C ρ hp locs cells slots ls S) (fun h => kf h l p e R s m args below meth c dC dI τ B0 ρ0 nx0 n0 z0 C ρ hp locs cells slots ls S)
theorem am_icmp_lt {x y : Int32} {off : Int} {t : Nat} (hd : decode M.2.1 pc = .ok (.if_icmp .lt off, 3)) (ht : (pc : Int) + off = (t : Int)) (hq : pc + 3 = q) (kt : x < y → am_V ox d M t lv st H o H') (kf : ¬ x < y → am_V ox d M q lv st H o H') : am_V ox d M pc lv (.int y :: .int x :: st) H o H' := by
  subst hq
  intro l p e R s m args below meth c dC dI τ B0 ρ0 nx0 n0 z0 C ρ hp locs cells slots ls S
  exact lv_icmp_lt C.1 C.2.1 hd ht (fun h => kt h l p e R s m args below meth c dC dI τ B0 ρ0 nx0 n0 z0 C ρ hp locs cells slots ls S) (fun h => kf h l p e R s m args below meth c dC dI τ B0 ρ0 nx0 n0 z0 C ρ hp locs cells slots ls S)
theorem am_if_ge {x : Int32} {off : Int} {t : Nat} (hd : decode M.2.1 pc = .ok (.ifCond .ge off, 3)) (ht : (pc : Int) + off = (t : Int)) (hq : pc + 3 = q) (kt : 0 ≤ x → am_V ox d M t lv st H o H') (kf : ¬ 0 ≤ x → am_V ox d M q lv st H o H') : am_V ox d M pc lv (.int x :: st) H o H' := by
  subst hq
  intro l p e R s m args below meth c dC dI τ B0 ρ0 nx0 n0 z0 C ρ hp locs cells slots ls S
  exact lv_if_ge C.1 C.2.1 hd ht (fun h => kt h l p e R s m args below meth c dC dI τ B0 ρ0 nx0 n0 z0 C ρ hp locs cells slots ls S) (fun h => kf h l p e R s m args below meth c dC dI τ B0 ρ0 nx0 n0 z0 C ρ hp locs cells slots ls S)
theorem am_icmp_ge {x y : Int32} {off : Int} {t : Nat} (hd : decode M.2.1 pc = .ok (.if_icmp .ge off, 3)) (ht : (pc : Int) + off = (t : Int)) (hq : pc + 3 = q) (kt : y ≤ x → am_V ox d M t lv st H o H') (kf : ¬ y ≤ x → am_V ox d M q lv st H o H') : am_V ox d M pc lv (.int y :: .int x :: st) H o H' := by
  subst hq
  intro l p e R s m args below meth c dC dI τ B0 ρ0 nx0 n0 z0 C ρ hp locs cells slots ls S
  exact lv_icmp_ge C.1 C.2.1 hd ht (fun h => kt h l p e R s m args below meth c dC dI τ B0 ρ0 nx0 n0 z0 C ρ hp locs cells slots ls S) (fun h => kf h l p e R s m args below meth c dC dI τ B0 ρ0 nx0 n0 z0 C ρ hp locs cells slots ls S)
theorem am_if_gt {x : Int32} {off : Int} {t : Nat} (hd : decode M.2.1 pc = .ok (.ifCond .gt off, 3)) (ht : (pc : Int) + off = (t : Int)) (hq : pc + 3 = q) (kt : 0 < x → am_V ox d M t lv st H o H') (kf : ¬ 0 < x → am_V ox d M q lv st H o H') : am_V ox d M pc lv (.int x :: st) H o H' := by
  subst hq
  intro l p e R s m args below meth c dC dI τ B0 ρ0 nx0 n0 z0 C ρ hp locs cells slots ls S
  exact lv_if_gt C.1 C.2.1 hd ht (fun h => kt h l p e R s m args below meth c dC dI τ B0 ρ0 nx0 n0 z0 C ρ hp locs cells slots ls S) (fun h => kf h l p e R s m args below meth c dC dI τ B0 ρ0 nx0 n0 z0 C ρ hp locs cells slots ls S)
theorem am_icmp_gt {x y : Int32} {off : Int} {t : Nat} (hd : decode M.2.1 pc = .ok (.if_icmp .gt off, 3)) (ht : (pc : Int) + off = (t : Int)) (hq : pc + 3 = q) (kt : y < x → am_V ox d M t lv st H o H') (kf : ¬ y < x → am_V ox d M q lv st H o H') : am_V ox d M pc lv (.int y :: .int x :: st) H o H' := by
  subst hq
  intro l p e R s m args below meth c dC dI τ B0 ρ0 nx0 n0 z0 C ρ hp locs cells slots ls S
  exact lv_icmp_gt C.1 C.2.1 hd ht (fun h => kt h l p e R s m args below meth c dC dI τ B0 ρ0 nx0 n0 z0 C ρ hp locs cells slots ls S) (fun h => kf h l p e R s m args below meth c dC dI τ B0 ρ0 nx0 n0 z0 C ρ hp locs cells slots ls S)
theorem am_if_le {x : Int32} {off : Int} {t : Nat} (hd : decode M.2.1 pc = .ok (.ifCond .le off, 3)) (ht : (pc : Int) + off = (t : Int)) (hq : pc + 3 = q) (kt : x ≤ 0 → am_V ox d M t lv st H o H') (kf : ¬ x ≤ 0 → am_V ox d M q lv st H o H') : am_V ox d M pc lv (.int x :: st) H o H' := by
  subst hq
  intro l p e R s m args below meth c dC dI τ B0 ρ0 nx0 n0 z0 C ρ hp locs cells slots ls S
  exact lv_if_le C.1 C.2.1 hd ht (fun h => kt h l p e R s m args below meth c dC dI τ B0 ρ0 nx0 n0 z0 C ρ hp locs cells slots ls S) (fun h => kf h l p e R s m args below meth c dC dI τ B0 ρ0 nx0 n0 z0 C ρ hp locs cells slots ls S)
theorem am_icmp_le {x y : Int32} {off : Int} {t : Nat} (hd : decode M.2.1 pc = .ok (.if_icmp .le off, 3)) (ht : (pc : Int) + off = (t : Int)) (hq : pc + 3 = q) (kt : x ≤ y → am_V ox d M t lv st H o H') (kf : ¬ x ≤ y → am_V ox d M q lv st H o H') : am_V ox d M pc lv (.int y :: .int x :: st) H o H' := by
  subst hq
  intro l p e R s m args below meth c dC dI τ B0 ρ0 nx0 n0 z0 C ρ hp locs cells slots ls S
  exact lv_icmp_le C.1 C.2.1 hd ht (fun h => kt h l p e R s m args below meth c dC dI τ B0 ρ0 nx0 n0 z0 C ρ hp locs cells slots ls S) (fun h => kf h l p e R s m args below meth c dC dI τ B0 ρ0 nx0 n0 z0 C ρ hp locs cells slots ls S)
theorem am_istore_n {i : Nat} {x : Int32} {w : Fin 4} {lv' : List (Nat × Value)} (hd : decode M.2.1 pc = .ok (.istore_n w, 1)) (hi : (w : Nat) = i) (hn : i < M.2.2.1) (hl : am_sv i (.int x) lv = lv') (hq : pc + 1 = q) (k : am_V ox d M q lv' st H o H') : am_V ox d M pc lv (.int x :: st) H o H' := by
  subst hq
  subst hl
  intro l p e R s m args below meth c dC dI τ B0 ρ0 nx0 n0 z0 C ρ hp locs cells slots ls S
  exact lv_istore_n C.1 C.2.1 hd hi S.2.2.2.2.2 hn (am_sv_cl (v := .int x)) (fun ls' hl' => k l p e R s m args below meth c dC dI τ B0 ρ0 nx0 n0 z0 C ρ hp locs cells slots ls' ⟨S.1, S.2.1, S.2.2.1, S.2.2.2.1, S.2.2.2.2.1, hl'⟩)
theorem am_istore {i : Nat} {x : Int32} {lv' : List (Nat × Value)} (hd : decode M.2.1 pc = .ok (.istore i, 2)) (hn : i < M.2.2.1) (hl : am_sv i (.int x) lv = lv') (hq : pc + 2 = q) (k : am_V ox d M q lv' st H o H') : am_V ox d M pc lv (.int x :: st) H o H' := by
  subst hq
  subst hl
  intro l p e R s m args below meth c dC dI τ B0 ρ0 nx0 n0 z0 C ρ hp locs cells slots ls S
  exact lv_istore C.1 C.2.1 hd S.2.2.2.2.2 hn (am_sv_cl (v := .int x)) (fun ls' hl' => k l p e R s m args below meth c dC dI τ B0 ρ0 nx0 n0 z0 C ρ hp locs cells slots ls' ⟨S.1, S.2.1, S.2.2.1, S.2.2.2.1, S.2.2.2.2.1, hl'⟩)
theorem am_astore_n {i : Nat} {x : Nat} {w : Fin 4} {lv' : List (Nat × Value)} (hd : decode M.2.1 pc = .ok (.astore_n w, 1)) (hi : (w : Nat) = i) (hn : i < M.2.2.1) (hl : am_sv i (.ref x) lv = lv') (hq : pc + 1 = q) (k : am_V ox d M q lv' st H o H') : am_V ox d M pc lv (.ref x :: st) H o H' := by
  subst hq
  subst hl
  intro l p e R s m args below meth c dC dI τ B0 ρ0 nx0 n0 z0 C ρ hp locs cells slots ls S
  exact lv_astore_n C.1 C.2.1 hd hi S.2.2.2.2.2 hn (am_sv_cl (v := .ref x)) (fun ls' hl' => k l p e R s m args below meth c dC dI τ B0 ρ0 nx0 n0 z0 C ρ hp locs cells slots ls' ⟨S.1, S.2.1, S.2.2.1, S.2.2.2.1, S.2.2.2.2.1, hl'⟩)
theorem am_astore {i : Nat} {x : Nat} {lv' : List (Nat × Value)} (hd : decode M.2.1 pc = .ok (.astore i, 2)) (hn : i < M.2.2.1) (hl : am_sv i (.ref x) lv = lv') (hq : pc + 2 = q) (k : am_V ox d M q lv' st H o H') : am_V ox d M pc lv (.ref x :: st) H o H' := by
  subst hq
  subst hl
  intro l p e R s m args below meth c dC dI τ B0 ρ0 nx0 n0 z0 C ρ hp locs cells slots ls S
  exact lv_astore C.1 C.2.1 hd S.2.2.2.2.2 hn (am_sv_cl (v := .ref x)) (fun ls' hl' => k l p e R s m args below meth c dC dI τ B0 ρ0 nx0 n0 z0 C ρ hp locs cells slots ls' ⟨S.1, S.2.1, S.2.2.1, S.2.2.2.1, S.2.2.2.2.1, hl'⟩)
theorem am_iinc {i : Nat} {n : Int} {x v : Int32} {lv' : List (Nat × Value)} (hd : decode M.2.1 pc = .ok (.iinc i n, 3)) (hx : am_lk i lv = some (.int x)) (hv : x + Int32.ofInt n = v) (hn : i < M.2.2.1) (hl : am_sv i (.int v) lv = lv') (hq : pc + 3 = q) (k : am_V ox d M q lv' st H o H') : am_V ox d M pc lv st H o H' := by
  subst hq
  subst hl
  intro l p e R s m args below meth c dC dI τ B0 ρ0 nx0 n0 z0 C ρ hp locs cells slots ls S
  obtain ⟨w, hw⟩ := List.getElem?_of_mem (List.mem_map.mpr ⟨(i, Value.int x), am_lk_mem hx, rfl⟩ : (i, am_cv ρ (.int x)) ∈ am_cl ρ lv)
  exact lv_iinc C.1 C.2.1 hd S.2.2.2.2.2 hw hv hn (am_sv_cl (v := .int v)) (fun ls' hl' => k l p e R s m args below meth c dC dI τ B0 ρ0 nx0 n0 z0 C ρ hp locs cells slots ls' ⟨S.1, S.2.1, S.2.2.1, S.2.2.2.1, S.2.2.2.2.1, hl'⟩)
theorem am_tableIn {dflt lo hi : Int} {offs : Array Int} {len : Nat} {x : Int32} {off : Int} (hd : decode M.2.1 pc = .ok (.tableswitch dflt lo hi offs, len)) (h1 : ¬ x.toInt < lo) (h2 : ¬ hi < x.toInt) (ho : offs[(x.toInt - lo).toNat]? = some off) (ht : (pc : Int) + off = (q : Int)) (k : am_V ox d M q lv st H o H') : am_V ox d M pc lv (.int x :: st) H o H' := by
  intro l p e R s m args below meth c dC dI τ B0 ρ0 nx0 n0 z0 C ρ hp locs cells slots ls S
  exact lv_tableIn C.1 C.2.1 hd h1 h2 ho ht (k l p e R s m args below meth c dC dI τ B0 ρ0 nx0 n0 z0 C ρ hp locs cells slots ls S)
theorem am_tableOut {dflt lo hi : Int} {offs : Array Int} {len : Nat} {x : Int32} (hd : decode M.2.1 pc = .ok (.tableswitch dflt lo hi offs, len)) (h : x.toInt < lo ∨ hi < x.toInt) (ht : (pc : Int) + dflt = (q : Int)) (k : am_V ox d M q lv st H o H') : am_V ox d M pc lv (.int x :: st) H o H' := by
  intro l p e R s m args below meth c dC dI τ B0 ρ0 nx0 n0 z0 C ρ hp locs cells slots ls S
  exact lv_tableOut C.1 C.2.1 hd h ht (k l p e R s m args below meth c dC dI τ B0 ρ0 nx0 n0 z0 C ρ hp locs cells slots ls S)
theorem am_lookup {dflt : Int} {ps : Array (Int × Int)} {len : Nat} {x : Int32} {off : Int} (hd : decode M.2.1 pc = .ok (.lookupswitch dflt ps, len)) (hsr : (ps.toList.zip (ps.toList.drop 1)).all (fun (a, next) => a.1 < next.1) = true) (ho : Op.lookupswitch.offset ps.toList dflt x.toInt = off) (ht : (pc : Int) + off = (q : Int)) (k : am_V ox d M q lv st H o H') : am_V ox d M pc lv (.int x :: st) H o H' := by
  intro l p e R s m args below meth c dC dI τ B0 ρ0 nx0 n0 z0 C ρ hp locs cells slots ls S
  exact lv_lookup C.1 C.2.1 hd hsr ho ht (k l p e R s m args below meth c dC dI τ B0 ρ0 nx0 n0 z0 C ρ hp locs cells slots ls S)
end AMR
end
section
/-! THE ABSTRACT MACHINE, part 4: fields, arrays, new cells. -/
/-- a class of vwCl: its name, fields, types -/
def am_Kl (ci : Nat) (C : String) (T : u_T) (N : Nat) (ty : Nat → FieldType) : Prop :=
  vwCl[ci]? = some (C, T, N) ∧ am_Nf ci = N ∧ ci < 100 ∧ (∀ w ∈ u_ws C T N, w ∈ am_words) ∧ (∀ k, k < N → parseFieldDescriptor (T k).2.2.1 = some (ty k)) ∧ (∀ a, a < N → ∀ b, b < N → a ≠ b → (T a).2.1 ≠ (T b).2.1) ∧ (∀ k, k < N → defaultValue (ty k) = if am_isr ci k = true then .null else .int 0)
/-- the field that (own, idx) names is slot k of class ci -/
def am_Fl (own : String) (idx ci k : Nat) (ty : FieldType) (fin : Bool) : Prop := ∃ (C : String) (T : u_T) (N : Nat) (tys : Nat → FieldType), am_Kl ci C T N tys ∧ k < N ∧ tys k = ty ∧ (T k).2.2.2 = fin ∧ Cond.fieldLink own idx (T k).1 (T k).2.1 (T k).2.2.1 ∈ am_words
def am_Cn (own : String) (idx ci : Nat) : Prop := ∃ (C : String) (T : u_T) (N : Nat) (tys : Nat → FieldType), am_Kl ci C T N tys ∧ Cond.classLink own idx C ∈ am_words ∧ Cond.instantiable C N ∈ am_words ∧ Cond.initialized C ∈ am_words
theorem am_ra_eq {U : State} {c1 c2 : ClassId} {ty : FieldType} (h1 : va_RA U c1 ty) (h2 : va_RA U c2 ty) : c1 = c2 := by
  cases ty with
  | object C =>
    obtain ⟨_, _, _, _, _, e1⟩ := h1
    obtain ⟨_, _, _, _, _, e2⟩ := h2
    exact Option.some.inj (e1.symm.trans e2)
  | _ => exact Option.some.inj (Eq.trans (Eq.symm h1) h2)
section AMH
variable {ox : List (Nat × (Nat → Int32))} {d : Nat} {M : am_M} {pc q : Nat} {lv : List (Nat × Value)} {st : List Value} {H H' : am_H} {o : Option Value ⊕ String}
theorem am_getI {idx a ci k : Nat} {ty : FieldType} {fin : Bool} (hd : decode M.2.1 pc = .ok (.getfield idx, 3)) (hf : am_Fl M.1 idx ci k ty fin) (hr : am_isr ci k = false) (hs : am_sh H a = (ci, am_Nf ci)) (ha : a < am_nx H) (hq : pc + 3 = q) (kk : am_V ox d M q lv (.int (am_gi H a k) :: st) H o H') : am_V ox d M pc lv (.ref a :: st) H o H' := by
  subst hq
  intro l p e R s m args below meth c dC dI τ B0 ρ0 nx0 n0 z0 C ρ hp locs cells slots ls S
  obtain ⟨Cn, T, N, tys, ⟨hc, hN, h100, hin, -⟩, hk, -, -, hlk⟩ := hf
  have hcell := am_ws_at (τ := τ) (ρ := ρ) ha
  rw [am_cell_o hs h100] at hcell
  refine va_get (D := (dC, dI)) (ci := ci) (v := .int (am_gi H a k)) (C := Cn) (T := T) (N := N) C.1 C.2.1 C.2.2.2.2.2.1 hin C.2.2.2.2.1 C.2.2.2.2.2.2.2.1 S.2.1.1 a hcell hc k hk (C.2.2.2.2.2.1 _ hlk) (fun _ h => h) ?_ hd (kk l p e R s m args below meth c dC dI τ B0 ρ0 nx0 n0 z0 C ρ hp locs cells slots ls S)
  rw [am_fs_at (by rw [hN]; exact hk), hr]; rfl
theorem am_getR {idx a ci k b : Nat} {ty : FieldType} {fin : Bool} (hd : decode M.2.1 pc = .ok (.getfield idx, 3)) (hf : am_Fl M.1 idx ci k ty fin) (hr : am_isr ci k = true) (hs : am_sh H a = (ci, am_Nf ci)) (ha : a < am_nx H) (hb : am_gr H a k = some b) (hq : pc + 3 = q) (kk : am_V ox d M q lv (.ref b :: st) H o H') : am_V ox d M pc lv (.ref a :: st) H o H' := by
  subst hq
  intro l p e R s m args below meth c dC dI τ B0 ρ0 nx0 n0 z0 C ρ hp locs cells slots ls S
  obtain ⟨Cn, T, N, tys, ⟨hc, hN, h100, hin, -⟩, hk, -, -, hlk⟩ := hf
  have hcell := am_ws_at (τ := τ) (ρ := ρ) ha
  rw [am_cell_o hs h100] at hcell
  refine va_get (D := (dC, dI)) (ci := ci) (v := .ref (ρ b)) (C := Cn) (T := T) (N := N) C.1 C.2.1 C.2.2.2.2.2.1 hin C.2.2.2.2.1 C.2.2.2.2.2.2.2.1 S.2.1.1 a hcell hc k hk (C.2.2.2.2.2.1 _ hlk) (fun _ h => h) ?_ hd (kk l p e R s m args below meth c dC dI τ B0 ρ0 nx0 n0 z0 C ρ hp locs cells slots ls S)
  rw [am_fs_at (by rw [hN]; exact hk), hr, hb]; rfl
theorem am_putI {idx a ci k : Nat} {ty : FieldType} {v : Int32} (hd : decode M.2.1 pc = .ok (.putfield idx, 3)) (hf : am_Fl M.1 idx ci k ty false) (hr : am_isr ci k = false) (hn : narrow ty (.int v) = .int v) (hfit : fits ty (.int v) = true) (hs : am_sh H a = (ci, am_Nf ci)) (ha : a < am_nx H) (hq : pc + 3 = q) (kk : am_V ox d M q lv st (am_si H a k v) o H') : am_V ox d M pc lv (.int v :: .ref a :: st) H o H' := by
  subst hq
  intro l p e R s m args below meth c dC dI τ B0 ρ0 nx0 n0 z0 C ρ hp locs cells slots ls S
  obtain ⟨Cn, T, N, tys, ⟨hc, hN, h100, hin, hty, hnm, -⟩, hk, rfl, hfin, hlk⟩ := hf
  have hcell := am_ws_at (τ := τ) (ρ := ρ) ha
  rw [am_cell_o hs h100] at hcell
  refine va_put (D := (dC, dI)) (ci := ci) (v := .int v) (ty := tys k) (C := Cn) (T := T) (N := N) C.1 C.2.1 C.2.2.2.2.2.1 hin tys hty hnm C.2.2.2.2.1 C.2.2.2.2.2.2.2.1 S.2.1.1 S.2.1.2.1 S.2.2.1 a hcell hc k hk (C.2.2.2.2.2.1 _ hlk) (fun _ h => h) hfin (hty k hk) hn hfit (by rw [am_fs_len, hN]; exact hk) hd (fun H1 locs1 hP1 hD1 hS1 => ?_)
  rw [am_fs_si hr, am_ws_set (H := H) (H2 := am_si H a k v) rfl (am_cell_o hs h100) (fun b hb => am_cell_si hb)] at hP1 hD1
  exact kk l p e R s m args below meth c dC dI τ B0 ρ0 nx0 n0 z0 C ρ H1 locs1 cells slots ls ⟨S.1, ⟨hP1, hD1, S.2.1.2.2.1, S.2.1.2.2.2.1, Nat.le_trans C.2.2.2.2.2.2.2.2.2.1 hS1.1⟩, hS1, S.2.2.2⟩
theorem am_putR {idx a ci k b : Nat} {ty : FieldType} (hd : decode M.2.1 pc = .ok (.putfield idx, 3)) (hf : am_Fl M.1 idx ci k ty false) (hr : am_isr ci k = true) (hn : ∀ x, narrow ty (.ref x) = .ref x) (hfit : ∀ x, fits ty (.ref x) = true) (hs : am_sh H a = (ci, am_Nf ci)) (ha : a < am_nx H) (hb : b < am_nx H) (hq : pc + 3 = q) (kk : am_V ox d M q lv st (am_sr H a k (some b)) o H') : am_V ox d M pc lv (.ref b :: .ref a :: st) H o H' := by
  subst hq
  intro l p e R s m args below meth c dC dI τ B0 ρ0 nx0 n0 z0 C ρ hp locs cells slots ls S
  obtain ⟨Cn, T, N, tys, ⟨hc, hN, h100, hin, hty, hnm, -⟩, hk, rfl, hfin, hlk⟩ := hf
  have hcell := am_ws_at (τ := τ) (ρ := ρ) ha
  rw [am_cell_o hs h100] at hcell
  refine va_put (D := (dC, dI)) (ci := ci) (v := .ref (ρ b)) (ty := tys k) (C := Cn) (T := T) (N := N) C.1 C.2.1 C.2.2.2.2.2.1 hin tys hty hnm C.2.2.2.2.1 C.2.2.2.2.2.2.2.1 S.2.1.1 S.2.1.2.1 S.2.2.1 a hcell hc k hk (C.2.2.2.2.2.1 _ hlk) (fun _ h => h) hfin (hty k hk) (hn _) (hfit _) (by rw [am_fs_len, hN]; exact hk) hd (fun H1 locs1 hP1 hD1 hS1 => ?_)
  rw [show Value.ref (ρ b) = va_rf ((some b).map ρ) from rfl, am_fs_sr hr, am_ws_set (H := H) (H2 := am_sr H a k (some b)) rfl (am_cell_o hs h100) (fun x hx => am_cell_sr hx)] at hP1 hD1
  refine kk l p e R s m args below meth c dC dI τ B0 ρ0 nx0 n0 z0 C ρ H1 locs1 cells slots ls ⟨S.1, ⟨hP1, hD1, fun x i y hxy => ?_, S.2.1.2.2.2.1, Nat.le_trans C.2.2.2.2.2.2.2.2.2.1 hS1.1⟩, hS1, S.2.2.2⟩
  by_cases hx : x = a ∧ i = k
  · obtain ⟨rfl, rfl⟩ := hx
    have e1 : am_gr (am_sr H x i (some b)) x i = some b := am_u2_self _ _ _ _
    cases e1.symm.trans hxy
    exact hb
  · have e1 : am_gr (am_sr H a k (some b)) x i = am_gr H x i := am_u2_ne _ _ hx
    exact S.2.1.2.2.1 x i y (e1.symm.trans hxy)
/-- a final field, in the constructor -/
theorem am_putF {idx a ci k b : Nat} {ty : FieldType} (hd : decode M.2.1 pc = .ok (.putfield idx, 3)) (hf : am_Fl M.1 idx ci k ty true) (hr : am_isr ci k = true) (hi : M.2.2.2.2.1 = "<init>") (ho : ∀ r : vw_C, vwCl[ci]? = some r → (r.2.1 k).1 = M.1) (hn : ∀ x, narrow ty (.ref x) = .ref x) (hfit : ∀ x, fits ty (.ref x) = true) (hs : am_sh H a = (ci, am_Nf ci)) (ha : a < am_nx H) (hb : b < am_nx H) (hq : pc + 3 = q) (kk : am_V ox d M q lv st (am_sr H a k (some b)) o H') : am_V ox d M pc lv (.ref b :: .ref a :: st) H o H' := by
  subst hq
  intro l p e R s m args below meth c dC dI τ B0 ρ0 nx0 n0 z0 C ρ hp locs cells slots ls S
  obtain ⟨Cn, T, N, tys, ⟨hc, hN, h100, hin, hty, hnm, -⟩, hk, rfl, hfin, hlk⟩ := hf
  have hdecl := ho _ hc
  have hcell := am_ws_at (τ := τ) (ρ := ρ) ha
  rw [am_cell_o hs h100] at hcell
  refine va_putF (D := (dC, dI)) (ci := ci) (v := .ref (ρ b)) (ty := tys k) (C := Cn) (T := T) (N := N) C.1 C.2.1 C.2.2.2.2.2.1 hin tys hty hnm C.2.2.2.2.1 C.2.2.2.2.2.2.2.1 S.2.1.1 S.2.1.2.1 S.2.2.1 a hcell hc k hk (C.2.2.2.2.2.1 _ hlk) (fun _ h => h) hfin ((C.2.2.2.2.2.2.2.2.2.2.2.2.2.2.1 (by rw [hi]; decide)).trans hi) hdecl (hty k hk) (hn _) (hfit _) (by rw [am_fs_len, hN]; exact hk) hd (fun H1 locs1 hP1 hD1 hS1 => ?_)
  rw [show Value.ref (ρ b) = va_rf ((some b).map ρ) from rfl, am_fs_sr hr, am_ws_set (H := H) (H2 := am_sr H a k (some b)) rfl (am_cell_o hs h100) (fun x hx => am_cell_sr hx)] at hP1 hD1
  refine kk l p e R s m args below meth c dC dI τ B0 ρ0 nx0 n0 z0 C ρ H1 locs1 cells slots ls ⟨S.1, ⟨hP1, hD1, fun x i y hxy => ?_, S.2.1.2.2.2.1, Nat.le_trans C.2.2.2.2.2.2.2.2.2.1 hS1.1⟩, hS1, S.2.2.2⟩
  by_cases hx : x = a ∧ i = k
  · obtain ⟨rfl, rfl⟩ := hx
    have e1 : am_gr (am_sr H x i (some b)) x i = some b := am_u2_self _ _ _ _
    cases e1.symm.trans hxy
    exact hb
  · have e1 : am_gr (am_sr H a k (some b)) x i = am_gr H x i := am_u2_ne _ _ hx
    exact S.2.1.2.2.1 x i y (e1.symm.trans hxy)
theorem am_putFI {idx a ci k : Nat} {ty : FieldType} {v : Int32} (hd : decode M.2.1 pc = .ok (.putfield idx, 3)) (hf : am_Fl M.1 idx ci k ty true) (hr : am_isr ci k = false) (hi : M.2.2.2.2.1 = "<init>") (ho : ∀ r : vw_C, vwCl[ci]? = some r → (r.2.1 k).1 = M.1) (hn : narrow ty (.int v) = .int v) (hfit : fits ty (.int v) = true) (hs : am_sh H a = (ci, am_Nf ci)) (ha : a < am_nx H) (hq : pc + 3 = q) (kk : am_V ox d M q lv st (am_si H a k v) o H') : am_V ox d M pc lv (.int v :: .ref a :: st) H o H' := by
  subst hq
  intro l p e R s m args below meth c dC dI τ B0 ρ0 nx0 n0 z0 C ρ hp locs cells slots ls S
  obtain ⟨Cn, T, N, tys, ⟨hc, hN, h100, hin, hty, hnm, -⟩, hk, rfl, hfin, hlk⟩ := hf
  have hdecl := ho _ hc
  have hcell := am_ws_at (τ := τ) (ρ := ρ) ha
  rw [am_cell_o hs h100] at hcell
  refine va_putF (D := (dC, dI)) (ci := ci) (v := .int v) (ty := tys k) (C := Cn) (T := T) (N := N) C.1 C.2.1 C.2.2.2.2.2.1 hin tys hty hnm C.2.2.2.2.1 C.2.2.2.2.2.2.2.1 S.2.1.1 S.2.1.2.1 S.2.2.1 a hcell hc k hk (C.2.2.2.2.2.1 _ hlk) (fun _ h => h) hfin ((C.2.2.2.2.2.2.2.2.2.2.2.2.2.2.1 (by rw [hi]; decide)).trans hi) hdecl (hty k hk) hn hfit (by rw [am_fs_len, hN]; exact hk) hd (fun H1 locs1 hP1 hD1 hS1 => ?_)
  rw [am_fs_si hr, am_ws_set (H := H) (H2 := am_si H a k v) rfl (am_cell_o hs h100) (fun b hb => am_cell_si hb)] at hP1 hD1
  exact kk l p e R s m args below meth c dC dI τ B0 ρ0 nx0 n0 z0 C ρ H1 locs1 cells slots ls ⟨S.1, ⟨hP1, hD1, S.2.1.2.2.1, S.2.1.2.2.2.1, Nat.le_trans C.2.2.2.2.2.2.2.2.2.1 hS1.1⟩, hS1, S.2.2.2⟩
-- arrays
theorem am_iald {a n : Nat} {i : Int32} (hd : decode M.2.1 pc = .ok (.iaload, 1)) (hs : am_sh H a = (100, n)) (ha : a < am_nx H) (hin : vp_in i n) (hq : pc + 1 = q) (kk : am_V ox d M q lv (.int (am_gi H a i.toNatClampNeg) :: st) H o H') : am_V ox d M pc lv (.int i :: .ref a :: st) H o H' := by
  subst hq
  intro l p e R s m args below meth c dC dI τ B0 ρ0 nx0 n0 z0 C ρ hp locs cells slots ls S
  have hcell := am_ws_at (τ := τ) (ρ := ρ) ha
  rw [am_cell_i hs] at hcell
  exact va_iald (D := (dC, dI)) C.1 C.2.1 C.2.2.2.2.2.2.2.1 S.2.1.1 a 0 hcell (am_tys_at rfl) hin hd (kk l p e R s m args below meth c dC dI τ B0 ρ0 nx0 n0 z0 C ρ hp locs cells slots ls S)
theorem am_zald {a n : Nat} {i : Int32} (hd : decode M.2.1 pc = .ok (.baload, 1)) (hs : am_sh H a = (101, n)) (ha : a < am_nx H) (hin : vp_in i n) (hq : pc + 1 = q) (kk : am_V ox d M q lv (.int (am_gi H a i.toNatClampNeg) :: st) H o H') : am_V ox d M pc lv (.int i :: .ref a :: st) H o H' := by
  subst hq
  intro l p e R s m args below meth c dC dI τ B0 ρ0 nx0 n0 z0 C ρ hp locs cells slots ls S
  have hcell := am_ws_at (τ := τ) (ρ := ρ) ha
  rw [am_cell_z hs] at hcell
  exact va_zald (D := (dC, dI)) C.1 C.2.1 C.2.2.2.2.2.2.2.1 S.2.1.1 a 1 hcell (am_tys_at rfl) hin hd (kk l p e R s m args below meth c dC dI τ B0 ρ0 nx0 n0 z0 C ρ hp locs cells slots ls S)
theorem am_lald {a n : Nat} {i : Int32} (hd : decode M.2.1 pc = .ok (.laload, 1)) (hs : am_sh H a = (102, n)) (ha : a < am_nx H) (hin : vp_in i n) (hq : pc + 1 = q) (kk : am_V ox d M q lv (.long (am_gl H a i.toNatClampNeg) :: st) H o H') : am_V ox d M pc lv (.int i :: .ref a :: st) H o H' := by
  subst hq
  intro l p e R s m args below meth c dC dI τ B0 ρ0 nx0 n0 z0 C ρ hp locs cells slots ls S
  have hcell := am_ws_at (τ := τ) (ρ := ρ) ha
  rw [am_cell_l hs] at hcell
  exact va_lald (D := (dC, dI)) C.1 C.2.1 C.2.2.2.2.2.2.2.1 S.2.1.1 a 2 hcell (am_tys_at rfl) hin hd (kk l p e R s m args below meth c dC dI τ B0 ρ0 nx0 n0 z0 C ρ hp locs cells slots ls S)
theorem am_aald {a n k t b : Nat} {Cn : String} {i : Int32} (hd : decode M.2.1 pc = .ok (.aaload, 1)) (hs : am_sh H a = (103 + k, n)) (ht : am_kinds[t]? = some (103 + k, .object Cn)) (ha : a < am_nx H) (hin : vp_in i n) (hb : am_gr H a i.toNatClampNeg = some b) (hq : pc + 1 = q) (kk : am_V ox d M q lv (.ref b :: st) H o H') : am_V ox d M pc lv (.int i :: .ref a :: st) H o H' := by
  subst hq
  intro l p e R s m args below meth c dC dI τ B0 ρ0 nx0 n0 z0 C ρ hp locs cells slots ls S
  have hcell := am_ws_at (τ := τ) (ρ := ρ) ha
  rw [am_cell_q hs] at hcell
  refine va_aldq (D := (dC, dI)) C.1 C.2.1 C.2.2.2.2.2.2.2.1 S.2.1.1 a t hcell (am_tys_at ht) hin hd ?_
  rw [hb]
  exact kk l p e R s m args below meth c dC dI τ B0 ρ0 nx0 n0 z0 C ρ hp locs cells slots ls S
theorem am_iast {a n : Nat} {i x : Int32} (hd : decode M.2.1 pc = .ok (.iastore, 1)) (hs : am_sh H a = (100, n)) (ha : a < am_nx H) (hin : vp_in i n) (hq : pc + 1 = q) (kk : am_V ox d M q lv st (am_si H a i.toNatClampNeg x) o H') : am_V ox d M pc lv (.int x :: .int i :: .ref a :: st) H o H' := by
  subst hq
  intro l p e R s m args below meth c dC dI τ B0 ρ0 nx0 n0 z0 C ρ hp locs cells slots ls S
  have hcell := am_ws_at (τ := τ) (ρ := ρ) ha
  rw [am_cell_i hs] at hcell
  refine va_iast (D := (dC, dI)) C.1 C.2.1 C.2.2.2.2.2.2.2.1 S.2.1.1 S.2.1.2.1 S.2.2.1 a 0 hcell (am_tys_at rfl) hin hd (fun H1 locs1 hP1 hD1 hS1 => ?_)
  have e1 : am_cell τ ρ (am_si H a i.toNatClampNeg x) a = .inl (τ 100, n, .inl (upd (am_gi H a) i.toNatClampNeg x)) := by
    rw [am_cell_i (H := (am_si H a i.toNatClampNeg x)) hs]
    congr 4
    funext y
    show am_u2 (am_gi H) a i.toNatClampNeg x a y = upd (am_gi H a) i.toNatClampNeg x y
    simp [am_u2, upd]
  rw [am_ws_set (H := H) (H2 := am_si H a i.toNatClampNeg x) rfl e1 (fun b hb => am_cell_si hb)] at hP1 hD1
  exact kk l p e R s m args below meth c dC dI τ B0 ρ0 nx0 n0 z0 C ρ H1 locs1 cells slots ls ⟨S.1, ⟨hP1, hD1, S.2.1.2.2.1, S.2.1.2.2.2.1, Nat.le_trans C.2.2.2.2.2.2.2.2.2.1 hS1.1⟩, hS1, S.2.2.2⟩
theorem am_zast {a n : Nat} {i x : Int32} (hd : decode M.2.1 pc = .ok (.bastore, 1)) (hs : am_sh H a = (101, n)) (ha : a < am_nx H) (hin : vp_in i n) (hx : vp_nar .boolean x = x) (hq : pc + 1 = q) (kk : am_V ox d M q lv st (am_si H a i.toNatClampNeg x) o H') : am_V ox d M pc lv (.int x :: .int i :: .ref a :: st) H o H' := by
  subst hq
  intro l p e R s m args below meth c dC dI τ B0 ρ0 nx0 n0 z0 C ρ hp locs cells slots ls S
  have hcell := am_ws_at (τ := τ) (ρ := ρ) ha
  rw [am_cell_z hs] at hcell
  refine va_zast (D := (dC, dI)) C.1 C.2.1 C.2.2.2.2.2.2.2.1 S.2.1.1 S.2.1.2.1 S.2.2.1 a 1 hcell (am_tys_at rfl) hin hd (fun H1 locs1 hP1 hD1 hS1 => ?_)
  have e1 : am_cell τ ρ (am_si H a i.toNatClampNeg x) a = .inl (τ 101, n, .inl (upd (am_gi H a) i.toNatClampNeg (vp_nar .boolean x))) := by
    rw [am_cell_z (H := (am_si H a i.toNatClampNeg x)) hs, hx]
    congr 4
    funext y
    show am_u2 (am_gi H) a i.toNatClampNeg x a y = upd (am_gi H a) i.toNatClampNeg x y
    simp [am_u2, upd]
  rw [am_ws_set (H := H) (H2 := am_si H a i.toNatClampNeg x) rfl e1 (fun b hb => am_cell_si hb)] at hP1 hD1
  exact kk l p e R s m args below meth c dC dI τ B0 ρ0 nx0 n0 z0 C ρ H1 locs1 cells slots ls ⟨S.1, ⟨hP1, hD1, S.2.1.2.2.1, S.2.1.2.2.2.1, Nat.le_trans C.2.2.2.2.2.2.2.2.2.1 hS1.1⟩, hS1, S.2.2.2⟩
theorem am_last {a n : Nat} {i : Int32} {x : Int64} (hd : decode M.2.1 pc = .ok (.lastore, 1)) (hs : am_sh H a = (102, n)) (ha : a < am_nx H) (hin : vp_in i n) (hq : pc + 1 = q) (kk : am_V ox d M q lv st (am_sl H a i.toNatClampNeg x) o H') : am_V ox d M pc lv (.long x :: .int i :: .ref a :: st) H o H' := by
  subst hq
  intro l p e R s m args below meth c dC dI τ B0 ρ0 nx0 n0 z0 C ρ hp locs cells slots ls S
  have hcell := am_ws_at (τ := τ) (ρ := ρ) ha
  rw [am_cell_l hs] at hcell
  refine va_last (D := (dC, dI)) C.1 C.2.1 C.2.2.2.2.2.2.2.1 S.2.1.1 S.2.1.2.1 S.2.2.1 a 2 hcell (am_tys_at rfl) hin hd (fun H1 locs1 hP1 hD1 hS1 => ?_)
  have e1 : am_cell τ ρ (am_sl H a i.toNatClampNeg x) a = .inl (τ 102, n, .inr (.inl (vp_updL (am_gl H a) i.toNatClampNeg x))) := by
    rw [am_cell_l (H := (am_sl H a i.toNatClampNeg x)) hs]
    congr 5
    funext y
    show am_u2 (am_gl H) a i.toNatClampNeg x a y = vp_updL (am_gl H a) i.toNatClampNeg x y
    simp [am_u2, vp_updL]
  rw [am_ws_set (H := H) (H2 := am_sl H a i.toNatClampNeg x) rfl e1 (fun b hb => am_cell_sl hb)] at hP1 hD1
  exact kk l p e R s m args below meth c dC dI τ B0 ρ0 nx0 n0 z0 C ρ H1 locs1 cells slots ls ⟨S.1, ⟨hP1, hD1, S.2.1.2.2.1, S.2.1.2.2.2.1, Nat.le_trans C.2.2.2.2.2.2.2.2.2.1 hS1.1⟩, hS1, S.2.2.2⟩
theorem am_aast {a n k t b N : Nat} {r : vw_C} {i : Int32} (hd : decode M.2.1 pc = .ok (.aastore, 1)) (hs : am_sh H a = (103 + k, n)) (hr : vwCl[k]? = some r) (h100 : k < 100) (ht : am_kinds[t]? = some (103 + k, .object r.1)) (ha : a < am_nx H) (hsb : am_sh H b = (k, N)) (hb : b < am_nx H) (hin : vp_in i n) (hq : pc + 1 = q) (kk : am_V ox d M q lv st (am_sr H a i.toNatClampNeg (some b)) o H') : am_V ox d M pc lv (.ref b :: .int i :: .ref a :: st) H o H' := by
  subst hq
  intro l p e R s m args below meth c dC dI τ B0 ρ0 nx0 n0 z0 C ρ hp locs cells slots ls S
  have hcell := am_ws_at (τ := τ) (ρ := ρ) ha
  rw [am_cell_q hs] at hcell
  have hcb := am_ws_at (τ := τ) (ρ := ρ) hb
  rw [am_cell_o hsb h100] at hcb
  refine va_astq (D := (dC, dI)) C.1 C.2.1 C.2.2.2.2.2.2.2.1 S.2.1.1 S.2.1.2.1 S.2.2.1 a t b k hcell (am_tys_at ht) hcb hr hin hd (fun H1 locs1 hP1 hD1 hS1 => ?_)
  have e1 : am_cell τ ρ (am_sr H a i.toNatClampNeg (some b)) a = .inl (τ (103 + k), n, .inr (.inr (.inr (.inr (va_up (fun i => (am_gr H a i).map ρ) i.toNatClampNeg (some (ρ b))))))) := by
    rw [am_cell_q (H := (am_sr H a i.toNatClampNeg (some b))) hs]
    congr 8
    funext y
    show (am_u2 (am_gr H) a i.toNatClampNeg (some b) a y).map ρ = va_up (fun i => (am_gr H a i).map ρ) i.toNatClampNeg (some (ρ b)) y
    by_cases hy : y = i.toNatClampNeg
    · simp [am_u2, va_up, hy]
    · simp [am_u2, va_up, hy]
  rw [am_ws_set (H := H) (H2 := am_sr H a i.toNatClampNeg (some b)) rfl e1 (fun x hx => am_cell_sr hx)] at hP1 hD1
  refine kk l p e R s m args below meth c dC dI τ B0 ρ0 nx0 n0 z0 C ρ H1 locs1 cells slots ls ⟨S.1, ⟨hP1, hD1, fun x j y hxy => ?_, S.2.1.2.2.2.1, Nat.le_trans C.2.2.2.2.2.2.2.2.2.1 hS1.1⟩, hS1, S.2.2.2⟩
  by_cases hx : x = a ∧ j = i.toNatClampNeg
  · obtain ⟨rfl, rfl⟩ := hx
    have e1 : am_gr (am_sr H x i.toNatClampNeg (some b)) x i.toNatClampNeg = some b := am_u2_self _ _ _ _
    cases e1.symm.trans hxy
    exact hb
  · have e1 : am_gr (am_sr H a i.toNatClampNeg (some b)) x j = am_gr H x j := am_u2_ne _ _ hx
    exact S.2.1.2.2.1 x j y (e1.symm.trans hxy)
theorem am_alen {a k n t : Nat} {ty : FieldType} {v : Int32} (hd : decode M.2.1 pc = .ok (.arraylength, 1)) (hs : am_sh H a = (k, n)) (hk : 100 ≤ k) (ht : am_kinds[t]? = some (k, ty)) (ha : a < am_nx H) (hv : Int32.ofNat n = v) (hq : pc + 1 = q) (kk : am_V ox d M q lv (.int v :: st) H o H') : am_V ox d M pc lv (.ref a :: st) H o H' := by
  subst hq
  intro l p e R s m args below meth c dC dI τ B0 ρ0 nx0 n0 z0 C ρ hp locs cells slots ls S
  have hcell := am_ws_at (τ := τ) (ρ := ρ) ha
  obtain ⟨z, hz⟩ : ∃ z, am_cell τ ρ H a = .inl (τ k, n, z) := by
    unfold am_cell
    rw [hs, if_neg (by omega)]
    by_cases h1 : k < 102
    · rw [if_pos h1]; exact ⟨_, rfl⟩
    · rw [if_neg h1]
      by_cases h2 : k < 103
      · rw [if_pos h2]; exact ⟨_, rfl⟩
      · rw [if_neg h2]; exact ⟨_, rfl⟩
  rw [hz] at hcell
  exact va_alen (D := (dC, dI)) C.1 C.2.1 C.2.2.2.2.2.2.2.1 S.2.1.1 a t hcell (am_tys_at ht) hv hd (kk l p e R s m args below meth c dC dI τ B0 ρ0 nx0 n0 z0 C ρ hp locs cells slots ls S)
end AMH
end
section
/-! THE ABSTRACT MACHINE, part 5: new cells, ends, calls. -/
section AMN
variable {ox : List (Nat × (Nat → Int32))} {d : Nat} {M : am_M} {pc q : Nat} {lv : List (Nat × Value)} {st : List Value} {H H' : am_H} {o : Option Value ⊕ String}
theorem am_grown {nL : Nat} {s : State} {dC : Nat → ClassId} {dI : Nat → Nat → Nat} {τ : Nat → ClassId} {B0 : Nat} {ρ0 : Nat → Nat} {nx0 n0 z0 : Nat} {ρ : Nat → Nat} {hp : Heap} {locs : List Loc} {cells slots : Nat} {ls : Array Slot} (S : am_St nL lv H s dC dI τ B0 ρ0 nx0 n0 z0 ρ hp locs cells slots ls) (hB : B0 ≤ s.heap.size) (hlv : ∀ x ∈ lv, am_ok (am_nx H) x.2) (h6 : am_nx H + 1 ≤ 1000000) {k n a : Nat} {H1 : Heap} {e : va_E} (he : am_cell τ (va_up ρ (am_nx H) a) (am_nw H k n) (am_nx H) = e)
    (hP1 : va_P (dC, dI) vwCl (am_ws τ ρ H ++ [(a, e)]) H1) (hD1 : va_D (am_A B0) (am_ws τ ρ H ++ [(a, e)])) (hS1 : va_S (am_A B0) s.heap H1 locs) :
    am_St nL lv (am_nw H k n) s dC dI τ B0 ρ0 nx0 n0 z0 (va_up ρ (am_nx H) a) H1 locs (cells + 1) (slots + n) ls ∧ am_ext (am_nx H) ρ (va_up ρ (am_nx H) a) := by
  obtain ⟨⟨j1, j2, j3⟩, ⟨-, -, hg, h5, -⟩, -, hc, hz, hl⟩ := S
  have hex : am_ext (am_nx H) ρ (va_up ρ (am_nx H) a) := fun b hb => va_up_ne _ _ (by omega)
  rw [am_ws_nw hg he] at hP1 hD1
  refine ⟨⟨⟨?_, ?_, j3.trans hex j1⟩, ⟨hP1, hD1, ?_, ?_, Nat.le_trans hB hS1.1⟩, hS1, ?_, ?_, ?_⟩, hex⟩
  · show nx0 ≤ am_nx H + 1; omega
  · intro h; exact absurd (show am_nx H + 1 = nx0 from h) (by omega)
  · intro x i b hb
    show b < am_nx H + 1
    by_cases hx : x = am_nx H
    · have e1 : am_gr (am_nw H k n) x i = none := if_pos hx
      rw [e1] at hb; cases hb
    · have e1 : am_gr (am_nw H k n) x i = am_gr H x i := if_neg hx
      rw [e1] at hb
      have := hg x i b hb
      omega
  · exact h6
  · show cells + 1 + n0 = am_nc H + 1; omega
  · show slots + n + z0 = am_nz H + n; omega
  · rw [am_cl_ext hex hlv]; exact hl
theorem am_sh_nw {k n : Nat} : am_sh (am_nw H k n) (am_nx H) = (k, n) := va_up_self _ _ _
theorem am_fresh_o {τ : Nat → ClassId} {ρ : Nat → Nat} {k n : Nat} (hk : k < 100) : am_cell τ ρ (am_nw H k n) (am_nx H) = .inr (k, (List.range n).map (fun i => if am_isr k i = true then .null else .int 0)) := by
  rw [am_cell_o (k := k) (n := n) am_sh_nw hk]
  unfold am_fs
  congr 2
  apply List.map_congr_left
  intro i _
  have e1 : am_gr (am_nw H k n) (am_nx H) i = none := if_pos rfl
  have e2 : am_gi (am_nw H k n) (am_nx H) i = 0 := if_pos rfl
  rw [e1, e2]; rfl
theorem am_new {idx ci : Nat} (hd : decode M.2.1 pc = .ok (.new idx, 3)) (hc : am_Cn M.1 idx ci) (hst : ∀ v ∈ st, am_ok (am_nx H) v) (hlv : ∀ x ∈ lv, am_ok (am_nx H) x.2) (h6 : am_nx H + 1 ≤ 1000000) (hcn : am_nc H + 1 ≤ am_nc H') (hzn : am_nz H + am_Nf ci ≤ am_nz H') (hq : pc + 3 = q) (kk : am_V ox d M q lv (.ref (am_nx H) :: st) (am_nw H ci (am_Nf ci)) o H') : am_V ox d M pc lv st H o H' := by
  subst hq
  intro l p e R s m args below meth c dC dI τ B0 ρ0 nx0 n0 z0 C ρ hp locs cells slots ls S
  obtain ⟨Cn, T, N, tys, ⟨hcl, hN, h100, hin, hty, hnm, hdf⟩, hlk, hins, hini⟩ := hc
  subst hN
  have hcc := S.2.2.2.1
  have hzz := S.2.2.2.2.1
  have hRc := C.2.2.2.2.2.2.2.2.2.2.2.2.1
  have hRz := C.2.2.2.2.2.2.2.2.2.2.2.2.2.1
  refine va_new (D := (dC, dI)) (ci := ci) (fs := (List.range (am_Nf ci)).map (fun i => if am_isr ci i = true then Value.null else .int 0)) (C := Cn) (T := T) (N := am_Nf ci) C.1 C.2.1 C.2.2.2.2.2.1 hin tys hty C.2.2.2.2.1 (C.2.2.2.2.2.1 _ hlk) (C.2.2.2.2.2.1 _ hins) (C.2.2.2.2.2.1 _ hini) C.2.2.2.2.2.2.2.1 S.2.1.1 S.2.1.2.1 S.2.2.1 (fun x hx => Nat.le_trans C.2.2.2.2.2.2.2.2.2.1 hx) hcl (fun j hj => by rw [hdf j hj]; simp [vp_V, hj]) (by omega) (by omega) hd (fun a H1 hP1 hD1 hS1 => ?_)
  obtain ⟨S', hex⟩ := am_grown S C.2.2.2.2.2.2.2.2.2.1 hlv h6 (am_fresh_o (n := am_Nf ci) h100) hP1 hD1 hS1
  have hk := kk l p e R s m args below meth c dC dI τ B0 ρ0 nx0 n0 z0 C _ H1 locs _ _ ls S'
  rw [List.map_cons, am_cvs_ext hex hst, show am_cv (va_up ρ (am_nx H) a) (.ref (am_nx H)) = .ref a from by show Value.ref (va_up ρ (am_nx H) a (am_nx H)) = .ref a; rw [va_up_self]] at hk
  exact hk
theorem am_newI {n : Int32} {N : Nat} (hd : decode M.2.1 pc = .ok (.newarray .int, 2)) (hw : Cond.arrayClass .int ∈ am_words) (hn : ¬ n < 0) (hN : n.toNatClampNeg = N) (hby : N ≤ 100000) (hst : ∀ v ∈ st, am_ok (am_nx H) v) (hlv : ∀ x ∈ lv, am_ok (am_nx H) x.2) (h6 : am_nx H + 1 ≤ 1000000) (hcn : am_nc H + 1 ≤ am_nc H') (hzn : am_nz H + N ≤ am_nz H') (hq : pc + 2 = q) (kk : am_V ox d M q lv (.ref (am_nx H) :: st) (am_nw H 100 N) o H') : am_V ox d M pc lv (.int n :: st) H o H' := by
  subst hq
  intro l p e R s m args below meth c dC dI τ B0 ρ0 nx0 n0 z0 C ρ hp locs cells slots ls S
  have hcc := S.2.2.2.1
  have hzz := S.2.2.2.2.1
  have hRc := C.2.2.2.2.2.2.2.2.2.2.2.2.1
  have hRz := C.2.2.2.2.2.2.2.2.2.2.2.2.2.1
  refine va_newa (atype := .int) (D := (dC, dI)) (ty := .int) (a0 := (N, .inl (fun _ => 0))) C.1 C.2.1 (C.2.2.2.2.2.1 _ hw) rfl C.2.2.2.2.2.2.2.1 S.2.1.1 S.2.1.2.1 S.2.2.1 (fun x hx => Nat.le_trans C.2.2.2.2.2.2.2.2.2.1 hx) (fun cA => rfl) hn hN (by show N * 4 ≤ 536870912; omega) (by omega) (by omega) hd (fun a cA H1 hK1 hP1 hD1 hS1 => ?_)
  have hcA : cA = τ 100 := am_ra_eq (hK1.2 (am_tys τ).length (cA, .int) (by simp)).2 (C.2.2.2.2.2.2.2.1.2 0 (τ 100, .int) (am_tys_at rfl)).2
  subst hcA
  have he : am_cell τ (va_up ρ (am_nx H) a) (am_nw H 100 N) (am_nx H) = .inl (τ 100, N, .inl (fun _ => 0)) := by
    rw [am_cell_i (n := N) am_sh_nw]
    congr 4
    funext y
    exact if_pos rfl
  obtain ⟨S', hex⟩ := am_grown S C.2.2.2.2.2.2.2.2.2.1 hlv h6 he hP1 hD1 hS1
  have hk := kk l p e R s m args below meth c dC dI τ B0 ρ0 nx0 n0 z0 C _ H1 locs _ _ ls S'
  rw [List.map_cons, am_cvs_ext hex hst, show am_cv (va_up ρ (am_nx H) a) (.ref (am_nx H)) = .ref a from by show Value.ref (va_up ρ (am_nx H) a (am_nx H)) = .ref a; rw [va_up_self]] at hk
  exact hk
theorem am_newZ {n : Int32} {N : Nat} (hd : decode M.2.1 pc = .ok (.newarray .boolean, 2)) (hw : Cond.arrayClass .boolean ∈ am_words) (hn : ¬ n < 0) (hN : n.toNatClampNeg = N) (hby : N ≤ 100000) (hst : ∀ v ∈ st, am_ok (am_nx H) v) (hlv : ∀ x ∈ lv, am_ok (am_nx H) x.2) (h6 : am_nx H + 1 ≤ 1000000) (hcn : am_nc H + 1 ≤ am_nc H') (hzn : am_nz H + N ≤ am_nz H') (hq : pc + 2 = q) (kk : am_V ox d M q lv (.ref (am_nx H) :: st) (am_nw H 101 N) o H') : am_V ox d M pc lv (.int n :: st) H o H' := by
  subst hq
  intro l p e R s m args below meth c dC dI τ B0 ρ0 nx0 n0 z0 C ρ hp locs cells slots ls S
  have hcc := S.2.2.2.1
  have hzz := S.2.2.2.2.1
  have hRc := C.2.2.2.2.2.2.2.2.2.2.2.2.1
  have hRz := C.2.2.2.2.2.2.2.2.2.2.2.2.2.1
  refine va_newa (atype := .boolean) (D := (dC, dI)) (ty := .boolean) (a0 := (N, .inl (fun _ => 0))) C.1 C.2.1 (C.2.2.2.2.2.1 _ hw) rfl C.2.2.2.2.2.2.2.1 S.2.1.1 S.2.1.2.1 S.2.2.1 (fun x hx => Nat.le_trans C.2.2.2.2.2.2.2.2.2.1 hx) (fun cA => rfl) hn hN (by show N * 1 ≤ 536870912; omega) (by omega) (by omega) hd (fun a cA H1 hK1 hP1 hD1 hS1 => ?_)
  have hcA : cA = τ 101 := am_ra_eq (hK1.2 (am_tys τ).length (cA, .boolean) (by simp)).2 (C.2.2.2.2.2.2.2.1.2 1 (τ 101, .boolean) (am_tys_at rfl)).2
  subst hcA
  have he : am_cell τ (va_up ρ (am_nx H) a) (am_nw H 101 N) (am_nx H) = .inl (τ 101, N, .inl (fun _ => 0)) := by
    rw [am_cell_z (n := N) am_sh_nw]
    congr 4
    funext y
    exact if_pos rfl
  obtain ⟨S', hex⟩ := am_grown S C.2.2.2.2.2.2.2.2.2.1 hlv h6 he hP1 hD1 hS1
  have hk := kk l p e R s m args below meth c dC dI τ B0 ρ0 nx0 n0 z0 C _ H1 locs _ _ ls S'
  rw [List.map_cons, am_cvs_ext hex hst, show am_cv (va_up ρ (am_nx H) a) (.ref (am_nx H)) = .ref a from by show Value.ref (va_up ρ (am_nx H) a (am_nx H)) = .ref a; rw [va_up_self]] at hk
  exact hk
theorem am_newL {n : Int32} {N : Nat} (hd : decode M.2.1 pc = .ok (.newarray .long, 2)) (hw : Cond.arrayClass .long ∈ am_words) (hn : ¬ n < 0) (hN : n.toNatClampNeg = N) (hby : N ≤ 100000) (hst : ∀ v ∈ st, am_ok (am_nx H) v) (hlv : ∀ x ∈ lv, am_ok (am_nx H) x.2) (h6 : am_nx H + 1 ≤ 1000000) (hcn : am_nc H + 1 ≤ am_nc H') (hzn : am_nz H + N ≤ am_nz H') (hq : pc + 2 = q) (kk : am_V ox d M q lv (.ref (am_nx H) :: st) (am_nw H 102 N) o H') : am_V ox d M pc lv (.int n :: st) H o H' := by
  subst hq
  intro l p e R s m args below meth c dC dI τ B0 ρ0 nx0 n0 z0 C ρ hp locs cells slots ls S
  have hcc := S.2.2.2.1
  have hzz := S.2.2.2.2.1
  have hRc := C.2.2.2.2.2.2.2.2.2.2.2.2.1
  have hRz := C.2.2.2.2.2.2.2.2.2.2.2.2.2.1
  refine va_newa (atype := .long) (D := (dC, dI)) (ty := .long) (a0 := (N, .inr (.inl (fun _ => 0)))) C.1 C.2.1 (C.2.2.2.2.2.1 _ hw) rfl C.2.2.2.2.2.2.2.1 S.2.1.1 S.2.1.2.1 S.2.2.1 (fun x hx => Nat.le_trans C.2.2.2.2.2.2.2.2.2.1 hx) (fun cA => rfl) hn hN (by show N * 8 ≤ 536870912; omega) (by omega) (by omega) hd (fun a cA H1 hK1 hP1 hD1 hS1 => ?_)
  have hcA : cA = τ 102 := am_ra_eq (hK1.2 (am_tys τ).length (cA, .long) (by simp)).2 (C.2.2.2.2.2.2.2.1.2 2 (τ 102, .long) (am_tys_at rfl)).2
  subst hcA
  have he : am_cell τ (va_up ρ (am_nx H) a) (am_nw H 102 N) (am_nx H) = .inl (τ 102, N, .inr (.inl (fun _ => 0))) := by
    rw [am_cell_l (n := N) am_sh_nw]
    congr 5
    funext y
    exact if_pos rfl
  obtain ⟨S', hex⟩ := am_grown S C.2.2.2.2.2.2.2.2.2.1 hlv h6 he hP1 hD1 hS1
  have hk := kk l p e R s m args below meth c dC dI τ B0 ρ0 nx0 n0 z0 C _ H1 locs _ _ ls S'
  rw [List.map_cons, am_cvs_ext hex hst, show am_cv (va_up ρ (am_nx H) a) (.ref (am_nx H)) = .ref a from by show Value.ref (va_up ρ (am_nx H) a (am_nx H)) = .ref a; rw [va_up_self]] at hk
  exact hk
theorem am_newQ {idx k t : Nat} {Cn : String} {n : Int32} {N : Nat} (hd : decode M.2.1 pc = .ok (.anewarray idx, 3)) (hlk : Cond.classLink M.1 idx Cn ∈ am_words) (hov : ∀ (B0 : Nat) (ρ : Nat → Nat) (s : State), am_O ox B0 ρ s → va_AO Cn s) (ht : am_kinds[t]? = some (103 + k, .object Cn)) (hn : ¬ n < 0) (hN : n.toNatClampNeg = N) (hby : N ≤ 100000) (hst : ∀ v ∈ st, am_ok (am_nx H) v) (hlv : ∀ x ∈ lv, am_ok (am_nx H) x.2) (h6 : am_nx H + 1 ≤ 1000000) (hcn : am_nc H + 1 ≤ am_nc H') (hzn : am_nz H + N ≤ am_nz H') (hq : pc + 3 = q) (kk : am_V ox d M q lv (.ref (am_nx H) :: st) (am_nw H (103 + k) N) o H') : am_V ox d M pc lv (.int n :: st) H o H' := by
  subst hq
  intro l p e R s m args below meth c dC dI τ B0 ρ0 nx0 n0 z0 C ρ hp locs cells slots ls S
  have hcc := S.2.2.2.1
  have hzz := S.2.2.2.2.1
  have hRc := C.2.2.2.2.2.2.2.2.2.2.2.2.1
  have hRz := C.2.2.2.2.2.2.2.2.2.2.2.2.2.1
  refine va_newq (D := (dC, dI)) C.1 C.2.1 C.2.2.2.2.1 (C.2.2.2.2.2.1 _ hlk) (hov _ _ _ C.2.2.2.2.2.2.2.2.2.2.2.2.2.2.2.2) C.2.2.2.2.2.2.2.1 S.2.1.1 S.2.1.2.1 S.2.2.1 (fun x hx => Nat.le_trans C.2.2.2.2.2.2.2.2.2.1 hx) hn hN (by omega) (by omega) (by omega) hd (fun a cA H1 hK1 hP1 hD1 hS1 => ?_)
  have hcA : cA = τ (103 + k) := am_ra_eq (hK1.2 (am_tys τ).length (cA, .object Cn) (by simp)).2 (C.2.2.2.2.2.2.2.1.2 t (τ (103 + k), .object Cn) (am_tys_at ht)).2
  subst hcA
  have he : am_cell τ (va_up ρ (am_nx H) a) (am_nw H (103 + k) N) (am_nx H) = .inl (τ (103 + k), N, .inr (.inr (.inr (.inr (fun _ => none))))) := by
    rw [am_cell_q (n := N) am_sh_nw]
    congr 8
    funext y
    have e1 : am_gr (am_nw H (103 + k) N) (am_nx H) y = none := if_pos rfl
    rw [e1]; rfl
  obtain ⟨S', hex⟩ := am_grown S C.2.2.2.2.2.2.2.2.2.1 hlv h6 he hP1 hD1 hS1
  have hk := kk l p e R s m args below meth c dC dI τ B0 ρ0 nx0 n0 z0 C _ H1 locs _ _ ls S'
  rw [List.map_cons, am_cvs_ext hex hst, show am_cv (va_up ρ (am_nx H) a) (.ref (am_nx H)) = .ref a from by show Value.ref (va_up ρ (am_nx H) a (am_nx H)) = .ref a; rw [va_up_self]] at hk
  exact hk
theorem am_cat {st : List Value} (ρ : Nat → Nat) : ((st.map (am_cv ρ)).map fun v => v.category) = st.map fun v => v.category := by
  rw [List.map_map]
  apply List.map_congr_left
  intro v _
  exact am_cv_cat ρ v
theorem am_objInit {idx a : Nat} (hd : decode M.2.1 pc = .ok (.invokespecial idx, 3)) (hd1 : 1 ≤ d) (h1 : Cond.methodLink M.1 idx Lib.objectInit ∈ am_words) (h2 : Cond.instanceMethod Lib.objectInit ∈ am_words) (h3 : Cond.code Lib.objectInit ⟨#[0xb1]⟩ 1 none ∈ am_words) (hc8 : (st.map fun v => v.category).sum ≤ 8) (hq : pc + 3 = q) (kk : am_V ox d M q lv st H o H') : am_V ox d M pc lv (.ref a :: st) H o H' := by
  subst hq
  intro l p e R s m args below meth c dC dI τ B0 ρ0 nx0 n0 z0 C ρ hp locs cells slots ls S
  refine W.objInit C.1 C.2.1 C.2.2.2.2.1 (C.2.2.2.2.2.1 _ h1) (C.2.2.2.2.2.1 _ h2) (C.2.2.2.2.2.1 _ h3) rfl (by rw [C.2.2.1]; exact S.2.2.2.2.2.1) (a := ρ a) (rest := st.map (am_cv ρ)) rfl hd (by have := C.2.2.2.2.2.2.2.2.2.2.1; omega) ?_ (kk l p e R s m args below meth c dC dI τ B0 ρ0 nx0 n0 z0 C ρ hp locs cells slots ls S)
  rw [am_cat]
  have := C.2.2.2.2.2.2.2.2.2.2.2.1
  show 2 * 0 + _ + 12 ≤ _
  omega
-- ends
theorem am_iret {v : Int32} {ty : FieldType} (hd : decode M.2.1 pc = .ok (.ireturn, 1)) (ht : M.2.2.2.1 = some ty) (hn : narrow ty (.int v) = .int v) : am_V ox d M pc lv [.int v] H (.inl (some (.int v))) H := by
  intro l p e R s m args below meth c dC dI τ B0 ρ0 nx0 n0 z0 C ρ hp locs cells slots ls S
  have e1 : am_nc H - n0 = cells := by have := S.2.2.2.1; omega
  have e2 : am_nz H - z0 = slots := by have := S.2.2.2.2.1; omega
  rw [e1, e2]
  exact am_ret (W.zret C.1 C.2.1 (C.2.2.2.1.trans ht) hn (fun t ht hW => ⟨⟨some (.int v), ρ, rfl, rfl, S.1, by rw [ht]; exact S.2.1⟩, S.2.2.1.F ht⟩) S.2.2.1.2.2 hd (hlocks := C.2.2.2.2.2.2.1))
theorem am_aret {b : Nat} {ty : FieldType} (hd : decode M.2.1 pc = .ok (.areturn, 1)) (ht : M.2.2.2.1 = some ty) (hr : (∃ n, ty = .object n) ∨ ∃ t, ty = .array t) : am_V ox d M pc lv [.ref b] H (.inl (some (.ref b))) H := by
  intro l p e R s m args below meth c dC dI τ B0 ρ0 nx0 n0 z0 C ρ hp locs cells slots ls S
  have e1 : am_nc H - n0 = cells := by have := S.2.2.2.1; omega
  have e2 : am_nz H - z0 = slots := by have := S.2.2.2.2.1; omega
  rw [e1, e2]
  exact am_ret (W.aret (v := .ref (ρ b)) C.1 C.2.1 (C.2.2.2.1.trans ht) hr (Or.inr ⟨_, rfl⟩) (fun t ht hW => ⟨⟨some (.ref b), ρ, rfl, rfl, S.1, by rw [ht]; exact S.2.1⟩, S.2.2.1.F ht⟩) S.2.2.1.2.2 hd (hlocks := C.2.2.2.2.2.2.1))
theorem am_vret (hd : decode M.2.1 pc = .ok (.return_, 1)) (ht : M.2.2.2.1 = none) : am_V ox d M pc lv [] H (.inl none) H := by
  intro l p e R s m args below meth c dC dI τ B0 ρ0 nx0 n0 z0 C ρ hp locs cells slots ls S
  have e1 : am_nc H - n0 = cells := by have := S.2.2.2.1; omega
  have e2 : am_nz H - z0 = slots := by have := S.2.2.2.2.1; omega
  rw [e1, e2]
  exact am_ret (W.vret C.1 C.2.1 (C.2.2.2.1.trans ht) (fun t ht hW => ⟨⟨none, ρ, rfl, rfl, S.1, by rw [ht]; exact S.2.1⟩, S.2.2.1.F ht⟩) S.2.2.1.2.2 hd (hlocks := C.2.2.2.2.2.2.1))
/-- more cells may be counted than were made -/
theorem am_widen {H2 : am_H} (h1 : am_nx H = am_nx H2) (h2 : am_sh H = am_sh H2) (h3 : am_gi H = am_gi H2) (h4 : am_gr H = am_gr H2) (h5 : am_gl H = am_gl H2) (hc : am_nc H ≤ am_nc H2) (hz : am_nz H ≤ am_nz H2) (kk : am_V ox d M pc lv st H2 o H') : am_V ox d M pc lv st H o H' := by
  intro l p e R s m args below meth c dC dI τ B0 ρ0 nx0 n0 z0 C ρ hp locs cells slots ls S
  have hcc := S.2.2.2.1
  have hzz := S.2.2.2.2.1
  have ew : am_ws τ ρ H = am_ws τ ρ H2 := by unfold am_ws am_cell am_fs; rw [h1, h2, h3, h4, h5]
  refine W.widen (k := am_nc H2 - n0) (n := am_nz H2 - z0) (by omega) (by omega) (kk l p e R s m args below meth c dC dI τ B0 ρ0 nx0 n0 z0 C ρ hp locs _ _ ls ⟨?_, ?_, S.2.2.1, by omega, by omega, S.2.2.2.2.2⟩)
  · have := S.1; unfold am_J at this ⊢; rw [← h1]; exact this
  · have := S.2.1; unfold am_P at this ⊢; rw [← h1, ← h4, ← ew]; exact this
-- contracts
end AMN
def am_C (ox : List (Nat × (Nat → Int32))) (d : Nat) (y : MethodName) (M : am_M) (as : List Value) (H : am_H) (o : Option Value ⊕ String) (H' : am_H) : Prop :=
  ∀ (l : Launch), l.stackTraces = false → ∀ (dC : Nat → ClassId) (dI : Nat → Nat → Nat) (τ : Nat → ClassId) (B0 : Nat) (ρ : Nat → Nat),
    am_Met l y (Cond.code y M.2.1 M.2.2.1 M.2.2.2.1 :: am_words) (am_rm d (am_nc H' - am_nc H) (am_nz H' - am_nz H)) (va_Pc (as.map (am_cv ρ)) (am_B ox dC dI τ B0 ρ H)) (am_Q dC dI τ B0 ρ (am_nx H) o H') (am_X dC dI τ B0 ρ (am_nx H) o H') (am_nc H' - am_nc H) (am_nz H' - am_nz H) (am_A B0)
theorem am_args {ρ : Nat → Nat} : ∀ (as : List Value) (i : Nat), lv_args i (as.map (am_cv ρ)) = am_cl ρ (lv_args i as)
  | [], _ => rfl
  | v :: vs, i => by
    show (i, am_cv ρ v) :: lv_args (if (am_cv ρ v).category = 2 then i + 2 else i + 1) (vs.map (am_cv ρ)) = (i, am_cv ρ v) :: am_cl ρ (lv_args (if v.category = 2 then i + 2 else i + 1) vs)
    rw [am_cv_cat, am_args vs]
theorem am_sll {ρ : Nat → Nat} : ∀ (as : List Value), (lg_sl (as.map (am_cv ρ))).length = (lg_sl as).length
  | [] => rfl
  | v :: vs => by
    have := am_sll (ρ := ρ) vs
    unfold lg_sl at this ⊢
    rw [List.map_cons, List.flatMap_cons, List.flatMap_cons, List.length_append, List.length_append, this, am_cv_cat]
    by_cases h : v.category = 2
    · rw [if_pos h, if_pos h]; rfl
    · rw [if_neg h, if_neg h]; rfl
theorem am_enter {ox : List (Nat × (Nat → Int32))} {d : Nat} {y : MethodName} {M : am_M} {as : List Value} {H H' : am_H} {o : Option Value ⊕ String} (hy : plainName y.cls = true) (hc : M.1 = y.cls) (hnm : M.2.2.2.2.1 = y.name) (htb : M.2.2.2.2.2 = []) (hls : (lg_sl as).length ≤ M.2.2.1) (h1 : am_nc H ≤ am_nc H') (h2 : am_nz H ≤ am_nz H') (h : am_V ox d M 0 (lv_args 0 as) [] H o H') : am_C ox d y M as H o H' := by
  intro l hl dC dI τ B0 ρ
  refine am_ofW (cc := M.2.1) (maxL := M.2.2.1) (ret := M.2.2.2.1) hy rfl ?_
  intro p e s m args below meth c s₁ B hml htab hv
  obtain ⟨rfl, hP, hK, hO⟩ := hv
  have hts := atoms_spec (ws := Cond.code y M.2.1 M.2.2.1 M.2.2.2.1 :: am_words) B.pre
  have hle := lv_entry (as.map (am_cv ρ)) (n := M.2.2.1) (by rw [am_sll]; exact hls)
  rw [lg_entry_eq]
  generalize (lg_sl (as.map (am_cv ρ)) ++ List.replicate (M.2.2.1 - (lg_sl (as.map (am_cv ρ))).length) Slot.unset).toArray = ls at hle ⊢
  rw [am_args] at hle
  refine h l p e (am_rm d (am_nc H' - am_nc H) (am_nz H' - am_nz H)) s m _ below meth c dC dI τ B0 ρ (am_nx H) (am_nc H) (am_nz H) ⟨B.exec, B.bytes, hml, B.returns, by rw [hc]; exact findClass_of_methodNamed B.named, fun w hw => hts w (List.mem_cons_of_mem _ hw), B.notSynchronized, hK, hl, hP.2.2.2.2, Nat.le_refl _, Nat.le_refl _, ?_, ?_, ?_, ?_, hO⟩ ρ s.heap [] 0 0 ls ⟨⟨Nat.le_refl _, fun _ => rfl, am_ext.rf⟩, hP, va_S.rf, Nat.zero_add _, Nat.zero_add _, hle⟩
  · show am_nc H' ≤ am_nc H + (am_nc H' - am_nc H); omega
  · show am_nz H' ≤ am_nz H + (am_nz H' - am_nz H); omega
  · intro _; rw [hnm]; exact (name_of_methodNamed B.named B.method).1
  · intro _; rw [htb]; exact htab
end
section
/-! THE ABSTRACT MACHINE, part 6: calls. -/
section AMC
variable {ox : List (Nat × (Nat → Int32))} {d : Nat} {M : am_M} {pc q : Nat} {lv : List (Nat × Value)} {st stk : List Value} {H H1 H' : am_H} {o : Option Value ⊕ String}
/-- may the numbering grow under these values -/
def am_fine (H H1 : am_H) (lv : List (Nat × Value)) (st : List Value) : Prop := am_nx H1 = am_nx H ∨ (am_nx H ≤ am_nx H1 ∧ (∀ v ∈ st, am_ok (am_nx H) v) ∧ ∀ x ∈ lv, am_ok (am_nx H) x.2)
theorem am_fine.le {H H1 : am_H} {lv : List (Nat × Value)} {st : List Value} (h : am_fine H H1 lv st) : am_nx H ≤ am_nx H1 := by
  rcases h with h | h
  · omega
  · exact h.1
/-- the state behind a call -/
theorem am_after {nL : Nat} {s : State} {dC : Nat → ClassId} {dI : Nat → Nat → Nat} {τ : Nat → ClassId} {B0 : Nat} {ρ0 : Nat → Nat} {nx0 n0 z0 : Nat} {ρ ρ' : Nat → Nat} {hp hp1 : Heap} {locs locs1 : List Loc} {cells slots : Nat} {ls : Array Slot} (S : am_St nL lv H s dC dI τ B0 ρ0 nx0 n0 z0 ρ hp locs cells slots ls)
    (hf : am_fine H H1 lv st) (hc : am_nc H ≤ am_nc H1) (hz : am_nz H ≤ am_nz H1) (hJ : am_J (am_nx H) ρ ρ' H1) (hP : am_P dC dI τ B0 ρ' H1 hp1) (hS : va_S (am_A B0) s.heap hp1 locs1) :
    am_St nL lv H1 s dC dI τ B0 ρ0 nx0 n0 z0 ρ' hp1 locs1 (cells + (am_nc H1 - am_nc H)) (slots + (am_nz H1 - am_nz H)) ls ∧ st.map (am_cv ρ') = st.map (am_cv ρ) := by
  obtain ⟨⟨j1, j2, j3⟩, -, -, hcc, hzz, hl⟩ := S
  have hle := hf.le
  have hlv : am_cl ρ' lv = am_cl ρ lv ∧ st.map (am_cv ρ') = st.map (am_cv ρ) := by
    rcases hf with h | h
    · rw [hJ.2.1 h]; exact ⟨rfl, rfl⟩
    · exact ⟨am_cl_ext hJ.2.2 h.2.2, am_cvs_ext hJ.2.2 h.2.1⟩
  refine ⟨⟨⟨by omega, fun h => ?_, j3.trans hJ.2.2 j1⟩, hP, hS, by omega, by omega, by rw [hlv.1]; exact hl⟩, hlv.2⟩
  rw [hJ.2.1 (by omega)]
  exact j2 (by omega)
theorem am_keep {B0 : Nat} {hp H0 : Heap} {st₀ t T' : State} {locs L : List Loc} (h0 : st₀.heap = hp) (e1 : T'.heap = t.heap) (hS : va_S (am_A B0) H0 hp locs) (hL : ∀ q ∈ L, am_A B0 q.base) (hF : va_F (am_A B0) st₀ t) : va_S (am_A B0) H0 T'.heap (locs ++ L) := by
  obtain ⟨hz, hk⟩ := hF
  rw [h0] at hz hk
  refine ⟨Nat.le_trans hS.1 (by rw [e1]; exact hz), fun q h1 h2 => ?_, fun q hq => ?_⟩
  · rw [e1, hk q (Nat.lt_of_lt_of_le h1 hS.1) h2]; exact hS.2.1 q h1 h2
  · rcases List.mem_append.mp hq with h | h
    · exact hS.2.2 q h
    · exact hL q h
theorem am_C.met {d : Nat} {y : MethodName} {M : am_M} {as : List Value} {v : Option Value} (h : am_C ox d y M as H (.inl v) H1) (l : Launch) (hl : l.stackTraces = false) (dC : Nat → ClassId) (dI : Nat → Nat → Nat) (τ : Nat → ClassId) (B0 : Nat) (ρ : Nat → Nat) :
    Met l y (Cond.code y M.2.1 M.2.2.1 M.2.2.2.1 :: am_words) (am_rm d (am_nc H1 - am_nc H) (am_nz H1 - am_nz H)) (va_Pc (as.map (am_cv ρ)) (am_B ox dC dI τ B0 ρ H)) (am_Q dC dI τ B0 ρ (am_nx H) (.inl v) H1) (am_nc H1 - am_nc H) (am_nz H1 - am_nz H) (am_A B0) := by
  refine MetFree.mono (h l hl dC dI τ B0 ρ) (fun _ _ h => h) (fun _ _ _ _ _ h => h) (fun a s o t _ hq => ?_)
  rcases hq with hq | ⟨q, -, E, ce, ⟨⟨⟨ρ', ho, -⟩, -⟩, -⟩, -⟩
  · exact hq
  · cases ho
theorem am_cont {v : Option Value} {l : Launch} {p : Program} {e : Env} {R : Room} {s : State} {m : MethodId} {args a : Array Value} {below : List Frame} {meth : Method} {c : Code} {dC : Nat → ClassId} {dI : Nat → Nat → Nat} {τ : Nat → ClassId} {B0 : Nat} {ρ0 : Nat → Nat} {nx0 n0 z0 : Nat} (C : am_Cx ox d M l p R s m args meth c dC dI τ B0 ρ0 n0 z0 H') {ρ : Nat → Nat} {hp : Heap} {locs : List Loc} {cells slots : Nat} {ls : Array Slot} {st0 : List Value}
    (S : am_St M.2.2.1 lv H s dC dI τ B0 ρ0 nx0 n0 z0 ρ hp locs cells slots ls) (hf : am_fine H H1 lv st) (hc : am_nc H ≤ am_nc H1) (hz : am_nz H ≤ am_nz H1)
    (hr : va_Run p l e R s m args below meth c hp locs cells slots (am_nc H1 - am_nc H) (am_nz H1 - am_nz H) (F0 m pc ls st0) (st.map (am_cv ρ)) (am_Q dC dI τ B0 ρ (am_nx H) (.inl v) H1 a) (am_A B0))
    (kk : am_V ox d M (pc + 3) lv (v.toList ++ st) H1 o H') :
    W p l e R s m args below meth c hp locs cells slots (am_MQ below (am_Q dC dI τ B0 ρ0 nx0 o H') (am_X dC dI τ B0 ρ0 nx0 o H') args s (am_nc H' - n0) (am_nz H' - z0) (am_A B0)) (F0 m pc ls st0) := by
  intro T hT X
  obtain ⟨v', st₀, t, T', L, h0, X', hL, e1, e2, ⟨⟨w, ρ', ho, hv, hJ, hP⟩, hF⟩, stp⟩ := hr T hT X
  cases ho
  have hS1 := am_keep h0 e1 S.2.2.1 hL hF
  obtain ⟨S', est⟩ := am_after S hf hc hz hJ (by rw [e1]; exact hP) hS1
  have hk := kk l p e R s m args below meth c dC dI τ B0 ρ0 nx0 n0 z0 C ρ' T'.heap (locs ++ L) _ _ ls S'
  rw [List.map_append, est] at hk
  obtain ⟨t2, a1, b1⟩ := hk T' rfl X'
  refine ⟨t2, stp t2 ?_, b1⟩
  cases hv
  cases v <;> exact a1
theorem am_pre {y : MethodName} {Mc : am_M} {as : List Value} {l : Launch} {p : Program} {R : Room} {s : State} {m : MethodId} {args : Array Value} {meth : Method} {c : Code} {dC : Nat → ClassId} {dI : Nat → Nat → Nat} {τ : Nat → ClassId} {B0 : Nat} {ρ0 : Nat → Nat} {nx0 n0 z0 : Nat} (C : am_Cx ox d M l p R s m args meth c dC dI τ B0 ρ0 n0 z0 H') {ρ : Nat → Nat} {hp : Heap} {locs : List Loc} {cells slots : Nat} {ls : Array Slot}
    (S : am_St M.2.2.1 lv H s dC dI τ B0 ρ0 nx0 n0 z0 ρ hp locs cells slots ls) : PreS s hp (va_Pc (as.map (am_cv ρ)) (am_B ox dC dI τ B0 ρ H)) (as.map (am_cv ρ)) := by
  refine ⟨fun a U g mk h => ⟨h.1, h.2.1, va_K.moved (u := U) (U := U.calling g mk a) (Vm.Alike.refl U.vm) h.2.2.1, am_O.calling h.2.2.2⟩, fun U hU hW => ⟨rfl, by rw [hU]; exact S.2.1, va_K.moved hW.alike C.2.2.2.2.2.2.2.1, ?_⟩⟩
  exact am_O.to (am_O.ext C.2.2.2.2.2.2.2.2.2.2.2.2.2.2.2.2 S.1.2.2) hW (fun x hx => by rw [hU]; exact S.2.2.1.2.1 x (Nat.lt_of_lt_of_le hx C.2.2.2.2.2.2.2.2.2.1) (Nat.not_le.mpr hx))
def am_My (y : MethodName) (Mc : am_M) (n : Nat) : Prop := Cond.code y Mc.2.1 Mc.2.2.1 Mc.2.2.2.1 ∈ am_words ∧ Cond.initialized y.cls ∈ am_words ∧ (y.cls ≠ "java/lang/invoke/MethodHandle" ∧ y.cls ≠ "java/lang/invoke/VarHandle" ∧ (parseMethodDescriptor y.desc).map (fun d => d.parameters.length) = some n) ∧ Mc.2.2.1 ≤ 7
theorem am_cb {y : MethodName} {Mc : am_M} {n idx : Nat} {l : Launch} {p : Program} {R : Room} {s : State} {m : MethodId} {args : Array Value} {meth : Method} {c : Code} {dC : Nat → ClassId} {dI : Nat → Nat → Nat} {τ : Nat → ClassId} {B0 : Nat} {ρ0 : Nat → Nat} {n0 z0 : Nat} (C : am_Cx ox (d + 1) M l p R s m args meth c dC dI τ B0 ρ0 n0 z0 H') (hy : am_My y Mc n) (hlk : Cond.methodLink M.1 idx y ∈ am_words) (mc ms : Nat) :
    CallB R s args M.1 idx y Mc.2.1 Mc.2.2.1 Mc.2.2.2.1 (Cond.code y Mc.2.1 Mc.2.2.1 Mc.2.2.2.1 :: am_words) (am_rm d mc ms) mc ms n := by
  obtain ⟨hcd, hini, hd, h7⟩ := hy
  refine callB_of (Ts := am_words) n C.2.2.2.2.2.1 (fun w hw => ?_) rfl rfl rfl (C.2.2.2.2.2.1 _ hini) (C.2.2.2.2.2.1 _ hlk) hd ⟨?_, ?_⟩
  · rcases List.mem_cons.mp hw with rfl | hw
    · exact ⟨hcd, am_good _ hcd⟩
    · exact ⟨hw, am_good _ hw⟩
  · have := C.2.2.2.2.2.2.2.2.2.2.1
    show d + 1 ≤ R.frames
    omega
  · have := C.2.2.2.2.2.2.2.2.2.2.2.1
    show 8 + (Mc.2.2.1 + 11) + (116 + 26 * d) ≤ R.locals
    omega
theorem am_room {y : MethodName} {l : Launch} {p : Program} {R : Room} {s : State} {m : MethodId} {args : Array Value} {meth : Method} {c : Code} {dC : Nat → ClassId} {dI : Nat → Nat → Nat} {τ : Nat → ClassId} {B0 : Nat} {ρ0 : Nat → Nat} {nx0 n0 z0 : Nat} (C : am_Cx ox d M l p R s m args meth c dC dI τ B0 ρ0 n0 z0 H') {ρ : Nat → Nat} {hp : Heap} {locs : List Loc} {cells slots : Nat} {ls : Array Slot}
    (S : am_St M.2.2.1 lv H s dC dI τ B0 ρ0 nx0 n0 z0 ρ hp locs cells slots ls) (hc : am_nc H ≤ am_nc H1) (hz : am_nz H ≤ am_nz H1) (hc2 : am_nc H1 ≤ am_nc H') (hz2 : am_nz H1 ≤ am_nz H') : cells + (am_nc H1 - am_nc H) ≤ R.cells ∧ slots + (am_nz H1 - am_nz H) ≤ R.slots := by
  have h1 := S.2.2.2.1
  have h2 := S.2.2.2.2.1
  have h3 := C.2.2.2.2.2.2.2.2.2.2.2.2.1
  have h4 := C.2.2.2.2.2.2.2.2.2.2.2.2.2.1
  omega
theorem am_callS {y : MethodName} {Mc : am_M} {as : List Value} {v : Option Value} {idx n : Nat} (hd : decode M.2.1 pc = .ok (.invokestatic idx, 3)) (hC : am_C ox d y Mc as H (.inl v) H1) (hy : am_My y Mc n) (hlk : Cond.methodLink M.1 idx y ∈ am_words) (hs : Cond.static y ∈ am_words) (hn : as.length = n) (hst : stk = as.reverse ++ st) (hc8 : (st.map fun v => v.category).sum ≤ 8) (hf : am_fine H H1 lv st) (hc : am_nc H ≤ am_nc H1) (hz : am_nz H ≤ am_nz H1) (hc2 : am_nc H1 ≤ am_nc H') (hz2 : am_nz H1 ≤ am_nz H') (hq : pc + 3 = q) (kk : am_V ox (d + 1) M q lv (v.toList ++ st) H1 o H') : am_V ox (d + 1) M pc lv stk H o H' := by
  subst hq
  subst hst
  intro l p e R s m args below meth c dC dI τ B0 ρ0 nx0 n0 z0 C ρ hp locs cells slots ls S
  refine am_cont C S hf hc hz (va_runS (As := as.map (am_cv ρ)) (rest := st.map (am_cv ρ)) ⟨C.1, C.2.1, C.2.2.1, C.2.2.2.2.1, C.2.2.2.2.2.1⟩ (hC.met l C.2.2.2.2.2.2.2.2.1 dC dI τ B0 ρ) ⟨am_cb C hy hlk _ _, C.2.2.2.2.2.1 _ hs⟩ (am_pre (y := y) (Mc := Mc) C S) rfl (by rw [List.length_map]; exact hn) S.2.2.2.2.2.1 (by simp) ?_ hd (am_room (y := y) C S hc hz hc2 hz2)) kk
  rw [am_cat]
  show 2 * 0 + _ ≤ 8
  omega
theorem am_callV {y : MethodName} {Mc : am_M} {as : List Value} {v : Option Value} {idx n b ci N : Nat} {r : vw_C} (hd : decode M.2.1 pc = .ok (.invokevirtual idx, 3)) (hC : am_C ox d y Mc (.ref b :: as) H (.inl v) H1) (hy : am_My y Mc n) (hlk : Cond.methodLink M.1 idx y ∈ am_words) (hi : Cond.instanceMethod y ∈ am_words) (hse : Cond.selects r.1 y y ∈ am_words) (hr : vwCl[ci]? = some r) (h100 : ci < 100) (hs : am_sh H b = (ci, N)) (hb : b < am_nx H) (hn : as.length = n) (hst : stk = as.reverse ++ .ref b :: st) (hc8 : (st.map fun v => v.category).sum ≤ 8) (hf : am_fine H H1 lv st) (hc : am_nc H ≤ am_nc H1) (hz : am_nz H ≤ am_nz H1) (hc2 : am_nc H1 ≤ am_nc H') (hz2 : am_nz H1 ≤ am_nz H') (hq : pc + 3 = q) (kk : am_V ox (d + 1) M q lv (v.toList ++ st) H1 o H') : am_V ox (d + 1) M pc lv stk H o H' := by
  subst hq
  subst hst
  intro l p e R s m args below meth c dC dI τ B0 ρ0 nx0 n0 z0 C ρ hp locs cells slots ls S
  have hcell := am_ws_at (τ := τ) (ρ := ρ) hb
  rw [am_cell_o hs h100] at hcell
  have hp9 := am_pre (y := y) (Mc := Mc) (as := .ref b :: as) C S
  refine am_cont C S hf hc hz (va_runV (C := r.1) (b := ρ b) (As := as.map (am_cv ρ)) (rest := st.map (am_cv ρ)) ⟨C.1, C.2.1, C.2.2.1, C.2.2.2.2.1, C.2.2.2.2.2.1⟩ (hC.met l C.2.2.2.2.2.2.2.2.1 dC dI τ B0 ρ) ⟨am_cb C hy hlk _ _, C.2.2.2.2.2.1 _ hi, C.2.2.2.2.2.1 _ hse⟩ ⟨hp9.1, va_recv C.2.2.2.2.2.2.2.1 S.2.1.1 hr hcell, hp9.2⟩ rfl (by rw [List.length_map]; exact hn) S.2.2.2.2.2.1 (by simp [am_cv]) ?_ hd (am_room (y := y) C S hc hz hc2 hz2)) kk
  rw [am_cat]
  show 2 * 0 + _ ≤ 8
  omega
theorem am_callI {y : MethodName} {Mc : am_M} {as : List Value} {idx n b : Nat} (hd : decode M.2.1 pc = .ok (.invokespecial idx, 3)) (hC : am_C ox d y Mc (.ref b :: as) H (.inl none) H1) (hy : am_My y Mc n) (hret : Mc.2.2.2.1 = none) (hy1 : y.name = "<init>") (hlk : Cond.methodLink M.1 idx y ∈ am_words) (hi : Cond.instanceMethod y ∈ am_words) (hn : as.length = n) (hst : stk = as.reverse ++ .ref b :: st) (hc8 : (st.map fun v => v.category).sum ≤ 8) (hf : am_fine H H1 lv st) (hc : am_nc H ≤ am_nc H1) (hz : am_nz H ≤ am_nz H1) (hc2 : am_nc H1 ≤ am_nc H') (hz2 : am_nz H1 ≤ am_nz H') (hq : pc + 3 = q) (kk : am_V ox (d + 1) M q lv st H1 o H') : am_V ox (d + 1) M pc lv stk H o H' := by
  subst hq
  subst hst
  intro l p e R s m args below meth c dC dI τ B0 ρ0 nx0 n0 z0 C ρ hp locs cells slots ls S
  have hp9 := am_pre (y := y) (Mc := Mc) (as := .ref b :: as) C S
  have hcb := am_cb C hy hlk (am_nc H1 - am_nc H) (am_nz H1 - am_nz H)
  have hM := hC.met l C.2.2.2.2.2.2.2.2.1 dC dI τ B0 ρ
  rw [hret] at hcb hM
  refine am_cont (v := none) C S hf hc hz (va_runI (b := ρ b) (As := as.map (am_cv ρ)) (rest := st.map (am_cv ρ)) ⟨C.1, C.2.1, C.2.2.1, C.2.2.2.2.1, C.2.2.2.2.2.1⟩ hM ⟨hcb, hy1, C.2.2.2.2.2.1 _ hi⟩ hp9 rfl (by rw [List.length_map]; exact hn) S.2.2.2.2.2.1 (by simp [am_cv]) ?_ hd (am_room (y := y) C S hc hz hc2 hz2)) kk
  rw [am_cat]
  show 2 * 0 + _ ≤ 8
  omega
end AMC
end
section
/-! THE ABSTRACT MACHINE, part 7: what was there before, throws. -/
section AMT
variable {ox : List (Nat × (Nat → Int32))} {d : Nat} {M : am_M} {pc q : Nat} {lv : List (Nat × Value)} {st : List Value} {H H' : am_H} {o : Option Value ⊕ String}
theorem am_sld {i : Nat} {r : Nat × (Nat → Int32)} {x : Int32} (hd : decode M.2.1 pc = .ok (.iaload, 1)) (ho : ox[i]? = some r) (hin : vp_in x r.1) (hq : pc + 1 = q) (kk : am_V ox d M q lv (.int (r.2 x.toNatClampNeg) :: st) H o H') : am_V ox d M pc lv (.int x :: .ref (1000000 + i) :: st) H o H' := by
  subst hq
  intro l p e R s m args below meth c dC dI τ B0 ρ0 nx0 n0 z0 C ρ hp locs cells slots ls S
  have hO := (am_O.ext C.2.2.2.2.2.2.2.2.2.2.2.2.2.2.2.2 S.1.2.2).1 i r ho
  exact va_sld C.1 C.2.1 hO.1 (Nat.lt_of_lt_of_le hO.2 C.2.2.2.2.2.2.2.2.2.1) (Nat.not_le.mpr hO.2) S.2.2.1 hin hd (kk l p e R s m args below meth c dC dI τ B0 ρ0 nx0 n0 z0 C ρ hp locs cells slots ls S)
theorem am_slen {i : Nat} {r : Nat × (Nat → Int32)} (hd : decode M.2.1 pc = .ok (.arraylength, 1)) (ho : ox[i]? = some r) (hq : pc + 1 = q) (kk : am_V ox d M q lv (.int (nI r.1) :: st) H o H') : am_V ox d M pc lv (.ref (1000000 + i) :: st) H o H' := by
  subst hq
  intro l p e R s m args below meth c dC dI τ B0 ρ0 nx0 n0 z0 C ρ hp locs cells slots ls S
  have hO := (am_O.ext C.2.2.2.2.2.2.2.2.2.2.2.2.2.2.2.2 S.1.2.2).1 i r ho
  exact va_slen C.1 C.2.1 hO.1 (Nat.lt_of_lt_of_le hO.2 C.2.2.2.2.2.2.2.2.2.1) (Nat.not_le.mpr hO.2) S.2.2.1 hd (kk l p e R s m args below meth c dC dI τ B0 ρ0 nx0 n0 z0 C ρ hp locs cells slots ls S)
theorem am_gets {Cn n ds : String} {i idx : Nat} (hd : decode M.2.1 pc = .ok (.getstatic idx, 3)) (hz : (Cn, n, ds, i) ∈ am_sts) (hlk : Cond.fieldLink M.1 idx Cn n ds ∈ am_words) (hq : pc + 3 = q) (kk : am_V ox d M q lv (.ref (1000000 + i) :: st) H o H') : am_V ox d M pc lv st H o H' := by
  subst hq
  intro l p e R s m args below meth c dC dI τ B0 ρ0 nx0 n0 z0 C ρ hp locs cells slots ls S
  have hO := (am_O.ext C.2.2.2.2.2.2.2.2.2.2.2.2.2.2.2.2 S.1.2.2).2.1 _ hz
  exact va_gets C.1 C.2.1 hO S.2.2.1 C.2.2.2.2.1 (C.2.2.2.2.2.1 _ hlk) (fun _ h => h) hd (kk l p e R s m args below meth c dC dI τ B0 ρ0 nx0 n0 z0 C ρ hp locs cells slots ls S)
theorem am_mmax {idx : Nat} {x y : Int32} (hd : decode M.2.1 pc = .ok (.invokestatic idx, 3)) (hd1 : 1 ≤ d) (hlk : Cond.methodLink M.1 idx Lib.Math.max.name ∈ am_words) (hst : Cond.static Lib.Math.max.name ∈ am_words) (hini : Cond.initialized "java/lang/Math" ∈ am_words) (hcd : Cond.code Lib.Math.max.name Lib.Math.max.code 2 (some .int) ∈ am_words) (hc8 : (st.map fun v => v.category).sum ≤ 8) (hcn : am_nc H ≤ am_nc H') (hzn : am_nz H ≤ am_nz H') (hq : pc + 3 = q) (kk : am_V ox d M q lv (.int (if x < y then y else x) :: st) H o H') : am_V ox d M pc lv (.int y :: .int x :: st) H o H' := by
  subst hq
  intro l p e R s m args below meth c dC dI τ B0 ρ0 nx0 n0 z0 C ρ hp locs cells slots ls S
  have hcc := S.2.2.2.1
  have hzz := S.2.2.2.2.1
  have hRc := C.2.2.2.2.2.2.2.2.2.2.2.2.1
  have hRz := C.2.2.2.2.2.2.2.2.2.2.2.2.2.1
  have hRf := C.2.2.2.2.2.2.2.2.2.2.1
  have hRl := C.2.2.2.2.2.2.2.2.2.2.2.1
  exact va_mmax C.1 C.2.1 (by rw [C.2.2.1]; exact S.2.2.2.2.2.1.symm) C.2.2.2.2.1 (C.2.2.2.2.2.1 _ hlk) (C.2.2.2.2.2.1 _ hst) (C.2.2.2.2.2.1 _ hini) (C.2.2.2.2.2.1 _ hcd) (by omega) (by rw [am_cat]; omega) (by omega) (by omega) hd (kk l p e R s m args below meth c dC dI τ B0 ρ0 nx0 n0 z0 C ρ hp locs cells slots ls S)
theorem am_mmin {idx : Nat} {x y : Int32} (hd : decode M.2.1 pc = .ok (.invokestatic idx, 3)) (hd1 : 1 ≤ d) (hlk : Cond.methodLink M.1 idx Lib.Math.min.name ∈ am_words) (hst : Cond.static Lib.Math.min.name ∈ am_words) (hini : Cond.initialized "java/lang/Math" ∈ am_words) (hcd : Cond.code Lib.Math.min.name Lib.Math.min.code 2 (some .int) ∈ am_words) (hc8 : (st.map fun v => v.category).sum ≤ 8) (hcn : am_nc H ≤ am_nc H') (hzn : am_nz H ≤ am_nz H') (hq : pc + 3 = q) (kk : am_V ox d M q lv (.int (if y < x then y else x) :: st) H o H') : am_V ox d M pc lv (.int y :: .int x :: st) H o H' := by
  subst hq
  intro l p e R s m args below meth c dC dI τ B0 ρ0 nx0 n0 z0 C ρ hp locs cells slots ls S
  have hcc := S.2.2.2.1
  have hzz := S.2.2.2.2.1
  have hRc := C.2.2.2.2.2.2.2.2.2.2.2.2.1
  have hRz := C.2.2.2.2.2.2.2.2.2.2.2.2.2.1
  have hRf := C.2.2.2.2.2.2.2.2.2.2.1
  have hRl := C.2.2.2.2.2.2.2.2.2.2.2.1
  exact va_mmin C.1 C.2.1 (by rw [C.2.2.1]; exact S.2.2.2.2.2.1.symm) C.2.2.2.2.1 (C.2.2.2.2.2.1 _ hlk) (C.2.2.2.2.2.1 _ hst) (C.2.2.2.2.2.1 _ hini) (C.2.2.2.2.2.1 _ hcd) (by omega) (by rw [am_cat]; omega) (by omega) (by omega) hd (kk l p e R s m args below meth c dC dI τ B0 ρ0 nx0 n0 z0 C ρ hp locs cells slots ls S)
/-- System.arraycopy over int[] -/
theorem am_copyi {idx a a0 n n0' : Nat} {sp dp cn : Int32} (hd : decode M.2.1 pc = .ok (.invokestatic idx, 3)) (hd1 : 1 ≤ d) (hlk : Cond.methodLink M.1 idx arraycopyName ∈ am_words) (hnat : Cond.native arraycopyName ∈ am_words) (hst : Cond.static arraycopyName ∈ am_words) (hini : Cond.initialized "java/lang/System" ∈ am_words) (hs0 : am_sh H a0 = (100, n0')) (hs : am_sh H a = (100, n)) (ha0 : a0 < am_nx H) (ha : a < am_nx H) (h1 : ¬ sp < 0) (h2 : ¬ dp < 0) (h3 : ¬ cn < 0) (h4 : sp.toNatClampNeg + cn.toNatClampNeg ≤ n0') (h5 : dp.toNatClampNeg + cn.toNatClampNeg ≤ n) (hc8 : (st.map fun v => v.category).sum ≤ 8) (hq : pc + 3 = q) (kk : am_V ox d M q lv st (am_sf H a (va_cpy (am_gi H a0) (am_gi H a) sp.toNatClampNeg dp.toNatClampNeg cn.toNatClampNeg)) o H') : am_V ox d M pc lv (.int cn :: .int dp :: .ref a :: .int sp :: .ref a0 :: st) H o H' := by
  subst hq
  intro l p e R s m args below meth c dC dI τ B0 ρ0 nx0 n0 z0 C ρ hp locs cells slots ls S
  have hRf := C.2.2.2.2.2.2.2.2.2.2.1
  have hRl := C.2.2.2.2.2.2.2.2.2.2.2.1
  have hcell := am_ws_at (τ := τ) (ρ := ρ) ha
  rw [am_cell_i hs] at hcell
  have hcell0 := am_ws_at (τ := τ) (ρ := ρ) ha0
  rw [am_cell_i hs0] at hcell0
  have hnw : nativeFrameWords "java/lang/System" "arraycopy" 5 + 11 ≤ 100 := by decide +kernel
  refine va_copyi (D := (dC, dI)) (ty := .int) C.1 C.2.1 (by rw [C.2.2.1]; exact S.2.2.2.2.2.1.symm) C.2.2.2.2.1 (C.2.2.2.2.2.1 _ hlk) (C.2.2.2.2.2.1 _ hnat) (C.2.2.2.2.2.1 _ hst) (C.2.2.2.2.2.1 _ hini) C.2.2.2.2.2.2.2.1 S.2.1.1 S.2.1.2.1 S.2.2.1 a0 a 0 0 hcell0 hcell (am_tys_at rfl) (am_tys_at rfl) rfl h1 h2 h3 h4 h5 (fun _ _ => rfl) (by omega) (by rw [am_cat]; omega) hd (fun H1 locs1 hP1 hD1 hS1 => ?_)
  have e1 : am_cell τ ρ (am_sf H a (va_cpy (am_gi H a0) (am_gi H a) sp.toNatClampNeg dp.toNatClampNeg cn.toNatClampNeg)) a = .inl (τ 100, n, .inl (va_cpy (am_gi H a0) (am_gi H a) sp.toNatClampNeg dp.toNatClampNeg cn.toNatClampNeg)) := by
    rw [am_cell_i (H := (am_sf H a (va_cpy (am_gi H a0) (am_gi H a) sp.toNatClampNeg dp.toNatClampNeg cn.toNatClampNeg))) hs]
    congr 4
    funext y
    exact if_pos rfl
  rw [am_ws_set (H := H) (H2 := am_sf H a (va_cpy (am_gi H a0) (am_gi H a) sp.toNatClampNeg dp.toNatClampNeg cn.toNatClampNeg)) rfl e1 (fun b hb => am_cell_sf hb)] at hP1 hD1
  exact kk l p e R s m args below meth c dC dI τ B0 ρ0 nx0 n0 z0 C ρ H1 locs1 cells slots ls ⟨S.1, ⟨hP1, hD1, S.2.1.2.2.1, S.2.1.2.2.2.1, Nat.le_trans C.2.2.2.2.2.2.2.2.2.1 hS1.1⟩, hS1, S.2.2.2⟩
end AMT
end
section
/-! THE ABSTRACT MACHINE, part 8: the judgement am_E: from this frame the method comes to an end with P. -/
def am_E (ox : List (Nat × (Nat → Int32))) (d : Nat) (M : am_M) (pc : Nat) (lv : List (Nat × Value)) (st : List Value) (H : am_H) (P : Option Value ⊕ String → am_H → Prop) : Prop :=
  ∃ (o : Option Value ⊕ String) (H' : am_H), am_V ox d M pc lv st H o H' ∧ am_nc H ≤ am_nc H' ∧ am_nz H ≤ am_nz H' ∧ P o H'
def am_D (ox : List (Nat × (Nat → Int32))) (d : Nat) (y : MethodName) (M : am_M) (as : List Value) (H : am_H) (P : Option Value ⊕ String → am_H → Prop) : Prop :=
  ∃ (o : Option Value ⊕ String) (H' : am_H), am_C ox d y M as H o H' ∧ am_nc H ≤ am_nc H' ∧ am_nz H ≤ am_nz H' ∧ P o H'
section AME
variable {ox : List (Nat × (Nat → Int32))} {d : Nat} {M : am_M} {pc q : Nat} {lv : List (Nat × Value)} {st stk : List Value} {H : am_H} {P P1 : Option Value ⊕ String → am_H → Prop}
theorem am_E.mono (h : am_E ox d M pc lv st H P1) (hP : ∀ o H', P1 o H' → P o H') : am_E ox d M pc lv st H P := by
  obtain ⟨o, H', hV, hm1, hm2, hm3⟩ := h
  exact ⟨o, H', hV, hm1, hm2, hP o H' hm3⟩
theorem am_D.mono {y : MethodName} {as : List Value} (h : am_D ox d y M as H P1) (hP : ∀ o H', P1 o H' → P o H') : am_D ox d y M as H P := by
  obtain ⟨o, H', hV, hm1, hm2, hm3⟩ := h
  exact ⟨o, H', hV, hm1, hm2, hP o H' hm3⟩
theorem ae_enter {y : MethodName} {as : List Value} (hy : plainName y.cls = true) (hc : M.1 = y.cls) (hnm : M.2.2.2.2.1 = y.name) (htb : M.2.2.2.2.2 = []) (hls : (lg_sl as).length ≤ M.2.2.1) (h : am_E ox d M 0 (lv_args 0 as) [] H P) : am_D ox d y M as H P := by
  obtain ⟨o, H', hV, hm1, hm2, hm3⟩ := h
  exact ⟨o, H', am_enter hy hc hnm htb hls hm1 hm2 hV, hm1, hm2, hm3⟩
theorem ae_callS {y : MethodName} {Mc : am_M} {as : List Value} {idx n : Nat} (hd : decode M.2.1 pc = .ok (.invokestatic idx, 3)) (hC : am_D ox d y Mc as H P1) (hy : am_My y Mc n) (hlk : Cond.methodLink M.1 idx y ∈ am_words) (hs : Cond.static y ∈ am_words) (hn : as.length = n) (hst : stk = as.reverse ++ st) (hc8 : (st.map fun v => v.category).sum ≤ 8) (hq : pc + 3 = q) (hx : ∀ o H1, P1 o H1 → ∃ v, o = .inl v) (kk : ∀ v H1, P1 (.inl v) H1 → am_fine H H1 lv st ∧ am_E ox (d + 1) M q lv (v.toList ++ st) H1 P) : am_E ox (d + 1) M pc lv stk H P := by
  obtain ⟨o1, H1, hc, c1, c2, hp⟩ := hC
  obtain ⟨v, rfl⟩ := hx o1 H1 hp
  obtain ⟨hf, o, H', hV, hm1, hm2, hm3⟩ := kk v H1 hp
  exact ⟨o, H', am_callS hd hc hy hlk hs hn hst hc8 hf c1 c2 hm1 hm2 hq hV, Nat.le_trans c1 hm1, Nat.le_trans c2 hm2, hm3⟩
theorem ae_callV {y : MethodName} {Mc : am_M} {as : List Value} {idx n b ci N : Nat} {r : vw_C} (hd : decode M.2.1 pc = .ok (.invokevirtual idx, 3)) (hC : am_D ox d y Mc (.ref b :: as) H P1) (hy : am_My y Mc n) (hlk : Cond.methodLink M.1 idx y ∈ am_words) (hi : Cond.instanceMethod y ∈ am_words) (hse : Cond.selects r.1 y y ∈ am_words) (hr : vwCl[ci]? = some r) (h100 : ci < 100) (hs : am_sh H b = (ci, N)) (hb : b < am_nx H) (hn : as.length = n) (hst : stk = as.reverse ++ .ref b :: st) (hc8 : (st.map fun v => v.category).sum ≤ 8) (hq : pc + 3 = q) (hx : ∀ o H1, P1 o H1 → ∃ v, o = .inl v) (kk : ∀ v H1, P1 (.inl v) H1 → am_fine H H1 lv st ∧ am_E ox (d + 1) M q lv (v.toList ++ st) H1 P) : am_E ox (d + 1) M pc lv stk H P := by
  obtain ⟨o1, H1, hc, c1, c2, hp⟩ := hC
  obtain ⟨v, rfl⟩ := hx o1 H1 hp
  obtain ⟨hf, o, H', hV, hm1, hm2, hm3⟩ := kk v H1 hp
  exact ⟨o, H', am_callV hd hc hy hlk hi hse hr h100 hs hb hn hst hc8 hf c1 c2 hm1 hm2 hq hV, Nat.le_trans c1 hm1, Nat.le_trans c2 hm2, hm3⟩
theorem ae_callI {y : MethodName} {Mc : am_M} {as : List Value} {idx n b : Nat} (hd : decode M.2.1 pc = .ok (.invokespecial idx, 3)) (hC : am_D ox d y Mc (.ref b :: as) H P1) (hy : am_My y Mc n) (hret : Mc.2.2.2.1 = none) (hy1 : y.name = "<init>") (hlk : Cond.methodLink M.1 idx y ∈ am_words) (hi : Cond.instanceMethod y ∈ am_words) (hn : as.length = n) (hst : stk = as.reverse ++ .ref b :: st) (hc8 : (st.map fun v => v.category).sum ≤ 8) (hq : pc + 3 = q) (hx : ∀ o H1, P1 o H1 → o = .inl none) (kk : ∀ H1, P1 (.inl none) H1 → am_fine H H1 lv st ∧ am_E ox (d + 1) M q lv st H1 P) : am_E ox (d + 1) M pc lv stk H P := by
  obtain ⟨o1, H1, hc, c1, c2, hp⟩ := hC
  obtain rfl := hx o1 H1 hp
  obtain ⟨hf, o, H', hV, hm1, hm2, hm3⟩ := kk H1 hp
  exact ⟨o, H', am_callI hd hc hy hret hy1 hlk hi hn hst hc8 hf c1 c2 hm1 hm2 hq hV, Nat.le_trans c1 hm1, Nat.le_trans c2 hm2, hm3⟩
theorem ae_iconst {n : Int} {v : Int32} (hd : decode M.2.1 pc = .ok (.iconst n, 1)) (hv : Int32.ofInt n = v) (hq : pc + 1 = q) (k : am_E ox d M q lv (.int v :: st) H P) : am_E ox d M pc lv st H P := by
  obtain ⟨o, H', hV, hm1, hm2, hm3⟩ := k
  exact ⟨o, H', am_iconst hd hv hq hV, hm1, hm2, hm3⟩
theorem ae_bipush {n : Int} {v : Int32} (hd : decode M.2.1 pc = .ok (.bipush n, 2)) (hv : (Int8.ofInt n).toInt32 = v) (hq : pc + 2 = q) (k : am_E ox d M q lv (.int v :: st) H P) : am_E ox d M pc lv st H P := by
  obtain ⟨o, H', hV, hm1, hm2, hm3⟩ := k
  exact ⟨o, H', am_bipush hd hv hq hV, hm1, hm2, hm3⟩
theorem ae_sipush {n : Int} {v : Int32} (hd : decode M.2.1 pc = .ok (.sipush n, 3)) (hv : (Int16.ofInt n).toInt32 = v) (hq : pc + 3 = q) (k : am_E ox d M q lv (.int v :: st) H P) : am_E ox d M pc lv st H P := by
  obtain ⟨o, H', hV, hm1, hm2, hm3⟩ := k
  exact ⟨o, H', am_sipush hd hv hq hV, hm1, hm2, hm3⟩
theorem ae_ldc {n : Nat} {v : Int32} (hd : decode M.2.1 pc = .ok (.ldc n, 2)) (hv : Cond.constant M.1 n v ∈ am_words) (hq : pc + 2 = q) (k : am_E ox d M q lv (.int v :: st) H P) : am_E ox d M pc lv st H P := by
  obtain ⟨o, H', hV, hm1, hm2, hm3⟩ := k
  exact ⟨o, H', am_ldc hd hv hq hV, hm1, hm2, hm3⟩
theorem ae_iload_n {i : Nat} {x : Int32} {w : Fin 4} (hd : decode M.2.1 pc = .ok (.iload_n w, 1)) (hi : (w : Nat) = i) (hl : am_lk i lv = some (.int x)) (hq : pc + 1 = q) (k : am_E ox d M q lv (.int x :: st) H P) : am_E ox d M pc lv st H P := by
  obtain ⟨o, H', hV, hm1, hm2, hm3⟩ := k
  exact ⟨o, H', am_iload_n hd hi hl hq hV, hm1, hm2, hm3⟩
theorem ae_iload {i : Nat} {x : Int32} (hd : decode M.2.1 pc = .ok (.iload i, 2)) (hl : am_lk i lv = some (.int x)) (hq : pc + 2 = q) (k : am_E ox d M q lv (.int x :: st) H P) : am_E ox d M pc lv st H P := by
  obtain ⟨o, H', hV, hm1, hm2, hm3⟩ := k
  exact ⟨o, H', am_iload hd hl hq hV, hm1, hm2, hm3⟩
theorem ae_aload_n {i : Nat} {x : Nat} {w : Fin 4} (hd : decode M.2.1 pc = .ok (.aload_n w, 1)) (hi : (w : Nat) = i) (hl : am_lk i lv = some (.ref x)) (hq : pc + 1 = q) (k : am_E ox d M q lv (.ref x :: st) H P) : am_E ox d M pc lv st H P := by
  obtain ⟨o, H', hV, hm1, hm2, hm3⟩ := k
  exact ⟨o, H', am_aload_n hd hi hl hq hV, hm1, hm2, hm3⟩
theorem ae_aload {i : Nat} {x : Nat} (hd : decode M.2.1 pc = .ok (.aload i, 2)) (hl : am_lk i lv = some (.ref x)) (hq : pc + 2 = q) (k : am_E ox d M q lv (.ref x :: st) H P) : am_E ox d M pc lv st H P := by
  obtain ⟨o, H', hV, hm1, hm2, hm3⟩ := k
  exact ⟨o, H', am_aload hd hl hq hV, hm1, hm2, hm3⟩
theorem ae_iadd {x y : Int32} (hd : decode M.2.1 pc = .ok (.iadd, 1)) (hq : pc + 1 = q) (k : am_E ox d M q lv (.int (x + y) :: st) H P) : am_E ox d M pc lv (.int y :: .int x :: st) H P := by
  obtain ⟨o, H', hV, hm1, hm2, hm3⟩ := k
  exact ⟨o, H', am_iadd hd hq hV, hm1, hm2, hm3⟩
theorem ae_isub {x y : Int32} (hd : decode M.2.1 pc = .ok (.isub, 1)) (hq : pc + 1 = q) (k : am_E ox d M q lv (.int (x - y) :: st) H P) : am_E ox d M pc lv (.int y :: .int x :: st) H P := by
  obtain ⟨o, H', hV, hm1, hm2, hm3⟩ := k
  exact ⟨o, H', am_isub hd hq hV, hm1, hm2, hm3⟩
theorem ae_imul {x y : Int32} (hd : decode M.2.1 pc = .ok (.imul, 1)) (hq : pc + 1 = q) (k : am_E ox d M q lv (.int (x * y) :: st) H P) : am_E ox d M pc lv (.int y :: .int x :: st) H P := by
  obtain ⟨o, H', hV, hm1, hm2, hm3⟩ := k
  exact ⟨o, H', am_imul hd hq hV, hm1, hm2, hm3⟩
theorem ae_iand {x y : Int32} (hd : decode M.2.1 pc = .ok (.iand, 1)) (hq : pc + 1 = q) (k : am_E ox d M q lv (.int (x &&& y) :: st) H P) : am_E ox d M pc lv (.int y :: .int x :: st) H P := by
  obtain ⟨o, H', hV, hm1, hm2, hm3⟩ := k
  exact ⟨o, H', am_iand hd hq hV, hm1, hm2, hm3⟩
theorem ae_ior {x y : Int32} (hd : decode M.2.1 pc = .ok (.ior, 1)) (hq : pc + 1 = q) (k : am_E ox d M q lv (.int (x ||| y) :: st) H P) : am_E ox d M pc lv (.int y :: .int x :: st) H P := by
  obtain ⟨o, H', hV, hm1, hm2, hm3⟩ := k
  exact ⟨o, H', am_ior hd hq hV, hm1, hm2, hm3⟩
theorem ae_ixor {x y : Int32} (hd : decode M.2.1 pc = .ok (.ixor, 1)) (hq : pc + 1 = q) (k : am_E ox d M q lv (.int (x ^^^ y) :: st) H P) : am_E ox d M pc lv (.int y :: .int x :: st) H P := by
  obtain ⟨o, H', hV, hm1, hm2, hm3⟩ := k
  exact ⟨o, H', am_ixor hd hq hV, hm1, hm2, hm3⟩
theorem ae_idiv {x y : Int32} (hd : decode M.2.1 pc = .ok (.idiv, 1)) (hne : ¬ y = 0) (hq : pc + 1 = q) (k : am_E ox d M q lv (.int (x / y) :: st) H P) : am_E ox d M pc lv (.int y :: .int x :: st) H P := by
  obtain ⟨o, H', hV, hm1, hm2, hm3⟩ := k
  exact ⟨o, H', am_idiv hd hne hq hV, hm1, hm2, hm3⟩
theorem ae_irem {x y : Int32} (hd : decode M.2.1 pc = .ok (.irem, 1)) (hne : ¬ y = 0) (hq : pc + 1 = q) (k : am_E ox d M q lv (.int (x - x / y * y) :: st) H P) : am_E ox d M pc lv (.int y :: .int x :: st) H P := by
  obtain ⟨o, H', hV, hm1, hm2, hm3⟩ := k
  exact ⟨o, H', am_irem hd hne hq hV, hm1, hm2, hm3⟩
theorem ae_ineg {x : Int32} (hd : decode M.2.1 pc = .ok (.ineg, 1)) (hq : pc + 1 = q) (k : am_E ox d M q lv (.int (-x) :: st) H P) : am_E ox d M pc lv (.int x :: st) H P := by
  obtain ⟨o, H', hV, hm1, hm2, hm3⟩ := k
  exact ⟨o, H', am_ineg hd hq hV, hm1, hm2, hm3⟩
theorem ae_ishl {x y : Int32} (hd : decode M.2.1 pc = .ok (.ishl, 1)) (hq : pc + 1 = q) (k : am_E ox d M q lv (.int (x <<< (y &&& 31)) :: st) H P) : am_E ox d M pc lv (.int y :: .int x :: st) H P := by
  obtain ⟨o, H', hV, hm1, hm2, hm3⟩ := k
  exact ⟨o, H', am_ishl hd hq hV, hm1, hm2, hm3⟩
theorem ae_ishr {x y : Int32} (hd : decode M.2.1 pc = .ok (.ishr, 1)) (hq : pc + 1 = q) (k : am_E ox d M q lv (.int (x >>> (y &&& 31)) :: st) H P) : am_E ox d M pc lv (.int y :: .int x :: st) H P := by
  obtain ⟨o, H', hV, hm1, hm2, hm3⟩ := k
  exact ⟨o, H', am_ishr hd hq hV, hm1, hm2, hm3⟩
theorem ae_i2l {x : Int32} (hd : decode M.2.1 pc = .ok (.i2l, 1)) (hq : pc + 1 = q) (k : am_E ox d M q lv (.long x.toInt64 :: st) H P) : am_E ox d M pc lv (.int x :: st) H P := by
  obtain ⟨o, H', hV, hm1, hm2, hm3⟩ := k
  exact ⟨o, H', am_i2l hd hq hV, hm1, hm2, hm3⟩
theorem ae_lcmp {x y : Int64} (hd : decode M.2.1 pc = .ok (.lcmp, 1)) (hq : pc + 1 = q) (k : am_E ox d M q lv (.int (lg_cmp x y) :: st) H P) : am_E ox d M pc lv (.long y :: .long x :: st) H P := by
  obtain ⟨o, H', hV, hm1, hm2, hm3⟩ := k
  exact ⟨o, H', am_lcmp hd hq hV, hm1, hm2, hm3⟩
theorem ae_dup {a : Value} (hd : decode M.2.1 pc = .ok (.dup, 1)) (ha : a.category = 1) (hq : pc + 1 = q) (k : am_E ox d M q lv (a :: a :: st) H P) : am_E ox d M pc lv (a :: st) H P := by
  obtain ⟨o, H', hV, hm1, hm2, hm3⟩ := k
  exact ⟨o, H', am_dup hd ha hq hV, hm1, hm2, hm3⟩
theorem ae_pop {a : Value} (hd : decode M.2.1 pc = .ok (.pop, 1)) (ha : a.category = 1) (hq : pc + 1 = q) (k : am_E ox d M q lv st H P) : am_E ox d M pc lv (a :: st) H P := by
  obtain ⟨o, H', hV, hm1, hm2, hm3⟩ := k
  exact ⟨o, H', am_pop hd ha hq hV, hm1, hm2, hm3⟩
theorem ae_dup_x1 {a b : Value} (hd : decode M.2.1 pc = .ok (.dup_x1, 1)) (ha : a.category = 1) (hb : b.category = 1) (hq : pc + 1 = q) (k : am_E ox d M q lv (a :: b :: a :: st) H P) : am_E ox d M pc lv (a :: b :: st) H P := by
  obtain ⟨o, H', hV, hm1, hm2, hm3⟩ := k
  exact ⟨o, H', am_dup_x1 hd ha hb hq hV, hm1, hm2, hm3⟩
theorem ae_dup2 {a b : Value} (hd : decode M.2.1 pc = .ok (.dup2, 1)) (ha : a.category = 1) (hb : b.category = 1) (hq : pc + 1 = q) (k : am_E ox d M q lv (a :: b :: a :: b :: st) H P) : am_E ox d M pc lv (a :: b :: st) H P := by
  obtain ⟨o, H', hV, hm1, hm2, hm3⟩ := k
  exact ⟨o, H', am_dup2 hd ha hb hq hV, hm1, hm2, hm3⟩
theorem ae_goto {off : Int} (hd : decode M.2.1 pc = .ok (.goto off, 3)) (ht : (pc : Int) + off = (q : Int)) (k : am_E ox d M q lv st H P) : am_E ox d M pc lv st H P := by
  obtain ⟨o, H', hV, hm1, hm2, hm3⟩ := k
  exact ⟨o, H', am_goto hd ht hV, hm1, hm2, hm3⟩
theorem ae_if_eq {x : Int32} {off : Int} {t : Nat} (hd : decode M.2.1 pc = .ok (.ifCond .eq off, 3)) (ht : (pc : Int) + off = (t : Int)) (hq : pc + 3 = q) (kt : x = 0 → am_E ox d M t lv st H P) (kf : ¬ x = 0 → am_E ox d M q lv st H P) : am_E ox d M pc lv (.int x :: st) H P := by
  by_cases hc : x = 0
  · obtain ⟨o, H', hV, hm1, hm2, hm3⟩ := kt hc
    exact ⟨o, H', am_if_eq hd ht hq (fun _ => hV) (fun hn => absurd hc hn), hm1, hm2, hm3⟩
  · obtain ⟨o, H', hV, hm1, hm2, hm3⟩ := kf hc
    exact ⟨o, H', am_if_eq hd ht hq (fun hn => absurd hn hc) (fun _ => hV), hm1, hm2, hm3⟩
theorem ae_icmp_eq {x y : Int32} {off : Int} {t : Nat} (hd : decode M.2.1 pc = .ok (.if_icmp .eq off, 3)) (ht : (pc : Int) + off = (t : Int)) (hq : pc + 3 = q) (kt : x = y → am_E ox d M t lv st H P) (kf : ¬ x = y → am_E ox d M q lv st H P) : am_E ox d M pc lv (.int y :: .int x :: st) H P := by
  by_cases hc : x = y
  · obtain ⟨o, H', hV, hm1, hm2, hm3⟩ := kt hc
    exact ⟨o, H', am_icmp_eq hd ht hq (fun _ => hV) (fun hn => absurd hc hn), hm1, hm2, hm3⟩
  · obtain ⟨o, H', hV, hm1, hm2, hm3⟩ := kf hc
    exact ⟨o, H', am_icmp_eq hd ht hq (fun hn => absurd hn hc) (fun _ => hV), hm1, hm2, hm3⟩
theorem ae_if_ne {x : Int32} {off : Int} {t : Nat} (hd : decode M.2.1 pc = .ok (.ifCond .ne off, 3)) (ht : (pc : Int) + off = (t : Int)) (hq : pc + 3 = q) (kt : ¬ x = 0 → am_E ox d M t lv st H P) (kf : x = 0 → am_E ox d M q lv st H P) : am_E ox d M pc lv (.int x :: st) H P := by
  by_cases hc : ¬ x = 0
  · obtain ⟨o, H', hV, hm1, hm2, hm3⟩ := kt hc
    exact ⟨o, H', am_if_ne hd ht hq (fun _ => hV) (fun hn => absurd hn hc), hm1, hm2, hm3⟩
  · obtain ⟨o, H', hV, hm1, hm2, hm3⟩ := kf (Classical.not_not.mp hc)
    exact ⟨o, H', am_if_ne hd ht hq (fun hn => absurd hn hc) (fun _ => hV), hm1, hm2, hm3⟩
theorem ae_icmp_ne {x y : Int32} {off : Int} {t : Nat} (hd : decode M.2.1 pc = .ok (.if_icmp .ne off, 3)) (ht : (pc : Int) + off = (t : Int)) (hq : pc + 3 = q) (kt : ¬ x = y → am_E ox d M t lv st H P) (kf : x = y → am_E ox d M q lv st H P) : am_E ox d M pc lv (.int y :: .int x :: st) H P := by
  by_cases hc : ¬ x = y
  · obtain ⟨o, H', hV, hm1, hm2, hm3⟩ := kt hc
    exact ⟨o, H', am_icmp_ne hd ht hq (fun _ => hV) (fun hn => absurd hn hc), hm1, hm2, hm3⟩
  · obtain ⟨o, H', hV, hm1, hm2, hm3⟩ := kf (Classical.not_not.mp hc)
    exact ⟨o, H', am_icmp_ne hd ht hq (fun hn => absurd hn hc) (fun _ => hV), hm1, hm2, hm3⟩
theorem ae_if_lt {x : Int32} {off : Int} {t : Nat} (hd : decode M.2.1 pc = .ok (.ifCond .lt off, 3)) (ht : (pc : Int) + off = (t : Int)) (hq : pc + 3 = q) (kt : x < 0 → am_E ox d M t lv st H P) (kf : ¬ x < 0 → am_E ox d M q lv st H P) : am_E ox d M pc lv (.int x :: st) H P := by
  by_cases hc : x < 0
  · obtain ⟨o, H', hV, hm1, hm2, hm3⟩ := kt hc
    exact ⟨o, H', am_if_lt hd ht hq (fun _ => hV) (fun hn => absurd hc hn), hm1, hm2, hm3⟩
  · obtain ⟨o, H', hV, hm1, hm2, hm3⟩ := kf hc
    exact ⟨o, H', am_if_lt hd ht hq (fun hn => absurd hn hc) (fun _ => hV), hm1, hm2, hm3⟩
theorem ae_icmp_lt {x y : Int32} {off : Int} {t : Nat} (hd : decode M.2.1 pc = .ok (.if_icmp .lt off, 3)) (ht : (pc : Int) + off = (t : Int)) (hq : pc + 3 = q) (kt : x < y → am_E ox d M t lv st H P) (kf : ¬ x < y → am_E ox d M q lv st H P) : am_E ox d M pc lv (.int y :: .int x :: st) H P := by
  by_cases hc : x < y
  · obtain ⟨o, H', hV, hm1, hm2, hm3⟩ := kt hc
    exact ⟨o, H', am_icmp_lt hd ht hq (fun _ => hV) (fun hn => absurd hc hn), hm1, hm2, hm3⟩
  · obtain ⟨o, H', hV, hm1, hm2, hm3⟩ := kf hc
    exact ⟨o, H', am_icmp_lt hd ht hq (fun hn => absurd hn hc) (fun _ => hV), hm1, hm2, hm3⟩
theorem ae_if_ge {x : Int32} {off : Int} {t : Nat} (hd : decode M.2.1 pc = .ok (.ifCond .ge off, 3)) (ht : (pc : Int) + off = (t : Int)) (hq : pc + 3 = q) (kt : 0 ≤ x → am_E ox d M t lv st H P) (kf : ¬ 0 ≤ x → am_E ox d M q lv st H P) : am_E ox d M pc lv (.int x :: st) H P := by
  by_cases hc : 0 ≤ x
  · obtain ⟨o, H', hV, hm1, hm2, hm3⟩ := kt hc
    exact ⟨o, H', am_if_ge hd ht hq (fun _ => hV) (fun hn => absurd hc hn), hm1, hm2, hm3⟩
  · obtain ⟨o, H', hV, hm1, hm2, hm3⟩ := kf hc
    exact ⟨o, H', am_if_ge hd ht hq (fun hn => absurd hn hc) (fun _ => hV), hm1, hm2, hm3⟩
theorem ae_icmp_ge {x y : Int32} {off : Int} {t : Nat} (hd : decode M.2.1 pc = .ok (.if_icmp .ge off, 3)) (ht : (pc : Int) + off = (t : Int)) (hq : pc + 3 = q) (kt : y ≤ x → am_E ox d M t lv st H P) (kf : ¬ y ≤ x → am_E ox d M q lv st H P) : am_E ox d M pc lv (.int y :: .int x :: st) H P := by
  by_cases hc : y ≤ x
  · obtain ⟨o, H', hV, hm1, hm2, hm3⟩ := kt hc
    exact ⟨o, H', am_icmp_ge hd ht hq (fun _ => hV) (fun hn => absurd hc hn), hm1, hm2, hm3⟩
  · obtain ⟨o, H', hV, hm1, hm2, hm3⟩ := kf hc
    exact ⟨o, H', am_icmp_ge hd ht hq (fun hn => absurd hn hc) (fun _ => hV), hm1, hm2, hm3⟩
theorem ae_if_gt {x : Int32} {off : Int} {t : Nat} (hd : decode M.2.1 pc = .ok (.ifCond .gt off, 3)) (ht : (pc : Int) + off = (t : Int)) (hq : pc + 3 = q) (kt : 0 < x → am_E ox d M t lv st H P) (kf : ¬ 0 < x → am_E ox d M q lv st H P) : am_E ox d M pc lv (.int x :: st) H P := by
  by_cases hc : 0 < x
  · obtain ⟨o, H', hV, hm1, hm2, hm3⟩ := kt hc
    exact ⟨o, H', am_if_gt hd ht hq (fun _ => hV) (fun hn => absurd hc hn), hm1, hm2, hm3⟩
  · obtain ⟨o, H', hV, hm1, hm2, hm3⟩ := kf hc
    exact ⟨o, H', am_if_gt hd ht hq (fun hn => absurd hn hc) (fun _ => hV), hm1, hm2, hm3⟩
theorem ae_icmp_gt {x y : Int32} {off : Int} {t : Nat} (hd : decode M.2.1 pc = .ok (.if_icmp .gt off, 3)) (ht : (pc : Int) + off = (t : Int)) (hq : pc + 3 = q) (kt : y < x → am_E ox d M t lv st H P) (kf : ¬ y < x → am_E ox d M q lv st H P) : am_E ox d M pc lv (.int y :: .int x :: st) H P := by
  by_cases hc : y < x
  · obtain ⟨o, H', hV, hm1, hm2, hm3⟩ := kt hc
    exact ⟨o, H', am_icmp_gt hd ht hq (fun _ => hV) (fun hn => absurd hc hn), hm1, hm2, hm3⟩
  · obtain ⟨o, H', hV, hm1, hm2, hm3⟩ := kf hc
    exact ⟨o, H', am_icmp_gt hd ht hq (fun hn => absurd hn hc) (fun _ => hV), hm1, hm2, hm3⟩
theorem ae_if_le {x : Int32} {off : Int} {t : Nat} (hd : decode M.2.1 pc = .ok (.ifCond .le off, 3)) (ht : (pc : Int) + off = (t : Int)) (hq : pc + 3 = q) (kt : x ≤ 0 → am_E ox d M t lv st H P) (kf : ¬ x ≤ 0 → am_E ox d M q lv st H P) : am_E ox d M pc lv (.int x :: st) H P := by
  by_cases hc : x ≤ 0
  · obtain ⟨o, H', hV, hm1, hm2, hm3⟩ := kt hc
    exact ⟨o, H', am_if_le hd ht hq (fun _ => hV) (fun hn => absurd hc hn), hm1, hm2, hm3⟩
  · obtain ⟨o, H', hV, hm1, hm2, hm3⟩ := kf hc
    exact ⟨o, H', am_if_le hd ht hq (fun hn => absurd hn hc) (fun _ => hV), hm1, hm2, hm3⟩
theorem ae_icmp_le {x y : Int32} {off : Int} {t : Nat} (hd : decode M.2.1 pc = .ok (.if_icmp .le off, 3)) (ht : (pc : Int) + off = (t : Int)) (hq : pc + 3 = q) (kt : x ≤ y → am_E ox d M t lv st H P) (kf : ¬ x ≤ y → am_E ox d M q lv st H P) : am_E ox d M pc lv (.int y :: .int x :: st) H P := by
  by_cases hc : x ≤ y
  · obtain ⟨o, H', hV, hm1, hm2, hm3⟩ := kt hc
    exact ⟨o, H', am_icmp_le hd ht hq (fun _ => hV) (fun hn => absurd hc hn), hm1, hm2, hm3⟩
  · obtain ⟨o, H', hV, hm1, hm2, hm3⟩ := kf hc
    exact ⟨o, H', am_icmp_le hd ht hq (fun hn => absurd hn hc) (fun _ => hV), hm1, hm2, hm3⟩
theorem ae_istore_n {i : Nat} {x : Int32} {w : Fin 4} {lv' : List (Nat × Value)} (hd : decode M.2.1 pc = .ok (.istore_n w, 1)) (hi : (w : Nat) = i) (hn : i < M.2.2.1) (hl : am_sv i (.int x) lv = lv') (hq : pc + 1 = q) (k : am_E ox d M q lv' st H P) : am_E ox d M pc lv (.int x :: st) H P := by
  obtain ⟨o, H', hV, hm1, hm2, hm3⟩ := k
  exact ⟨o, H', am_istore_n hd hi hn hl hq hV, hm1, hm2, hm3⟩
theorem ae_istore {i : Nat} {x : Int32} {lv' : List (Nat × Value)} (hd : decode M.2.1 pc = .ok (.istore i, 2)) (hn : i < M.2.2.1) (hl : am_sv i (.int x) lv = lv') (hq : pc + 2 = q) (k : am_E ox d M q lv' st H P) : am_E ox d M pc lv (.int x :: st) H P := by
  obtain ⟨o, H', hV, hm1, hm2, hm3⟩ := k
  exact ⟨o, H', am_istore hd hn hl hq hV, hm1, hm2, hm3⟩
theorem ae_astore_n {i : Nat} {x : Nat} {w : Fin 4} {lv' : List (Nat × Value)} (hd : decode M.2.1 pc = .ok (.astore_n w, 1)) (hi : (w : Nat) = i) (hn : i < M.2.2.1) (hl : am_sv i (.ref x) lv = lv') (hq : pc + 1 = q) (k : am_E ox d M q lv' st H P) : am_E ox d M pc lv (.ref x :: st) H P := by
  obtain ⟨o, H', hV, hm1, hm2, hm3⟩ := k
  exact ⟨o, H', am_astore_n hd hi hn hl hq hV, hm1, hm2, hm3⟩
theorem ae_astore {i : Nat} {x : Nat} {lv' : List (Nat × Value)} (hd : decode M.2.1 pc = .ok (.astore i, 2)) (hn : i < M.2.2.1) (hl : am_sv i (.ref x) lv = lv') (hq : pc + 2 = q) (k : am_E ox d M q lv' st H P) : am_E ox d M pc lv (.ref x :: st) H P := by
  obtain ⟨o, H', hV, hm1, hm2, hm3⟩ := k
  exact ⟨o, H', am_astore hd hn hl hq hV, hm1, hm2, hm3⟩
theorem ae_iinc {i : Nat} {n : Int} {x v : Int32} {lv' : List (Nat × Value)} (hd : decode M.2.1 pc = .ok (.iinc i n, 3)) (hx : am_lk i lv = some (.int x)) (hv : x + Int32.ofInt n = v) (hn : i < M.2.2.1) (hl : am_sv i (.int v) lv = lv') (hq : pc + 3 = q) (k : am_E ox d M q lv' st H P) : am_E ox d M pc lv st H P := by
  obtain ⟨o, H', hV, hm1, hm2, hm3⟩ := k
  exact ⟨o, H', am_iinc hd hx hv hn hl hq hV, hm1, hm2, hm3⟩
theorem ae_tableIn {dflt lo hi : Int} {offs : Array Int} {len : Nat} {x : Int32} {off : Int} (hd : decode M.2.1 pc = .ok (.tableswitch dflt lo hi offs, len)) (h1 : ¬ x.toInt < lo) (h2 : ¬ hi < x.toInt) (ho : offs[(x.toInt - lo).toNat]? = some off) (ht : (pc : Int) + off = (q : Int)) (k : am_E ox d M q lv st H P) : am_E ox d M pc lv (.int x :: st) H P := by
  obtain ⟨o, H', hV, hm1, hm2, hm3⟩ := k
  exact ⟨o, H', am_tableIn hd h1 h2 ho ht hV, hm1, hm2, hm3⟩
theorem ae_tableOut {dflt lo hi : Int} {offs : Array Int} {len : Nat} {x : Int32} (hd : decode M.2.1 pc = .ok (.tableswitch dflt lo hi offs, len)) (h : x.toInt < lo ∨ hi < x.toInt) (ht : (pc : Int) + dflt = (q : Int)) (k : am_E ox d M q lv st H P) : am_E ox d M pc lv (.int x :: st) H P := by
  obtain ⟨o, H', hV, hm1, hm2, hm3⟩ := k
  exact ⟨o, H', am_tableOut hd h ht hV, hm1, hm2, hm3⟩
theorem ae_lookup {dflt : Int} {ps : Array (Int × Int)} {len : Nat} {x : Int32} {off : Int} (hd : decode M.2.1 pc = .ok (.lookupswitch dflt ps, len)) (hsr : (ps.toList.zip (ps.toList.drop 1)).all (fun (a, next) => a.1 < next.1) = true) (ho : Op.lookupswitch.offset ps.toList dflt x.toInt = off) (ht : (pc : Int) + off = (q : Int)) (k : am_E ox d M q lv st H P) : am_E ox d M pc lv (.int x :: st) H P := by
  obtain ⟨o, H', hV, hm1, hm2, hm3⟩ := k
  exact ⟨o, H', am_lookup hd hsr ho ht hV, hm1, hm2, hm3⟩
theorem ae_getI {idx a ci k : Nat} {ty : FieldType} {fin : Bool} (hd : decode M.2.1 pc = .ok (.getfield idx, 3)) (hf : am_Fl M.1 idx ci k ty fin) (hr : am_isr ci k = false) (hs : am_sh H a = (ci, am_Nf ci)) (ha : a < am_nx H) (hq : pc + 3 = q) (kk : am_E ox d M q lv (.int (am_gi H a k) :: st) H P) : am_E ox d M pc lv (.ref a :: st) H P := by
  obtain ⟨o, H', hV, hm1, hm2, hm3⟩ := kk
  exact ⟨o, H', am_getI hd hf hr hs ha hq hV, hm1, hm2, hm3⟩
theorem ae_getR {idx a ci k b : Nat} {ty : FieldType} {fin : Bool} (hd : decode M.2.1 pc = .ok (.getfield idx, 3)) (hf : am_Fl M.1 idx ci k ty fin) (hr : am_isr ci k = true) (hs : am_sh H a = (ci, am_Nf ci)) (ha : a < am_nx H) (hb : am_gr H a k = some b) (hq : pc + 3 = q) (kk : am_E ox d M q lv (.ref b :: st) H P) : am_E ox d M pc lv (.ref a :: st) H P := by
  obtain ⟨o, H', hV, hm1, hm2, hm3⟩ := kk
  exact ⟨o, H', am_getR hd hf hr hs ha hb hq hV, hm1, hm2, hm3⟩
theorem ae_putI {idx a ci k : Nat} {ty : FieldType} {v : Int32} (hd : decode M.2.1 pc = .ok (.putfield idx, 3)) (hf : am_Fl M.1 idx ci k ty false) (hr : am_isr ci k = false) (hn : narrow ty (.int v) = .int v) (hfit : fits ty (.int v) = true) (hs : am_sh H a = (ci, am_Nf ci)) (ha : a < am_nx H) (hq : pc + 3 = q) (kk : am_E ox d M q lv st (am_si H a k v) P) : am_E ox d M pc lv (.int v :: .ref a :: st) H P := by
  obtain ⟨o, H', hV, hm1, hm2, hm3⟩ := kk
  exact ⟨o, H', am_putI hd hf hr hn hfit hs ha hq hV, hm1, hm2, hm3⟩
theorem ae_putR {idx a ci k b : Nat} {ty : FieldType} (hd : decode M.2.1 pc = .ok (.putfield idx, 3)) (hf : am_Fl M.1 idx ci k ty false) (hr : am_isr ci k = true) (hn : ∀ x, narrow ty (.ref x) = .ref x) (hfit : ∀ x, fits ty (.ref x) = true) (hs : am_sh H a = (ci, am_Nf ci)) (ha : a < am_nx H) (hb : b < am_nx H) (hq : pc + 3 = q) (kk : am_E ox d M q lv st (am_sr H a k (some b)) P) : am_E ox d M pc lv (.ref b :: .ref a :: st) H P := by
  obtain ⟨o, H', hV, hm1, hm2, hm3⟩ := kk
  exact ⟨o, H', am_putR hd hf hr hn hfit hs ha hb hq hV, hm1, hm2, hm3⟩
theorem ae_putF {idx a ci k b : Nat} {ty : FieldType} (hd : decode M.2.1 pc = .ok (.putfield idx, 3)) (hf : am_Fl M.1 idx ci k ty true) (hr : am_isr ci k = true) (hi : M.2.2.2.2.1 = "<init>") (ho : ∀ r : vw_C, vwCl[ci]? = some r → (r.2.1 k).1 = M.1) (hn : ∀ x, narrow ty (.ref x) = .ref x) (hfit : ∀ x, fits ty (.ref x) = true) (hs : am_sh H a = (ci, am_Nf ci)) (ha : a < am_nx H) (hb : b < am_nx H) (hq : pc + 3 = q) (kk : am_E ox d M q lv st (am_sr H a k (some b)) P) : am_E ox d M pc lv (.ref b :: .ref a :: st) H P := by
  obtain ⟨o, H', hV, hm1, hm2, hm3⟩ := kk
  exact ⟨o, H', am_putF hd hf hr hi ho hn hfit hs ha hb hq hV, hm1, hm2, hm3⟩
theorem ae_putFI {idx a ci k : Nat} {ty : FieldType} {v : Int32} (hd : decode M.2.1 pc = .ok (.putfield idx, 3)) (hf : am_Fl M.1 idx ci k ty true) (hr : am_isr ci k = false) (hi : M.2.2.2.2.1 = "<init>") (ho : ∀ r : vw_C, vwCl[ci]? = some r → (r.2.1 k).1 = M.1) (hn : narrow ty (.int v) = .int v) (hfit : fits ty (.int v) = true) (hs : am_sh H a = (ci, am_Nf ci)) (ha : a < am_nx H) (hq : pc + 3 = q) (kk : am_E ox d M q lv st (am_si H a k v) P) : am_E ox d M pc lv (.int v :: .ref a :: st) H P := by
  obtain ⟨o, H', hV, hm1, hm2, hm3⟩ := kk
  exact ⟨o, H', am_putFI hd hf hr hi ho hn hfit hs ha hq hV, hm1, hm2, hm3⟩
theorem ae_iald {a n : Nat} {i : Int32} (hd : decode M.2.1 pc = .ok (.iaload, 1)) (hs : am_sh H a = (100, n)) (ha : a < am_nx H) (hin : vp_in i n) (hq : pc + 1 = q) (kk : am_E ox d M q lv (.int (am_gi H a i.toNatClampNeg) :: st) H P) : am_E ox d M pc lv (.int i :: .ref a :: st) H P := by
  obtain ⟨o, H', hV, hm1, hm2, hm3⟩ := kk
  exact ⟨o, H', am_iald hd hs ha hin hq hV, hm1, hm2, hm3⟩
theorem ae_zald {a n : Nat} {i : Int32} (hd : decode M.2.1 pc = .ok (.baload, 1)) (hs : am_sh H a = (101, n)) (ha : a < am_nx H) (hin : vp_in i n) (hq : pc + 1 = q) (kk : am_E ox d M q lv (.int (am_gi H a i.toNatClampNeg) :: st) H P) : am_E ox d M pc lv (.int i :: .ref a :: st) H P := by
  obtain ⟨o, H', hV, hm1, hm2, hm3⟩ := kk
  exact ⟨o, H', am_zald hd hs ha hin hq hV, hm1, hm2, hm3⟩
theorem ae_lald {a n : Nat} {i : Int32} (hd : decode M.2.1 pc = .ok (.laload, 1)) (hs : am_sh H a = (102, n)) (ha : a < am_nx H) (hin : vp_in i n) (hq : pc + 1 = q) (kk : am_E ox d M q lv (.long (am_gl H a i.toNatClampNeg) :: st) H P) : am_E ox d M pc lv (.int i :: .ref a :: st) H P := by
  obtain ⟨o, H', hV, hm1, hm2, hm3⟩ := kk
  exact ⟨o, H', am_lald hd hs ha hin hq hV, hm1, hm2, hm3⟩
theorem ae_aald {a n k t b : Nat} {Cn : String} {i : Int32} (hd : decode M.2.1 pc = .ok (.aaload, 1)) (hs : am_sh H a = (103 + k, n)) (ht : am_kinds[t]? = some (103 + k, .object Cn)) (ha : a < am_nx H) (hin : vp_in i n) (hb : am_gr H a i.toNatClampNeg = some b) (hq : pc + 1 = q) (kk : am_E ox d M q lv (.ref b :: st) H P) : am_E ox d M pc lv (.int i :: .ref a :: st) H P := by
  obtain ⟨o, H', hV, hm1, hm2, hm3⟩ := kk
  exact ⟨o, H', am_aald hd hs ht ha hin hb hq hV, hm1, hm2, hm3⟩
theorem ae_iast {a n : Nat} {i x : Int32} (hd : decode M.2.1 pc = .ok (.iastore, 1)) (hs : am_sh H a = (100, n)) (ha : a < am_nx H) (hin : vp_in i n) (hq : pc + 1 = q) (kk : am_E ox d M q lv st (am_si H a i.toNatClampNeg x) P) : am_E ox d M pc lv (.int x :: .int i :: .ref a :: st) H P := by
  obtain ⟨o, H', hV, hm1, hm2, hm3⟩ := kk
  exact ⟨o, H', am_iast hd hs ha hin hq hV, hm1, hm2, hm3⟩
theorem ae_zast {a n : Nat} {i x : Int32} (hd : decode M.2.1 pc = .ok (.bastore, 1)) (hs : am_sh H a = (101, n)) (ha : a < am_nx H) (hin : vp_in i n) (hx : vp_nar .boolean x = x) (hq : pc + 1 = q) (kk : am_E ox d M q lv st (am_si H a i.toNatClampNeg x) P) : am_E ox d M pc lv (.int x :: .int i :: .ref a :: st) H P := by
  obtain ⟨o, H', hV, hm1, hm2, hm3⟩ := kk
  exact ⟨o, H', am_zast hd hs ha hin hx hq hV, hm1, hm2, hm3⟩
theorem ae_last {a n : Nat} {i : Int32} {x : Int64} (hd : decode M.2.1 pc = .ok (.lastore, 1)) (hs : am_sh H a = (102, n)) (ha : a < am_nx H) (hin : vp_in i n) (hq : pc + 1 = q) (kk : am_E ox d M q lv st (am_sl H a i.toNatClampNeg x) P) : am_E ox d M pc lv (.long x :: .int i :: .ref a :: st) H P := by
  obtain ⟨o, H', hV, hm1, hm2, hm3⟩ := kk
  exact ⟨o, H', am_last hd hs ha hin hq hV, hm1, hm2, hm3⟩
theorem ae_aast {a n k t b N : Nat} {r : vw_C} {i : Int32} (hd : decode M.2.1 pc = .ok (.aastore, 1)) (hs : am_sh H a = (103 + k, n)) (hr : vwCl[k]? = some r) (h100 : k < 100) (ht : am_kinds[t]? = some (103 + k, .object r.1)) (ha : a < am_nx H) (hsb : am_sh H b = (k, N)) (hb : b < am_nx H) (hin : vp_in i n) (hq : pc + 1 = q) (kk : am_E ox d M q lv st (am_sr H a i.toNatClampNeg (some b)) P) : am_E ox d M pc lv (.ref b :: .int i :: .ref a :: st) H P := by
  obtain ⟨o, H', hV, hm1, hm2, hm3⟩ := kk
  exact ⟨o, H', am_aast hd hs hr h100 ht ha hsb hb hin hq hV, hm1, hm2, hm3⟩
theorem ae_alen {a k n t : Nat} {ty : FieldType} {v : Int32} (hd : decode M.2.1 pc = .ok (.arraylength, 1)) (hs : am_sh H a = (k, n)) (hk : 100 ≤ k) (ht : am_kinds[t]? = some (k, ty)) (ha : a < am_nx H) (hv : Int32.ofNat n = v) (hq : pc + 1 = q) (kk : am_E ox d M q lv (.int v :: st) H P) : am_E ox d M pc lv (.ref a :: st) H P := by
  obtain ⟨o, H', hV, hm1, hm2, hm3⟩ := kk
  exact ⟨o, H', am_alen hd hs hk ht ha hv hq hV, hm1, hm2, hm3⟩
theorem ae_new {idx ci : Nat} (hd : decode M.2.1 pc = .ok (.new idx, 3)) (hc : am_Cn M.1 idx ci) (hst : ∀ v ∈ st, am_ok (am_nx H) v) (hlv : ∀ x ∈ lv, am_ok (am_nx H) x.2) (h6 : am_nx H + 1 ≤ 1000000) (hq : pc + 3 = q) (kk : am_E ox d M q lv (.ref (am_nx H) :: st) (am_nw H ci (am_Nf ci)) P) : am_E ox d M pc lv st H P := by
  obtain ⟨o, H', hV, hm1, hm2, hm3⟩ := kk
  exact ⟨o, H', am_new hd hc hst hlv h6 hm1 hm2 hq hV, Nat.le_trans (Nat.le_succ _) hm1, Nat.le_trans (Nat.le_add_right _ _) hm2, hm3⟩
theorem ae_newI {n : Int32} {N : Nat} (hd : decode M.2.1 pc = .ok (.newarray .int, 2)) (hw : Cond.arrayClass .int ∈ am_words) (hn : ¬ n < 0) (hN : n.toNatClampNeg = N) (hby : N ≤ 100000) (hst : ∀ v ∈ st, am_ok (am_nx H) v) (hlv : ∀ x ∈ lv, am_ok (am_nx H) x.2) (h6 : am_nx H + 1 ≤ 1000000) (hq : pc + 2 = q) (kk : am_E ox d M q lv (.ref (am_nx H) :: st) (am_nw H 100 N) P) : am_E ox d M pc lv (.int n :: st) H P := by
  obtain ⟨o, H', hV, hm1, hm2, hm3⟩ := kk
  exact ⟨o, H', am_newI hd hw hn hN hby hst hlv h6 hm1 hm2 hq hV, Nat.le_trans (Nat.le_succ _) hm1, Nat.le_trans (Nat.le_add_right _ _) hm2, hm3⟩
theorem ae_newZ {n : Int32} {N : Nat} (hd : decode M.2.1 pc = .ok (.newarray .boolean, 2)) (hw : Cond.arrayClass .boolean ∈ am_words) (hn : ¬ n < 0) (hN : n.toNatClampNeg = N) (hby : N ≤ 100000) (hst : ∀ v ∈ st, am_ok (am_nx H) v) (hlv : ∀ x ∈ lv, am_ok (am_nx H) x.2) (h6 : am_nx H + 1 ≤ 1000000) (hq : pc + 2 = q) (kk : am_E ox d M q lv (.ref (am_nx H) :: st) (am_nw H 101 N) P) : am_E ox d M pc lv (.int n :: st) H P := by
  obtain ⟨o, H', hV, hm1, hm2, hm3⟩ := kk
  exact ⟨o, H', am_newZ hd hw hn hN hby hst hlv h6 hm1 hm2 hq hV, Nat.le_trans (Nat.le_succ _) hm1, Nat.le_trans (Nat.le_add_right _ _) hm2, hm3⟩
theorem ae_newL {n : Int32} {N : Nat} (hd : decode M.2.1 pc = .ok (.newarray .long, 2)) (hw : Cond.arrayClass .long ∈ am_words) (hn : ¬ n < 0) (hN : n.toNatClampNeg = N) (hby : N ≤ 100000) (hst : ∀ v ∈ st, am_ok (am_nx H) v) (hlv : ∀ x ∈ lv, am_ok (am_nx H) x.2) (h6 : am_nx H + 1 ≤ 1000000) (hq : pc + 2 = q) (kk : am_E ox d M q lv (.ref (am_nx H) :: st) (am_nw H 102 N) P) : am_E ox d M pc lv (.int n :: st) H P := by
  obtain ⟨o, H', hV, hm1, hm2, hm3⟩ := kk
  exact ⟨o, H', am_newL hd hw hn hN hby hst hlv h6 hm1 hm2 hq hV, Nat.le_trans (Nat.le_succ _) hm1, Nat.le_trans (Nat.le_add_right _ _) hm2, hm3⟩
theorem ae_newQ {idx k t : Nat} {Cn : String} {n : Int32} {N : Nat} (hd : decode M.2.1 pc = .ok (.anewarray idx, 3)) (hlk : Cond.classLink M.1 idx Cn ∈ am_words) (hov : ∀ (B0 : Nat) (ρ : Nat → Nat) (s : State), am_O ox B0 ρ s → va_AO Cn s) (ht : am_kinds[t]? = some (103 + k, .object Cn)) (hn : ¬ n < 0) (hN : n.toNatClampNeg = N) (hby : N ≤ 100000) (hst : ∀ v ∈ st, am_ok (am_nx H) v) (hlv : ∀ x ∈ lv, am_ok (am_nx H) x.2) (h6 : am_nx H + 1 ≤ 1000000) (hq : pc + 3 = q) (kk : am_E ox d M q lv (.ref (am_nx H) :: st) (am_nw H (103 + k) N) P) : am_E ox d M pc lv (.int n :: st) H P := by
  obtain ⟨o, H', hV, hm1, hm2, hm3⟩ := kk
  exact ⟨o, H', am_newQ hd hlk hov ht hn hN hby hst hlv h6 hm1 hm2 hq hV, Nat.le_trans (Nat.le_succ _) hm1, Nat.le_trans (Nat.le_add_right _ _) hm2, hm3⟩
theorem ae_objInit {idx a : Nat} (hd : decode M.2.1 pc = .ok (.invokespecial idx, 3)) (hd1 : 1 ≤ d) (h1 : Cond.methodLink M.1 idx Lib.objectInit ∈ am_words) (h2 : Cond.instanceMethod Lib.objectInit ∈ am_words) (h3 : Cond.code Lib.objectInit ⟨#[0xb1]⟩ 1 none ∈ am_words) (hc8 : (st.map fun v => v.category).sum ≤ 8) (hq : pc + 3 = q) (kk : am_E ox d M q lv st H P) : am_E ox d M pc lv (.ref a :: st) H P := by
  obtain ⟨o, H', hV, hm1, hm2, hm3⟩ := kk
  exact ⟨o, H', am_objInit hd hd1 h1 h2 h3 hc8 hq hV, hm1, hm2, hm3⟩
theorem ae_iret {v : Int32} {ty : FieldType} (hd : decode M.2.1 pc = .ok (.ireturn, 1)) (ht : M.2.2.2.1 = some ty) (hn : narrow ty (.int v) = .int v) (hP : P (.inl (some (.int v))) H) : am_E ox d M pc lv [.int v] H P := ⟨_, _, am_iret hd ht hn, Nat.le_refl _, Nat.le_refl _, hP⟩
theorem ae_aret {b : Nat} {ty : FieldType} (hd : decode M.2.1 pc = .ok (.areturn, 1)) (ht : M.2.2.2.1 = some ty) (hr : (∃ n, ty = .object n) ∨ ∃ t, ty = .array t) (hP : P (.inl (some (.ref b))) H) : am_E ox d M pc lv [.ref b] H P := ⟨_, _, am_aret hd ht hr, Nat.le_refl _, Nat.le_refl _, hP⟩
theorem ae_vret (hd : decode M.2.1 pc = .ok (.return_, 1)) (ht : M.2.2.2.1 = none) (hP : P (.inl none) H) : am_E ox d M pc lv [] H P := ⟨_, _, am_vret hd ht, Nat.le_refl _, Nat.le_refl _, hP⟩
theorem ae_sld {i : Nat} {r : Nat × (Nat → Int32)} {x : Int32} (hd : decode M.2.1 pc = .ok (.iaload, 1)) (ho : ox[i]? = some r) (hin : vp_in x r.1) (hq : pc + 1 = q) (kk : am_E ox d M q lv (.int (r.2 x.toNatClampNeg) :: st) H P) : am_E ox d M pc lv (.int x :: .ref (1000000 + i) :: st) H P := by
  obtain ⟨o, H', hV, hm1, hm2, hm3⟩ := kk
  exact ⟨o, H', am_sld hd ho hin hq hV, hm1, hm2, hm3⟩
theorem ae_slen {i : Nat} {r : Nat × (Nat → Int32)} (hd : decode M.2.1 pc = .ok (.arraylength, 1)) (ho : ox[i]? = some r) (hq : pc + 1 = q) (kk : am_E ox d M q lv (.int (nI r.1) :: st) H P) : am_E ox d M pc lv (.ref (1000000 + i) :: st) H P := by
  obtain ⟨o, H', hV, hm1, hm2, hm3⟩ := kk
  exact ⟨o, H', am_slen hd ho hq hV, hm1, hm2, hm3⟩
theorem ae_gets {Cn n ds : String} {i idx : Nat} (hd : decode M.2.1 pc = .ok (.getstatic idx, 3)) (hz : (Cn, n, ds, i) ∈ am_sts) (hlk : Cond.fieldLink M.1 idx Cn n ds ∈ am_words) (hq : pc + 3 = q) (kk : am_E ox d M q lv (.ref (1000000 + i) :: st) H P) : am_E ox d M pc lv st H P := by
  obtain ⟨o, H', hV, hm1, hm2, hm3⟩ := kk
  exact ⟨o, H', am_gets hd hz hlk hq hV, hm1, hm2, hm3⟩
theorem ae_mmax {idx : Nat} {x y : Int32} (hd : decode M.2.1 pc = .ok (.invokestatic idx, 3)) (hd1 : 1 ≤ d) (hlk : Cond.methodLink M.1 idx Lib.Math.max.name ∈ am_words) (hst : Cond.static Lib.Math.max.name ∈ am_words) (hini : Cond.initialized "java/lang/Math" ∈ am_words) (hcd : Cond.code Lib.Math.max.name Lib.Math.max.code 2 (some .int) ∈ am_words) (hc8 : (st.map fun v => v.category).sum ≤ 8) (hq : pc + 3 = q) (kk : am_E ox d M q lv (.int (if x < y then y else x) :: st) H P) : am_E ox d M pc lv (.int y :: .int x :: st) H P := by
  obtain ⟨o, H', hV, hm1, hm2, hm3⟩ := kk
  exact ⟨o, H', am_mmax hd hd1 hlk hst hini hcd hc8 hm1 hm2 hq hV, hm1, hm2, hm3⟩
theorem ae_mmin {idx : Nat} {x y : Int32} (hd : decode M.2.1 pc = .ok (.invokestatic idx, 3)) (hd1 : 1 ≤ d) (hlk : Cond.methodLink M.1 idx Lib.Math.min.name ∈ am_words) (hst : Cond.static Lib.Math.min.name ∈ am_words) (hini : Cond.initialized "java/lang/Math" ∈ am_words) (hcd : Cond.code Lib.Math.min.name Lib.Math.min.code 2 (some .int) ∈ am_words) (hc8 : (st.map fun v => v.category).sum ≤ 8) (hq : pc + 3 = q) (kk : am_E ox d M q lv (.int (if y < x then y else x) :: st) H P) : am_E ox d M pc lv (.int y :: .int x :: st) H P := by
  obtain ⟨o, H', hV, hm1, hm2, hm3⟩ := kk
  exact ⟨o, H', am_mmin hd hd1 hlk hst hini hcd hc8 hm1 hm2 hq hV, hm1, hm2, hm3⟩
theorem ae_copyi {idx a a0 n n0' : Nat} {sp dp cn : Int32} (hd : decode M.2.1 pc = .ok (.invokestatic idx, 3)) (hd1 : 1 ≤ d) (hlk : Cond.methodLink M.1 idx arraycopyName ∈ am_words) (hnat : Cond.native arraycopyName ∈ am_words) (hst : Cond.static arraycopyName ∈ am_words) (hini : Cond.initialized "java/lang/System" ∈ am_words) (hs0 : am_sh H a0 = (100, n0')) (hs : am_sh H a = (100, n)) (ha0 : a0 < am_nx H) (ha : a < am_nx H) (h1 : ¬ sp < 0) (h2 : ¬ dp < 0) (h3 : ¬ cn < 0) (h4 : sp.toNatClampNeg + cn.toNatClampNeg ≤ n0') (h5 : dp.toNatClampNeg + cn.toNatClampNeg ≤ n) (hc8 : (st.map fun v => v.category).sum ≤ 8) (hq : pc + 3 = q) (kk : am_E ox d M q lv st (am_sf H a (va_cpy (am_gi H a0) (am_gi H a) sp.toNatClampNeg dp.toNatClampNeg cn.toNatClampNeg)) P) : am_E ox d M pc lv (.int cn :: .int dp :: .ref a :: .int sp :: .ref a0 :: st) H P := by
  obtain ⟨o, H', hV, hm1, hm2, hm3⟩ := kk
  exact ⟨o, H', am_copyi hd hd1 hlk hnat hst hini hs0 hs ha0 ha h1 h2 h3 h4 h5 hc8 hq hV, hm1, hm2, hm3⟩
end AME
end
section
/-! METHODS, by wip/whole/draft/meths.py: each method's name, its tuple (class, code, locals, answer, name, handlers), its words. -/
def RL : String := "PhaserYardLaw"
def yX6_init : MethodName := ⟨RX6, "<init>", "()V"⟩
abbrev mX6_init : am_M := (RX6, prog_1_method_1_code, 2, (Option.none : Option Jvm.ClassFile.FieldType), "<init>", [])
theorem myX6_init : am_My yX6_init mX6_init 0 := ⟨aw_24, aw_1, by decide +kernel, by decide⟩
def yX6_body : MethodName := ⟨RX6, "body", "(I)I"⟩
abbrev mX6_body : am_M := (RX6, prog_1_method_2_code, 3, (Option.some Jvm.ClassFile.FieldType.int), "body", [])
theorem myX6_body : am_My yX6_body mX6_body 1 := ⟨aw_251, aw_1, by decide +kernel, by decide⟩
def yX6_add : MethodName := ⟨RX6, "add", "(III)I"⟩
abbrev mX6_add : am_M := (RX6, prog_1_method_3_code, 4, (Option.some Jvm.ClassFile.FieldType.int), "add", [])
theorem myX6_add : am_My yX6_add mX6_add 3 := ⟨aw_332, aw_1, by decide +kernel, by decide⟩
def yX6_begin : MethodName := ⟨RX6, "begin", "(IIII)V"⟩
abbrev mX6_begin : am_M := (RX6, prog_1_method_4_code, 5, (Option.none : Option Jvm.ClassFile.FieldType), "begin", [])
theorem myX6_begin : am_My yX6_begin mX6_begin 4 := ⟨aw_367, aw_1, by decide +kernel, by decide⟩
def yX6_run : MethodName := ⟨RX6, "run", "(I)I"⟩
abbrev mX6_run : am_M := (RX6, prog_1_method_5_code, 3, (Option.some Jvm.ClassFile.FieldType.int), "run", [])
theorem myX6_run : am_My yX6_run mX6_run 1 := ⟨aw_409, aw_1, by decide +kernel, by decide⟩
def yX6_result : MethodName := ⟨RX6, "result", "()I"⟩
abbrev mX6_result : am_M := (RX6, prog_1_method_6_code, 1, (Option.some Jvm.ClassFile.FieldType.int), "result", [])
theorem myX6_result : am_My yX6_result mX6_result 0 := ⟨aw_610, aw_1, by decide +kernel, by decide⟩
def yX6_said : MethodName := ⟨RX6, "said", "(I)I"⟩
abbrev mX6_said : am_M := (RX6, prog_1_method_7_code, 2, (Option.some Jvm.ClassFile.FieldType.int), "said", [])
theorem myX6_said : am_My yX6_said mX6_said 1 := ⟨aw_635, aw_1, by decide +kernel, by decide⟩
def yX6_task : MethodName := ⟨RX6, "task", "(II)I"⟩
abbrev mX6_task : am_M := (RX6, prog_1_method_8_code, 3, (Option.some Jvm.ClassFile.FieldType.int), "task", [])
theorem myX6_task : am_My yX6_task mX6_task 2 := ⟨aw_659, aw_1, by decide +kernel, by decide⟩
def yX6_future : MethodName := ⟨RX6, "future", "(I)I"⟩
abbrev mX6_future : am_M := (RX6, prog_1_method_9_code, 2, (Option.some Jvm.ClassFile.FieldType.int), "future", [])
theorem myX6_future : am_My yX6_future mX6_future 1 := ⟨aw_672, aw_1, by decide +kernel, by decide⟩
def yX6_count : MethodName := ⟨RX6, "count", "(I)I"⟩
abbrev mX6_count : am_M := (RX6, prog_1_method_10_code, 2, (Option.some Jvm.ClassFile.FieldType.int), "count", [])
theorem myX6_count : am_My yX6_count mX6_count 1 := ⟨aw_681, aw_1, by decide +kernel, by decide⟩
def yX6_isWithin : MethodName := ⟨RX6, "isWithin", "(III)Z"⟩
abbrev mX6_isWithin : am_M := (RX6, prog_1_method_11_code, 3, (Option.some Jvm.ClassFile.FieldType.boolean), "isWithin", [])
theorem myX6_isWithin : am_My yX6_isWithin mX6_isWithin 3 := ⟨aw_254, aw_1, by decide +kernel, by decide⟩
def yX6_isInstruction : MethodName := ⟨RX6, "isInstruction", "(II)Z"⟩
abbrev mX6_isInstruction : am_M := (RX6, prog_1_method_12_code, 2, (Option.some Jvm.ClassFile.FieldType.boolean), "isInstruction", [])
theorem myX6_isInstruction : am_My yX6_isInstruction mX6_isInstruction 2 := ⟨aw_335, aw_1, by decide +kernel, by decide⟩
def yX7_init : MethodName := ⟨RX7, "<init>", "()V"⟩
abbrev mX7_init : am_M := (RX7, prog_9_method_1_code, 1, (Option.none : Option Jvm.ClassFile.FieldType), "<init>", [])
theorem myX7_init : am_My yX7_init mX7_init 0 := ⟨aw_696, aw_8, by decide +kernel, by decide⟩
def yX7_thrown : MethodName := ⟨RX7, "thrown", "()I"⟩
abbrev mX7_thrown : am_M := (RX7, prog_9_method_2_code, 1, (Option.some Jvm.ClassFile.FieldType.int), "thrown", [])
theorem myX7_thrown : am_My yX7_thrown mX7_thrown 0 := ⟨aw_822, aw_8, by decide +kernel, by decide⟩
def yX7_in : MethodName := ⟨RX7, "in", "(III)Z"⟩
abbrev mX7_in : am_M := (RX7, prog_9_method_3_code, 3, (Option.some Jvm.ClassFile.FieldType.boolean), "in", [])
theorem myX7_in : am_My yX7_in mX7_in 3 := ⟨aw_829, aw_8, by decide +kernel, by decide⟩
def yX7_fail : MethodName := ⟨RX7, "fail", "(I)I"⟩
abbrev mX7_fail : am_M := (RX7, prog_9_method_4_code, 2, (Option.some Jvm.ClassFile.FieldType.int), "fail", [])
theorem myX7_fail : am_My yX7_fail mX7_fail 1 := ⟨aw_833, aw_8, by decide +kernel, by decide⟩
def yX7_body : MethodName := ⟨RX7, "body", "(I)I"⟩
abbrev mX7_body : am_M := (RX7, prog_9_method_5_code, 3, (Option.some Jvm.ClassFile.FieldType.int), "body", [])
theorem myX7_body : am_My yX7_body mX7_body 1 := ⟨aw_826, aw_8, by decide +kernel, by decide⟩
def yX7_fits : MethodName := ⟨RX7, "fits", "(II)Z"⟩
abbrev mX7_fits : am_M := (RX7, prog_9_method_6_code, 2, (Option.some Jvm.ClassFile.FieldType.boolean), "fits", [])
theorem myX7_fits : am_My yX7_fits mX7_fits 2 := ⟨aw_840, aw_8, by decide +kernel, by decide⟩
def yX7_add : MethodName := ⟨RX7, "add", "(III)I"⟩
abbrev mX7_add : am_M := (RX7, prog_9_method_7_code, 4, (Option.some Jvm.ClassFile.FieldType.int), "add", [])
theorem myX7_add : am_My yX7_add mX7_add 3 := ⟨aw_837, aw_8, by decide +kernel, by decide⟩
def yX7_openScope : MethodName := ⟨RX7, "openScope", "(III)V"⟩
abbrev mX7_openScope : am_M := (RX7, prog_9_method_8_code, 4, (Option.none : Option Jvm.ClassFile.FieldType), "openScope", [])
theorem myX7_openScope : am_My yX7_openScope mX7_openScope 3 := ⟨aw_848, aw_8, by decide +kernel, by decide⟩
def yX7_note : MethodName := ⟨RX7, "note", "(II)V"⟩
abbrev mX7_note : am_M := (RX7, prog_9_method_9_code, 3, (Option.none : Option Jvm.ClassFile.FieldType), "note", [])
theorem myX7_note : am_My yX7_note mX7_note 2 := ⟨aw_902, aw_8, by decide +kernel, by decide⟩
def yX7_inner : MethodName := ⟨RX7, "inner", "(I)I"⟩
abbrev mX7_inner : am_M := (RX7, prog_9_method_10_code, 2, (Option.some Jvm.ClassFile.FieldType.int), "inner", [])
theorem myX7_inner : am_My yX7_inner mX7_inner 1 := ⟨aw_890, aw_8, by decide +kernel, by decide⟩
def yX7_newTask : MethodName := ⟨RX7, "newTask", "(III)I"⟩
abbrev mX7_newTask : am_M := (RX7, prog_9_method_11_code, 6, (Option.some Jvm.ClassFile.FieldType.int), "newTask", [])
theorem myX7_newTask : am_My yX7_newTask mX7_newTask 3 := ⟨aw_854, aw_8, by decide +kernel, by decide⟩
def yX7_begin : MethodName := ⟨RX7, "begin", "(IIII)V"⟩
abbrev mX7_begin : am_M := (RX7, prog_9_method_12_code, 6, (Option.none : Option Jvm.ClassFile.FieldType), "begin", [])
theorem myX7_begin : am_My yX7_begin mX7_begin 4 := ⟨aw_844, aw_8, by decide +kernel, by decide⟩
def yX7_push : MethodName := ⟨RX7, "push", "(II)V"⟩
abbrev mX7_push : am_M := (RX7, prog_9_method_13_code, 3, (Option.none : Option Jvm.ClassFile.FieldType), "push", [])
theorem myX7_push : am_My yX7_push mX7_push 2 := ⟨aw_858, aw_8, by decide +kernel, by decide⟩
def yX7_move : MethodName := ⟨RX7, "move", "()V"⟩
abbrev mX7_move : am_M := (RX7, prog_9_method_14_code, 4, (Option.none : Option Jvm.ClassFile.FieldType), "move", [])
theorem myX7_move : am_My yX7_move mX7_move 0 := ⟨aw_910, aw_8, by decide +kernel, by decide⟩
def yX7_isPassed : MethodName := ⟨RX7, "isPassed", "(I)Z"⟩
abbrev mX7_isPassed : am_M := (RX7, prog_9_method_15_code, 3, (Option.some Jvm.ClassFile.FieldType.boolean), "isPassed", [])
theorem myX7_isPassed : am_My yX7_isPassed mX7_isPassed 1 := ⟨aw_934, aw_8, by decide +kernel, by decide⟩
def yX7_next : MethodName := ⟨RX7, "next", "(I)V"⟩
abbrev mX7_next : am_M := (RX7, prog_9_method_16_code, 4, (Option.none : Option Jvm.ClassFile.FieldType), "next", [])
theorem myX7_next : am_My yX7_next mX7_next 1 := ⟨aw_930, aw_8, by decide +kernel, by decide⟩
def yX7_set : MethodName := ⟨RX7, "set", "(II)V"⟩
abbrev mX7_set : am_M := (RX7, prog_9_method_17_code, 3, (Option.none : Option Jvm.ClassFile.FieldType), "set", [])
theorem myX7_set : am_My yX7_set mX7_set 2 := ⟨aw_894, aw_8, by decide +kernel, by decide⟩
def yX7_finish : MethodName := ⟨RX7, "finish", "(I)V"⟩
abbrev mX7_finish : am_M := (RX7, prog_9_method_18_code, 3, (Option.none : Option Jvm.ClassFile.FieldType), "finish", [])
theorem myX7_finish : am_My yX7_finish mX7_finish 1 := ⟨aw_906, aw_8, by decide +kernel, by decide⟩
def yX7_raise : MethodName := ⟨RX7, "raise", "(II)V"⟩
abbrev mX7_raise : am_M := (RX7, prog_9_method_19_code, 3, (Option.none : Option Jvm.ClassFile.FieldType), "raise", [])
theorem myX7_raise : am_My yX7_raise mX7_raise 2 := ⟨aw_898, aw_8, by decide +kernel, by decide⟩
def yX7_end : MethodName := ⟨RX7, "end", "(I)V"⟩
abbrev mX7_end : am_M := (RX7, prog_9_method_20_code, 3, (Option.none : Option Jvm.ClassFile.FieldType), "end", [])
theorem myX7_end : am_My yX7_end mX7_end 1 := ⟨aw_886, aw_8, by decide +kernel, by decide⟩
def yX7_give : MethodName := ⟨RX7, "give", "(I)V"⟩
abbrev mX7_give : am_M := (RX7, prog_9_method_21_code, 4, (Option.none : Option Jvm.ClassFile.FieldType), "give", [])
theorem myX7_give : am_My yX7_give mX7_give 1 := ⟨aw_938, aw_8, by decide +kernel, by decide⟩
def yX7_spawn : MethodName := ⟨RX7, "spawn", "(III)V"⟩
abbrev mX7_spawn : am_M := (RX7, prog_9_method_22_code, 6, (Option.none : Option Jvm.ClassFile.FieldType), "spawn", [])
theorem myX7_spawn : am_My yX7_spawn mX7_spawn 3 := ⟨aw_914, aw_8, by decide +kernel, by decide⟩
def yX7_join : MethodName := ⟨RX7, "join", "(III)V"⟩
abbrev mX7_join : am_M := (RX7, prog_9_method_23_code, 7, (Option.none : Option Jvm.ClassFile.FieldType), "join", [])
theorem myX7_join : am_My yX7_join mX7_join 3 := ⟨aw_926, aw_8, by decide +kernel, by decide⟩
def yX7_onFuture : MethodName := ⟨RX7, "onFuture", "(III)V"⟩
abbrev mX7_onFuture : am_M := (RX7, prog_9_method_24_code, 4, (Option.none : Option Jvm.ClassFile.FieldType), "onFuture", [])
theorem myX7_onFuture : am_My yX7_onFuture mX7_onFuture 3 := ⟨aw_922, aw_8, by decide +kernel, by decide⟩
def yX7_onScope : MethodName := ⟨RX7, "onScope", "(III)V"⟩
abbrev mX7_onScope : am_M := (RX7, prog_9_method_25_code, 4, (Option.none : Option Jvm.ClassFile.FieldType), "onScope", [])
theorem myX7_onScope : am_My yX7_onScope mX7_onScope 3 := ⟨aw_918, aw_8, by decide +kernel, by decide⟩
def yX7_step : MethodName := ⟨RX7, "step", "(I)V"⟩
abbrev mX7_step : am_M := (RX7, prog_9_method_26_code, 5, (Option.none : Option Jvm.ClassFile.FieldType), "step", [])
theorem myX7_step : am_My yX7_step mX7_step 1 := ⟨aw_882, aw_8, by decide +kernel, by decide⟩
def yX7_isReady : MethodName := ⟨RX7, "isReady", "(I)Z"⟩
abbrev mX7_isReady : am_M := (RX7, prog_9_method_27_code, 2, (Option.some Jvm.ClassFile.FieldType.boolean), "isReady", [])
theorem myX7_isReady : am_My yX7_isReady mX7_isReady 1 := ⟨aw_946, aw_8, by decide +kernel, by decide⟩
def yX7_ready : MethodName := ⟨RX7, "ready", "(II)V"⟩
abbrev mX7_ready : am_M := (RX7, prog_9_method_28_code, 5, (Option.none : Option Jvm.ClassFile.FieldType), "ready", [])
theorem myX7_ready : am_My yX7_ready mX7_ready 2 := ⟨aw_942, aw_8, by decide +kernel, by decide⟩
def yX7_take : MethodName := ⟨RX7, "take", "(I)I"⟩
abbrev mX7_take : am_M := (RX7, prog_9_method_29_code, 6, (Option.some Jvm.ClassFile.FieldType.int), "take", [])
theorem myX7_take : am_My yX7_take mX7_take 1 := ⟨aw_878, aw_8, by decide +kernel, by decide⟩
def yX7_work : MethodName := ⟨RX7, "work", "(I)V"⟩
abbrev mX7_work : am_M := (RX7, prog_9_method_30_code, 3, (Option.none : Option Jvm.ClassFile.FieldType), "work", [])
theorem myX7_work : am_My yX7_work mX7_work 1 := ⟨aw_874, aw_8, by decide +kernel, by decide⟩
def yX7_isOver : MethodName := ⟨RX7, "isOver", "()Z"⟩
abbrev mX7_isOver : am_M := (RX7, prog_9_method_31_code, 1, (Option.some Jvm.ClassFile.FieldType.boolean), "isOver", [])
theorem myX7_isOver : am_My yX7_isOver mX7_isOver 0 := ⟨aw_866, aw_8, by decide +kernel, by decide⟩
def yX7_isStuck : MethodName := ⟨RX7, "isStuck", "()Z"⟩
abbrev mX7_isStuck : am_M := (RX7, prog_9_method_32_code, 2, (Option.some Jvm.ClassFile.FieldType.boolean), "isStuck", [])
theorem myX7_isStuck : am_My yX7_isStuck mX7_isStuck 0 := ⟨aw_870, aw_8, by decide +kernel, by decide⟩
def yX7_run : MethodName := ⟨RX7, "run", "(I)I"⟩
abbrev mX7_run : am_M := (RX7, prog_9_method_33_code, 6, (Option.some Jvm.ClassFile.FieldType.int), "run", [])
theorem myX7_run : am_My yX7_run mX7_run 1 := ⟨aw_862, aw_8, by decide +kernel, by decide⟩
def yX7_result : MethodName := ⟨RX7, "result", "()I"⟩
abbrev mX7_result : am_M := (RX7, prog_9_method_34_code, 2, (Option.some Jvm.ClassFile.FieldType.int), "result", [])
theorem myX7_result : am_My yX7_result mX7_result 0 := ⟨aw_950, aw_8, by decide +kernel, by decide⟩
def yX7_said : MethodName := ⟨RX7, "said", "(I)I"⟩
abbrev mX7_said : am_M := (RX7, prog_9_method_35_code, 2, (Option.some Jvm.ClassFile.FieldType.int), "said", [])
theorem myX7_said : am_My yX7_said mX7_said 1 := ⟨aw_954, aw_8, by decide +kernel, by decide⟩
def yX7_task : MethodName := ⟨RX7, "task", "(II)I"⟩
abbrev mX7_task : am_M := (RX7, prog_9_method_36_code, 3, (Option.some Jvm.ClassFile.FieldType.int), "task", [])
theorem myX7_task : am_My yX7_task mX7_task 2 := ⟨aw_958, aw_8, by decide +kernel, by decide⟩
def yX7_future : MethodName := ⟨RX7, "future", "(I)I"⟩
abbrev mX7_future : am_M := (RX7, prog_9_method_37_code, 2, (Option.some Jvm.ClassFile.FieldType.int), "future", [])
theorem myX7_future : am_My yX7_future mX7_future 1 := ⟨aw_962, aw_8, by decide +kernel, by decide⟩
def yX7_queuedAt : MethodName := ⟨RX7, "queuedAt", "(II)I"⟩
abbrev mX7_queuedAt : am_M := (RX7, prog_9_method_38_code, 3, (Option.some Jvm.ClassFile.FieldType.int), "queuedAt", [])
theorem myX7_queuedAt : am_My yX7_queuedAt mX7_queuedAt 2 := ⟨aw_970, aw_8, by decide +kernel, by decide⟩
def yX7_count : MethodName := ⟨RX7, "count", "(I)I"⟩
abbrev mX7_count : am_M := (RX7, prog_9_method_39_code, 5, (Option.some Jvm.ClassFile.FieldType.int), "count", [])
theorem myX7_count : am_My yX7_count mX7_count 1 := ⟨aw_966, aw_8, by decide +kernel, by decide⟩
def yX0_init : MethodName := ⟨RX0, "<init>", "()V"⟩
abbrev mX0_init : am_M := (RX0, prog_2_method_1_code, 1, (Option.none : Option Jvm.ClassFile.FieldType), "<init>", [])
theorem myX0_init : am_My yX0_init mX0_init 0 := ⟨aw_33, aw_2, by decide +kernel, by decide⟩
def yX0_append : MethodName := ⟨RX0, "append", "(II)V"⟩
abbrev mX0_append : am_M := (RX0, prog_2_method_2_code, 3, (Option.none : Option Jvm.ClassFile.FieldType), "append", [])
theorem myX0_append : am_My yX0_append mX0_append 2 := ⟨aw_360, aw_2, by decide +kernel, by decide⟩
def yX1_init : MethodName := ⟨RX1, "<init>", "()V"⟩
abbrev mX1_init : am_M := (RX1, prog_3_method_1_code, 1, (Option.none : Option Jvm.ClassFile.FieldType), "<init>", [])
theorem myX1_init : am_My yX1_init mX1_init 0 := ⟨aw_144, aw_6, by decide +kernel, by decide⟩
def yX1_reset : MethodName := ⟨RX1, "reset", "()V"⟩
abbrev mX1_reset : am_M := (RX1, prog_3_method_2_code, 1, (Option.none : Option Jvm.ClassFile.FieldType), "reset", [])
theorem myX1_reset : am_My yX1_reset mX1_reset 0 := ⟨aw_382, aw_6, by decide +kernel, by decide⟩
def yX1_join : MethodName := ⟨RX1, "join", "(II)V"⟩
abbrev mX1_join : am_M := (RX1, prog_3_method_3_code, 3, (Option.none : Option Jvm.ClassFile.FieldType), "join", [])
theorem myX1_join : am_My yX1_join mX1_join 2 := ⟨aw_542, aw_6, by decide +kernel, by decide⟩
def yX1_copy : MethodName := ⟨RX1, "copy", "(II)V"⟩
abbrev mX1_copy : am_M := (RX1, prog_3_method_4_code, 3, (Option.none : Option Jvm.ClassFile.FieldType), "copy", [])
theorem myX1_copy : am_My yX1_copy mX1_copy 2 := ⟨aw_508, aw_6, by decide +kernel, by decide⟩
def yX1_leave : MethodName := ⟨RX1, "leave", "(I)V"⟩
abbrev mX1_leave : am_M := (RX1, prog_3_method_5_code, 2, (Option.none : Option Jvm.ClassFile.FieldType), "leave", [])
theorem myX1_leave : am_My yX1_leave mX1_leave 1 := ⟨aw_550, aw_6, by decide +kernel, by decide⟩
def yX1_signal : MethodName := ⟨RX1, "signal", "(I)V"⟩
abbrev mX1_signal : am_M := (RX1, prog_3_method_6_code, 2, (Option.none : Option Jvm.ClassFile.FieldType), "signal", [])
theorem myX1_signal : am_My yX1_signal mX1_signal 1 := ⟨aw_562, aw_6, by decide +kernel, by decide⟩
def yX1_holdsBack : MethodName := ⟨RX1, "holdsBack", "(I)Z"⟩
abbrev mX1_holdsBack : am_M := (RX1, prog_3_method_7_code, 2, (Option.some Jvm.ClassFile.FieldType.boolean), "holdsBack", [])
theorem myX1_holdsBack : am_My yX1_holdsBack mX1_holdsBack 1 := ⟨aw_476, aw_6, by decide +kernel, by decide⟩
def yX1_pass : MethodName := ⟨RX1, "pass", "(I)V"⟩
abbrev mX1_pass : am_M := (RX1, prog_3_method_8_code, 2, (Option.none : Option Jvm.ClassFile.FieldType), "pass", [])
theorem myX1_pass : am_My yX1_pass mX1_pass 1 := ⟨aw_480, aw_6, by decide +kernel, by decide⟩
def yX1_raisePhase : MethodName := ⟨RX1, "raisePhase", "()V"⟩
abbrev mX1_raisePhase : am_M := (RX1, prog_3_method_9_code, 4, (Option.none : Option Jvm.ClassFile.FieldType), "raisePhase", [])
theorem myX1_raisePhase : am_My yX1_raisePhase mX1_raisePhase 0 := ⟨aw_554, aw_6, by decide +kernel, by decide⟩
def yX2_init : MethodName := ⟨RX2, "<init>", "([LPhaserYard$Body;)V"⟩
abbrev mX2_init : am_M := (RX2, prog_4_method_1_code, 3, (Option.none : Option Jvm.ClassFile.FieldType), "<init>", [])
theorem myX2_init : am_My yX2_init mX2_init 1 := ⟨aw_54, aw_3, by decide +kernel, by decide⟩
def yX2_reset : MethodName := ⟨RX2, "reset", "(IZ)V"⟩
abbrev mX2_reset : am_M := (RX2, prog_4_method_2_code, 4, (Option.none : Option Jvm.ClassFile.FieldType), "reset", [])
theorem myX2_reset : am_My yX2_reset mX2_reset 2 := ⟨aw_372, aw_3, by decide +kernel, by decide⟩
def yX2_beginFirst : MethodName := ⟨RX2, "beginFirst", "(II)V"⟩
abbrev mX2_beginFirst : am_M := (RX2, prog_4_method_3_code, 3, (Option.none : Option Jvm.ClassFile.FieldType), "beginFirst", [])
theorem myX2_beginFirst : am_My yX2_beginFirst mX2_beginFirst 2 := ⟨aw_393, aw_3, by decide +kernel, by decide⟩
def yX2_isBegun : MethodName := ⟨RX2, "isBegun", "()Z"⟩
abbrev mX2_isBegun : am_M := (RX2, prog_4_method_4_code, 1, (Option.some Jvm.ClassFile.FieldType.boolean), "isBegun", [])
theorem myX2_isBegun : am_My yX2_isBegun mX2_isBegun 0 := ⟨aw_414, aw_3, by decide +kernel, by decide⟩
def yX2_isOver : MethodName := ⟨RX2, "isOver", "()Z"⟩
abbrev mX2_isOver : am_M := (RX2, prog_4_method_5_code, 1, (Option.some Jvm.ClassFile.FieldType.boolean), "isOver", [])
theorem myX2_isOver : am_My yX2_isOver mX2_isOver 0 := ⟨aw_419, aw_3, by decide +kernel, by decide⟩
def yX2_isStuck : MethodName := ⟨RX2, "isStuck", "()Z"⟩
abbrev mX2_isStuck : am_M := (RX2, prog_4_method_6_code, 2, (Option.some Jvm.ClassFile.FieldType.boolean), "isStuck", [])
theorem myX2_isStuck : am_My yX2_isStuck mX2_isStuck 0 := ⟨aw_424, aw_3, by decide +kernel, by decide⟩
def yX2_tick : MethodName := ⟨RX2, "tick", "()V"⟩
abbrev mX2_tick : am_M := (RX2, prog_4_method_7_code, 2, (Option.none : Option Jvm.ClassFile.FieldType), "tick", [])
theorem myX2_tick : am_My yX2_tick mX2_tick 0 := ⟨aw_429, aw_3, by decide +kernel, by decide⟩
def yX2_takeOne : MethodName := ⟨RX2, "takeOne", "(I)V"⟩
abbrev mX2_takeOne : am_M := (RX2, prog_4_method_8_code, 4, (Option.none : Option Jvm.ClassFile.FieldType), "takeOne", [])
theorem myX2_takeOne : am_My yX2_takeOne mX2_takeOne 1 := ⟨aw_433, aw_3, by decide +kernel, by decide⟩
def yX2_step : MethodName := ⟨RX2, "step", "(LPhaserYard$Worker;)V"⟩
abbrev mX2_step : am_M := (RX2, prog_4_method_9_code, 4, (Option.none : Option Jvm.ClassFile.FieldType), "step", [])
theorem myX2_step : am_My yX2_step mX2_step 1 := ⟨aw_452, aw_3, by decide +kernel, by decide⟩
def yX2_finishWait : MethodName := ⟨RX2, "finishWait", "(LPhaserYard$Task;)I"⟩
abbrev mX2_finishWait : am_M := (RX2, prog_4_method_10_code, 2, (Option.some Jvm.ClassFile.FieldType.int), "finishWait", [])
theorem myX2_finishWait : am_My yX2_finishWait mX2_finishWait 1 := ⟨aw_456, aw_3, by decide +kernel, by decide⟩
def yX2_instruct : MethodName := ⟨RX2, "instruct", "(LPhaserYard$Worker;LPhaserYard$Task;LPhaserYard$Body;)I"⟩
abbrev mX2_instruct : am_M := (RX2, prog_4_method_11_code, 7, (Option.some Jvm.ClassFile.FieldType.int), "instruct", [])
theorem myX2_instruct : am_My yX2_instruct mX2_instruct 3 := ⟨aw_496, aw_3, by decide +kernel, by decide⟩
def yX2_spawn : MethodName := ⟨RX2, "spawn", "(LPhaserYard$Worker;LPhaserYard$Task;IZ)I"⟩
abbrev mX2_spawn : am_M := (RX2, prog_4_method_12_code, 7, (Option.some Jvm.ClassFile.FieldType.int), "spawn", [])
theorem myX2_spawn : am_My yX2_spawn mX2_spawn 4 := ⟨aw_500, aw_3, by decide +kernel, by decide⟩
def yX2_spawnWaiting : MethodName := ⟨RX2, "spawnWaiting", "(LPhaserYard$Task;II)I"⟩
abbrev mX2_spawnWaiting : am_M := (RX2, prog_4_method_13_code, 4, (Option.some Jvm.ClassFile.FieldType.int), "spawnWaiting", [])
theorem myX2_spawnWaiting : am_My yX2_spawnWaiting mX2_spawnWaiting 3 := ⟨aw_534, aw_3, by decide +kernel, by decide⟩
def yX2_makeTask : MethodName := ⟨RX2, "makeTask", "(LPhaserYard$Task;I)LPhaserYard$Task;"⟩
abbrev mX2_makeTask : am_M := (RX2, prog_4_method_14_code, 5, (Option.some (Jvm.ClassFile.FieldType.object "PhaserYard$Task")), "makeTask", [])
theorem myX2_makeTask : am_My yX2_makeTask mX2_makeTask 2 := ⟨aw_504, aw_3, by decide +kernel, by decide⟩
def yX2_openScope : MethodName := ⟨RX2, "openScope", "(LPhaserYard$Task;II)I"⟩
abbrev mX2_openScope : am_M := (RX2, prog_4_method_15_code, 4, (Option.some Jvm.ClassFile.FieldType.int), "openScope", [])
theorem myX2_openScope : am_My yX2_openScope mX2_openScope 3 := ⟨aw_512, aw_3, by decide +kernel, by decide⟩
def yX2_close : MethodName := ⟨RX2, "close", "(LPhaserYard$Task;)I"⟩
abbrev mX2_close : am_M := (RX2, prog_4_method_16_code, 2, (Option.some Jvm.ClassFile.FieldType.int), "close", [])
theorem myX2_close : am_My yX2_close mX2_close 1 := ⟨aw_516, aw_3, by decide +kernel, by decide⟩
def yX2_put : MethodName := ⟨RX2, "put", "(II)I"⟩
abbrev mX2_put : am_M := (RX2, prog_4_method_17_code, 3, (Option.some Jvm.ClassFile.FieldType.int), "put", [])
theorem myX2_put : am_My yX2_put mX2_put 2 := ⟨aw_530, aw_3, by decide +kernel, by decide⟩
def yX2_get : MethodName := ⟨RX2, "get", "(LPhaserYard$Task;I)I"⟩
abbrev mX2_get : am_M := (RX2, prog_4_method_18_code, 3, (Option.some Jvm.ClassFile.FieldType.int), "get", [])
theorem myX2_get : am_My yX2_get mX2_get 2 := ⟨aw_460, aw_3, by decide +kernel, by decide⟩
def yX2_join : MethodName := ⟨RX2, "join", "(LPhaserYard$Task;LPhaserYard$Phaser;I)I"⟩
abbrev mX2_join : am_M := (RX2, prog_4_method_19_code, 4, (Option.some Jvm.ClassFile.FieldType.int), "join", [])
theorem myX2_join : am_My yX2_join mX2_join 3 := ⟨aw_538, aw_3, by decide +kernel, by decide⟩
def yX2_leave : MethodName := ⟨RX2, "leave", "(LPhaserYard$Task;LPhaserYard$Phaser;)I"⟩
abbrev mX2_leave : am_M := (RX2, prog_4_method_20_code, 3, (Option.some Jvm.ClassFile.FieldType.int), "leave", [])
theorem myX2_leave : am_My yX2_leave mX2_leave 2 := ⟨aw_546, aw_3, by decide +kernel, by decide⟩
def yX2_signalAll : MethodName := ⟨RX2, "signalAll", "(LPhaserYard$Task;)V"⟩
abbrev mX2_signalAll : am_M := (RX2, prog_4_method_21_code, 3, (Option.none : Option Jvm.ClassFile.FieldType), "signalAll", [])
theorem myX2_signalAll : am_My yX2_signalAll mX2_signalAll 1 := ⟨aw_558, aw_3, by decide +kernel, by decide⟩
def yX2_passPhases : MethodName := ⟨RX2, "passPhases", "(LPhaserYard$Task;)I"⟩
abbrev mX2_passPhases : am_M := (RX2, prog_4_method_22_code, 3, (Option.some Jvm.ClassFile.FieldType.int), "passPhases", [])
theorem myX2_passPhases : am_My yX2_passPhases mX2_passPhases 1 := ⟨aw_468, aw_3, by decide +kernel, by decide⟩
def yX2_isHeldBack : MethodName := ⟨RX2, "isHeldBack", "(LPhaserYard$Task;)Z"⟩
abbrev mX2_isHeldBack : am_M := (RX2, prog_4_method_23_code, 3, (Option.some Jvm.ClassFile.FieldType.boolean), "isHeldBack", [])
theorem myX2_isHeldBack : am_My yX2_isHeldBack mX2_isHeldBack 1 := ⟨aw_472, aw_3, by decide +kernel, by decide⟩
def yX2_say : MethodName := ⟨RX2, "say", "(I)V"⟩
abbrev mX2_say : am_M := (RX2, prog_4_method_24_code, 2, (Option.none : Option Jvm.ClassFile.FieldType), "say", [])
theorem myX2_say : am_My yX2_say mX2_say 1 := ⟨aw_566, aw_3, by decide +kernel, by decide⟩
def yX2_endScope : MethodName := ⟨RX2, "endScope", "(LPhaserYard$Task;)I"⟩
abbrev mX2_endScope : am_M := (RX2, prog_4_method_25_code, 4, (Option.some Jvm.ClassFile.FieldType.int), "endScope", [])
theorem myX2_endScope : am_My yX2_endScope mX2_endScope 1 := ⟨aw_484, aw_3, by decide +kernel, by decide⟩
def yX2_endInnermost : MethodName := ⟨RX2, "endInnermost", "(LPhaserYard$Task;)V"⟩
abbrev mX2_endInnermost : am_M := (RX2, prog_4_method_26_code, 2, (Option.none : Option Jvm.ClassFile.FieldType), "endInnermost", [])
theorem myX2_endInnermost : am_My yX2_endInnermost mX2_endInnermost 1 := ⟨aw_570, aw_3, by decide +kernel, by decide⟩
def yX2_finish : MethodName := ⟨RX2, "finish", "(LPhaserYard$Task;)V"⟩
abbrev mX2_finish : am_M := (RX2, prog_4_method_27_code, 3, (Option.none : Option Jvm.ClassFile.FieldType), "finish", [])
theorem myX2_finish : am_My yX2_finish mX2_finish 1 := ⟨aw_574, aw_3, by decide +kernel, by decide⟩
def yX2_wakeAll : MethodName := ⟨RX2, "wakeAll", "(LPhaserYard$Worker;)V"⟩
abbrev mX2_wakeAll : am_M := (RX2, prog_4_method_28_code, 3, (Option.none : Option Jvm.ClassFile.FieldType), "wakeAll", [])
theorem myX2_wakeAll : am_My yX2_wakeAll mX2_wakeAll 1 := ⟨aw_582, aw_3, by decide +kernel, by decide⟩
def yX2_isWaitOver : MethodName := ⟨RX2, "isWaitOver", "(LPhaserYard$Task;)Z"⟩
abbrev mX2_isWaitOver : am_M := (RX2, prog_4_method_29_code, 2, (Option.some Jvm.ClassFile.FieldType.boolean), "isWaitOver", [])
theorem myX2_isWaitOver : am_My yX2_isWaitOver mX2_isWaitOver 1 := ⟨aw_586, aw_3, by decide +kernel, by decide⟩
def yX2_answerOf : MethodName := ⟨RX2, "answerOf", "(LPhaserYard$Task;I)I"⟩
abbrev mX2_answerOf : am_M := (RX2, prog_4_method_30_code, 3, (Option.some Jvm.ClassFile.FieldType.int), "answerOf", [])
theorem myX2_answerOf : am_My yX2_answerOf mX2_answerOf 2 := ⟨aw_665, aw_3, by decide +kernel, by decide⟩
def yX2_figure : MethodName := ⟨RX2, "figure", "(I)I"⟩
abbrev mX2_figure : am_M := (RX2, prog_4_method_31_code, 2, (Option.some Jvm.ClassFile.FieldType.int), "figure", [])
theorem myX2_figure : am_My yX2_figure mX2_figure 1 := ⟨aw_685, aw_3, by decide +kernel, by decide⟩
def yX2_unfinishedTasks : MethodName := ⟨RX2, "unfinishedTasks", "()I"⟩
abbrev mX2_unfinishedTasks : am_M := (RX2, prog_4_method_32_code, 3, (Option.some Jvm.ClassFile.FieldType.int), "unfinishedTasks", [])
theorem myX2_unfinishedTasks : am_My yX2_unfinishedTasks mX2_unfinishedTasks 0 := ⟨aw_689, aw_3, by decide +kernel, by decide⟩
def yX3_init : MethodName := ⟨RX3, "<init>", "()V"⟩
abbrev mX3_init : am_M := (RX3, prog_5_method_1_code, 1, (Option.none : Option Jvm.ClassFile.FieldType), "<init>", [])
theorem myX3_init : am_My yX3_init mX3_init 0 := ⟨aw_60, aw_4, by decide +kernel, by decide⟩
def yX3_open : MethodName := ⟨RX3, "open", "(II)V"⟩
abbrev mX3_open : am_M := (RX3, prog_5_method_2_code, 3, (Option.none : Option Jvm.ClassFile.FieldType), "open", [])
theorem myX3_open : am_My yX3_open mX3_open 2 := ⟨aw_376, aw_4, by decide +kernel, by decide⟩
def yX3_give : MethodName := ⟨RX3, "give", "(I)V"⟩
abbrev mX3_give : am_M := (RX3, prog_5_method_3_code, 2, (Option.none : Option Jvm.ClassFile.FieldType), "give", [])
theorem myX3_give : am_My yX3_give mX3_give 1 := ⟨aw_520, aw_4, by decide +kernel, by decide⟩
def yX3_note : MethodName := ⟨RX3, "note", "(I)V"⟩
abbrev mX3_note : am_M := (RX3, prog_5_method_4_code, 2, (Option.none : Option Jvm.ClassFile.FieldType), "note", [])
theorem myX3_note : am_My yX3_note mX3_note 1 := ⟨aw_578, aw_4, by decide +kernel, by decide⟩
def yX3_sumAfter : MethodName := ⟨RX3, "sumAfter", "(I)I"⟩
abbrev mX3_sumAfter : am_M := (RX3, prog_5_method_5_code, 2, (Option.some Jvm.ClassFile.FieldType.int), "sumAfter", [])
theorem myX3_sumAfter : am_My yX3_sumAfter mX3_sumAfter 1 := ⟨aw_492, aw_4, by decide +kernel, by decide⟩
def yX4_init : MethodName := ⟨RX4, "<init>", "(ILPhaserYard$Scope;)V"⟩
abbrev mX4_init : am_M := (RX4, prog_6_method_1_code, 4, (Option.none : Option Jvm.ClassFile.FieldType), "<init>", [])
theorem myX4_init : am_My yX4_init mX4_init 2 := ⟨aw_92, aw_5, by decide +kernel, by decide⟩
def yX4_reset : MethodName := ⟨RX4, "reset", "(IILPhaserYard$Scope;)V"⟩
abbrev mX4_reset : am_M := (RX4, prog_6_method_2_code, 4, (Option.none : Option Jvm.ClassFile.FieldType), "reset", [])
theorem myX4_reset : am_My yX4_reset mX4_reset 3 := ⟨aw_397, aw_5, by decide +kernel, by decide⟩
def yX4_innerScope : MethodName := ⟨RX4, "innerScope", "()LPhaserYard$Scope;"⟩
abbrev mX4_innerScope : am_M := (RX4, prog_6_method_3_code, 1, (Option.some (Jvm.ClassFile.FieldType.object "PhaserYard$Scope")), "innerScope", [])
theorem myX4_innerScope : am_My yX4_innerScope mX4_innerScope 0 := ⟨aw_488, aw_5, by decide +kernel, by decide⟩
def yX4_waitFor : MethodName := ⟨RX4, "waitFor", "(II)V"⟩
abbrev mX4_waitFor : am_M := (RX4, prog_6_method_4_code, 3, (Option.none : Option Jvm.ClassFile.FieldType), "waitFor", [])
theorem myX4_waitFor : am_My yX4_waitFor mX4_waitFor 2 := ⟨aw_464, aw_5, by decide +kernel, by decide⟩
def yX5_init : MethodName := ⟨RX5, "<init>", "()V"⟩
abbrev mX5_init : am_M := (RX5, prog_7_method_1_code, 1, (Option.none : Option Jvm.ClassFile.FieldType), "<init>", [])
theorem myX5_init : am_My yX5_init mX5_init 0 := ⟨aw_166, aw_7, by decide +kernel, by decide⟩
def yX5_reset : MethodName := ⟨RX5, "reset", "()V"⟩
abbrev mX5_reset : am_M := (RX5, prog_7_method_2_code, 1, (Option.none : Option Jvm.ClassFile.FieldType), "reset", [])
theorem myX5_reset : am_My yX5_reset mX5_reset 0 := ⟨aw_389, aw_7, by decide +kernel, by decide⟩
def yX5_taskAt : MethodName := ⟨RX5, "taskAt", "(I)I"⟩
abbrev mX5_taskAt : am_M := (RX5, prog_7_method_3_code, 2, (Option.some Jvm.ClassFile.FieldType.int), "taskAt", [])
theorem myX5_taskAt : am_My yX5_taskAt mX5_taskAt 1 := ⟨aw_441, aw_7, by decide +kernel, by decide⟩
def yX5_append : MethodName := ⟨RX5, "append", "(I)V"⟩
abbrev mX5_append : am_M := (RX5, prog_7_method_4_code, 2, (Option.none : Option Jvm.ClassFile.FieldType), "append", [])
theorem myX5_append : am_My yX5_append mX5_append 1 := ⟨aw_401, aw_7, by decide +kernel, by decide⟩
def yX5_takeLast : MethodName := ⟨RX5, "takeLast", "()I"⟩
abbrev mX5_takeLast : am_M := (RX5, prog_7_method_5_code, 2, (Option.some Jvm.ClassFile.FieldType.int), "takeLast", [])
theorem myX5_takeLast : am_My yX5_takeLast mX5_takeLast 0 := ⟨aw_437, aw_7, by decide +kernel, by decide⟩
def yX5_takeFirst : MethodName := ⟨RX5, "takeFirst", "()I"⟩
abbrev mX5_takeFirst : am_M := (RX5, prog_7_method_6_code, 2, (Option.some Jvm.ClassFile.FieldType.int), "takeFirst", [])
theorem myX5_takeFirst : am_My yX5_takeFirst mX5_takeFirst 0 := ⟨aw_445, aw_7, by decide +kernel, by decide⟩
def yL_body : MethodName := ⟨RL, "body", "(LPhaserYard;I[J)I"⟩
def yL_add : MethodName := ⟨RL, "add", "(LPhaserYard;III[J)I"⟩
def yL_begin : MethodName := ⟨RL, "begin", "(LPhaserYard;IIII)I"⟩
def yL_run : MethodName := ⟨RL, "run", "(LPhaserYard;I[J)I"⟩
def yL_result : MethodName := ⟨RL, "result", "(LPhaserYard;[J)I"⟩
def yL_said : MethodName := ⟨RL, "said", "(LPhaserYard;I[J)I"⟩
def yL_task : MethodName := ⟨RL, "task", "(LPhaserYard;II[J)I"⟩
def yL_future : MethodName := ⟨RL, "future", "(LPhaserYard;I[J)I"⟩
def yL_count : MethodName := ⟨RL, "count", "(LPhaserYard;I[J)I"⟩
def yL_law : MethodName := ⟨RL, "law", "([I)Z"⟩
theorem kl_0 : am_Kl 0 RX0 TX0 3 tyX0 := ⟨rfl, rfl, by decide, am_uw0, by decide +kernel, by decide +kernel, by decide +kernel⟩
theorem kl_1 : am_Kl 1 RX1 TX1 4 tyX1 := ⟨rfl, rfl, by decide, am_uw1, by decide +kernel, by decide +kernel, by decide +kernel⟩
theorem kl_2 : am_Kl 2 RX2 TX2 15 tyX2 := ⟨rfl, rfl, by decide, am_uw2, by decide +kernel, by decide +kernel, by decide +kernel⟩
theorem kl_3 : am_Kl 3 RX3 TX3 6 tyX3 := ⟨rfl, rfl, by decide, am_uw3, by decide +kernel, by decide +kernel, by decide +kernel⟩
theorem kl_4 : am_Kl 4 RX4 TX4 10 tyX4 := ⟨rfl, rfl, by decide, am_uw4, by decide +kernel, by decide +kernel, by decide +kernel⟩
theorem kl_5 : am_Kl 5 RX5 TX5 3 tyX5 := ⟨rfl, rfl, by decide, am_uw5, by decide +kernel, by decide +kernel, by decide +kernel⟩
theorem kl_6 : am_Kl 6 RX6 TX6 2 tyX6 := ⟨rfl, rfl, by decide, am_uw6, by decide +kernel, by decide +kernel, by decide +kernel⟩
theorem kl_7 : am_Kl 7 RX7 TX7 40 tyX7 := ⟨rfl, rfl, by decide, am_uw7, by decide +kernel, by decide +kernel, by decide +kernel⟩
theorem fl_X0_9 : am_Fl RX0 9 0 0 (tyX0 0) true := ⟨RX0, TX0, 3, tyX0, kl_0, by decide, rfl, rfl, aw_35⟩
theorem fl_X2_177 : am_Fl RX2 177 0 0 (tyX0 0) true := ⟨RX0, TX0, 3, tyX0, kl_0, by decide, rfl, rfl, aw_36⟩
theorem fl_X0_15 : am_Fl RX0 15 0 1 (tyX0 1) true := ⟨RX0, TX0, 3, tyX0, kl_0, by decide, rfl, rfl, aw_37⟩
theorem fl_X2_174 : am_Fl RX2 174 0 1 (tyX0 1) true := ⟨RX0, TX0, 3, tyX0, kl_0, by decide, rfl, rfl, aw_38⟩
theorem fl_X0_18 : am_Fl RX0 18 0 2 (tyX0 2) false := ⟨RX0, TX0, 3, tyX0, kl_0, by decide, rfl, rfl, aw_39⟩
theorem fl_X6_36 : am_Fl RX6 36 0 2 (tyX0 2) false := ⟨RX0, TX0, 3, tyX0, kl_0, by decide, rfl, rfl, aw_40⟩
theorem fl_X2_140 : am_Fl RX2 140 0 2 (tyX0 2) false := ⟨RX0, TX0, 3, tyX0, kl_0, by decide, rfl, rfl, aw_41⟩
theorem fl_X3_9 : am_Fl RX3 9 3 0 (tyX3 0) false := ⟨RX3, TX3, 6, tyX3, kl_3, by decide, rfl, rfl, aw_62⟩
theorem fl_X3_15 : am_Fl RX3 15 3 1 (tyX3 1) false := ⟨RX3, TX3, 6, tyX3, kl_3, by decide, rfl, rfl, aw_63⟩
theorem fl_X2_266 : am_Fl RX2 266 3 1 (tyX3 1) false := ⟨RX3, TX3, 6, tyX3, kl_3, by decide, rfl, rfl, aw_64⟩
theorem fl_X3_18 : am_Fl RX3 18 3 2 (tyX3 2) false := ⟨RX3, TX3, 6, tyX3, kl_3, by decide, rfl, rfl, aw_65⟩
theorem fl_X2_90 : am_Fl RX2 90 3 2 (tyX3 2) false := ⟨RX3, TX3, 6, tyX3, kl_3, by decide, rfl, rfl, aw_66⟩
theorem fl_X3_25 : am_Fl RX3 25 3 3 (tyX3 3) false := ⟨RX3, TX3, 6, tyX3, kl_3, by decide, rfl, rfl, aw_67⟩
theorem fl_X6_111 : am_Fl RX6 111 3 3 (tyX3 3) false := ⟨RX3, TX3, 6, tyX3, kl_3, by decide, rfl, rfl, aw_68⟩
theorem fl_X3_28 : am_Fl RX3 28 3 4 (tyX3 4) false := ⟨RX3, TX3, 6, tyX3, kl_3, by decide, rfl, rfl, aw_69⟩
theorem fl_X6_92 : am_Fl RX6 92 3 4 (tyX3 4) false := ⟨RX3, TX3, 6, tyX3, kl_3, by decide, rfl, rfl, aw_70⟩
theorem fl_X2_259 : am_Fl RX2 259 3 4 (tyX3 4) false := ⟨RX3, TX3, 6, tyX3, kl_3, by decide, rfl, rfl, aw_71⟩
theorem fl_X3_31 : am_Fl RX3 31 3 5 (tyX3 5) false := ⟨RX3, TX3, 6, tyX3, kl_3, by decide, rfl, rfl, aw_72⟩
theorem fl_X2_269 : am_Fl RX2 269 3 5 (tyX3 5) false := ⟨RX3, TX3, 6, tyX3, kl_3, by decide, rfl, rfl, aw_73⟩
theorem fl_X4_9 : am_Fl RX4 9 4 0 (tyX4 0) true := ⟨RX4, TX4, 10, tyX4, kl_4, by decide, rfl, rfl, aw_97⟩
theorem fl_X2_222 : am_Fl RX2 222 4 0 (tyX4 0) true := ⟨RX4, TX4, 10, tyX4, kl_4, by decide, rfl, rfl, aw_98⟩
theorem fl_X4_21 : am_Fl RX4 21 4 1 (tyX4 1) true := ⟨RX4, TX4, 10, tyX4, kl_4, by decide, rfl, rfl, aw_99⟩
theorem fl_X2_234 : am_Fl RX2 234 4 1 (tyX4 1) true := ⟨RX4, TX4, 10, tyX4, kl_4, by decide, rfl, rfl, aw_100⟩
theorem fl_X4_35 : am_Fl RX4 35 4 2 (tyX4 2) false := ⟨RX4, TX4, 10, tyX4, kl_4, by decide, rfl, rfl, aw_101⟩
theorem fl_X2_231 : am_Fl RX2 231 4 2 (tyX4 2) false := ⟨RX4, TX4, 10, tyX4, kl_4, by decide, rfl, rfl, aw_102⟩
theorem fl_X4_15 : am_Fl RX4 15 4 3 (tyX4 3) false := ⟨RX4, TX4, 10, tyX4, kl_4, by decide, rfl, rfl, aw_103⟩
theorem fl_X2_275 : am_Fl RX2 275 4 3 (tyX4 3) false := ⟨RX4, TX4, 10, tyX4, kl_4, by decide, rfl, rfl, aw_104⟩
theorem fl_X4_26 : am_Fl RX4 26 4 4 (tyX4 4) false := ⟨RX4, TX4, 10, tyX4, kl_4, by decide, rfl, rfl, aw_105⟩
theorem fl_X2_137 : am_Fl RX2 137 4 4 (tyX4 4) false := ⟨RX4, TX4, 10, tyX4, kl_4, by decide, rfl, rfl, aw_106⟩
theorem fl_X4_29 : am_Fl RX4 29 4 5 (tyX4 5) false := ⟨RX4, TX4, 10, tyX4, kl_4, by decide, rfl, rfl, aw_107⟩
theorem fl_X6_106 : am_Fl RX6 106 4 5 (tyX4 5) false := ⟨RX4, TX4, 10, tyX4, kl_4, by decide, rfl, rfl, aw_108⟩
theorem fl_X2_180 : am_Fl RX2 180 4 5 (tyX4 5) false := ⟨RX4, TX4, 10, tyX4, kl_4, by decide, rfl, rfl, aw_109⟩
theorem fl_X4_32 : am_Fl RX4 32 4 6 (tyX4 6) false := ⟨RX4, TX4, 10, tyX4, kl_4, by decide, rfl, rfl, aw_110⟩
theorem fl_X2_134 : am_Fl RX2 134 4 6 (tyX4 6) false := ⟨RX4, TX4, 10, tyX4, kl_4, by decide, rfl, rfl, aw_111⟩
theorem fl_X4_38 : am_Fl RX4 38 4 7 (tyX4 7) false := ⟨RX4, TX4, 10, tyX4, kl_4, by decide, rfl, rfl, aw_112⟩
theorem fl_X2_124 : am_Fl RX2 124 4 7 (tyX4 7) false := ⟨RX4, TX4, 10, tyX4, kl_4, by decide, rfl, rfl, aw_113⟩
theorem fl_X4_41 : am_Fl RX4 41 4 8 (tyX4 8) false := ⟨RX4, TX4, 10, tyX4, kl_4, by decide, rfl, rfl, aw_114⟩
theorem fl_X2_127 : am_Fl RX2 127 4 8 (tyX4 8) false := ⟨RX4, TX4, 10, tyX4, kl_4, by decide, rfl, rfl, aw_115⟩
theorem fl_X4_44 : am_Fl RX4 44 4 9 (tyX4 9) false := ⟨RX4, TX4, 10, tyX4, kl_4, by decide, rfl, rfl, aw_116⟩
theorem fl_X2_161 : am_Fl RX2 161 4 9 (tyX4 9) false := ⟨RX4, TX4, 10, tyX4, kl_4, by decide, rfl, rfl, aw_117⟩
theorem fl_X1_21 : am_Fl RX1 21 1 0 (tyX1 0) false := ⟨RX1, TX1, 4, tyX1, kl_1, by decide, rfl, rfl, aw_146⟩
theorem fl_X2_284 : am_Fl RX2 284 1 0 (tyX1 0) false := ⟨RX1, TX1, 4, tyX1, kl_1, by decide, rfl, rfl, aw_147⟩
theorem fl_X1_9 : am_Fl RX1 9 1 1 (tyX1 1) true := ⟨RX1, TX1, 4, tyX1, kl_1, by decide, rfl, rfl, aw_148⟩
theorem fl_X2_238 : am_Fl RX2 238 1 1 (tyX1 1) true := ⟨RX1, TX1, 4, tyX1, kl_1, by decide, rfl, rfl, aw_149⟩
theorem fl_X1_15 : am_Fl RX1 15 1 2 (tyX1 2) true := ⟨RX1, TX1, 4, tyX1, kl_1, by decide, rfl, rfl, aw_150⟩
theorem fl_X1_18 : am_Fl RX1 18 1 3 (tyX1 3) true := ⟨RX1, TX1, 4, tyX1, kl_1, by decide, rfl, rfl, aw_151⟩
theorem fl_X5_9 : am_Fl RX5 9 5 0 (tyX5 0) true := ⟨RX5, TX5, 3, tyX5, kl_5, by decide, rfl, rfl, aw_168⟩
theorem fl_X5_19 : am_Fl RX5 19 5 1 (tyX5 1) false := ⟨RX5, TX5, 3, tyX5, kl_5, by decide, rfl, rfl, aw_169⟩
theorem fl_X2_104 : am_Fl RX2 104 5 1 (tyX5 1) false := ⟨RX5, TX5, 3, tyX5, kl_5, by decide, rfl, rfl, aw_170⟩
theorem fl_X6_167 : am_Fl RX6 167 5 1 (tyX5 1) false := ⟨RX5, TX5, 3, tyX5, kl_5, by decide, rfl, rfl, aw_171⟩
theorem fl_X5_15 : am_Fl RX5 15 5 2 (tyX5 2) false := ⟨RX5, TX5, 3, tyX5, kl_5, by decide, rfl, rfl, aw_172⟩
theorem fl_X2_101 : am_Fl RX2 101 5 2 (tyX5 2) false := ⟨RX5, TX5, 3, tyX5, kl_5, by decide, rfl, rfl, aw_173⟩
theorem fl_X6_162 : am_Fl RX6 162 5 2 (tyX5 2) false := ⟨RX5, TX5, 3, tyX5, kl_5, by decide, rfl, rfl, aw_174⟩
theorem fl_X2_9 : am_Fl RX2 9 2 0 (tyX2 0) true := ⟨RX2, TX2, 15, tyX2, kl_2, by decide, rfl, rfl, aw_182⟩
theorem fl_X2_24 : am_Fl RX2 24 2 1 (tyX2 1) true := ⟨RX2, TX2, 15, tyX2, kl_2, by decide, rfl, rfl, aw_183⟩
theorem fl_X6_102 : am_Fl RX6 102 2 1 (tyX2 1) true := ⟨RX2, TX2, 15, tyX2, kl_2, by decide, rfl, rfl, aw_184⟩
theorem fl_X2_64 : am_Fl RX2 64 2 2 (tyX2 2) false := ⟨RX2, TX2, 15, tyX2, kl_2, by decide, rfl, rfl, aw_185⟩
theorem fl_X6_134 : am_Fl RX6 134 2 2 (tyX2 2) false := ⟨RX2, TX2, 15, tyX2, kl_2, by decide, rfl, rfl, aw_186⟩
theorem fl_X2_18 : am_Fl RX2 18 2 3 (tyX2 3) true := ⟨RX2, TX2, 15, tyX2, kl_2, by decide, rfl, rfl, aw_187⟩
theorem fl_X6_88 : am_Fl RX6 88 2 3 (tyX2 3) true := ⟨RX2, TX2, 15, tyX2, kl_2, by decide, rfl, rfl, aw_188⟩
theorem fl_X2_33 : am_Fl RX2 33 2 4 (tyX2 4) true := ⟨RX2, TX2, 15, tyX2, kl_2, by decide, rfl, rfl, aw_189⟩
theorem fl_X2_40 : am_Fl RX2 40 2 5 (tyX2 5) true := ⟨RX2, TX2, 15, tyX2, kl_2, by decide, rfl, rfl, aw_190⟩
theorem fl_X6_158 : am_Fl RX6 158 2 5 (tyX2 5) true := ⟨RX2, TX2, 15, tyX2, kl_2, by decide, rfl, rfl, aw_191⟩
theorem fl_X2_56 : am_Fl RX2 56 2 6 (tyX2 6) false := ⟨RX2, TX2, 15, tyX2, kl_2, by decide, rfl, rfl, aw_192⟩
theorem fl_X2_60 : am_Fl RX2 60 2 7 (tyX2 7) false := ⟨RX2, TX2, 15, tyX2, kl_2, by decide, rfl, rfl, aw_193⟩
theorem fl_X2_45 : am_Fl RX2 45 2 8 (tyX2 8) true := ⟨RX2, TX2, 15, tyX2, kl_2, by decide, rfl, rfl, aw_194⟩
theorem fl_X6_151 : am_Fl RX6 151 2 8 (tyX2 8) true := ⟨RX2, TX2, 15, tyX2, kl_2, by decide, rfl, rfl, aw_195⟩
theorem fl_X2_49 : am_Fl RX2 49 2 9 (tyX2 9) true := ⟨RX2, TX2, 15, tyX2, kl_2, by decide, rfl, rfl, aw_196⟩
theorem fl_X6_145 : am_Fl RX6 145 2 9 (tyX2 9) true := ⟨RX2, TX2, 15, tyX2, kl_2, by decide, rfl, rfl, aw_197⟩
theorem fl_X2_53 : am_Fl RX2 53 2 10 (tyX2 10) true := ⟨RX2, TX2, 15, tyX2, kl_2, by decide, rfl, rfl, aw_198⟩
theorem fl_X6_128 : am_Fl RX6 128 2 10 (tyX2 10) true := ⟨RX2, TX2, 15, tyX2, kl_2, by decide, rfl, rfl, aw_199⟩
theorem fl_X2_67 : am_Fl RX2 67 2 11 (tyX2 11) false := ⟨RX2, TX2, 15, tyX2, kl_2, by decide, rfl, rfl, aw_200⟩
theorem fl_X6_114 : am_Fl RX6 114 2 11 (tyX2 11) false := ⟨RX2, TX2, 15, tyX2, kl_2, by decide, rfl, rfl, aw_201⟩
theorem fl_X2_70 : am_Fl RX2 70 2 12 (tyX2 12) false := ⟨RX2, TX2, 15, tyX2, kl_2, by decide, rfl, rfl, aw_202⟩
theorem fl_X2_73 : am_Fl RX2 73 2 13 (tyX2 13) false := ⟨RX2, TX2, 15, tyX2, kl_2, by decide, rfl, rfl, aw_203⟩
theorem fl_X2_76 : am_Fl RX2 76 2 14 (tyX2 14) false := ⟨RX2, TX2, 15, tyX2, kl_2, by decide, rfl, rfl, aw_204⟩
theorem fl_X6_11 : am_Fl RX6 11 6 0 (tyX6 0) true := ⟨RX6, TX6, 2, tyX6, kl_6, by decide, rfl, rfl, aw_237⟩
theorem fl_X6_21 : am_Fl RX6 21 6 1 (tyX6 1) true := ⟨RX6, TX6, 2, tyX6, kl_6, by decide, rfl, rfl, aw_238⟩
theorem fl_X7_7 : am_Fl RX7 7 7 0 (tyX7 0) true := ⟨RX7, TX7, 40, tyX7, kl_7, by decide, rfl, rfl, aw_698⟩
theorem fl_X7_13 : am_Fl RX7 13 7 1 (tyX7 1) true := ⟨RX7, TX7, 40, tyX7, kl_7, by decide, rfl, rfl, aw_699⟩
theorem fl_X7_16 : am_Fl RX7 16 7 2 (tyX7 2) true := ⟨RX7, TX7, 40, tyX7, kl_7, by decide, rfl, rfl, aw_700⟩
theorem fl_X7_19 : am_Fl RX7 19 7 3 (tyX7 3) true := ⟨RX7, TX7, 40, tyX7, kl_7, by decide, rfl, rfl, aw_701⟩
theorem fl_X7_22 : am_Fl RX7 22 7 4 (tyX7 4) true := ⟨RX7, TX7, 40, tyX7, kl_7, by decide, rfl, rfl, aw_702⟩
theorem fl_X7_25 : am_Fl RX7 25 7 5 (tyX7 5) true := ⟨RX7, TX7, 40, tyX7, kl_7, by decide, rfl, rfl, aw_703⟩
theorem fl_X7_28 : am_Fl RX7 28 7 6 (tyX7 6) true := ⟨RX7, TX7, 40, tyX7, kl_7, by decide, rfl, rfl, aw_704⟩
theorem fl_X7_31 : am_Fl RX7 31 7 7 (tyX7 7) true := ⟨RX7, TX7, 40, tyX7, kl_7, by decide, rfl, rfl, aw_705⟩
theorem fl_X7_34 : am_Fl RX7 34 7 8 (tyX7 8) true := ⟨RX7, TX7, 40, tyX7, kl_7, by decide, rfl, rfl, aw_706⟩
theorem fl_X7_37 : am_Fl RX7 37 7 9 (tyX7 9) true := ⟨RX7, TX7, 40, tyX7, kl_7, by decide, rfl, rfl, aw_707⟩
theorem fl_X7_40 : am_Fl RX7 40 7 10 (tyX7 10) true := ⟨RX7, TX7, 40, tyX7, kl_7, by decide, rfl, rfl, aw_708⟩
theorem fl_X7_43 : am_Fl RX7 43 7 11 (tyX7 11) true := ⟨RX7, TX7, 40, tyX7, kl_7, by decide, rfl, rfl, aw_709⟩
theorem fl_X7_46 : am_Fl RX7 46 7 12 (tyX7 12) true := ⟨RX7, TX7, 40, tyX7, kl_7, by decide, rfl, rfl, aw_710⟩
theorem fl_X7_50 : am_Fl RX7 50 7 13 (tyX7 13) true := ⟨RX7, TX7, 40, tyX7, kl_7, by decide, rfl, rfl, aw_711⟩
theorem fl_X7_53 : am_Fl RX7 53 7 14 (tyX7 14) true := ⟨RX7, TX7, 40, tyX7, kl_7, by decide, rfl, rfl, aw_712⟩
theorem fl_X7_56 : am_Fl RX7 56 7 15 (tyX7 15) true := ⟨RX7, TX7, 40, tyX7, kl_7, by decide, rfl, rfl, aw_713⟩
theorem fl_X7_59 : am_Fl RX7 59 7 16 (tyX7 16) true := ⟨RX7, TX7, 40, tyX7, kl_7, by decide, rfl, rfl, aw_714⟩
theorem fl_X7_62 : am_Fl RX7 62 7 17 (tyX7 17) true := ⟨RX7, TX7, 40, tyX7, kl_7, by decide, rfl, rfl, aw_715⟩
theorem fl_X7_65 : am_Fl RX7 65 7 18 (tyX7 18) true := ⟨RX7, TX7, 40, tyX7, kl_7, by decide, rfl, rfl, aw_716⟩
theorem fl_X7_68 : am_Fl RX7 68 7 19 (tyX7 19) true := ⟨RX7, TX7, 40, tyX7, kl_7, by decide, rfl, rfl, aw_717⟩
theorem fl_X7_71 : am_Fl RX7 71 7 20 (tyX7 20) true := ⟨RX7, TX7, 40, tyX7, kl_7, by decide, rfl, rfl, aw_718⟩
theorem fl_X7_74 : am_Fl RX7 74 7 21 (tyX7 21) true := ⟨RX7, TX7, 40, tyX7, kl_7, by decide, rfl, rfl, aw_719⟩
theorem fl_X7_77 : am_Fl RX7 77 7 22 (tyX7 22) true := ⟨RX7, TX7, 40, tyX7, kl_7, by decide, rfl, rfl, aw_720⟩
theorem fl_X7_80 : am_Fl RX7 80 7 23 (tyX7 23) true := ⟨RX7, TX7, 40, tyX7, kl_7, by decide, rfl, rfl, aw_721⟩
theorem fl_X7_83 : am_Fl RX7 83 7 24 (tyX7 24) true := ⟨RX7, TX7, 40, tyX7, kl_7, by decide, rfl, rfl, aw_722⟩
theorem fl_X7_86 : am_Fl RX7 86 7 25 (tyX7 25) true := ⟨RX7, TX7, 40, tyX7, kl_7, by decide, rfl, rfl, aw_723⟩
theorem fl_X7_89 : am_Fl RX7 89 7 26 (tyX7 26) true := ⟨RX7, TX7, 40, tyX7, kl_7, by decide, rfl, rfl, aw_724⟩
theorem fl_X7_92 : am_Fl RX7 92 7 27 (tyX7 27) true := ⟨RX7, TX7, 40, tyX7, kl_7, by decide, rfl, rfl, aw_725⟩
theorem fl_X7_95 : am_Fl RX7 95 7 28 (tyX7 28) true := ⟨RX7, TX7, 40, tyX7, kl_7, by decide, rfl, rfl, aw_726⟩
theorem fl_X7_98 : am_Fl RX7 98 7 29 (tyX7 29) true := ⟨RX7, TX7, 40, tyX7, kl_7, by decide, rfl, rfl, aw_727⟩
theorem fl_X7_119 : am_Fl RX7 119 7 30 (tyX7 30) false := ⟨RX7, TX7, 40, tyX7, kl_7, by decide, rfl, rfl, aw_728⟩
theorem fl_X7_138 : am_Fl RX7 138 7 31 (tyX7 31) false := ⟨RX7, TX7, 40, tyX7, kl_7, by decide, rfl, rfl, aw_729⟩
theorem fl_X7_141 : am_Fl RX7 141 7 32 (tyX7 32) false := ⟨RX7, TX7, 40, tyX7, kl_7, by decide, rfl, rfl, aw_730⟩
theorem fl_X7_126 : am_Fl RX7 126 7 33 (tyX7 33) false := ⟨RX7, TX7, 40, tyX7, kl_7, by decide, rfl, rfl, aw_731⟩
theorem fl_X7_129 : am_Fl RX7 129 7 34 (tyX7 34) false := ⟨RX7, TX7, 40, tyX7, kl_7, by decide, rfl, rfl, aw_732⟩
theorem fl_X7_132 : am_Fl RX7 132 7 35 (tyX7 35) false := ⟨RX7, TX7, 40, tyX7, kl_7, by decide, rfl, rfl, aw_733⟩
theorem fl_X7_135 : am_Fl RX7 135 7 36 (tyX7 36) false := ⟨RX7, TX7, 40, tyX7, kl_7, by decide, rfl, rfl, aw_734⟩
theorem fl_X7_101 : am_Fl RX7 101 7 37 (tyX7 37) false := ⟨RX7, TX7, 40, tyX7, kl_7, by decide, rfl, rfl, aw_735⟩
theorem fl_X7_179 : am_Fl RX7 179 7 38 (tyX7 38) false := ⟨RX7, TX7, 40, tyX7, kl_7, by decide, rfl, rfl, aw_736⟩
theorem fl_X7_122 : am_Fl RX7 122 7 39 (tyX7 39) false := ⟨RX7, TX7, 40, tyX7, kl_7, by decide, rfl, rfl, aw_737⟩
theorem cn_L_8 : am_Cn RL 8 6 := ⟨RX6, TX6, 2, tyX6, kl_6, aw_20, aw_21, aw_1⟩
theorem cw_L_8 : Cond.classLink RL 8 RX6 ∈ am_words := aw_20
theorem cn_X6_9 : am_Cn RX6 9 0 := ⟨RX0, TX0, 3, tyX0, kl_0, aw_28, aw_30, aw_2⟩
theorem cw_X6_9 : Cond.classLink RX6 9 RX0 ∈ am_words := aw_28
theorem cn_X6_16 : am_Cn RX6 16 2 := ⟨RX2, TX2, 15, tyX2, kl_2, aw_50, aw_51, aw_3⟩
theorem cw_X6_16 : Cond.classLink RX6 16 RX2 ∈ am_words := aw_50
theorem cn_X2_15 : am_Cn RX2 15 3 := ⟨RX3, TX3, 6, tyX3, kl_3, aw_56, aw_57, aw_4⟩
theorem cw_X2_15 : Cond.classLink RX2 15 RX3 ∈ am_words := aw_56
theorem cn_X2_22 : am_Cn RX2 22 4 := ⟨RX4, TX4, 10, tyX4, kl_4, aw_87, aw_89, aw_5⟩
theorem cw_X2_22 : Cond.classLink RX2 22 RX4 ∈ am_words := aw_87
theorem cn_X4_19 : am_Cn RX4 19 3 := ⟨RX3, TX3, 6, tyX3, kl_3, aw_94, aw_57, aw_4⟩
theorem cw_X4_19 : Cond.classLink RX4 19 RX3 ∈ am_words := aw_94
theorem cn_X2_31 : am_Cn RX2 31 1 := ⟨RX1, TX1, 4, tyX1, kl_1, aw_139, aw_141, aw_6⟩
theorem cw_X2_31 : Cond.classLink RX2 31 RX1 ∈ am_words := aw_139
theorem cn_X2_38 : am_Cn RX2 38 5 := ⟨RX5, TX5, 3, tyX5, kl_5, aw_161, aw_163, aw_7⟩
theorem cw_X2_38 : Cond.classLink RX2 38 RX5 ∈ am_words := aw_161
theorem cn_L_52 : am_Cn RL 52 7 := ⟨RX7, TX7, 40, tyX7, kl_7, aw_692, aw_693, aw_8⟩
theorem cw_L_52 : Cond.classLink RL 52 RX7 ∈ am_words := aw_692
theorem lk_L_51 : Cond.methodLink RL 51 yX6_init ∈ am_words := aw_22
theorem lk_X6_1 : Cond.methodLink RX6 1 Lib.objectInit ∈ am_words := aw_25
theorem lk_X6_15 : Cond.methodLink RX6 15 yX0_init ∈ am_words := aw_31
theorem lk_X0_3 : Cond.methodLink RX0 3 Lib.objectInit ∈ am_words := aw_34
theorem lk_X6_18 : Cond.methodLink RX6 18 yX2_init ∈ am_words := aw_52
theorem lk_X2_3 : Cond.methodLink RX2 3 Lib.objectInit ∈ am_words := aw_55
theorem lk_X3_3 : Cond.methodLink RX3 3 Lib.objectInit ∈ am_words := aw_61
theorem lk_X2_28 : Cond.methodLink RX2 28 yX4_init ∈ am_words := aw_90
theorem lk_X4_3 : Cond.methodLink RX4 3 Lib.objectInit ∈ am_words := aw_93
theorem lk_X2_37 : Cond.methodLink RX2 37 yX1_init ∈ am_words := aw_142
theorem lk_X1_3 : Cond.methodLink RX1 3 Lib.objectInit ∈ am_words := aw_145
theorem lk_X2_44 : Cond.methodLink RX2 44 yX5_init ∈ am_words := aw_164
theorem lk_X5_3 : Cond.methodLink RX5 3 Lib.objectInit ∈ am_words := aw_167
theorem lk_L_55 : Cond.methodLink RL 55 yL_body ∈ am_words := aw_244
theorem lk_L_7 : Cond.methodLink RL 7 yX6_body ∈ am_words := aw_248
theorem lk_X6_25 : Cond.methodLink RX6 25 yX6_isWithin ∈ am_words := aw_252
theorem lk_L_64 : Cond.methodLink RL 64 yL_add ∈ am_words := aw_325
theorem lk_L_15 : Cond.methodLink RL 15 yX6_add ∈ am_words := aw_329
theorem lk_X6_40 : Cond.methodLink RX6 40 yX6_isInstruction ∈ am_words := aw_333
theorem lk_X6_51 : Cond.methodLink RX6 51 yX0_append ∈ am_words := aw_357
theorem lk_L_68 : Cond.methodLink RL 68 yL_begin ∈ am_words := aw_361
theorem lk_L_21 : Cond.methodLink RL 21 yX6_begin ∈ am_words := aw_364
theorem lk_X6_57 : Cond.methodLink RX6 57 yX2_reset ∈ am_words := aw_369
theorem lk_X2_79 : Cond.methodLink RX2 79 yX3_open ∈ am_words := aw_373
theorem lk_X2_83 : Cond.methodLink RX2 83 yX1_reset ∈ am_words := aw_379
theorem lk_X2_86 : Cond.methodLink RX2 86 yX5_reset ∈ am_words := aw_386
theorem lk_X6_61 : Cond.methodLink RX6 61 yX2_beginFirst ∈ am_words := aw_390
theorem lk_X2_87 : Cond.methodLink RX2 87 yX4_reset ∈ am_words := aw_394
theorem lk_X2_93 : Cond.methodLink RX2 93 yX5_append ∈ am_words := aw_398
theorem lk_L_72 : Cond.methodLink RL 72 yL_run ∈ am_words := aw_402
theorem lk_L_25 : Cond.methodLink RL 25 yX6_run ∈ am_words := aw_406
theorem lk_X6_66 : Cond.methodLink RX6 66 yX2_isBegun ∈ am_words := aw_411
theorem lk_X6_72 : Cond.methodLink RX6 72 yX2_isOver ∈ am_words := aw_416
theorem lk_X2_97 : Cond.methodLink RX2 97 yX2_isBegun ∈ am_words := aw_420
theorem lk_X6_75 : Cond.methodLink RX6 75 yX2_isStuck ∈ am_words := aw_421
theorem lk_X2_107 : Cond.methodLink RX2 107 yX2_isOver ∈ am_words := aw_425
theorem lk_X6_78 : Cond.methodLink RX6 78 yX2_tick ∈ am_words := aw_426
theorem lk_X2_110 : Cond.methodLink RX2 110 yX2_takeOne ∈ am_words := aw_430
theorem lk_X2_117 : Cond.methodLink RX2 117 yX5_takeLast ∈ am_words := aw_434
theorem lk_X5_22 : Cond.methodLink RX5 22 yX5_taskAt ∈ am_words := aw_438
theorem lk_X2_121 : Cond.methodLink RX2 121 yX5_takeFirst ∈ am_words := aw_442
theorem lk_X2_113 : Cond.methodLink RX2 113 yX2_step ∈ am_words := aw_449
theorem lk_X2_130 : Cond.methodLink RX2 130 yX2_finishWait ∈ am_words := aw_453
theorem lk_X2_164 : Cond.methodLink RX2 164 yX2_get ∈ am_words := aw_457
theorem lk_X2_228 : Cond.methodLink RX2 228 yX4_waitFor ∈ am_words := aw_461
theorem lk_X2_168 : Cond.methodLink RX2 168 yX2_passPhases ∈ am_words := aw_465
theorem lk_X2_248 : Cond.methodLink RX2 248 yX2_isHeldBack ∈ am_words := aw_469
theorem lk_X2_255 : Cond.methodLink RX2 255 yX1_holdsBack ∈ am_words := aw_473
theorem lk_X2_252 : Cond.methodLink RX2 252 yX1_pass ∈ am_words := aw_477
theorem lk_X2_171 : Cond.methodLink RX2 171 yX2_endScope ∈ am_words := aw_481
theorem lk_X2_151 : Cond.methodLink RX2 151 yX4_innerScope ∈ am_words := aw_485
theorem lk_X2_262 : Cond.methodLink RX2 262 yX3_sumAfter ∈ am_words := aw_489
theorem lk_X2_143 : Cond.methodLink RX2 143 yX2_instruct ∈ am_words := aw_493
theorem lk_X2_183 : Cond.methodLink RX2 183 yX2_spawn ∈ am_words := aw_497
theorem lk_X2_218 : Cond.methodLink RX2 218 yX2_makeTask ∈ am_words := aw_501
theorem lk_X2_225 : Cond.methodLink RX2 225 yX1_copy ∈ am_words := aw_505
theorem lk_X2_187 : Cond.methodLink RX2 187 yX2_openScope ∈ am_words := aw_509
theorem lk_X2_191 : Cond.methodLink RX2 191 yX2_close ∈ am_words := aw_513
theorem lk_X2_194 : Cond.methodLink RX2 194 yX3_give ∈ am_words := aw_517
theorem lk_X2_197 : Cond.methodLink RX2 197 yX2_put ∈ am_words := aw_527
theorem lk_X2_201 : Cond.methodLink RX2 201 yX2_spawnWaiting ∈ am_words := aw_531
theorem lk_X2_204 : Cond.methodLink RX2 204 yX2_join ∈ am_words := aw_535
theorem lk_X2_241 : Cond.methodLink RX2 241 yX1_join ∈ am_words := aw_539
theorem lk_X2_208 : Cond.methodLink RX2 208 yX2_leave ∈ am_words := aw_543
theorem lk_X2_243 : Cond.methodLink RX2 243 yX1_leave ∈ am_words := aw_547
theorem lk_X1_31 : Cond.methodLink RX1 31 yX1_raisePhase ∈ am_words := aw_551
theorem lk_X2_212 : Cond.methodLink RX2 212 yX2_signalAll ∈ am_words := aw_555
theorem lk_X2_245 : Cond.methodLink RX2 245 yX1_signal ∈ am_words := aw_559
theorem lk_X2_215 : Cond.methodLink RX2 215 yX2_say ∈ am_words := aw_563
theorem lk_X2_147 : Cond.methodLink RX2 147 yX2_endInnermost ∈ am_words := aw_567
theorem lk_X2_272 : Cond.methodLink RX2 272 yX2_finish ∈ am_words := aw_571
theorem lk_X2_155 : Cond.methodLink RX2 155 yX3_note ∈ am_words := aw_575
theorem lk_X2_158 : Cond.methodLink RX2 158 yX2_wakeAll ∈ am_words := aw_579
theorem lk_X2_278 : Cond.methodLink RX2 278 yX2_isWaitOver ∈ am_words := aw_583
theorem lk_L_75 : Cond.methodLink RL 75 yL_result ∈ am_words := aw_603
theorem lk_L_30 : Cond.methodLink RL 30 yX6_result ∈ am_words := aw_607
theorem lk_L_79 : Cond.methodLink RL 79 yL_said ∈ am_words := aw_628
theorem lk_L_36 : Cond.methodLink RL 36 yX6_said ∈ am_words := aw_632
theorem lk_L_82 : Cond.methodLink RL 82 yL_task ∈ am_words := aw_653
theorem lk_L_41 : Cond.methodLink RL 41 yX6_task ∈ am_words := aw_656
theorem lk_X6_139 : Cond.methodLink RX6 139 yX2_answerOf ∈ am_words := aw_662
theorem lk_L_86 : Cond.methodLink RL 86 yL_future ∈ am_words := aw_666
theorem lk_L_45 : Cond.methodLink RL 45 yX6_future ∈ am_words := aw_669
theorem lk_L_89 : Cond.methodLink RL 89 yL_count ∈ am_words := aw_675
theorem lk_L_48 : Cond.methodLink RL 48 yX6_count ∈ am_words := aw_678
theorem lk_X6_154 : Cond.methodLink RX6 154 yX2_figure ∈ am_words := aw_682
theorem lk_X2_281 : Cond.methodLink RX2 281 yX2_unfinishedTasks ∈ am_words := aw_686
theorem lk_X6_168 : Cond.methodLink RX6 168 yX5_taskAt ∈ am_words := aw_690
theorem lk_L_54 : Cond.methodLink RL 54 yX7_init ∈ am_words := aw_694
theorem lk_X7_1 : Cond.methodLink RX7 1 Lib.objectInit ∈ am_words := aw_697
theorem lk_L_61 : Cond.methodLink RL 61 yX7_thrown ∈ am_words := aw_819
theorem lk_L_60 : Cond.methodLink RL 60 yX7_body ∈ am_words := aw_823
theorem lk_X7_105 : Cond.methodLink RX7 105 yX7_in ∈ am_words := aw_827
theorem lk_X7_109 : Cond.methodLink RX7 109 yX7_fail ∈ am_words := aw_830
theorem lk_L_67 : Cond.methodLink RL 67 yX7_add ∈ am_words := aw_834
theorem lk_X7_113 : Cond.methodLink RX7 113 yX7_fits ∈ am_words := aw_838
theorem lk_L_71 : Cond.methodLink RL 71 yX7_begin ∈ am_words := aw_841
theorem lk_X7_144 : Cond.methodLink RX7 144 yX7_openScope ∈ am_words := aw_845
theorem lk_X7_148 : Cond.methodLink RX7 148 yX7_newTask ∈ am_words := aw_851
theorem lk_X7_152 : Cond.methodLink RX7 152 yX7_push ∈ am_words := aw_855
theorem lk_L_74 : Cond.methodLink RL 74 yX7_run ∈ am_words := aw_859
theorem lk_X7_215 : Cond.methodLink RX7 215 yX7_isOver ∈ am_words := aw_863
theorem lk_X7_219 : Cond.methodLink RX7 219 yX7_isStuck ∈ am_words := aw_867
theorem lk_X7_222 : Cond.methodLink RX7 222 yX7_work ∈ am_words := aw_871
theorem lk_X7_206 : Cond.methodLink RX7 206 yX7_take ∈ am_words := aw_875
theorem lk_X7_209 : Cond.methodLink RX7 209 yX7_step ∈ am_words := aw_879
theorem lk_X7_182 : Cond.methodLink RX7 182 yX7_end ∈ am_words := aw_883
theorem lk_X7_166 : Cond.methodLink RX7 166 yX7_inner ∈ am_words := aw_887
theorem lk_X7_163 : Cond.methodLink RX7 163 yX7_set ∈ am_words := aw_891
theorem lk_X7_176 : Cond.methodLink RX7 176 yX7_raise ∈ am_words := aw_895
theorem lk_X7_169 : Cond.methodLink RX7 169 yX7_note ∈ am_words := aw_899
theorem lk_X7_172 : Cond.methodLink RX7 172 yX7_finish ∈ am_words := aw_903
theorem lk_X7_156 : Cond.methodLink RX7 156 yX7_move ∈ am_words := aw_907
theorem lk_X7_185 : Cond.methodLink RX7 185 yX7_spawn ∈ am_words := aw_911
theorem lk_X7_188 : Cond.methodLink RX7 188 yX7_onScope ∈ am_words := aw_915
theorem lk_X7_191 : Cond.methodLink RX7 191 yX7_onFuture ∈ am_words := aw_919
theorem lk_X7_194 : Cond.methodLink RX7 194 yX7_join ∈ am_words := aw_923
theorem lk_X7_197 : Cond.methodLink RX7 197 yX7_next ∈ am_words := aw_927
theorem lk_X7_159 : Cond.methodLink RX7 159 yX7_isPassed ∈ am_words := aw_931
theorem lk_X7_200 : Cond.methodLink RX7 200 yX7_give ∈ am_words := aw_935
theorem lk_X7_212 : Cond.methodLink RX7 212 yX7_ready ∈ am_words := aw_939
theorem lk_X7_203 : Cond.methodLink RX7 203 yX7_isReady ∈ am_words := aw_943
theorem lk_L_78 : Cond.methodLink RL 78 yX7_result ∈ am_words := aw_947
theorem lk_L_81 : Cond.methodLink RL 81 yX7_said ∈ am_words := aw_951
theorem lk_L_85 : Cond.methodLink RL 85 yX7_task ∈ am_words := aw_955
theorem lk_L_88 : Cond.methodLink RL 88 yX7_future ∈ am_words := aw_959
theorem lk_L_91 : Cond.methodLink RL 91 yX7_count ∈ am_words := aw_963
theorem lk_X7_225 : Cond.methodLink RX7 225 yX7_queuedAt ∈ am_words := aw_967
theorem im_X6_init : Cond.instanceMethod yX6_init ∈ am_words := aw_23
theorem im_X0_init : Cond.instanceMethod yX0_init ∈ am_words := aw_32
theorem im_X2_init : Cond.instanceMethod yX2_init ∈ am_words := aw_53
theorem im_X3_init : Cond.instanceMethod yX3_init ∈ am_words := aw_59
theorem im_X4_init : Cond.instanceMethod yX4_init ∈ am_words := aw_91
theorem im_X1_init : Cond.instanceMethod yX1_init ∈ am_words := aw_143
theorem im_X5_init : Cond.instanceMethod yX5_init ∈ am_words := aw_165
theorem sm_L_body : Cond.static yL_body ∈ am_words := aw_245
theorem im_X6_body : Cond.instanceMethod yX6_body ∈ am_words := aw_249
theorem se_X6_body : Cond.selects RX6 yX6_body yX6_body ∈ am_words := aw_250
theorem sm_X6_isWithin : Cond.static yX6_isWithin ∈ am_words := aw_253
theorem sm_L_add : Cond.static yL_add ∈ am_words := aw_326
theorem im_X6_add : Cond.instanceMethod yX6_add ∈ am_words := aw_330
theorem se_X6_add : Cond.selects RX6 yX6_add yX6_add ∈ am_words := aw_331
theorem sm_X6_isInstruction : Cond.static yX6_isInstruction ∈ am_words := aw_334
theorem im_X0_append : Cond.instanceMethod yX0_append ∈ am_words := aw_358
theorem se_X0_append : Cond.selects RX0 yX0_append yX0_append ∈ am_words := aw_359
theorem sm_L_begin : Cond.static yL_begin ∈ am_words := aw_362
theorem im_X6_begin : Cond.instanceMethod yX6_begin ∈ am_words := aw_365
theorem se_X6_begin : Cond.selects RX6 yX6_begin yX6_begin ∈ am_words := aw_366
theorem im_X2_reset : Cond.instanceMethod yX2_reset ∈ am_words := aw_370
theorem se_X2_reset : Cond.selects RX2 yX2_reset yX2_reset ∈ am_words := aw_371
theorem im_X3_open : Cond.instanceMethod yX3_open ∈ am_words := aw_374
theorem se_X3_open : Cond.selects RX3 yX3_open yX3_open ∈ am_words := aw_375
theorem im_X1_reset : Cond.instanceMethod yX1_reset ∈ am_words := aw_380
theorem se_X1_reset : Cond.selects RX1 yX1_reset yX1_reset ∈ am_words := aw_381
theorem im_X5_reset : Cond.instanceMethod yX5_reset ∈ am_words := aw_387
theorem se_X5_reset : Cond.selects RX5 yX5_reset yX5_reset ∈ am_words := aw_388
theorem im_X2_beginFirst : Cond.instanceMethod yX2_beginFirst ∈ am_words := aw_391
theorem se_X2_beginFirst : Cond.selects RX2 yX2_beginFirst yX2_beginFirst ∈ am_words := aw_392
theorem im_X4_reset : Cond.instanceMethod yX4_reset ∈ am_words := aw_395
theorem se_X4_reset : Cond.selects RX4 yX4_reset yX4_reset ∈ am_words := aw_396
theorem im_X5_append : Cond.instanceMethod yX5_append ∈ am_words := aw_399
theorem se_X5_append : Cond.selects RX5 yX5_append yX5_append ∈ am_words := aw_400
theorem sm_L_run : Cond.static yL_run ∈ am_words := aw_403
theorem im_X6_run : Cond.instanceMethod yX6_run ∈ am_words := aw_407
theorem se_X6_run : Cond.selects RX6 yX6_run yX6_run ∈ am_words := aw_408
theorem im_X2_isBegun : Cond.instanceMethod yX2_isBegun ∈ am_words := aw_412
theorem se_X2_isBegun : Cond.selects RX2 yX2_isBegun yX2_isBegun ∈ am_words := aw_413
theorem im_X2_isOver : Cond.instanceMethod yX2_isOver ∈ am_words := aw_417
theorem se_X2_isOver : Cond.selects RX2 yX2_isOver yX2_isOver ∈ am_words := aw_418
theorem im_X2_isStuck : Cond.instanceMethod yX2_isStuck ∈ am_words := aw_422
theorem se_X2_isStuck : Cond.selects RX2 yX2_isStuck yX2_isStuck ∈ am_words := aw_423
theorem im_X2_tick : Cond.instanceMethod yX2_tick ∈ am_words := aw_427
theorem se_X2_tick : Cond.selects RX2 yX2_tick yX2_tick ∈ am_words := aw_428
theorem im_X2_takeOne : Cond.instanceMethod yX2_takeOne ∈ am_words := aw_432
theorem im_X5_takeLast : Cond.instanceMethod yX5_takeLast ∈ am_words := aw_435
theorem se_X5_takeLast : Cond.selects RX5 yX5_takeLast yX5_takeLast ∈ am_words := aw_436
theorem im_X5_taskAt : Cond.instanceMethod yX5_taskAt ∈ am_words := aw_439
theorem se_X5_taskAt : Cond.selects RX5 yX5_taskAt yX5_taskAt ∈ am_words := aw_440
theorem im_X5_takeFirst : Cond.instanceMethod yX5_takeFirst ∈ am_words := aw_443
theorem se_X5_takeFirst : Cond.selects RX5 yX5_takeFirst yX5_takeFirst ∈ am_words := aw_444
theorem im_X2_step : Cond.instanceMethod yX2_step ∈ am_words := aw_451
theorem im_X2_finishWait : Cond.instanceMethod yX2_finishWait ∈ am_words := aw_455
theorem im_X2_get : Cond.instanceMethod yX2_get ∈ am_words := aw_459
theorem im_X4_waitFor : Cond.instanceMethod yX4_waitFor ∈ am_words := aw_462
theorem se_X4_waitFor : Cond.selects RX4 yX4_waitFor yX4_waitFor ∈ am_words := aw_463
theorem im_X2_passPhases : Cond.instanceMethod yX2_passPhases ∈ am_words := aw_467
theorem im_X2_isHeldBack : Cond.instanceMethod yX2_isHeldBack ∈ am_words := aw_471
theorem im_X1_holdsBack : Cond.instanceMethod yX1_holdsBack ∈ am_words := aw_474
theorem se_X1_holdsBack : Cond.selects RX1 yX1_holdsBack yX1_holdsBack ∈ am_words := aw_475
theorem im_X1_pass : Cond.instanceMethod yX1_pass ∈ am_words := aw_478
theorem se_X1_pass : Cond.selects RX1 yX1_pass yX1_pass ∈ am_words := aw_479
theorem im_X2_endScope : Cond.instanceMethod yX2_endScope ∈ am_words := aw_483
theorem im_X4_innerScope : Cond.instanceMethod yX4_innerScope ∈ am_words := aw_486
theorem se_X4_innerScope : Cond.selects RX4 yX4_innerScope yX4_innerScope ∈ am_words := aw_487
theorem im_X3_sumAfter : Cond.instanceMethod yX3_sumAfter ∈ am_words := aw_490
theorem se_X3_sumAfter : Cond.selects RX3 yX3_sumAfter yX3_sumAfter ∈ am_words := aw_491
theorem im_X2_instruct : Cond.instanceMethod yX2_instruct ∈ am_words := aw_495
theorem im_X2_spawn : Cond.instanceMethod yX2_spawn ∈ am_words := aw_499
theorem im_X2_makeTask : Cond.instanceMethod yX2_makeTask ∈ am_words := aw_503
theorem im_X1_copy : Cond.instanceMethod yX1_copy ∈ am_words := aw_506
theorem se_X1_copy : Cond.selects RX1 yX1_copy yX1_copy ∈ am_words := aw_507
theorem im_X2_openScope : Cond.instanceMethod yX2_openScope ∈ am_words := aw_511
theorem im_X2_close : Cond.instanceMethod yX2_close ∈ am_words := aw_515
theorem im_X3_give : Cond.instanceMethod yX3_give ∈ am_words := aw_518
theorem se_X3_give : Cond.selects RX3 yX3_give yX3_give ∈ am_words := aw_519
theorem im_X2_put : Cond.instanceMethod yX2_put ∈ am_words := aw_529
theorem im_X2_spawnWaiting : Cond.instanceMethod yX2_spawnWaiting ∈ am_words := aw_533
theorem im_X2_join : Cond.instanceMethod yX2_join ∈ am_words := aw_537
theorem im_X1_join : Cond.instanceMethod yX1_join ∈ am_words := aw_540
theorem se_X1_join : Cond.selects RX1 yX1_join yX1_join ∈ am_words := aw_541
theorem im_X2_leave : Cond.instanceMethod yX2_leave ∈ am_words := aw_545
theorem im_X1_leave : Cond.instanceMethod yX1_leave ∈ am_words := aw_548
theorem se_X1_leave : Cond.selects RX1 yX1_leave yX1_leave ∈ am_words := aw_549
theorem im_X1_raisePhase : Cond.instanceMethod yX1_raisePhase ∈ am_words := aw_553
theorem im_X2_signalAll : Cond.instanceMethod yX2_signalAll ∈ am_words := aw_557
theorem im_X1_signal : Cond.instanceMethod yX1_signal ∈ am_words := aw_560
theorem se_X1_signal : Cond.selects RX1 yX1_signal yX1_signal ∈ am_words := aw_561
theorem im_X2_say : Cond.instanceMethod yX2_say ∈ am_words := aw_565
theorem im_X2_endInnermost : Cond.instanceMethod yX2_endInnermost ∈ am_words := aw_569
theorem im_X2_finish : Cond.instanceMethod yX2_finish ∈ am_words := aw_573
theorem im_X3_note : Cond.instanceMethod yX3_note ∈ am_words := aw_576
theorem se_X3_note : Cond.selects RX3 yX3_note yX3_note ∈ am_words := aw_577
theorem im_X2_wakeAll : Cond.instanceMethod yX2_wakeAll ∈ am_words := aw_581
theorem im_X2_isWaitOver : Cond.instanceMethod yX2_isWaitOver ∈ am_words := aw_585
theorem sm_L_result : Cond.static yL_result ∈ am_words := aw_604
theorem im_X6_result : Cond.instanceMethod yX6_result ∈ am_words := aw_608
theorem se_X6_result : Cond.selects RX6 yX6_result yX6_result ∈ am_words := aw_609
theorem sm_L_said : Cond.static yL_said ∈ am_words := aw_629
theorem im_X6_said : Cond.instanceMethod yX6_said ∈ am_words := aw_633
theorem se_X6_said : Cond.selects RX6 yX6_said yX6_said ∈ am_words := aw_634
theorem sm_L_task : Cond.static yL_task ∈ am_words := aw_654
theorem im_X6_task : Cond.instanceMethod yX6_task ∈ am_words := aw_657
theorem se_X6_task : Cond.selects RX6 yX6_task yX6_task ∈ am_words := aw_658
theorem im_X2_answerOf : Cond.instanceMethod yX2_answerOf ∈ am_words := aw_663
theorem se_X2_answerOf : Cond.selects RX2 yX2_answerOf yX2_answerOf ∈ am_words := aw_664
theorem sm_L_future : Cond.static yL_future ∈ am_words := aw_667
theorem im_X6_future : Cond.instanceMethod yX6_future ∈ am_words := aw_670
theorem se_X6_future : Cond.selects RX6 yX6_future yX6_future ∈ am_words := aw_671
theorem sm_L_count : Cond.static yL_count ∈ am_words := aw_676
theorem im_X6_count : Cond.instanceMethod yX6_count ∈ am_words := aw_679
theorem se_X6_count : Cond.selects RX6 yX6_count yX6_count ∈ am_words := aw_680
theorem im_X2_figure : Cond.instanceMethod yX2_figure ∈ am_words := aw_683
theorem se_X2_figure : Cond.selects RX2 yX2_figure yX2_figure ∈ am_words := aw_684
theorem im_X2_unfinishedTasks : Cond.instanceMethod yX2_unfinishedTasks ∈ am_words := aw_688
theorem im_X7_init : Cond.instanceMethod yX7_init ∈ am_words := aw_695
theorem im_X7_thrown : Cond.instanceMethod yX7_thrown ∈ am_words := aw_820
theorem se_X7_thrown : Cond.selects RX7 yX7_thrown yX7_thrown ∈ am_words := aw_821
theorem im_X7_body : Cond.instanceMethod yX7_body ∈ am_words := aw_824
theorem se_X7_body : Cond.selects RX7 yX7_body yX7_body ∈ am_words := aw_825
theorem sm_X7_in : Cond.static yX7_in ∈ am_words := aw_828
theorem im_X7_fail : Cond.instanceMethod yX7_fail ∈ am_words := aw_832
theorem im_X7_add : Cond.instanceMethod yX7_add ∈ am_words := aw_835
theorem se_X7_add : Cond.selects RX7 yX7_add yX7_add ∈ am_words := aw_836
theorem sm_X7_fits : Cond.static yX7_fits ∈ am_words := aw_839
theorem im_X7_begin : Cond.instanceMethod yX7_begin ∈ am_words := aw_842
theorem se_X7_begin : Cond.selects RX7 yX7_begin yX7_begin ∈ am_words := aw_843
theorem im_X7_openScope : Cond.instanceMethod yX7_openScope ∈ am_words := aw_847
theorem im_X7_newTask : Cond.instanceMethod yX7_newTask ∈ am_words := aw_853
theorem im_X7_push : Cond.instanceMethod yX7_push ∈ am_words := aw_857
theorem im_X7_run : Cond.instanceMethod yX7_run ∈ am_words := aw_860
theorem se_X7_run : Cond.selects RX7 yX7_run yX7_run ∈ am_words := aw_861
theorem im_X7_isOver : Cond.instanceMethod yX7_isOver ∈ am_words := aw_865
theorem im_X7_isStuck : Cond.instanceMethod yX7_isStuck ∈ am_words := aw_869
theorem im_X7_work : Cond.instanceMethod yX7_work ∈ am_words := aw_873
theorem im_X7_take : Cond.instanceMethod yX7_take ∈ am_words := aw_877
theorem im_X7_step : Cond.instanceMethod yX7_step ∈ am_words := aw_881
theorem im_X7_end : Cond.instanceMethod yX7_end ∈ am_words := aw_885
theorem im_X7_inner : Cond.instanceMethod yX7_inner ∈ am_words := aw_889
theorem im_X7_set : Cond.instanceMethod yX7_set ∈ am_words := aw_893
theorem im_X7_raise : Cond.instanceMethod yX7_raise ∈ am_words := aw_897
theorem im_X7_note : Cond.instanceMethod yX7_note ∈ am_words := aw_901
theorem im_X7_finish : Cond.instanceMethod yX7_finish ∈ am_words := aw_905
theorem im_X7_move : Cond.instanceMethod yX7_move ∈ am_words := aw_909
theorem im_X7_spawn : Cond.instanceMethod yX7_spawn ∈ am_words := aw_913
theorem im_X7_onScope : Cond.instanceMethod yX7_onScope ∈ am_words := aw_917
theorem im_X7_onFuture : Cond.instanceMethod yX7_onFuture ∈ am_words := aw_921
theorem im_X7_join : Cond.instanceMethod yX7_join ∈ am_words := aw_925
theorem im_X7_next : Cond.instanceMethod yX7_next ∈ am_words := aw_929
theorem im_X7_isPassed : Cond.instanceMethod yX7_isPassed ∈ am_words := aw_933
theorem im_X7_give : Cond.instanceMethod yX7_give ∈ am_words := aw_937
theorem im_X7_ready : Cond.instanceMethod yX7_ready ∈ am_words := aw_941
theorem im_X7_isReady : Cond.instanceMethod yX7_isReady ∈ am_words := aw_945
theorem im_X7_result : Cond.instanceMethod yX7_result ∈ am_words := aw_948
theorem se_X7_result : Cond.selects RX7 yX7_result yX7_result ∈ am_words := aw_949
theorem im_X7_said : Cond.instanceMethod yX7_said ∈ am_words := aw_952
theorem se_X7_said : Cond.selects RX7 yX7_said yX7_said ∈ am_words := aw_953
theorem im_X7_task : Cond.instanceMethod yX7_task ∈ am_words := aw_956
theorem se_X7_task : Cond.selects RX7 yX7_task yX7_task ∈ am_words := aw_957
theorem im_X7_future : Cond.instanceMethod yX7_future ∈ am_words := aw_960
theorem se_X7_future : Cond.selects RX7 yX7_future yX7_future ∈ am_words := aw_961
theorem im_X7_count : Cond.instanceMethod yX7_count ∈ am_words := aw_964
theorem se_X7_count : Cond.selects RX7 yX7_count yX7_count ∈ am_words := aw_965
theorem im_X7_queuedAt : Cond.instanceMethod yX7_queuedAt ∈ am_words := aw_969
theorem se_X2_takeOne : Cond.selects RX2 yX2_takeOne yX2_takeOne ∈ am_words := am_inS 1 (by decide +kernel) (by decide +kernel)
theorem se_X2_step : Cond.selects RX2 yX2_step yX2_step ∈ am_words := am_inS 2 (by decide +kernel) (by decide +kernel)
theorem se_X2_finishWait : Cond.selects RX2 yX2_finishWait yX2_finishWait ∈ am_words := am_inS 3 (by decide +kernel) (by decide +kernel)
theorem se_X2_get : Cond.selects RX2 yX2_get yX2_get ∈ am_words := am_inS 4 (by decide +kernel) (by decide +kernel)
theorem se_X2_passPhases : Cond.selects RX2 yX2_passPhases yX2_passPhases ∈ am_words := am_inS 5 (by decide +kernel) (by decide +kernel)
theorem se_X2_isHeldBack : Cond.selects RX2 yX2_isHeldBack yX2_isHeldBack ∈ am_words := am_inS 6 (by decide +kernel) (by decide +kernel)
theorem se_X2_endScope : Cond.selects RX2 yX2_endScope yX2_endScope ∈ am_words := am_inS 7 (by decide +kernel) (by decide +kernel)
theorem se_X2_instruct : Cond.selects RX2 yX2_instruct yX2_instruct ∈ am_words := am_inS 8 (by decide +kernel) (by decide +kernel)
theorem se_X2_spawn : Cond.selects RX2 yX2_spawn yX2_spawn ∈ am_words := am_inS 9 (by decide +kernel) (by decide +kernel)
theorem se_X2_makeTask : Cond.selects RX2 yX2_makeTask yX2_makeTask ∈ am_words := am_inS 10 (by decide +kernel) (by decide +kernel)
theorem se_X2_openScope : Cond.selects RX2 yX2_openScope yX2_openScope ∈ am_words := am_inS 11 (by decide +kernel) (by decide +kernel)
theorem se_X2_close : Cond.selects RX2 yX2_close yX2_close ∈ am_words := am_inS 12 (by decide +kernel) (by decide +kernel)
theorem se_X2_put : Cond.selects RX2 yX2_put yX2_put ∈ am_words := am_inS 13 (by decide +kernel) (by decide +kernel)
theorem se_X2_spawnWaiting : Cond.selects RX2 yX2_spawnWaiting yX2_spawnWaiting ∈ am_words := am_inS 14 (by decide +kernel) (by decide +kernel)
theorem se_X2_join : Cond.selects RX2 yX2_join yX2_join ∈ am_words := am_inS 15 (by decide +kernel) (by decide +kernel)
theorem se_X2_leave : Cond.selects RX2 yX2_leave yX2_leave ∈ am_words := am_inS 16 (by decide +kernel) (by decide +kernel)
theorem se_X1_raisePhase : Cond.selects RX1 yX1_raisePhase yX1_raisePhase ∈ am_words := am_inS 17 (by decide +kernel) (by decide +kernel)
theorem se_X2_signalAll : Cond.selects RX2 yX2_signalAll yX2_signalAll ∈ am_words := am_inS 18 (by decide +kernel) (by decide +kernel)
theorem se_X2_say : Cond.selects RX2 yX2_say yX2_say ∈ am_words := am_inS 19 (by decide +kernel) (by decide +kernel)
theorem se_X2_endInnermost : Cond.selects RX2 yX2_endInnermost yX2_endInnermost ∈ am_words := am_inS 20 (by decide +kernel) (by decide +kernel)
theorem se_X2_finish : Cond.selects RX2 yX2_finish yX2_finish ∈ am_words := am_inS 21 (by decide +kernel) (by decide +kernel)
theorem se_X2_wakeAll : Cond.selects RX2 yX2_wakeAll yX2_wakeAll ∈ am_words := am_inS 22 (by decide +kernel) (by decide +kernel)
theorem se_X2_isWaitOver : Cond.selects RX2 yX2_isWaitOver yX2_isWaitOver ∈ am_words := am_inS 23 (by decide +kernel) (by decide +kernel)
theorem se_X2_unfinishedTasks : Cond.selects RX2 yX2_unfinishedTasks yX2_unfinishedTasks ∈ am_words := am_inS 24 (by decide +kernel) (by decide +kernel)
theorem se_X7_fail : Cond.selects RX7 yX7_fail yX7_fail ∈ am_words := am_inS 25 (by decide +kernel) (by decide +kernel)
theorem se_X7_openScope : Cond.selects RX7 yX7_openScope yX7_openScope ∈ am_words := am_inS 26 (by decide +kernel) (by decide +kernel)
theorem se_X7_newTask : Cond.selects RX7 yX7_newTask yX7_newTask ∈ am_words := am_inS 27 (by decide +kernel) (by decide +kernel)
theorem se_X7_push : Cond.selects RX7 yX7_push yX7_push ∈ am_words := am_inS 28 (by decide +kernel) (by decide +kernel)
theorem se_X7_isOver : Cond.selects RX7 yX7_isOver yX7_isOver ∈ am_words := am_inS 29 (by decide +kernel) (by decide +kernel)
theorem se_X7_isStuck : Cond.selects RX7 yX7_isStuck yX7_isStuck ∈ am_words := am_inS 30 (by decide +kernel) (by decide +kernel)
theorem se_X7_work : Cond.selects RX7 yX7_work yX7_work ∈ am_words := am_inS 31 (by decide +kernel) (by decide +kernel)
theorem se_X7_take : Cond.selects RX7 yX7_take yX7_take ∈ am_words := am_inS 32 (by decide +kernel) (by decide +kernel)
theorem se_X7_step : Cond.selects RX7 yX7_step yX7_step ∈ am_words := am_inS 33 (by decide +kernel) (by decide +kernel)
theorem se_X7_end : Cond.selects RX7 yX7_end yX7_end ∈ am_words := am_inS 34 (by decide +kernel) (by decide +kernel)
theorem se_X7_inner : Cond.selects RX7 yX7_inner yX7_inner ∈ am_words := am_inS 35 (by decide +kernel) (by decide +kernel)
theorem se_X7_set : Cond.selects RX7 yX7_set yX7_set ∈ am_words := am_inS 36 (by decide +kernel) (by decide +kernel)
theorem se_X7_raise : Cond.selects RX7 yX7_raise yX7_raise ∈ am_words := am_inS 37 (by decide +kernel) (by decide +kernel)
theorem se_X7_note : Cond.selects RX7 yX7_note yX7_note ∈ am_words := am_inS 38 (by decide +kernel) (by decide +kernel)
theorem se_X7_finish : Cond.selects RX7 yX7_finish yX7_finish ∈ am_words := am_inS 39 (by decide +kernel) (by decide +kernel)
theorem se_X7_move : Cond.selects RX7 yX7_move yX7_move ∈ am_words := am_inS 40 (by decide +kernel) (by decide +kernel)
theorem se_X7_spawn : Cond.selects RX7 yX7_spawn yX7_spawn ∈ am_words := am_inS 41 (by decide +kernel) (by decide +kernel)
theorem se_X7_onScope : Cond.selects RX7 yX7_onScope yX7_onScope ∈ am_words := am_inS 42 (by decide +kernel) (by decide +kernel)
theorem se_X7_onFuture : Cond.selects RX7 yX7_onFuture yX7_onFuture ∈ am_words := am_inS 43 (by decide +kernel) (by decide +kernel)
theorem se_X7_join : Cond.selects RX7 yX7_join yX7_join ∈ am_words := am_inS 44 (by decide +kernel) (by decide +kernel)
theorem se_X7_next : Cond.selects RX7 yX7_next yX7_next ∈ am_words := am_inS 45 (by decide +kernel) (by decide +kernel)
theorem se_X7_isPassed : Cond.selects RX7 yX7_isPassed yX7_isPassed ∈ am_words := am_inS 46 (by decide +kernel) (by decide +kernel)
theorem se_X7_give : Cond.selects RX7 yX7_give yX7_give ∈ am_words := am_inS 47 (by decide +kernel) (by decide +kernel)
theorem se_X7_ready : Cond.selects RX7 yX7_ready yX7_ready ∈ am_words := am_inS 48 (by decide +kernel) (by decide +kernel)
theorem se_X7_isReady : Cond.selects RX7 yX7_isReady yX7_isReady ∈ am_words := am_inS 49 (by decide +kernel) (by decide +kernel)
theorem se_X7_queuedAt : Cond.selects RX7 yX7_queuedAt yX7_queuedAt ∈ am_words := am_inS 50 (by decide +kernel) (by decide +kernel)
theorem im_obj : Cond.instanceMethod Lib.objectInit ∈ am_words := aw_26
theorem cd_obj : Cond.code Lib.objectInit ⟨#[0xb1]⟩ 1 none ∈ am_words := aw_27
theorem ac_int : Cond.arrayClass .int ∈ am_words := aw_49
theorem ac_boolean : Cond.arrayClass .boolean ∈ am_words := aw_236
theorem ac_long : Cond.arrayClass .long ∈ am_words := aw_971
end
section
theorem dL_body_0 : decode method_3_code 0 = .ok (.aload_n 2, 1) := by decide +kernel
theorem dL_body_1 : decode method_3_code 1 = .ok (.iconst 0, 1) := by decide +kernel
theorem dL_body_2 : decode method_3_code 2 = .ok (.aload_n 0, 1) := by decide +kernel
theorem dL_body_3 : decode method_3_code 3 = .ok (.iload_n 1, 1) := by decide +kernel
theorem dL_body_4 : decode method_3_code 4 = .ok (.invokevirtual 7, 3) := by decide +kernel
theorem dL_body_7 : decode method_3_code 7 = .ok (.i2l, 1) := by decide +kernel
theorem dL_body_8 : decode method_3_code 8 = .ok (.lastore, 1) := by decide +kernel
theorem dL_body_9 : decode method_3_code 9 = .ok (.goto 6, 3) := by decide +kernel
theorem dL_body_12 : decode method_3_code 12 = .ok (.astore_n 3, 1) := by decide +kernel
theorem dL_body_13 : decode method_3_code 13 = .ok (.iconst 1, 1) := by decide +kernel
theorem dL_body_14 : decode method_3_code 14 = .ok (.ireturn, 1) := by decide +kernel
theorem dL_body_15 : decode method_3_code 15 = .ok (.iconst 0, 1) := by decide +kernel
theorem dL_body_16 : decode method_3_code 16 = .ok (.ireturn, 1) := by decide +kernel
theorem dL_add_0 : decode method_4_code 0 = .ok (.aload 4, 2) := by decide +kernel
theorem dL_add_2 : decode method_4_code 2 = .ok (.iconst 0, 1) := by decide +kernel
theorem dL_add_3 : decode method_4_code 3 = .ok (.aload_n 0, 1) := by decide +kernel
theorem dL_add_4 : decode method_4_code 4 = .ok (.iload_n 1, 1) := by decide +kernel
theorem dL_add_5 : decode method_4_code 5 = .ok (.iload_n 2, 1) := by decide +kernel
theorem dL_add_6 : decode method_4_code 6 = .ok (.iload_n 3, 1) := by decide +kernel
theorem dL_add_7 : decode method_4_code 7 = .ok (.invokevirtual 15, 3) := by decide +kernel
theorem dL_add_10 : decode method_4_code 10 = .ok (.i2l, 1) := by decide +kernel
theorem dL_add_11 : decode method_4_code 11 = .ok (.lastore, 1) := by decide +kernel
theorem dL_add_12 : decode method_4_code 12 = .ok (.goto 11, 3) := by decide +kernel
theorem dL_add_15 : decode method_4_code 15 = .ok (.astore 5, 2) := by decide +kernel
theorem dL_add_17 : decode method_4_code 17 = .ok (.iconst 1, 1) := by decide +kernel
theorem dL_add_18 : decode method_4_code 18 = .ok (.ireturn, 1) := by decide +kernel
theorem dL_add_19 : decode method_4_code 19 = .ok (.astore 5, 2) := by decide +kernel
theorem dL_add_21 : decode method_4_code 21 = .ok (.iconst 2, 1) := by decide +kernel
theorem dL_add_22 : decode method_4_code 22 = .ok (.ireturn, 1) := by decide +kernel
theorem dL_add_23 : decode method_4_code 23 = .ok (.iconst 0, 1) := by decide +kernel
theorem dL_add_24 : decode method_4_code 24 = .ok (.ireturn, 1) := by decide +kernel
theorem dL_begin_0 : decode method_5_code 0 = .ok (.aload_n 0, 1) := by decide +kernel
theorem dL_begin_1 : decode method_5_code 1 = .ok (.iload_n 1, 1) := by decide +kernel
theorem dL_begin_2 : decode method_5_code 2 = .ok (.iload_n 2, 1) := by decide +kernel
theorem dL_begin_3 : decode method_5_code 3 = .ok (.iload_n 3, 1) := by decide +kernel
theorem dL_begin_4 : decode method_5_code 4 = .ok (.iload 4, 2) := by decide +kernel
theorem dL_begin_6 : decode method_5_code 6 = .ok (.invokevirtual 21, 3) := by decide +kernel
theorem dL_begin_9 : decode method_5_code 9 = .ok (.goto 7, 3) := by decide +kernel
theorem dL_begin_12 : decode method_5_code 12 = .ok (.astore 5, 2) := by decide +kernel
theorem dL_begin_14 : decode method_5_code 14 = .ok (.iconst 1, 1) := by decide +kernel
theorem dL_begin_15 : decode method_5_code 15 = .ok (.ireturn, 1) := by decide +kernel
theorem dL_begin_16 : decode method_5_code 16 = .ok (.iconst 0, 1) := by decide +kernel
theorem dL_begin_17 : decode method_5_code 17 = .ok (.ireturn, 1) := by decide +kernel
theorem dL_run_0 : decode method_6_code 0 = .ok (.aload_n 2, 1) := by decide +kernel
theorem dL_run_1 : decode method_6_code 1 = .ok (.iconst 0, 1) := by decide +kernel
theorem dL_run_2 : decode method_6_code 2 = .ok (.aload_n 0, 1) := by decide +kernel
theorem dL_run_3 : decode method_6_code 3 = .ok (.iload_n 1, 1) := by decide +kernel
theorem dL_run_4 : decode method_6_code 4 = .ok (.invokevirtual 25, 3) := by decide +kernel
theorem dL_run_7 : decode method_6_code 7 = .ok (.i2l, 1) := by decide +kernel
theorem dL_run_8 : decode method_6_code 8 = .ok (.lastore, 1) := by decide +kernel
theorem dL_run_9 : decode method_6_code 9 = .ok (.goto 12, 3) := by decide +kernel
theorem dL_run_12 : decode method_6_code 12 = .ok (.astore_n 3, 1) := by decide +kernel
theorem dL_run_13 : decode method_6_code 13 = .ok (.iconst 1, 1) := by decide +kernel
theorem dL_run_14 : decode method_6_code 14 = .ok (.ireturn, 1) := by decide +kernel
theorem dL_run_15 : decode method_6_code 15 = .ok (.astore_n 3, 1) := by decide +kernel
theorem dL_run_16 : decode method_6_code 16 = .ok (.iconst 2, 1) := by decide +kernel
theorem dL_run_17 : decode method_6_code 17 = .ok (.ireturn, 1) := by decide +kernel
theorem dL_run_18 : decode method_6_code 18 = .ok (.astore_n 3, 1) := by decide +kernel
theorem dL_run_19 : decode method_6_code 19 = .ok (.iconst 3, 1) := by decide +kernel
theorem dL_run_20 : decode method_6_code 20 = .ok (.ireturn, 1) := by decide +kernel
theorem dL_run_21 : decode method_6_code 21 = .ok (.iconst 0, 1) := by decide +kernel
theorem dL_run_22 : decode method_6_code 22 = .ok (.ireturn, 1) := by decide +kernel
theorem dL_result_0 : decode method_7_code 0 = .ok (.aload_n 1, 1) := by decide +kernel
theorem dL_result_1 : decode method_7_code 1 = .ok (.iconst 0, 1) := by decide +kernel
theorem dL_result_2 : decode method_7_code 2 = .ok (.aload_n 0, 1) := by decide +kernel
theorem dL_result_3 : decode method_7_code 3 = .ok (.invokevirtual 30, 3) := by decide +kernel
theorem dL_result_6 : decode method_7_code 6 = .ok (.i2l, 1) := by decide +kernel
theorem dL_result_7 : decode method_7_code 7 = .ok (.lastore, 1) := by decide +kernel
theorem dL_result_8 : decode method_7_code 8 = .ok (.goto 9, 3) := by decide +kernel
theorem dL_result_11 : decode method_7_code 11 = .ok (.astore_n 2, 1) := by decide +kernel
theorem dL_result_12 : decode method_7_code 12 = .ok (.iconst 1, 1) := by decide +kernel
theorem dL_result_13 : decode method_7_code 13 = .ok (.ireturn, 1) := by decide +kernel
theorem dL_result_14 : decode method_7_code 14 = .ok (.astore_n 2, 1) := by decide +kernel
theorem dL_result_15 : decode method_7_code 15 = .ok (.iconst 2, 1) := by decide +kernel
theorem dL_result_16 : decode method_7_code 16 = .ok (.ireturn, 1) := by decide +kernel
theorem dL_result_17 : decode method_7_code 17 = .ok (.iconst 0, 1) := by decide +kernel
theorem dL_result_18 : decode method_7_code 18 = .ok (.ireturn, 1) := by decide +kernel
theorem dL_said_0 : decode method_8_code 0 = .ok (.aload_n 2, 1) := by decide +kernel
theorem dL_said_1 : decode method_8_code 1 = .ok (.iconst 0, 1) := by decide +kernel
theorem dL_said_2 : decode method_8_code 2 = .ok (.aload_n 0, 1) := by decide +kernel
theorem dL_said_3 : decode method_8_code 3 = .ok (.iload_n 1, 1) := by decide +kernel
theorem dL_said_4 : decode method_8_code 4 = .ok (.invokevirtual 36, 3) := by decide +kernel
theorem dL_said_7 : decode method_8_code 7 = .ok (.i2l, 1) := by decide +kernel
theorem dL_said_8 : decode method_8_code 8 = .ok (.lastore, 1) := by decide +kernel
theorem dL_said_9 : decode method_8_code 9 = .ok (.goto 6, 3) := by decide +kernel
theorem dL_said_12 : decode method_8_code 12 = .ok (.astore_n 3, 1) := by decide +kernel
theorem dL_said_13 : decode method_8_code 13 = .ok (.iconst 1, 1) := by decide +kernel
theorem dL_said_14 : decode method_8_code 14 = .ok (.ireturn, 1) := by decide +kernel
theorem dL_said_15 : decode method_8_code 15 = .ok (.iconst 0, 1) := by decide +kernel
theorem dL_said_16 : decode method_8_code 16 = .ok (.ireturn, 1) := by decide +kernel
theorem dL_task_0 : decode method_9_code 0 = .ok (.aload_n 3, 1) := by decide +kernel
theorem dL_task_1 : decode method_9_code 1 = .ok (.iconst 0, 1) := by decide +kernel
theorem dL_task_2 : decode method_9_code 2 = .ok (.aload_n 0, 1) := by decide +kernel
theorem dL_task_3 : decode method_9_code 3 = .ok (.iload_n 1, 1) := by decide +kernel
theorem dL_task_4 : decode method_9_code 4 = .ok (.iload_n 2, 1) := by decide +kernel
theorem dL_task_5 : decode method_9_code 5 = .ok (.invokevirtual 41, 3) := by decide +kernel
theorem dL_task_8 : decode method_9_code 8 = .ok (.i2l, 1) := by decide +kernel
theorem dL_task_9 : decode method_9_code 9 = .ok (.lastore, 1) := by decide +kernel
theorem dL_task_10 : decode method_9_code 10 = .ok (.goto 11, 3) := by decide +kernel
theorem dL_task_13 : decode method_9_code 13 = .ok (.astore 4, 2) := by decide +kernel
theorem dL_task_15 : decode method_9_code 15 = .ok (.iconst 1, 1) := by decide +kernel
theorem dL_task_16 : decode method_9_code 16 = .ok (.ireturn, 1) := by decide +kernel
theorem dL_task_17 : decode method_9_code 17 = .ok (.astore 4, 2) := by decide +kernel
theorem dL_task_19 : decode method_9_code 19 = .ok (.iconst 2, 1) := by decide +kernel
theorem dL_task_20 : decode method_9_code 20 = .ok (.ireturn, 1) := by decide +kernel
theorem dL_task_21 : decode method_9_code 21 = .ok (.iconst 0, 1) := by decide +kernel
theorem dL_task_22 : decode method_9_code 22 = .ok (.ireturn, 1) := by decide +kernel
theorem dL_future_0 : decode method_10_code 0 = .ok (.aload_n 2, 1) := by decide +kernel
theorem dL_future_1 : decode method_10_code 1 = .ok (.iconst 0, 1) := by decide +kernel
theorem dL_future_2 : decode method_10_code 2 = .ok (.aload_n 0, 1) := by decide +kernel
theorem dL_future_3 : decode method_10_code 3 = .ok (.iload_n 1, 1) := by decide +kernel
theorem dL_future_4 : decode method_10_code 4 = .ok (.invokevirtual 45, 3) := by decide +kernel
theorem dL_future_7 : decode method_10_code 7 = .ok (.i2l, 1) := by decide +kernel
theorem dL_future_8 : decode method_10_code 8 = .ok (.lastore, 1) := by decide +kernel
theorem dL_future_9 : decode method_10_code 9 = .ok (.goto 9, 3) := by decide +kernel
theorem dL_future_12 : decode method_10_code 12 = .ok (.astore_n 3, 1) := by decide +kernel
theorem dL_future_13 : decode method_10_code 13 = .ok (.iconst 1, 1) := by decide +kernel
theorem dL_future_14 : decode method_10_code 14 = .ok (.ireturn, 1) := by decide +kernel
theorem dL_future_15 : decode method_10_code 15 = .ok (.astore_n 3, 1) := by decide +kernel
theorem dL_future_16 : decode method_10_code 16 = .ok (.iconst 2, 1) := by decide +kernel
theorem dL_future_17 : decode method_10_code 17 = .ok (.ireturn, 1) := by decide +kernel
theorem dL_future_18 : decode method_10_code 18 = .ok (.iconst 0, 1) := by decide +kernel
theorem dL_future_19 : decode method_10_code 19 = .ok (.ireturn, 1) := by decide +kernel
theorem dL_count_0 : decode method_11_code 0 = .ok (.aload_n 2, 1) := by decide +kernel
theorem dL_count_1 : decode method_11_code 1 = .ok (.iconst 0, 1) := by decide +kernel
theorem dL_count_2 : decode method_11_code 2 = .ok (.aload_n 0, 1) := by decide +kernel
theorem dL_count_3 : decode method_11_code 3 = .ok (.iload_n 1, 1) := by decide +kernel
theorem dL_count_4 : decode method_11_code 4 = .ok (.invokevirtual 48, 3) := by decide +kernel
theorem dL_count_7 : decode method_11_code 7 = .ok (.i2l, 1) := by decide +kernel
theorem dL_count_8 : decode method_11_code 8 = .ok (.lastore, 1) := by decide +kernel
theorem dL_count_9 : decode method_11_code 9 = .ok (.goto 6, 3) := by decide +kernel
theorem dL_count_12 : decode method_11_code 12 = .ok (.astore_n 3, 1) := by decide +kernel
theorem dL_count_13 : decode method_11_code 13 = .ok (.iconst 1, 1) := by decide +kernel
theorem dL_count_14 : decode method_11_code 14 = .ok (.ireturn, 1) := by decide +kernel
theorem dL_count_15 : decode method_11_code 15 = .ok (.iconst 0, 1) := by decide +kernel
theorem dL_count_16 : decode method_11_code 16 = .ok (.ireturn, 1) := by decide +kernel
theorem dL_law_0 : decode code 0 = .ok (.new 8, 3) := by decide +kernel
theorem dL_law_3 : decode code 3 = .ok (.dup, 1) := by decide +kernel
theorem dL_law_4 : decode code 4 = .ok (.invokespecial 51, 3) := by decide +kernel
theorem dL_law_7 : decode code 7 = .ok (.astore_n 1, 1) := by decide +kernel
theorem dL_law_8 : decode code 8 = .ok (.new 52, 3) := by decide +kernel
theorem dL_law_11 : decode code 11 = .ok (.dup, 1) := by decide +kernel
theorem dL_law_12 : decode code 12 = .ok (.invokespecial 54, 3) := by decide +kernel
theorem dL_law_15 : decode code 15 = .ok (.astore_n 2, 1) := by decide +kernel
theorem dL_law_16 : decode code 16 = .ok (.iconst 1, 1) := by decide +kernel
theorem dL_law_17 : decode code 17 = .ok (.newarray .long, 2) := by decide +kernel
theorem dL_law_19 : decode code 19 = .ok (.astore_n 3, 1) := by decide +kernel
theorem dL_law_20 : decode code 20 = .ok (.iconst 0, 1) := by decide +kernel
theorem dL_law_21 : decode code 21 = .ok (.istore 4, 2) := by decide +kernel
theorem dL_law_23 : decode code 23 = .ok (.iload 4, 2) := by decide +kernel
theorem dL_law_25 : decode code 25 = .ok (.aload_n 0, 1) := by decide +kernel
theorem dL_law_26 : decode code 26 = .ok (.arraylength, 1) := by decide +kernel
theorem dL_law_27 : decode code 27 = .ok (.iconst 5, 1) := by decide +kernel
theorem dL_law_28 : decode code 28 = .ok (.isub, 1) := by decide +kernel
theorem dL_law_29 : decode code 29 = .ok (.if_icmp .gt 609, 3) := by decide +kernel
theorem dL_law_32 : decode code 32 = .ok (.aload_n 0, 1) := by decide +kernel
theorem dL_law_33 : decode code 33 = .ok (.iload 4, 2) := by decide +kernel
theorem dL_law_35 : decode code 35 = .ok (.iaload, 1) := by decide +kernel
theorem dL_law_36 : decode code 36 = .ok (.bipush 15, 2) := by decide +kernel
theorem dL_law_38 : decode code 38 = .ok (.iand, 1) := by decide +kernel
theorem dL_law_39 : decode code 39 = .ok (.tableswitch 593 0 8 #[49, 105, 185, 257, 313, 357, 413, 481, 537], 49) := by decide +kernel
theorem dL_law_88 : decode code 88 = .ok (.aload_n 1, 1) := by decide +kernel
theorem dL_law_89 : decode code 89 = .ok (.aload_n 0, 1) := by decide +kernel
theorem dL_law_90 : decode code 90 = .ok (.iload 4, 2) := by decide +kernel
theorem dL_law_92 : decode code 92 = .ok (.iconst 1, 1) := by decide +kernel
theorem dL_law_93 : decode code 93 = .ok (.iadd, 1) := by decide +kernel
theorem dL_law_94 : decode code 94 = .ok (.iaload, 1) := by decide +kernel
theorem dL_law_95 : decode code 95 = .ok (.aload_n 3, 1) := by decide +kernel
theorem dL_law_96 : decode code 96 = .ok (.invokestatic 55, 3) := by decide +kernel
theorem dL_law_99 : decode code 99 = .ok (.istore 5, 2) := by decide +kernel
theorem dL_law_101 : decode code 101 = .ok (.aload_n 2, 1) := by decide +kernel
theorem dL_law_102 : decode code 102 = .ok (.aload_n 0, 1) := by decide +kernel
theorem dL_law_103 : decode code 103 = .ok (.iload 4, 2) := by decide +kernel
theorem dL_law_105 : decode code 105 = .ok (.iconst 1, 1) := by decide +kernel
theorem dL_law_106 : decode code 106 = .ok (.iadd, 1) := by decide +kernel
theorem dL_law_107 : decode code 107 = .ok (.iaload, 1) := by decide +kernel
theorem dL_law_108 : decode code 108 = .ok (.invokevirtual 60, 3) := by decide +kernel
theorem dL_law_111 : decode code 111 = .ok (.istore 6, 2) := by decide +kernel
theorem dL_law_113 : decode code 113 = .ok (.aload_n 2, 1) := by decide +kernel
theorem dL_law_114 : decode code 114 = .ok (.invokevirtual 61, 3) := by decide +kernel
theorem dL_law_117 : decode code 117 = .ok (.iload 5, 2) := by decide +kernel
theorem dL_law_119 : decode code 119 = .ok (.if_icmp .eq 5, 3) := by decide +kernel
theorem dL_law_122 : decode code 122 = .ok (.iconst 0, 1) := by decide +kernel
theorem dL_law_123 : decode code 123 = .ok (.ireturn, 1) := by decide +kernel
theorem dL_law_124 : decode code 124 = .ok (.iload 5, 2) := by decide +kernel
theorem dL_law_126 : decode code 126 = .ok (.ifCond .ne 15, 3) := by decide +kernel
theorem dL_law_129 : decode code 129 = .ok (.aload_n 3, 1) := by decide +kernel
theorem dL_law_130 : decode code 130 = .ok (.iconst 0, 1) := by decide +kernel
theorem dL_law_131 : decode code 131 = .ok (.laload, 1) := by decide +kernel
theorem dL_law_132 : decode code 132 = .ok (.iload 6, 2) := by decide +kernel
theorem dL_law_134 : decode code 134 = .ok (.i2l, 1) := by decide +kernel
theorem dL_law_135 : decode code 135 = .ok (.lcmp, 1) := by decide +kernel
theorem dL_law_136 : decode code 136 = .ok (.ifCond .eq 5, 3) := by decide +kernel
theorem dL_law_139 : decode code 139 = .ok (.iconst 0, 1) := by decide +kernel
theorem dL_law_140 : decode code 140 = .ok (.ireturn, 1) := by decide +kernel
theorem dL_law_141 : decode code 141 = .ok (.goto 491, 3) := by decide +kernel
theorem dL_law_144 : decode code 144 = .ok (.aload_n 1, 1) := by decide +kernel
theorem dL_law_145 : decode code 145 = .ok (.aload_n 0, 1) := by decide +kernel
theorem dL_law_146 : decode code 146 = .ok (.iload 4, 2) := by decide +kernel
theorem dL_law_148 : decode code 148 = .ok (.iconst 1, 1) := by decide +kernel
theorem dL_law_149 : decode code 149 = .ok (.iadd, 1) := by decide +kernel
theorem dL_law_150 : decode code 150 = .ok (.iaload, 1) := by decide +kernel
theorem dL_law_151 : decode code 151 = .ok (.aload_n 0, 1) := by decide +kernel
theorem dL_law_152 : decode code 152 = .ok (.iload 4, 2) := by decide +kernel
theorem dL_law_154 : decode code 154 = .ok (.iconst 2, 1) := by decide +kernel
theorem dL_law_155 : decode code 155 = .ok (.iadd, 1) := by decide +kernel
theorem dL_law_156 : decode code 156 = .ok (.iaload, 1) := by decide +kernel
theorem dL_law_157 : decode code 157 = .ok (.aload_n 0, 1) := by decide +kernel
theorem dL_law_158 : decode code 158 = .ok (.iload 4, 2) := by decide +kernel
theorem dL_law_160 : decode code 160 = .ok (.iconst 3, 1) := by decide +kernel
theorem dL_law_161 : decode code 161 = .ok (.iadd, 1) := by decide +kernel
theorem dL_law_162 : decode code 162 = .ok (.iaload, 1) := by decide +kernel
theorem dL_law_163 : decode code 163 = .ok (.aload_n 3, 1) := by decide +kernel
theorem dL_law_164 : decode code 164 = .ok (.invokestatic 64, 3) := by decide +kernel
theorem dL_law_167 : decode code 167 = .ok (.istore 5, 2) := by decide +kernel
theorem dL_law_169 : decode code 169 = .ok (.aload_n 2, 1) := by decide +kernel
theorem dL_law_170 : decode code 170 = .ok (.aload_n 0, 1) := by decide +kernel
theorem dL_law_171 : decode code 171 = .ok (.iload 4, 2) := by decide +kernel
theorem dL_law_173 : decode code 173 = .ok (.iconst 1, 1) := by decide +kernel
theorem dL_law_174 : decode code 174 = .ok (.iadd, 1) := by decide +kernel
theorem dL_law_175 : decode code 175 = .ok (.iaload, 1) := by decide +kernel
theorem dL_law_176 : decode code 176 = .ok (.aload_n 0, 1) := by decide +kernel
theorem dL_law_177 : decode code 177 = .ok (.iload 4, 2) := by decide +kernel
theorem dL_law_179 : decode code 179 = .ok (.iconst 2, 1) := by decide +kernel
theorem dL_law_180 : decode code 180 = .ok (.iadd, 1) := by decide +kernel
theorem dL_law_181 : decode code 181 = .ok (.iaload, 1) := by decide +kernel
theorem dL_law_182 : decode code 182 = .ok (.aload_n 0, 1) := by decide +kernel
theorem dL_law_183 : decode code 183 = .ok (.iload 4, 2) := by decide +kernel
theorem dL_law_185 : decode code 185 = .ok (.iconst 3, 1) := by decide +kernel
theorem dL_law_186 : decode code 186 = .ok (.iadd, 1) := by decide +kernel
theorem dL_law_187 : decode code 187 = .ok (.iaload, 1) := by decide +kernel
theorem dL_law_188 : decode code 188 = .ok (.invokevirtual 67, 3) := by decide +kernel
theorem dL_law_191 : decode code 191 = .ok (.istore 6, 2) := by decide +kernel
theorem dL_law_193 : decode code 193 = .ok (.aload_n 2, 1) := by decide +kernel
theorem dL_law_194 : decode code 194 = .ok (.invokevirtual 61, 3) := by decide +kernel
theorem dL_law_197 : decode code 197 = .ok (.iload 5, 2) := by decide +kernel
theorem dL_law_199 : decode code 199 = .ok (.if_icmp .eq 5, 3) := by decide +kernel
theorem dL_law_202 : decode code 202 = .ok (.iconst 0, 1) := by decide +kernel
theorem dL_law_203 : decode code 203 = .ok (.ireturn, 1) := by decide +kernel
theorem dL_law_204 : decode code 204 = .ok (.iload 5, 2) := by decide +kernel
theorem dL_law_206 : decode code 206 = .ok (.ifCond .ne 15, 3) := by decide +kernel
theorem dL_law_209 : decode code 209 = .ok (.aload_n 3, 1) := by decide +kernel
theorem dL_law_210 : decode code 210 = .ok (.iconst 0, 1) := by decide +kernel
theorem dL_law_211 : decode code 211 = .ok (.laload, 1) := by decide +kernel
theorem dL_law_212 : decode code 212 = .ok (.iload 6, 2) := by decide +kernel
theorem dL_law_214 : decode code 214 = .ok (.i2l, 1) := by decide +kernel
theorem dL_law_215 : decode code 215 = .ok (.lcmp, 1) := by decide +kernel
theorem dL_law_216 : decode code 216 = .ok (.ifCond .eq 5, 3) := by decide +kernel
theorem dL_law_219 : decode code 219 = .ok (.iconst 0, 1) := by decide +kernel
theorem dL_law_220 : decode code 220 = .ok (.ireturn, 1) := by decide +kernel
theorem dL_law_221 : decode code 221 = .ok (.goto 411, 3) := by decide +kernel
theorem dL_law_224 : decode code 224 = .ok (.aload_n 1, 1) := by decide +kernel
theorem dL_law_225 : decode code 225 = .ok (.aload_n 0, 1) := by decide +kernel
theorem dL_law_226 : decode code 226 = .ok (.iload 4, 2) := by decide +kernel
theorem dL_law_228 : decode code 228 = .ok (.iconst 1, 1) := by decide +kernel
theorem dL_law_229 : decode code 229 = .ok (.iadd, 1) := by decide +kernel
theorem dL_law_230 : decode code 230 = .ok (.iaload, 1) := by decide +kernel
theorem dL_law_231 : decode code 231 = .ok (.aload_n 0, 1) := by decide +kernel
theorem dL_law_232 : decode code 232 = .ok (.iload 4, 2) := by decide +kernel
theorem dL_law_234 : decode code 234 = .ok (.iconst 2, 1) := by decide +kernel
theorem dL_law_235 : decode code 235 = .ok (.iadd, 1) := by decide +kernel
theorem dL_law_236 : decode code 236 = .ok (.iaload, 1) := by decide +kernel
theorem dL_law_237 : decode code 237 = .ok (.aload_n 0, 1) := by decide +kernel
theorem dL_law_238 : decode code 238 = .ok (.iload 4, 2) := by decide +kernel
theorem dL_law_240 : decode code 240 = .ok (.iconst 3, 1) := by decide +kernel
theorem dL_law_241 : decode code 241 = .ok (.iadd, 1) := by decide +kernel
theorem dL_law_242 : decode code 242 = .ok (.iaload, 1) := by decide +kernel
theorem dL_law_243 : decode code 243 = .ok (.aload_n 0, 1) := by decide +kernel
theorem dL_law_244 : decode code 244 = .ok (.iload 4, 2) := by decide +kernel
theorem dL_law_246 : decode code 246 = .ok (.iconst 4, 1) := by decide +kernel
theorem dL_law_247 : decode code 247 = .ok (.iadd, 1) := by decide +kernel
theorem dL_law_248 : decode code 248 = .ok (.iaload, 1) := by decide +kernel
theorem dL_law_249 : decode code 249 = .ok (.invokestatic 68, 3) := by decide +kernel
theorem dL_law_252 : decode code 252 = .ok (.istore 5, 2) := by decide +kernel
theorem dL_law_254 : decode code 254 = .ok (.aload_n 2, 1) := by decide +kernel
theorem dL_law_255 : decode code 255 = .ok (.aload_n 0, 1) := by decide +kernel
theorem dL_law_256 : decode code 256 = .ok (.iload 4, 2) := by decide +kernel
theorem dL_law_258 : decode code 258 = .ok (.iconst 1, 1) := by decide +kernel
theorem dL_law_259 : decode code 259 = .ok (.iadd, 1) := by decide +kernel
theorem dL_law_260 : decode code 260 = .ok (.iaload, 1) := by decide +kernel
theorem dL_law_261 : decode code 261 = .ok (.aload_n 0, 1) := by decide +kernel
theorem dL_law_262 : decode code 262 = .ok (.iload 4, 2) := by decide +kernel
theorem dL_law_264 : decode code 264 = .ok (.iconst 2, 1) := by decide +kernel
theorem dL_law_265 : decode code 265 = .ok (.iadd, 1) := by decide +kernel
theorem dL_law_266 : decode code 266 = .ok (.iaload, 1) := by decide +kernel
theorem dL_law_267 : decode code 267 = .ok (.aload_n 0, 1) := by decide +kernel
theorem dL_law_268 : decode code 268 = .ok (.iload 4, 2) := by decide +kernel
theorem dL_law_270 : decode code 270 = .ok (.iconst 3, 1) := by decide +kernel
theorem dL_law_271 : decode code 271 = .ok (.iadd, 1) := by decide +kernel
theorem dL_law_272 : decode code 272 = .ok (.iaload, 1) := by decide +kernel
theorem dL_law_273 : decode code 273 = .ok (.aload_n 0, 1) := by decide +kernel
theorem dL_law_274 : decode code 274 = .ok (.iload 4, 2) := by decide +kernel
theorem dL_law_276 : decode code 276 = .ok (.iconst 4, 1) := by decide +kernel
theorem dL_law_277 : decode code 277 = .ok (.iadd, 1) := by decide +kernel
theorem dL_law_278 : decode code 278 = .ok (.iaload, 1) := by decide +kernel
theorem dL_law_279 : decode code 279 = .ok (.invokevirtual 71, 3) := by decide +kernel
theorem dL_law_282 : decode code 282 = .ok (.aload_n 2, 1) := by decide +kernel
theorem dL_law_283 : decode code 283 = .ok (.invokevirtual 61, 3) := by decide +kernel
theorem dL_law_286 : decode code 286 = .ok (.iload 5, 2) := by decide +kernel
theorem dL_law_288 : decode code 288 = .ok (.if_icmp .eq 5, 3) := by decide +kernel
theorem dL_law_291 : decode code 291 = .ok (.iconst 0, 1) := by decide +kernel
theorem dL_law_292 : decode code 292 = .ok (.ireturn, 1) := by decide +kernel
theorem dL_law_293 : decode code 293 = .ok (.goto 339, 3) := by decide +kernel
theorem dL_law_296 : decode code 296 = .ok (.aload_n 1, 1) := by decide +kernel
theorem dL_law_297 : decode code 297 = .ok (.aload_n 0, 1) := by decide +kernel
theorem dL_law_298 : decode code 298 = .ok (.iload 4, 2) := by decide +kernel
theorem dL_law_300 : decode code 300 = .ok (.iconst 1, 1) := by decide +kernel
theorem dL_law_301 : decode code 301 = .ok (.iadd, 1) := by decide +kernel
theorem dL_law_302 : decode code 302 = .ok (.iaload, 1) := by decide +kernel
theorem dL_law_303 : decode code 303 = .ok (.aload_n 3, 1) := by decide +kernel
theorem dL_law_304 : decode code 304 = .ok (.invokestatic 72, 3) := by decide +kernel
theorem dL_law_307 : decode code 307 = .ok (.istore 5, 2) := by decide +kernel
theorem dL_law_309 : decode code 309 = .ok (.aload_n 2, 1) := by decide +kernel
theorem dL_law_310 : decode code 310 = .ok (.aload_n 0, 1) := by decide +kernel
theorem dL_law_311 : decode code 311 = .ok (.iload 4, 2) := by decide +kernel
theorem dL_law_313 : decode code 313 = .ok (.iconst 1, 1) := by decide +kernel
theorem dL_law_314 : decode code 314 = .ok (.iadd, 1) := by decide +kernel
theorem dL_law_315 : decode code 315 = .ok (.iaload, 1) := by decide +kernel
theorem dL_law_316 : decode code 316 = .ok (.invokevirtual 74, 3) := by decide +kernel
theorem dL_law_319 : decode code 319 = .ok (.istore 6, 2) := by decide +kernel
theorem dL_law_321 : decode code 321 = .ok (.aload_n 2, 1) := by decide +kernel
theorem dL_law_322 : decode code 322 = .ok (.invokevirtual 61, 3) := by decide +kernel
theorem dL_law_325 : decode code 325 = .ok (.iload 5, 2) := by decide +kernel
theorem dL_law_327 : decode code 327 = .ok (.if_icmp .eq 5, 3) := by decide +kernel
theorem dL_law_330 : decode code 330 = .ok (.iconst 0, 1) := by decide +kernel
theorem dL_law_331 : decode code 331 = .ok (.ireturn, 1) := by decide +kernel
theorem dL_law_332 : decode code 332 = .ok (.iload 5, 2) := by decide +kernel
theorem dL_law_334 : decode code 334 = .ok (.ifCond .ne 15, 3) := by decide +kernel
theorem dL_law_337 : decode code 337 = .ok (.aload_n 3, 1) := by decide +kernel
theorem dL_law_338 : decode code 338 = .ok (.iconst 0, 1) := by decide +kernel
theorem dL_law_339 : decode code 339 = .ok (.laload, 1) := by decide +kernel
theorem dL_law_340 : decode code 340 = .ok (.iload 6, 2) := by decide +kernel
theorem dL_law_342 : decode code 342 = .ok (.i2l, 1) := by decide +kernel
theorem dL_law_343 : decode code 343 = .ok (.lcmp, 1) := by decide +kernel
theorem dL_law_344 : decode code 344 = .ok (.ifCond .eq 5, 3) := by decide +kernel
theorem dL_law_347 : decode code 347 = .ok (.iconst 0, 1) := by decide +kernel
theorem dL_law_348 : decode code 348 = .ok (.ireturn, 1) := by decide +kernel
theorem dL_law_349 : decode code 349 = .ok (.goto 283, 3) := by decide +kernel
theorem dL_law_352 : decode code 352 = .ok (.aload_n 1, 1) := by decide +kernel
theorem dL_law_353 : decode code 353 = .ok (.aload_n 3, 1) := by decide +kernel
theorem dL_law_354 : decode code 354 = .ok (.invokestatic 75, 3) := by decide +kernel
theorem dL_law_357 : decode code 357 = .ok (.istore 5, 2) := by decide +kernel
theorem dL_law_359 : decode code 359 = .ok (.aload_n 2, 1) := by decide +kernel
theorem dL_law_360 : decode code 360 = .ok (.invokevirtual 78, 3) := by decide +kernel
theorem dL_law_363 : decode code 363 = .ok (.istore 6, 2) := by decide +kernel
theorem dL_law_365 : decode code 365 = .ok (.aload_n 2, 1) := by decide +kernel
theorem dL_law_366 : decode code 366 = .ok (.invokevirtual 61, 3) := by decide +kernel
theorem dL_law_369 : decode code 369 = .ok (.iload 5, 2) := by decide +kernel
theorem dL_law_371 : decode code 371 = .ok (.if_icmp .eq 5, 3) := by decide +kernel
theorem dL_law_374 : decode code 374 = .ok (.iconst 0, 1) := by decide +kernel
theorem dL_law_375 : decode code 375 = .ok (.ireturn, 1) := by decide +kernel
theorem dL_law_376 : decode code 376 = .ok (.iload 5, 2) := by decide +kernel
theorem dL_law_378 : decode code 378 = .ok (.ifCond .ne 15, 3) := by decide +kernel
theorem dL_law_381 : decode code 381 = .ok (.aload_n 3, 1) := by decide +kernel
theorem dL_law_382 : decode code 382 = .ok (.iconst 0, 1) := by decide +kernel
theorem dL_law_383 : decode code 383 = .ok (.laload, 1) := by decide +kernel
theorem dL_law_384 : decode code 384 = .ok (.iload 6, 2) := by decide +kernel
theorem dL_law_386 : decode code 386 = .ok (.i2l, 1) := by decide +kernel
theorem dL_law_387 : decode code 387 = .ok (.lcmp, 1) := by decide +kernel
theorem dL_law_388 : decode code 388 = .ok (.ifCond .eq 5, 3) := by decide +kernel
theorem dL_law_391 : decode code 391 = .ok (.iconst 0, 1) := by decide +kernel
theorem dL_law_392 : decode code 392 = .ok (.ireturn, 1) := by decide +kernel
theorem dL_law_393 : decode code 393 = .ok (.goto 239, 3) := by decide +kernel
theorem dL_law_396 : decode code 396 = .ok (.aload_n 1, 1) := by decide +kernel
theorem dL_law_397 : decode code 397 = .ok (.aload_n 0, 1) := by decide +kernel
theorem dL_law_398 : decode code 398 = .ok (.iload 4, 2) := by decide +kernel
theorem dL_law_400 : decode code 400 = .ok (.iconst 1, 1) := by decide +kernel
theorem dL_law_401 : decode code 401 = .ok (.iadd, 1) := by decide +kernel
theorem dL_law_402 : decode code 402 = .ok (.iaload, 1) := by decide +kernel
theorem dL_law_403 : decode code 403 = .ok (.aload_n 3, 1) := by decide +kernel
theorem dL_law_404 : decode code 404 = .ok (.invokestatic 79, 3) := by decide +kernel
theorem dL_law_407 : decode code 407 = .ok (.istore 5, 2) := by decide +kernel
theorem dL_law_409 : decode code 409 = .ok (.aload_n 2, 1) := by decide +kernel
theorem dL_law_410 : decode code 410 = .ok (.aload_n 0, 1) := by decide +kernel
theorem dL_law_411 : decode code 411 = .ok (.iload 4, 2) := by decide +kernel
theorem dL_law_413 : decode code 413 = .ok (.iconst 1, 1) := by decide +kernel
theorem dL_law_414 : decode code 414 = .ok (.iadd, 1) := by decide +kernel
theorem dL_law_415 : decode code 415 = .ok (.iaload, 1) := by decide +kernel
theorem dL_law_416 : decode code 416 = .ok (.invokevirtual 81, 3) := by decide +kernel
theorem dL_law_419 : decode code 419 = .ok (.istore 6, 2) := by decide +kernel
theorem dL_law_421 : decode code 421 = .ok (.aload_n 2, 1) := by decide +kernel
theorem dL_law_422 : decode code 422 = .ok (.invokevirtual 61, 3) := by decide +kernel
theorem dL_law_425 : decode code 425 = .ok (.iload 5, 2) := by decide +kernel
theorem dL_law_427 : decode code 427 = .ok (.if_icmp .eq 5, 3) := by decide +kernel
theorem dL_law_430 : decode code 430 = .ok (.iconst 0, 1) := by decide +kernel
theorem dL_law_431 : decode code 431 = .ok (.ireturn, 1) := by decide +kernel
theorem dL_law_432 : decode code 432 = .ok (.iload 5, 2) := by decide +kernel
theorem dL_law_434 : decode code 434 = .ok (.ifCond .ne 15, 3) := by decide +kernel
theorem dL_law_437 : decode code 437 = .ok (.aload_n 3, 1) := by decide +kernel
theorem dL_law_438 : decode code 438 = .ok (.iconst 0, 1) := by decide +kernel
theorem dL_law_439 : decode code 439 = .ok (.laload, 1) := by decide +kernel
theorem dL_law_440 : decode code 440 = .ok (.iload 6, 2) := by decide +kernel
theorem dL_law_442 : decode code 442 = .ok (.i2l, 1) := by decide +kernel
theorem dL_law_443 : decode code 443 = .ok (.lcmp, 1) := by decide +kernel
theorem dL_law_444 : decode code 444 = .ok (.ifCond .eq 5, 3) := by decide +kernel
theorem dL_law_447 : decode code 447 = .ok (.iconst 0, 1) := by decide +kernel
theorem dL_law_448 : decode code 448 = .ok (.ireturn, 1) := by decide +kernel
theorem dL_law_449 : decode code 449 = .ok (.goto 183, 3) := by decide +kernel
theorem dL_law_452 : decode code 452 = .ok (.aload_n 1, 1) := by decide +kernel
theorem dL_law_453 : decode code 453 = .ok (.aload_n 0, 1) := by decide +kernel
theorem dL_law_454 : decode code 454 = .ok (.iload 4, 2) := by decide +kernel
theorem dL_law_456 : decode code 456 = .ok (.iconst 1, 1) := by decide +kernel
theorem dL_law_457 : decode code 457 = .ok (.iadd, 1) := by decide +kernel
theorem dL_law_458 : decode code 458 = .ok (.iaload, 1) := by decide +kernel
theorem dL_law_459 : decode code 459 = .ok (.aload_n 0, 1) := by decide +kernel
theorem dL_law_460 : decode code 460 = .ok (.iload 4, 2) := by decide +kernel
theorem dL_law_462 : decode code 462 = .ok (.iconst 2, 1) := by decide +kernel
theorem dL_law_463 : decode code 463 = .ok (.iadd, 1) := by decide +kernel
theorem dL_law_464 : decode code 464 = .ok (.iaload, 1) := by decide +kernel
theorem dL_law_465 : decode code 465 = .ok (.aload_n 3, 1) := by decide +kernel
theorem dL_law_466 : decode code 466 = .ok (.invokestatic 82, 3) := by decide +kernel
theorem dL_law_469 : decode code 469 = .ok (.istore 5, 2) := by decide +kernel
theorem dL_law_471 : decode code 471 = .ok (.aload_n 2, 1) := by decide +kernel
theorem dL_law_472 : decode code 472 = .ok (.aload_n 0, 1) := by decide +kernel
theorem dL_law_473 : decode code 473 = .ok (.iload 4, 2) := by decide +kernel
theorem dL_law_475 : decode code 475 = .ok (.iconst 1, 1) := by decide +kernel
theorem dL_law_476 : decode code 476 = .ok (.iadd, 1) := by decide +kernel
theorem dL_law_477 : decode code 477 = .ok (.iaload, 1) := by decide +kernel
theorem dL_law_478 : decode code 478 = .ok (.aload_n 0, 1) := by decide +kernel
theorem dL_law_479 : decode code 479 = .ok (.iload 4, 2) := by decide +kernel
theorem dL_law_481 : decode code 481 = .ok (.iconst 2, 1) := by decide +kernel
theorem dL_law_482 : decode code 482 = .ok (.iadd, 1) := by decide +kernel
theorem dL_law_483 : decode code 483 = .ok (.iaload, 1) := by decide +kernel
theorem dL_law_484 : decode code 484 = .ok (.invokevirtual 85, 3) := by decide +kernel
theorem dL_law_487 : decode code 487 = .ok (.istore 6, 2) := by decide +kernel
theorem dL_law_489 : decode code 489 = .ok (.aload_n 2, 1) := by decide +kernel
theorem dL_law_490 : decode code 490 = .ok (.invokevirtual 61, 3) := by decide +kernel
theorem dL_law_493 : decode code 493 = .ok (.iload 5, 2) := by decide +kernel
theorem dL_law_495 : decode code 495 = .ok (.if_icmp .eq 5, 3) := by decide +kernel
theorem dL_law_498 : decode code 498 = .ok (.iconst 0, 1) := by decide +kernel
theorem dL_law_499 : decode code 499 = .ok (.ireturn, 1) := by decide +kernel
theorem dL_law_500 : decode code 500 = .ok (.iload 5, 2) := by decide +kernel
theorem dL_law_502 : decode code 502 = .ok (.ifCond .ne 15, 3) := by decide +kernel
theorem dL_law_505 : decode code 505 = .ok (.aload_n 3, 1) := by decide +kernel
theorem dL_law_506 : decode code 506 = .ok (.iconst 0, 1) := by decide +kernel
theorem dL_law_507 : decode code 507 = .ok (.laload, 1) := by decide +kernel
theorem dL_law_508 : decode code 508 = .ok (.iload 6, 2) := by decide +kernel
theorem dL_law_510 : decode code 510 = .ok (.i2l, 1) := by decide +kernel
theorem dL_law_511 : decode code 511 = .ok (.lcmp, 1) := by decide +kernel
theorem dL_law_512 : decode code 512 = .ok (.ifCond .eq 5, 3) := by decide +kernel
theorem dL_law_515 : decode code 515 = .ok (.iconst 0, 1) := by decide +kernel
theorem dL_law_516 : decode code 516 = .ok (.ireturn, 1) := by decide +kernel
theorem dL_law_517 : decode code 517 = .ok (.goto 115, 3) := by decide +kernel
theorem dL_law_520 : decode code 520 = .ok (.aload_n 1, 1) := by decide +kernel
theorem dL_law_521 : decode code 521 = .ok (.aload_n 0, 1) := by decide +kernel
theorem dL_law_522 : decode code 522 = .ok (.iload 4, 2) := by decide +kernel
theorem dL_law_524 : decode code 524 = .ok (.iconst 1, 1) := by decide +kernel
theorem dL_law_525 : decode code 525 = .ok (.iadd, 1) := by decide +kernel
theorem dL_law_526 : decode code 526 = .ok (.iaload, 1) := by decide +kernel
theorem dL_law_527 : decode code 527 = .ok (.aload_n 3, 1) := by decide +kernel
theorem dL_law_528 : decode code 528 = .ok (.invokestatic 86, 3) := by decide +kernel
theorem dL_law_531 : decode code 531 = .ok (.istore 5, 2) := by decide +kernel
theorem dL_law_533 : decode code 533 = .ok (.aload_n 2, 1) := by decide +kernel
theorem dL_law_534 : decode code 534 = .ok (.aload_n 0, 1) := by decide +kernel
theorem dL_law_535 : decode code 535 = .ok (.iload 4, 2) := by decide +kernel
theorem dL_law_537 : decode code 537 = .ok (.iconst 1, 1) := by decide +kernel
theorem dL_law_538 : decode code 538 = .ok (.iadd, 1) := by decide +kernel
theorem dL_law_539 : decode code 539 = .ok (.iaload, 1) := by decide +kernel
theorem dL_law_540 : decode code 540 = .ok (.invokevirtual 88, 3) := by decide +kernel
theorem dL_law_543 : decode code 543 = .ok (.istore 6, 2) := by decide +kernel
theorem dL_law_545 : decode code 545 = .ok (.aload_n 2, 1) := by decide +kernel
theorem dL_law_546 : decode code 546 = .ok (.invokevirtual 61, 3) := by decide +kernel
theorem dL_law_549 : decode code 549 = .ok (.iload 5, 2) := by decide +kernel
theorem dL_law_551 : decode code 551 = .ok (.if_icmp .eq 5, 3) := by decide +kernel
theorem dL_law_554 : decode code 554 = .ok (.iconst 0, 1) := by decide +kernel
theorem dL_law_555 : decode code 555 = .ok (.ireturn, 1) := by decide +kernel
theorem dL_law_556 : decode code 556 = .ok (.iload 5, 2) := by decide +kernel
theorem dL_law_558 : decode code 558 = .ok (.ifCond .ne 15, 3) := by decide +kernel
theorem dL_law_561 : decode code 561 = .ok (.aload_n 3, 1) := by decide +kernel
theorem dL_law_562 : decode code 562 = .ok (.iconst 0, 1) := by decide +kernel
theorem dL_law_563 : decode code 563 = .ok (.laload, 1) := by decide +kernel
theorem dL_law_564 : decode code 564 = .ok (.iload 6, 2) := by decide +kernel
theorem dL_law_566 : decode code 566 = .ok (.i2l, 1) := by decide +kernel
theorem dL_law_567 : decode code 567 = .ok (.lcmp, 1) := by decide +kernel
theorem dL_law_568 : decode code 568 = .ok (.ifCond .eq 5, 3) := by decide +kernel
theorem dL_law_571 : decode code 571 = .ok (.iconst 0, 1) := by decide +kernel
theorem dL_law_572 : decode code 572 = .ok (.ireturn, 1) := by decide +kernel
theorem dL_law_573 : decode code 573 = .ok (.goto 59, 3) := by decide +kernel
theorem dL_law_576 : decode code 576 = .ok (.aload_n 1, 1) := by decide +kernel
theorem dL_law_577 : decode code 577 = .ok (.aload_n 0, 1) := by decide +kernel
theorem dL_law_578 : decode code 578 = .ok (.iload 4, 2) := by decide +kernel
theorem dL_law_580 : decode code 580 = .ok (.iconst 1, 1) := by decide +kernel
theorem dL_law_581 : decode code 581 = .ok (.iadd, 1) := by decide +kernel
theorem dL_law_582 : decode code 582 = .ok (.iaload, 1) := by decide +kernel
theorem dL_law_583 : decode code 583 = .ok (.aload_n 3, 1) := by decide +kernel
theorem dL_law_584 : decode code 584 = .ok (.invokestatic 89, 3) := by decide +kernel
theorem dL_law_587 : decode code 587 = .ok (.istore 5, 2) := by decide +kernel
theorem dL_law_589 : decode code 589 = .ok (.aload_n 2, 1) := by decide +kernel
theorem dL_law_590 : decode code 590 = .ok (.aload_n 0, 1) := by decide +kernel
theorem dL_law_591 : decode code 591 = .ok (.iload 4, 2) := by decide +kernel
theorem dL_law_593 : decode code 593 = .ok (.iconst 1, 1) := by decide +kernel
theorem dL_law_594 : decode code 594 = .ok (.iadd, 1) := by decide +kernel
theorem dL_law_595 : decode code 595 = .ok (.iaload, 1) := by decide +kernel
theorem dL_law_596 : decode code 596 = .ok (.invokevirtual 91, 3) := by decide +kernel
theorem dL_law_599 : decode code 599 = .ok (.istore 6, 2) := by decide +kernel
theorem dL_law_601 : decode code 601 = .ok (.aload_n 2, 1) := by decide +kernel
theorem dL_law_602 : decode code 602 = .ok (.invokevirtual 61, 3) := by decide +kernel
theorem dL_law_605 : decode code 605 = .ok (.iload 5, 2) := by decide +kernel
theorem dL_law_607 : decode code 607 = .ok (.if_icmp .eq 5, 3) := by decide +kernel
theorem dL_law_610 : decode code 610 = .ok (.iconst 0, 1) := by decide +kernel
theorem dL_law_611 : decode code 611 = .ok (.ireturn, 1) := by decide +kernel
theorem dL_law_612 : decode code 612 = .ok (.iload 5, 2) := by decide +kernel
theorem dL_law_614 : decode code 614 = .ok (.ifCond .ne 15, 3) := by decide +kernel
theorem dL_law_617 : decode code 617 = .ok (.aload_n 3, 1) := by decide +kernel
theorem dL_law_618 : decode code 618 = .ok (.iconst 0, 1) := by decide +kernel
theorem dL_law_619 : decode code 619 = .ok (.laload, 1) := by decide +kernel
theorem dL_law_620 : decode code 620 = .ok (.iload 6, 2) := by decide +kernel
theorem dL_law_622 : decode code 622 = .ok (.i2l, 1) := by decide +kernel
theorem dL_law_623 : decode code 623 = .ok (.lcmp, 1) := by decide +kernel
theorem dL_law_624 : decode code 624 = .ok (.ifCond .eq 5, 3) := by decide +kernel
theorem dL_law_627 : decode code 627 = .ok (.iconst 0, 1) := by decide +kernel
theorem dL_law_628 : decode code 628 = .ok (.ireturn, 1) := by decide +kernel
theorem dL_law_629 : decode code 629 = .ok (.goto 3, 3) := by decide +kernel
theorem dL_law_632 : decode code 632 = .ok (.iinc 4 5, 3) := by decide +kernel
theorem dL_law_635 : decode code 635 = .ok (.goto (-612), 3) := by decide +kernel
theorem dL_law_638 : decode code 638 = .ok (.iconst 1, 1) := by decide +kernel
theorem dL_law_639 : decode code 639 = .ok (.ireturn, 1) := by decide +kernel
end
section
theorem dX0_init_0 : decode prog_2_method_1_code 0 = .ok (.aload_n 0, 1) := by decide +kernel
theorem dX0_init_1 : decode prog_2_method_1_code 1 = .ok (.invokespecial 3, 3) := by decide +kernel
theorem dX0_init_4 : decode prog_2_method_1_code 4 = .ok (.aload_n 0, 1) := by decide +kernel
theorem dX0_init_5 : decode prog_2_method_1_code 5 = .ok (.bipush 16, 2) := by decide +kernel
theorem dX0_init_7 : decode prog_2_method_1_code 7 = .ok (.newarray .int, 2) := by decide +kernel
theorem dX0_init_9 : decode prog_2_method_1_code 9 = .ok (.putfield 9, 3) := by decide +kernel
theorem dX0_init_12 : decode prog_2_method_1_code 12 = .ok (.aload_n 0, 1) := by decide +kernel
theorem dX0_init_13 : decode prog_2_method_1_code 13 = .ok (.bipush 16, 2) := by decide +kernel
theorem dX0_init_15 : decode prog_2_method_1_code 15 = .ok (.newarray .int, 2) := by decide +kernel
theorem dX0_init_17 : decode prog_2_method_1_code 17 = .ok (.putfield 15, 3) := by decide +kernel
theorem dX0_init_20 : decode prog_2_method_1_code 20 = .ok (.return_, 1) := by decide +kernel
theorem dX0_append_0 : decode prog_2_method_2_code 0 = .ok (.aload_n 0, 1) := by decide +kernel
theorem dX0_append_1 : decode prog_2_method_2_code 1 = .ok (.getfield 18, 3) := by decide +kernel
theorem dX0_append_4 : decode prog_2_method_2_code 4 = .ok (.bipush 16, 2) := by decide +kernel
theorem dX0_append_6 : decode prog_2_method_2_code 6 = .ok (.if_icmp .ge 33, 3) := by decide +kernel
theorem dX0_append_9 : decode prog_2_method_2_code 9 = .ok (.aload_n 0, 1) := by decide +kernel
theorem dX0_append_10 : decode prog_2_method_2_code 10 = .ok (.getfield 9, 3) := by decide +kernel
theorem dX0_append_13 : decode prog_2_method_2_code 13 = .ok (.aload_n 0, 1) := by decide +kernel
theorem dX0_append_14 : decode prog_2_method_2_code 14 = .ok (.getfield 18, 3) := by decide +kernel
theorem dX0_append_17 : decode prog_2_method_2_code 17 = .ok (.iload_n 1, 1) := by decide +kernel
theorem dX0_append_18 : decode prog_2_method_2_code 18 = .ok (.iastore, 1) := by decide +kernel
theorem dX0_append_19 : decode prog_2_method_2_code 19 = .ok (.aload_n 0, 1) := by decide +kernel
theorem dX0_append_20 : decode prog_2_method_2_code 20 = .ok (.getfield 15, 3) := by decide +kernel
theorem dX0_append_23 : decode prog_2_method_2_code 23 = .ok (.aload_n 0, 1) := by decide +kernel
theorem dX0_append_24 : decode prog_2_method_2_code 24 = .ok (.getfield 18, 3) := by decide +kernel
theorem dX0_append_27 : decode prog_2_method_2_code 27 = .ok (.iload_n 2, 1) := by decide +kernel
theorem dX0_append_28 : decode prog_2_method_2_code 28 = .ok (.iastore, 1) := by decide +kernel
theorem dX0_append_29 : decode prog_2_method_2_code 29 = .ok (.aload_n 0, 1) := by decide +kernel
theorem dX0_append_30 : decode prog_2_method_2_code 30 = .ok (.dup, 1) := by decide +kernel
theorem dX0_append_31 : decode prog_2_method_2_code 31 = .ok (.getfield 18, 3) := by decide +kernel
theorem dX0_append_34 : decode prog_2_method_2_code 34 = .ok (.iconst 1, 1) := by decide +kernel
theorem dX0_append_35 : decode prog_2_method_2_code 35 = .ok (.iadd, 1) := by decide +kernel
theorem dX0_append_36 : decode prog_2_method_2_code 36 = .ok (.putfield 18, 3) := by decide +kernel
theorem dX0_append_39 : decode prog_2_method_2_code 39 = .ok (.return_, 1) := by decide +kernel
end
section
theorem dX1_init_0 : decode prog_3_method_1_code 0 = .ok (.aload_n 0, 1) := by decide +kernel
theorem dX1_init_1 : decode prog_3_method_1_code 1 = .ok (.invokespecial 3, 3) := by decide +kernel
theorem dX1_init_4 : decode prog_3_method_1_code 4 = .ok (.aload_n 0, 1) := by decide +kernel
theorem dX1_init_5 : decode prog_3_method_1_code 5 = .ok (.bipush 48, 2) := by decide +kernel
theorem dX1_init_7 : decode prog_3_method_1_code 7 = .ok (.newarray .int, 2) := by decide +kernel
theorem dX1_init_9 : decode prog_3_method_1_code 9 = .ok (.putfield 9, 3) := by decide +kernel
theorem dX1_init_12 : decode prog_3_method_1_code 12 = .ok (.aload_n 0, 1) := by decide +kernel
theorem dX1_init_13 : decode prog_3_method_1_code 13 = .ok (.bipush 48, 2) := by decide +kernel
theorem dX1_init_15 : decode prog_3_method_1_code 15 = .ok (.newarray .int, 2) := by decide +kernel
theorem dX1_init_17 : decode prog_3_method_1_code 17 = .ok (.putfield 15, 3) := by decide +kernel
theorem dX1_init_20 : decode prog_3_method_1_code 20 = .ok (.aload_n 0, 1) := by decide +kernel
theorem dX1_init_21 : decode prog_3_method_1_code 21 = .ok (.bipush 48, 2) := by decide +kernel
theorem dX1_init_23 : decode prog_3_method_1_code 23 = .ok (.newarray .int, 2) := by decide +kernel
theorem dX1_init_25 : decode prog_3_method_1_code 25 = .ok (.putfield 18, 3) := by decide +kernel
theorem dX1_init_28 : decode prog_3_method_1_code 28 = .ok (.return_, 1) := by decide +kernel
theorem dX1_reset_0 : decode prog_3_method_2_code 0 = .ok (.aload_n 0, 1) := by decide +kernel
theorem dX1_reset_1 : decode prog_3_method_2_code 1 = .ok (.iconst 0, 1) := by decide +kernel
theorem dX1_reset_2 : decode prog_3_method_2_code 2 = .ok (.putfield 21, 3) := by decide +kernel
theorem dX1_reset_5 : decode prog_3_method_2_code 5 = .ok (.aload_n 0, 1) := by decide +kernel
theorem dX1_reset_6 : decode prog_3_method_2_code 6 = .ok (.getfield 9, 3) := by decide +kernel
theorem dX1_reset_9 : decode prog_3_method_2_code 9 = .ok (.iconst 0, 1) := by decide +kernel
theorem dX1_reset_10 : decode prog_3_method_2_code 10 = .ok (.invokestatic 25, 3) := by decide +kernel
theorem dX1_reset_13 : decode prog_3_method_2_code 13 = .ok (.return_, 1) := by decide +kernel
theorem dX1_join_0 : decode prog_3_method_3_code 0 = .ok (.aload_n 0, 1) := by decide +kernel
theorem dX1_join_1 : decode prog_3_method_3_code 1 = .ok (.getfield 9, 3) := by decide +kernel
theorem dX1_join_4 : decode prog_3_method_3_code 4 = .ok (.iload_n 1, 1) := by decide +kernel
theorem dX1_join_5 : decode prog_3_method_3_code 5 = .ok (.iload_n 2, 1) := by decide +kernel
theorem dX1_join_6 : decode prog_3_method_3_code 6 = .ok (.iastore, 1) := by decide +kernel
theorem dX1_join_7 : decode prog_3_method_3_code 7 = .ok (.aload_n 0, 1) := by decide +kernel
theorem dX1_join_8 : decode prog_3_method_3_code 8 = .ok (.getfield 15, 3) := by decide +kernel
theorem dX1_join_11 : decode prog_3_method_3_code 11 = .ok (.iload_n 1, 1) := by decide +kernel
theorem dX1_join_12 : decode prog_3_method_3_code 12 = .ok (.aload_n 0, 1) := by decide +kernel
theorem dX1_join_13 : decode prog_3_method_3_code 13 = .ok (.getfield 21, 3) := by decide +kernel
theorem dX1_join_16 : decode prog_3_method_3_code 16 = .ok (.iastore, 1) := by decide +kernel
theorem dX1_join_17 : decode prog_3_method_3_code 17 = .ok (.aload_n 0, 1) := by decide +kernel
theorem dX1_join_18 : decode prog_3_method_3_code 18 = .ok (.getfield 18, 3) := by decide +kernel
theorem dX1_join_21 : decode prog_3_method_3_code 21 = .ok (.iload_n 1, 1) := by decide +kernel
theorem dX1_join_22 : decode prog_3_method_3_code 22 = .ok (.aload_n 0, 1) := by decide +kernel
theorem dX1_join_23 : decode prog_3_method_3_code 23 = .ok (.getfield 21, 3) := by decide +kernel
theorem dX1_join_26 : decode prog_3_method_3_code 26 = .ok (.iastore, 1) := by decide +kernel
theorem dX1_join_27 : decode prog_3_method_3_code 27 = .ok (.return_, 1) := by decide +kernel
theorem dX1_copy_0 : decode prog_3_method_4_code 0 = .ok (.aload_n 0, 1) := by decide +kernel
theorem dX1_copy_1 : decode prog_3_method_4_code 1 = .ok (.getfield 9, 3) := by decide +kernel
theorem dX1_copy_4 : decode prog_3_method_4_code 4 = .ok (.iload_n 2, 1) := by decide +kernel
theorem dX1_copy_5 : decode prog_3_method_4_code 5 = .ok (.aload_n 0, 1) := by decide +kernel
theorem dX1_copy_6 : decode prog_3_method_4_code 6 = .ok (.getfield 9, 3) := by decide +kernel
theorem dX1_copy_9 : decode prog_3_method_4_code 9 = .ok (.iload_n 1, 1) := by decide +kernel
theorem dX1_copy_10 : decode prog_3_method_4_code 10 = .ok (.iaload, 1) := by decide +kernel
theorem dX1_copy_11 : decode prog_3_method_4_code 11 = .ok (.iastore, 1) := by decide +kernel
theorem dX1_copy_12 : decode prog_3_method_4_code 12 = .ok (.aload_n 0, 1) := by decide +kernel
theorem dX1_copy_13 : decode prog_3_method_4_code 13 = .ok (.getfield 15, 3) := by decide +kernel
theorem dX1_copy_16 : decode prog_3_method_4_code 16 = .ok (.iload_n 2, 1) := by decide +kernel
theorem dX1_copy_17 : decode prog_3_method_4_code 17 = .ok (.aload_n 0, 1) := by decide +kernel
theorem dX1_copy_18 : decode prog_3_method_4_code 18 = .ok (.getfield 15, 3) := by decide +kernel
theorem dX1_copy_21 : decode prog_3_method_4_code 21 = .ok (.iload_n 1, 1) := by decide +kernel
theorem dX1_copy_22 : decode prog_3_method_4_code 22 = .ok (.iaload, 1) := by decide +kernel
theorem dX1_copy_23 : decode prog_3_method_4_code 23 = .ok (.iastore, 1) := by decide +kernel
theorem dX1_copy_24 : decode prog_3_method_4_code 24 = .ok (.aload_n 0, 1) := by decide +kernel
theorem dX1_copy_25 : decode prog_3_method_4_code 25 = .ok (.getfield 18, 3) := by decide +kernel
theorem dX1_copy_28 : decode prog_3_method_4_code 28 = .ok (.iload_n 2, 1) := by decide +kernel
theorem dX1_copy_29 : decode prog_3_method_4_code 29 = .ok (.aload_n 0, 1) := by decide +kernel
theorem dX1_copy_30 : decode prog_3_method_4_code 30 = .ok (.getfield 18, 3) := by decide +kernel
theorem dX1_copy_33 : decode prog_3_method_4_code 33 = .ok (.iload_n 1, 1) := by decide +kernel
theorem dX1_copy_34 : decode prog_3_method_4_code 34 = .ok (.iaload, 1) := by decide +kernel
theorem dX1_copy_35 : decode prog_3_method_4_code 35 = .ok (.iastore, 1) := by decide +kernel
theorem dX1_copy_36 : decode prog_3_method_4_code 36 = .ok (.return_, 1) := by decide +kernel
theorem dX1_leave_0 : decode prog_3_method_5_code 0 = .ok (.aload_n 0, 1) := by decide +kernel
theorem dX1_leave_1 : decode prog_3_method_5_code 1 = .ok (.getfield 9, 3) := by decide +kernel
theorem dX1_leave_4 : decode prog_3_method_5_code 4 = .ok (.iload_n 1, 1) := by decide +kernel
theorem dX1_leave_5 : decode prog_3_method_5_code 5 = .ok (.iconst 0, 1) := by decide +kernel
theorem dX1_leave_6 : decode prog_3_method_5_code 6 = .ok (.iastore, 1) := by decide +kernel
theorem dX1_leave_7 : decode prog_3_method_5_code 7 = .ok (.aload_n 0, 1) := by decide +kernel
theorem dX1_leave_8 : decode prog_3_method_5_code 8 = .ok (.invokevirtual 31, 3) := by decide +kernel
theorem dX1_leave_11 : decode prog_3_method_5_code 11 = .ok (.return_, 1) := by decide +kernel
theorem dX1_signal_0 : decode prog_3_method_6_code 0 = .ok (.aload_n 0, 1) := by decide +kernel
theorem dX1_signal_1 : decode prog_3_method_6_code 1 = .ok (.getfield 9, 3) := by decide +kernel
theorem dX1_signal_4 : decode prog_3_method_6_code 4 = .ok (.iload_n 1, 1) := by decide +kernel
theorem dX1_signal_5 : decode prog_3_method_6_code 5 = .ok (.iaload, 1) := by decide +kernel
theorem dX1_signal_6 : decode prog_3_method_6_code 6 = .ok (.iconst 1, 1) := by decide +kernel
theorem dX1_signal_7 : decode prog_3_method_6_code 7 = .ok (.iand, 1) := by decide +kernel
theorem dX1_signal_8 : decode prog_3_method_6_code 8 = .ok (.ifCond .eq 17, 3) := by decide +kernel
theorem dX1_signal_11 : decode prog_3_method_6_code 11 = .ok (.aload_n 0, 1) := by decide +kernel
theorem dX1_signal_12 : decode prog_3_method_6_code 12 = .ok (.getfield 15, 3) := by decide +kernel
theorem dX1_signal_15 : decode prog_3_method_6_code 15 = .ok (.iload_n 1, 1) := by decide +kernel
theorem dX1_signal_16 : decode prog_3_method_6_code 16 = .ok (.dup2, 1) := by decide +kernel
theorem dX1_signal_17 : decode prog_3_method_6_code 17 = .ok (.iaload, 1) := by decide +kernel
theorem dX1_signal_18 : decode prog_3_method_6_code 18 = .ok (.iconst 1, 1) := by decide +kernel
theorem dX1_signal_19 : decode prog_3_method_6_code 19 = .ok (.iadd, 1) := by decide +kernel
theorem dX1_signal_20 : decode prog_3_method_6_code 20 = .ok (.iastore, 1) := by decide +kernel
theorem dX1_signal_21 : decode prog_3_method_6_code 21 = .ok (.aload_n 0, 1) := by decide +kernel
theorem dX1_signal_22 : decode prog_3_method_6_code 22 = .ok (.invokevirtual 31, 3) := by decide +kernel
theorem dX1_signal_25 : decode prog_3_method_6_code 25 = .ok (.return_, 1) := by decide +kernel
theorem dX1_holdsBack_0 : decode prog_3_method_7_code 0 = .ok (.aload_n 0, 1) := by decide +kernel
theorem dX1_holdsBack_1 : decode prog_3_method_7_code 1 = .ok (.getfield 9, 3) := by decide +kernel
theorem dX1_holdsBack_4 : decode prog_3_method_7_code 4 = .ok (.iload_n 1, 1) := by decide +kernel
theorem dX1_holdsBack_5 : decode prog_3_method_7_code 5 = .ok (.iaload, 1) := by decide +kernel
theorem dX1_holdsBack_6 : decode prog_3_method_7_code 6 = .ok (.iconst 2, 1) := by decide +kernel
theorem dX1_holdsBack_7 : decode prog_3_method_7_code 7 = .ok (.iand, 1) := by decide +kernel
theorem dX1_holdsBack_8 : decode prog_3_method_7_code 8 = .ok (.ifCond .eq 20, 3) := by decide +kernel
theorem dX1_holdsBack_11 : decode prog_3_method_7_code 11 = .ok (.aload_n 0, 1) := by decide +kernel
theorem dX1_holdsBack_12 : decode prog_3_method_7_code 12 = .ok (.getfield 21, 3) := by decide +kernel
theorem dX1_holdsBack_15 : decode prog_3_method_7_code 15 = .ok (.aload_n 0, 1) := by decide +kernel
theorem dX1_holdsBack_16 : decode prog_3_method_7_code 16 = .ok (.getfield 18, 3) := by decide +kernel
theorem dX1_holdsBack_19 : decode prog_3_method_7_code 19 = .ok (.iload_n 1, 1) := by decide +kernel
theorem dX1_holdsBack_20 : decode prog_3_method_7_code 20 = .ok (.iaload, 1) := by decide +kernel
theorem dX1_holdsBack_21 : decode prog_3_method_7_code 21 = .ok (.if_icmp .gt 7, 3) := by decide +kernel
theorem dX1_holdsBack_24 : decode prog_3_method_7_code 24 = .ok (.iconst 1, 1) := by decide +kernel
theorem dX1_holdsBack_25 : decode prog_3_method_7_code 25 = .ok (.goto 4, 3) := by decide +kernel
theorem dX1_holdsBack_28 : decode prog_3_method_7_code 28 = .ok (.iconst 0, 1) := by decide +kernel
theorem dX1_holdsBack_29 : decode prog_3_method_7_code 29 = .ok (.ireturn, 1) := by decide +kernel
theorem dX1_pass_0 : decode prog_3_method_8_code 0 = .ok (.aload_n 0, 1) := by decide +kernel
theorem dX1_pass_1 : decode prog_3_method_8_code 1 = .ok (.getfield 9, 3) := by decide +kernel
theorem dX1_pass_4 : decode prog_3_method_8_code 4 = .ok (.iload_n 1, 1) := by decide +kernel
theorem dX1_pass_5 : decode prog_3_method_8_code 5 = .ok (.iaload, 1) := by decide +kernel
theorem dX1_pass_6 : decode prog_3_method_8_code 6 = .ok (.iconst 2, 1) := by decide +kernel
theorem dX1_pass_7 : decode prog_3_method_8_code 7 = .ok (.iand, 1) := by decide +kernel
theorem dX1_pass_8 : decode prog_3_method_8_code 8 = .ok (.ifCond .eq 13, 3) := by decide +kernel
theorem dX1_pass_11 : decode prog_3_method_8_code 11 = .ok (.aload_n 0, 1) := by decide +kernel
theorem dX1_pass_12 : decode prog_3_method_8_code 12 = .ok (.getfield 18, 3) := by decide +kernel
theorem dX1_pass_15 : decode prog_3_method_8_code 15 = .ok (.iload_n 1, 1) := by decide +kernel
theorem dX1_pass_16 : decode prog_3_method_8_code 16 = .ok (.dup2, 1) := by decide +kernel
theorem dX1_pass_17 : decode prog_3_method_8_code 17 = .ok (.iaload, 1) := by decide +kernel
theorem dX1_pass_18 : decode prog_3_method_8_code 18 = .ok (.iconst 1, 1) := by decide +kernel
theorem dX1_pass_19 : decode prog_3_method_8_code 19 = .ok (.iadd, 1) := by decide +kernel
theorem dX1_pass_20 : decode prog_3_method_8_code 20 = .ok (.iastore, 1) := by decide +kernel
theorem dX1_pass_21 : decode prog_3_method_8_code 21 = .ok (.return_, 1) := by decide +kernel
theorem dX1_raisePhase_0 : decode prog_3_method_9_code 0 = .ok (.iconst 0, 1) := by decide +kernel
theorem dX1_raisePhase_1 : decode prog_3_method_9_code 1 = .ok (.istore_n 1, 1) := by decide +kernel
theorem dX1_raisePhase_2 : decode prog_3_method_9_code 2 = .ok (.iconst 0, 1) := by decide +kernel
theorem dX1_raisePhase_3 : decode prog_3_method_9_code 3 = .ok (.istore_n 2, 1) := by decide +kernel
theorem dX1_raisePhase_4 : decode prog_3_method_9_code 4 = .ok (.iconst 0, 1) := by decide +kernel
theorem dX1_raisePhase_5 : decode prog_3_method_9_code 5 = .ok (.istore_n 3, 1) := by decide +kernel
theorem dX1_raisePhase_6 : decode prog_3_method_9_code 6 = .ok (.iload_n 3, 1) := by decide +kernel
theorem dX1_raisePhase_7 : decode prog_3_method_9_code 7 = .ok (.bipush 48, 2) := by decide +kernel
theorem dX1_raisePhase_9 : decode prog_3_method_9_code 9 = .ok (.if_icmp .ge 43, 3) := by decide +kernel
theorem dX1_raisePhase_12 : decode prog_3_method_9_code 12 = .ok (.aload_n 0, 1) := by decide +kernel
theorem dX1_raisePhase_13 : decode prog_3_method_9_code 13 = .ok (.getfield 9, 3) := by decide +kernel
theorem dX1_raisePhase_16 : decode prog_3_method_9_code 16 = .ok (.iload_n 3, 1) := by decide +kernel
theorem dX1_raisePhase_17 : decode prog_3_method_9_code 17 = .ok (.iaload, 1) := by decide +kernel
theorem dX1_raisePhase_18 : decode prog_3_method_9_code 18 = .ok (.iconst 1, 1) := by decide +kernel
theorem dX1_raisePhase_19 : decode prog_3_method_9_code 19 = .ok (.iand, 1) := by decide +kernel
theorem dX1_raisePhase_20 : decode prog_3_method_9_code 20 = .ok (.ifCond .eq 26, 3) := by decide +kernel
theorem dX1_raisePhase_23 : decode prog_3_method_9_code 23 = .ok (.iload_n 1, 1) := by decide +kernel
theorem dX1_raisePhase_24 : decode prog_3_method_9_code 24 = .ok (.ifCond .eq 13, 3) := by decide +kernel
theorem dX1_raisePhase_27 : decode prog_3_method_9_code 27 = .ok (.aload_n 0, 1) := by decide +kernel
theorem dX1_raisePhase_28 : decode prog_3_method_9_code 28 = .ok (.getfield 15, 3) := by decide +kernel
theorem dX1_raisePhase_31 : decode prog_3_method_9_code 31 = .ok (.iload_n 3, 1) := by decide +kernel
theorem dX1_raisePhase_32 : decode prog_3_method_9_code 32 = .ok (.iaload, 1) := by decide +kernel
theorem dX1_raisePhase_33 : decode prog_3_method_9_code 33 = .ok (.iload_n 2, 1) := by decide +kernel
theorem dX1_raisePhase_34 : decode prog_3_method_9_code 34 = .ok (.if_icmp .ge 12, 3) := by decide +kernel
theorem dX1_raisePhase_37 : decode prog_3_method_9_code 37 = .ok (.iconst 1, 1) := by decide +kernel
theorem dX1_raisePhase_38 : decode prog_3_method_9_code 38 = .ok (.istore_n 1, 1) := by decide +kernel
theorem dX1_raisePhase_39 : decode prog_3_method_9_code 39 = .ok (.aload_n 0, 1) := by decide +kernel
theorem dX1_raisePhase_40 : decode prog_3_method_9_code 40 = .ok (.getfield 15, 3) := by decide +kernel
theorem dX1_raisePhase_43 : decode prog_3_method_9_code 43 = .ok (.iload_n 3, 1) := by decide +kernel
theorem dX1_raisePhase_44 : decode prog_3_method_9_code 44 = .ok (.iaload, 1) := by decide +kernel
theorem dX1_raisePhase_45 : decode prog_3_method_9_code 45 = .ok (.istore_n 2, 1) := by decide +kernel
theorem dX1_raisePhase_46 : decode prog_3_method_9_code 46 = .ok (.iinc 3 1, 3) := by decide +kernel
theorem dX1_raisePhase_49 : decode prog_3_method_9_code 49 = .ok (.goto (-43), 3) := by decide +kernel
theorem dX1_raisePhase_52 : decode prog_3_method_9_code 52 = .ok (.iload_n 1, 1) := by decide +kernel
theorem dX1_raisePhase_53 : decode prog_3_method_9_code 53 = .ok (.ifCond .eq 16, 3) := by decide +kernel
theorem dX1_raisePhase_56 : decode prog_3_method_9_code 56 = .ok (.iload_n 2, 1) := by decide +kernel
theorem dX1_raisePhase_57 : decode prog_3_method_9_code 57 = .ok (.aload_n 0, 1) := by decide +kernel
theorem dX1_raisePhase_58 : decode prog_3_method_9_code 58 = .ok (.getfield 21, 3) := by decide +kernel
theorem dX1_raisePhase_61 : decode prog_3_method_9_code 61 = .ok (.if_icmp .le 8, 3) := by decide +kernel
theorem dX1_raisePhase_64 : decode prog_3_method_9_code 64 = .ok (.aload_n 0, 1) := by decide +kernel
theorem dX1_raisePhase_65 : decode prog_3_method_9_code 65 = .ok (.iload_n 2, 1) := by decide +kernel
theorem dX1_raisePhase_66 : decode prog_3_method_9_code 66 = .ok (.putfield 21, 3) := by decide +kernel
theorem dX1_raisePhase_69 : decode prog_3_method_9_code 69 = .ok (.return_, 1) := by decide +kernel
end
section
theorem dX2_init_0 : decode prog_4_method_1_code 0 = .ok (.aload_n 0, 1) := by decide +kernel
theorem dX2_init_1 : decode prog_4_method_1_code 1 = .ok (.invokespecial 3, 3) := by decide +kernel
theorem dX2_init_4 : decode prog_4_method_1_code 4 = .ok (.aload_n 0, 1) := by decide +kernel
theorem dX2_init_5 : decode prog_4_method_1_code 5 = .ok (.aload_n 1, 1) := by decide +kernel
theorem dX2_init_6 : decode prog_4_method_1_code 6 = .ok (.putfield 9, 3) := by decide +kernel
theorem dX2_init_9 : decode prog_4_method_1_code 9 = .ok (.aload_n 0, 1) := by decide +kernel
theorem dX2_init_10 : decode prog_4_method_1_code 10 = .ok (.new 15, 3) := by decide +kernel
theorem dX2_init_13 : decode prog_4_method_1_code 13 = .ok (.dup, 1) := by decide +kernel
theorem dX2_init_14 : decode prog_4_method_1_code 14 = .ok (.invokespecial 17, 3) := by decide +kernel
theorem dX2_init_17 : decode prog_4_method_1_code 17 = .ok (.putfield 18, 3) := by decide +kernel
theorem dX2_init_20 : decode prog_4_method_1_code 20 = .ok (.aload_n 0, 1) := by decide +kernel
theorem dX2_init_21 : decode prog_4_method_1_code 21 = .ok (.bipush 48, 2) := by decide +kernel
theorem dX2_init_23 : decode prog_4_method_1_code 23 = .ok (.anewarray 22, 3) := by decide +kernel
theorem dX2_init_26 : decode prog_4_method_1_code 26 = .ok (.putfield 24, 3) := by decide +kernel
theorem dX2_init_29 : decode prog_4_method_1_code 29 = .ok (.iconst 0, 1) := by decide +kernel
theorem dX2_init_30 : decode prog_4_method_1_code 30 = .ok (.istore_n 2, 1) := by decide +kernel
theorem dX2_init_31 : decode prog_4_method_1_code 31 = .ok (.iload_n 2, 1) := by decide +kernel
theorem dX2_init_32 : decode prog_4_method_1_code 32 = .ok (.bipush 48, 2) := by decide +kernel
theorem dX2_init_34 : decode prog_4_method_1_code 34 = .ok (.if_icmp .ge 27, 3) := by decide +kernel
theorem dX2_init_37 : decode prog_4_method_1_code 37 = .ok (.aload_n 0, 1) := by decide +kernel
theorem dX2_init_38 : decode prog_4_method_1_code 38 = .ok (.getfield 24, 3) := by decide +kernel
theorem dX2_init_41 : decode prog_4_method_1_code 41 = .ok (.iload_n 2, 1) := by decide +kernel
theorem dX2_init_42 : decode prog_4_method_1_code 42 = .ok (.new 22, 3) := by decide +kernel
theorem dX2_init_45 : decode prog_4_method_1_code 45 = .ok (.dup, 1) := by decide +kernel
theorem dX2_init_46 : decode prog_4_method_1_code 46 = .ok (.iload_n 2, 1) := by decide +kernel
theorem dX2_init_47 : decode prog_4_method_1_code 47 = .ok (.aload_n 0, 1) := by decide +kernel
theorem dX2_init_48 : decode prog_4_method_1_code 48 = .ok (.getfield 18, 3) := by decide +kernel
theorem dX2_init_51 : decode prog_4_method_1_code 51 = .ok (.invokespecial 28, 3) := by decide +kernel
theorem dX2_init_54 : decode prog_4_method_1_code 54 = .ok (.aastore, 1) := by decide +kernel
theorem dX2_init_55 : decode prog_4_method_1_code 55 = .ok (.iinc 2 1, 3) := by decide +kernel
theorem dX2_init_58 : decode prog_4_method_1_code 58 = .ok (.goto (-27), 3) := by decide +kernel
theorem dX2_init_61 : decode prog_4_method_1_code 61 = .ok (.aload_n 0, 1) := by decide +kernel
theorem dX2_init_62 : decode prog_4_method_1_code 62 = .ok (.iconst 2, 1) := by decide +kernel
theorem dX2_init_63 : decode prog_4_method_1_code 63 = .ok (.anewarray 31, 3) := by decide +kernel
theorem dX2_init_66 : decode prog_4_method_1_code 66 = .ok (.putfield 33, 3) := by decide +kernel
theorem dX2_init_69 : decode prog_4_method_1_code 69 = .ok (.iconst 0, 1) := by decide +kernel
theorem dX2_init_70 : decode prog_4_method_1_code 70 = .ok (.istore_n 2, 1) := by decide +kernel
theorem dX2_init_71 : decode prog_4_method_1_code 71 = .ok (.iload_n 2, 1) := by decide +kernel
theorem dX2_init_72 : decode prog_4_method_1_code 72 = .ok (.iconst 2, 1) := by decide +kernel
theorem dX2_init_73 : decode prog_4_method_1_code 73 = .ok (.if_icmp .ge 22, 3) := by decide +kernel
theorem dX2_init_76 : decode prog_4_method_1_code 76 = .ok (.aload_n 0, 1) := by decide +kernel
theorem dX2_init_77 : decode prog_4_method_1_code 77 = .ok (.getfield 33, 3) := by decide +kernel
theorem dX2_init_80 : decode prog_4_method_1_code 80 = .ok (.iload_n 2, 1) := by decide +kernel
theorem dX2_init_81 : decode prog_4_method_1_code 81 = .ok (.new 31, 3) := by decide +kernel
theorem dX2_init_84 : decode prog_4_method_1_code 84 = .ok (.dup, 1) := by decide +kernel
theorem dX2_init_85 : decode prog_4_method_1_code 85 = .ok (.invokespecial 37, 3) := by decide +kernel
theorem dX2_init_88 : decode prog_4_method_1_code 88 = .ok (.aastore, 1) := by decide +kernel
theorem dX2_init_89 : decode prog_4_method_1_code 89 = .ok (.iinc 2 1, 3) := by decide +kernel
theorem dX2_init_92 : decode prog_4_method_1_code 92 = .ok (.goto (-21), 3) := by decide +kernel
theorem dX2_init_95 : decode prog_4_method_1_code 95 = .ok (.aload_n 0, 1) := by decide +kernel
theorem dX2_init_96 : decode prog_4_method_1_code 96 = .ok (.iconst 3, 1) := by decide +kernel
theorem dX2_init_97 : decode prog_4_method_1_code 97 = .ok (.anewarray 38, 3) := by decide +kernel
theorem dX2_init_100 : decode prog_4_method_1_code 100 = .ok (.putfield 40, 3) := by decide +kernel
theorem dX2_init_103 : decode prog_4_method_1_code 103 = .ok (.iconst 0, 1) := by decide +kernel
theorem dX2_init_104 : decode prog_4_method_1_code 104 = .ok (.istore_n 2, 1) := by decide +kernel
theorem dX2_init_105 : decode prog_4_method_1_code 105 = .ok (.iload_n 2, 1) := by decide +kernel
theorem dX2_init_106 : decode prog_4_method_1_code 106 = .ok (.iconst 3, 1) := by decide +kernel
theorem dX2_init_107 : decode prog_4_method_1_code 107 = .ok (.if_icmp .ge 22, 3) := by decide +kernel
theorem dX2_init_110 : decode prog_4_method_1_code 110 = .ok (.aload_n 0, 1) := by decide +kernel
theorem dX2_init_111 : decode prog_4_method_1_code 111 = .ok (.getfield 40, 3) := by decide +kernel
theorem dX2_init_114 : decode prog_4_method_1_code 114 = .ok (.iload_n 2, 1) := by decide +kernel
theorem dX2_init_115 : decode prog_4_method_1_code 115 = .ok (.new 38, 3) := by decide +kernel
theorem dX2_init_118 : decode prog_4_method_1_code 118 = .ok (.dup, 1) := by decide +kernel
theorem dX2_init_119 : decode prog_4_method_1_code 119 = .ok (.invokespecial 44, 3) := by decide +kernel
theorem dX2_init_122 : decode prog_4_method_1_code 122 = .ok (.aastore, 1) := by decide +kernel
theorem dX2_init_123 : decode prog_4_method_1_code 123 = .ok (.iinc 2 1, 3) := by decide +kernel
theorem dX2_init_126 : decode prog_4_method_1_code 126 = .ok (.goto (-21), 3) := by decide +kernel
theorem dX2_init_129 : decode prog_4_method_1_code 129 = .ok (.aload_n 0, 1) := by decide +kernel
theorem dX2_init_130 : decode prog_4_method_1_code 130 = .ok (.iconst 4, 1) := by decide +kernel
theorem dX2_init_131 : decode prog_4_method_1_code 131 = .ok (.newarray .int, 2) := by decide +kernel
theorem dX2_init_133 : decode prog_4_method_1_code 133 = .ok (.putfield 45, 3) := by decide +kernel
theorem dX2_init_136 : decode prog_4_method_1_code 136 = .ok (.aload_n 0, 1) := by decide +kernel
theorem dX2_init_137 : decode prog_4_method_1_code 137 = .ok (.iconst 4, 1) := by decide +kernel
theorem dX2_init_138 : decode prog_4_method_1_code 138 = .ok (.newarray .boolean, 2) := by decide +kernel
theorem dX2_init_140 : decode prog_4_method_1_code 140 = .ok (.putfield 49, 3) := by decide +kernel
theorem dX2_init_143 : decode prog_4_method_1_code 143 = .ok (.aload_n 0, 1) := by decide +kernel
theorem dX2_init_144 : decode prog_4_method_1_code 144 = .ok (.bipush 40, 2) := by decide +kernel
theorem dX2_init_146 : decode prog_4_method_1_code 146 = .ok (.newarray .int, 2) := by decide +kernel
theorem dX2_init_148 : decode prog_4_method_1_code 148 = .ok (.putfield 53, 3) := by decide +kernel
theorem dX2_init_151 : decode prog_4_method_1_code 151 = .ok (.return_, 1) := by decide +kernel
theorem dX2_reset_0 : decode prog_4_method_2_code 0 = .ok (.aload_n 0, 1) := by decide +kernel
theorem dX2_reset_1 : decode prog_4_method_2_code 1 = .ok (.iload_n 1, 1) := by decide +kernel
theorem dX2_reset_2 : decode prog_4_method_2_code 2 = .ok (.putfield 56, 3) := by decide +kernel
theorem dX2_reset_5 : decode prog_4_method_2_code 5 = .ok (.aload_n 0, 1) := by decide +kernel
theorem dX2_reset_6 : decode prog_4_method_2_code 6 = .ok (.iload_n 2, 1) := by decide +kernel
theorem dX2_reset_7 : decode prog_4_method_2_code 7 = .ok (.putfield 60, 3) := by decide +kernel
theorem dX2_reset_10 : decode prog_4_method_2_code 10 = .ok (.aload_n 0, 1) := by decide +kernel
theorem dX2_reset_11 : decode prog_4_method_2_code 11 = .ok (.iconst 0, 1) := by decide +kernel
theorem dX2_reset_12 : decode prog_4_method_2_code 12 = .ok (.putfield 64, 3) := by decide +kernel
theorem dX2_reset_15 : decode prog_4_method_2_code 15 = .ok (.aload_n 0, 1) := by decide +kernel
theorem dX2_reset_16 : decode prog_4_method_2_code 16 = .ok (.iconst 0, 1) := by decide +kernel
theorem dX2_reset_17 : decode prog_4_method_2_code 17 = .ok (.putfield 67, 3) := by decide +kernel
theorem dX2_reset_20 : decode prog_4_method_2_code 20 = .ok (.aload_n 0, 1) := by decide +kernel
theorem dX2_reset_21 : decode prog_4_method_2_code 21 = .ok (.iconst 0, 1) := by decide +kernel
theorem dX2_reset_22 : decode prog_4_method_2_code 22 = .ok (.putfield 70, 3) := by decide +kernel
theorem dX2_reset_25 : decode prog_4_method_2_code 25 = .ok (.aload_n 0, 1) := by decide +kernel
theorem dX2_reset_26 : decode prog_4_method_2_code 26 = .ok (.iconst 0, 1) := by decide +kernel
theorem dX2_reset_27 : decode prog_4_method_2_code 27 = .ok (.putfield 73, 3) := by decide +kernel
theorem dX2_reset_30 : decode prog_4_method_2_code 30 = .ok (.aload_n 0, 1) := by decide +kernel
theorem dX2_reset_31 : decode prog_4_method_2_code 31 = .ok (.iconst 0, 1) := by decide +kernel
theorem dX2_reset_32 : decode prog_4_method_2_code 32 = .ok (.putfield 76, 3) := by decide +kernel
theorem dX2_reset_35 : decode prog_4_method_2_code 35 = .ok (.aload_n 0, 1) := by decide +kernel
theorem dX2_reset_36 : decode prog_4_method_2_code 36 = .ok (.getfield 18, 3) := by decide +kernel
theorem dX2_reset_39 : decode prog_4_method_2_code 39 = .ok (.iconst 0, 1) := by decide +kernel
theorem dX2_reset_40 : decode prog_4_method_2_code 40 = .ok (.iconst 0, 1) := by decide +kernel
theorem dX2_reset_41 : decode prog_4_method_2_code 41 = .ok (.invokevirtual 79, 3) := by decide +kernel
theorem dX2_reset_44 : decode prog_4_method_2_code 44 = .ok (.iconst 0, 1) := by decide +kernel
theorem dX2_reset_45 : decode prog_4_method_2_code 45 = .ok (.istore_n 3, 1) := by decide +kernel
theorem dX2_reset_46 : decode prog_4_method_2_code 46 = .ok (.iload_n 3, 1) := by decide +kernel
theorem dX2_reset_47 : decode prog_4_method_2_code 47 = .ok (.iconst 4, 1) := by decide +kernel
theorem dX2_reset_48 : decode prog_4_method_2_code 48 = .ok (.if_icmp .ge 16, 3) := by decide +kernel
theorem dX2_reset_51 : decode prog_4_method_2_code 51 = .ok (.aload_n 0, 1) := by decide +kernel
theorem dX2_reset_52 : decode prog_4_method_2_code 52 = .ok (.getfield 49, 3) := by decide +kernel
theorem dX2_reset_55 : decode prog_4_method_2_code 55 = .ok (.iload_n 3, 1) := by decide +kernel
theorem dX2_reset_56 : decode prog_4_method_2_code 56 = .ok (.iconst 0, 1) := by decide +kernel
theorem dX2_reset_57 : decode prog_4_method_2_code 57 = .ok (.bastore, 1) := by decide +kernel
theorem dX2_reset_58 : decode prog_4_method_2_code 58 = .ok (.iinc 3 1, 3) := by decide +kernel
theorem dX2_reset_61 : decode prog_4_method_2_code 61 = .ok (.goto (-15), 3) := by decide +kernel
theorem dX2_reset_64 : decode prog_4_method_2_code 64 = .ok (.iconst 0, 1) := by decide +kernel
theorem dX2_reset_65 : decode prog_4_method_2_code 65 = .ok (.istore_n 3, 1) := by decide +kernel
theorem dX2_reset_66 : decode prog_4_method_2_code 66 = .ok (.iload_n 3, 1) := by decide +kernel
theorem dX2_reset_67 : decode prog_4_method_2_code 67 = .ok (.iconst 2, 1) := by decide +kernel
theorem dX2_reset_68 : decode prog_4_method_2_code 68 = .ok (.if_icmp .ge 18, 3) := by decide +kernel
theorem dX2_reset_71 : decode prog_4_method_2_code 71 = .ok (.aload_n 0, 1) := by decide +kernel
theorem dX2_reset_72 : decode prog_4_method_2_code 72 = .ok (.getfield 33, 3) := by decide +kernel
theorem dX2_reset_75 : decode prog_4_method_2_code 75 = .ok (.iload_n 3, 1) := by decide +kernel
theorem dX2_reset_76 : decode prog_4_method_2_code 76 = .ok (.aaload, 1) := by decide +kernel
theorem dX2_reset_77 : decode prog_4_method_2_code 77 = .ok (.invokevirtual 83, 3) := by decide +kernel
theorem dX2_reset_80 : decode prog_4_method_2_code 80 = .ok (.iinc 3 1, 3) := by decide +kernel
theorem dX2_reset_83 : decode prog_4_method_2_code 83 = .ok (.goto (-17), 3) := by decide +kernel
theorem dX2_reset_86 : decode prog_4_method_2_code 86 = .ok (.iconst 0, 1) := by decide +kernel
theorem dX2_reset_87 : decode prog_4_method_2_code 87 = .ok (.istore_n 3, 1) := by decide +kernel
theorem dX2_reset_88 : decode prog_4_method_2_code 88 = .ok (.iload_n 3, 1) := by decide +kernel
theorem dX2_reset_89 : decode prog_4_method_2_code 89 = .ok (.iconst 3, 1) := by decide +kernel
theorem dX2_reset_90 : decode prog_4_method_2_code 90 = .ok (.if_icmp .ge 18, 3) := by decide +kernel
theorem dX2_reset_93 : decode prog_4_method_2_code 93 = .ok (.aload_n 0, 1) := by decide +kernel
theorem dX2_reset_94 : decode prog_4_method_2_code 94 = .ok (.getfield 40, 3) := by decide +kernel
theorem dX2_reset_97 : decode prog_4_method_2_code 97 = .ok (.iload_n 3, 1) := by decide +kernel
theorem dX2_reset_98 : decode prog_4_method_2_code 98 = .ok (.aaload, 1) := by decide +kernel
theorem dX2_reset_99 : decode prog_4_method_2_code 99 = .ok (.invokevirtual 86, 3) := by decide +kernel
theorem dX2_reset_102 : decode prog_4_method_2_code 102 = .ok (.iinc 3 1, 3) := by decide +kernel
theorem dX2_reset_105 : decode prog_4_method_2_code 105 = .ok (.goto (-17), 3) := by decide +kernel
theorem dX2_reset_108 : decode prog_4_method_2_code 108 = .ok (.return_, 1) := by decide +kernel
theorem dX2_beginFirst_0 : decode prog_4_method_3_code 0 = .ok (.aload_n 0, 1) := by decide +kernel
theorem dX2_beginFirst_1 : decode prog_4_method_3_code 1 = .ok (.getfield 24, 3) := by decide +kernel
theorem dX2_beginFirst_4 : decode prog_4_method_3_code 4 = .ok (.iconst 0, 1) := by decide +kernel
theorem dX2_beginFirst_5 : decode prog_4_method_3_code 5 = .ok (.aaload, 1) := by decide +kernel
theorem dX2_beginFirst_6 : decode prog_4_method_3_code 6 = .ok (.iload_n 1, 1) := by decide +kernel
theorem dX2_beginFirst_7 : decode prog_4_method_3_code 7 = .ok (.iload_n 2, 1) := by decide +kernel
theorem dX2_beginFirst_8 : decode prog_4_method_3_code 8 = .ok (.aload_n 0, 1) := by decide +kernel
theorem dX2_beginFirst_9 : decode prog_4_method_3_code 9 = .ok (.getfield 18, 3) := by decide +kernel
theorem dX2_beginFirst_12 : decode prog_4_method_3_code 12 = .ok (.invokevirtual 87, 3) := by decide +kernel
theorem dX2_beginFirst_15 : decode prog_4_method_3_code 15 = .ok (.aload_n 0, 1) := by decide +kernel
theorem dX2_beginFirst_16 : decode prog_4_method_3_code 16 = .ok (.iconst 1, 1) := by decide +kernel
theorem dX2_beginFirst_17 : decode prog_4_method_3_code 17 = .ok (.putfield 64, 3) := by decide +kernel
theorem dX2_beginFirst_20 : decode prog_4_method_3_code 20 = .ok (.aload_n 0, 1) := by decide +kernel
theorem dX2_beginFirst_21 : decode prog_4_method_3_code 21 = .ok (.getfield 18, 3) := by decide +kernel
theorem dX2_beginFirst_24 : decode prog_4_method_3_code 24 = .ok (.iconst 1, 1) := by decide +kernel
theorem dX2_beginFirst_25 : decode prog_4_method_3_code 25 = .ok (.putfield 90, 3) := by decide +kernel
theorem dX2_beginFirst_28 : decode prog_4_method_3_code 28 = .ok (.aload_n 0, 1) := by decide +kernel
theorem dX2_beginFirst_29 : decode prog_4_method_3_code 29 = .ok (.getfield 40, 3) := by decide +kernel
theorem dX2_beginFirst_32 : decode prog_4_method_3_code 32 = .ok (.iconst 0, 1) := by decide +kernel
theorem dX2_beginFirst_33 : decode prog_4_method_3_code 33 = .ok (.aaload, 1) := by decide +kernel
theorem dX2_beginFirst_34 : decode prog_4_method_3_code 34 = .ok (.iconst 0, 1) := by decide +kernel
theorem dX2_beginFirst_35 : decode prog_4_method_3_code 35 = .ok (.invokevirtual 93, 3) := by decide +kernel
theorem dX2_beginFirst_38 : decode prog_4_method_3_code 38 = .ok (.return_, 1) := by decide +kernel
theorem dX2_isBegun_0 : decode prog_4_method_4_code 0 = .ok (.aload_n 0, 1) := by decide +kernel
theorem dX2_isBegun_1 : decode prog_4_method_4_code 1 = .ok (.getfield 64, 3) := by decide +kernel
theorem dX2_isBegun_4 : decode prog_4_method_4_code 4 = .ok (.ifCond .le 7, 3) := by decide +kernel
theorem dX2_isBegun_7 : decode prog_4_method_4_code 7 = .ok (.iconst 1, 1) := by decide +kernel
theorem dX2_isBegun_8 : decode prog_4_method_4_code 8 = .ok (.goto 4, 3) := by decide +kernel
theorem dX2_isBegun_11 : decode prog_4_method_4_code 11 = .ok (.iconst 0, 1) := by decide +kernel
theorem dX2_isBegun_12 : decode prog_4_method_4_code 12 = .ok (.ireturn, 1) := by decide +kernel
theorem dX2_isOver_0 : decode prog_4_method_5_code 0 = .ok (.aload_n 0, 1) := by decide +kernel
theorem dX2_isOver_1 : decode prog_4_method_5_code 1 = .ok (.invokevirtual 97, 3) := by decide +kernel
theorem dX2_isOver_4 : decode prog_4_method_5_code 4 = .ok (.ifCond .eq 17, 3) := by decide +kernel
theorem dX2_isOver_7 : decode prog_4_method_5_code 7 = .ok (.aload_n 0, 1) := by decide +kernel
theorem dX2_isOver_8 : decode prog_4_method_5_code 8 = .ok (.getfield 18, 3) := by decide +kernel
theorem dX2_isOver_11 : decode prog_4_method_5_code 11 = .ok (.getfield 90, 3) := by decide +kernel
theorem dX2_isOver_14 : decode prog_4_method_5_code 14 = .ok (.ifCond .ne 7, 3) := by decide +kernel
theorem dX2_isOver_17 : decode prog_4_method_5_code 17 = .ok (.iconst 1, 1) := by decide +kernel
theorem dX2_isOver_18 : decode prog_4_method_5_code 18 = .ok (.goto 4, 3) := by decide +kernel
theorem dX2_isOver_21 : decode prog_4_method_5_code 21 = .ok (.iconst 0, 1) := by decide +kernel
theorem dX2_isOver_22 : decode prog_4_method_5_code 22 = .ok (.ireturn, 1) := by decide +kernel
theorem dX2_isStuck_0 : decode prog_4_method_6_code 0 = .ok (.iconst 0, 1) := by decide +kernel
theorem dX2_isStuck_1 : decode prog_4_method_6_code 1 = .ok (.istore_n 1, 1) := by decide +kernel
theorem dX2_isStuck_2 : decode prog_4_method_6_code 2 = .ok (.iload_n 1, 1) := by decide +kernel
theorem dX2_isStuck_3 : decode prog_4_method_6_code 3 = .ok (.aload_n 0, 1) := by decide +kernel
theorem dX2_isStuck_4 : decode prog_4_method_6_code 4 = .ok (.getfield 56, 3) := by decide +kernel
theorem dX2_isStuck_7 : decode prog_4_method_6_code 7 = .ok (.if_icmp .ge 36, 3) := by decide +kernel
theorem dX2_isStuck_10 : decode prog_4_method_6_code 10 = .ok (.aload_n 0, 1) := by decide +kernel
theorem dX2_isStuck_11 : decode prog_4_method_6_code 11 = .ok (.getfield 40, 3) := by decide +kernel
theorem dX2_isStuck_14 : decode prog_4_method_6_code 14 = .ok (.iload_n 1, 1) := by decide +kernel
theorem dX2_isStuck_15 : decode prog_4_method_6_code 15 = .ok (.aaload, 1) := by decide +kernel
theorem dX2_isStuck_16 : decode prog_4_method_6_code 16 = .ok (.getfield 101, 3) := by decide +kernel
theorem dX2_isStuck_19 : decode prog_4_method_6_code 19 = .ok (.iconst (-1), 1) := by decide +kernel
theorem dX2_isStuck_20 : decode prog_4_method_6_code 20 = .ok (.if_icmp .ne 15, 3) := by decide +kernel
theorem dX2_isStuck_23 : decode prog_4_method_6_code 23 = .ok (.aload_n 0, 1) := by decide +kernel
theorem dX2_isStuck_24 : decode prog_4_method_6_code 24 = .ok (.getfield 40, 3) := by decide +kernel
theorem dX2_isStuck_27 : decode prog_4_method_6_code 27 = .ok (.iload_n 1, 1) := by decide +kernel
theorem dX2_isStuck_28 : decode prog_4_method_6_code 28 = .ok (.aaload, 1) := by decide +kernel
theorem dX2_isStuck_29 : decode prog_4_method_6_code 29 = .ok (.getfield 104, 3) := by decide +kernel
theorem dX2_isStuck_32 : decode prog_4_method_6_code 32 = .ok (.ifCond .le 5, 3) := by decide +kernel
theorem dX2_isStuck_35 : decode prog_4_method_6_code 35 = .ok (.iconst 0, 1) := by decide +kernel
theorem dX2_isStuck_36 : decode prog_4_method_6_code 36 = .ok (.ireturn, 1) := by decide +kernel
theorem dX2_isStuck_37 : decode prog_4_method_6_code 37 = .ok (.iinc 1 1, 3) := by decide +kernel
theorem dX2_isStuck_40 : decode prog_4_method_6_code 40 = .ok (.goto (-38), 3) := by decide +kernel
theorem dX2_isStuck_43 : decode prog_4_method_6_code 43 = .ok (.aload_n 0, 1) := by decide +kernel
theorem dX2_isStuck_44 : decode prog_4_method_6_code 44 = .ok (.invokevirtual 97, 3) := by decide +kernel
theorem dX2_isStuck_47 : decode prog_4_method_6_code 47 = .ok (.ifCond .eq 14, 3) := by decide +kernel
theorem dX2_isStuck_50 : decode prog_4_method_6_code 50 = .ok (.aload_n 0, 1) := by decide +kernel
theorem dX2_isStuck_51 : decode prog_4_method_6_code 51 = .ok (.invokevirtual 107, 3) := by decide +kernel
theorem dX2_isStuck_54 : decode prog_4_method_6_code 54 = .ok (.ifCond .ne 7, 3) := by decide +kernel
theorem dX2_isStuck_57 : decode prog_4_method_6_code 57 = .ok (.iconst 1, 1) := by decide +kernel
theorem dX2_isStuck_58 : decode prog_4_method_6_code 58 = .ok (.goto 4, 3) := by decide +kernel
theorem dX2_isStuck_61 : decode prog_4_method_6_code 61 = .ok (.iconst 0, 1) := by decide +kernel
theorem dX2_isStuck_62 : decode prog_4_method_6_code 62 = .ok (.ireturn, 1) := by decide +kernel
theorem dX2_tick_0 : decode prog_4_method_7_code 0 = .ok (.iconst 0, 1) := by decide +kernel
theorem dX2_tick_1 : decode prog_4_method_7_code 1 = .ok (.istore_n 1, 1) := by decide +kernel
theorem dX2_tick_2 : decode prog_4_method_7_code 2 = .ok (.iload_n 1, 1) := by decide +kernel
theorem dX2_tick_3 : decode prog_4_method_7_code 3 = .ok (.aload_n 0, 1) := by decide +kernel
theorem dX2_tick_4 : decode prog_4_method_7_code 4 = .ok (.getfield 56, 3) := by decide +kernel
theorem dX2_tick_7 : decode prog_4_method_7_code 7 = .ok (.if_icmp .ge 40, 3) := by decide +kernel
theorem dX2_tick_10 : decode prog_4_method_7_code 10 = .ok (.aload_n 0, 1) := by decide +kernel
theorem dX2_tick_11 : decode prog_4_method_7_code 11 = .ok (.getfield 40, 3) := by decide +kernel
theorem dX2_tick_14 : decode prog_4_method_7_code 14 = .ok (.iload_n 1, 1) := by decide +kernel
theorem dX2_tick_15 : decode prog_4_method_7_code 15 = .ok (.aaload, 1) := by decide +kernel
theorem dX2_tick_16 : decode prog_4_method_7_code 16 = .ok (.getfield 101, 3) := by decide +kernel
theorem dX2_tick_19 : decode prog_4_method_7_code 19 = .ok (.iconst (-1), 1) := by decide +kernel
theorem dX2_tick_20 : decode prog_4_method_7_code 20 = .ok (.if_icmp .ne 11, 3) := by decide +kernel
theorem dX2_tick_23 : decode prog_4_method_7_code 23 = .ok (.aload_n 0, 1) := by decide +kernel
theorem dX2_tick_24 : decode prog_4_method_7_code 24 = .ok (.iload_n 1, 1) := by decide +kernel
theorem dX2_tick_25 : decode prog_4_method_7_code 25 = .ok (.invokevirtual 110, 3) := by decide +kernel
theorem dX2_tick_28 : decode prog_4_method_7_code 28 = .ok (.goto 13, 3) := by decide +kernel
theorem dX2_tick_31 : decode prog_4_method_7_code 31 = .ok (.aload_n 0, 1) := by decide +kernel
theorem dX2_tick_32 : decode prog_4_method_7_code 32 = .ok (.aload_n 0, 1) := by decide +kernel
theorem dX2_tick_33 : decode prog_4_method_7_code 33 = .ok (.getfield 40, 3) := by decide +kernel
theorem dX2_tick_36 : decode prog_4_method_7_code 36 = .ok (.iload_n 1, 1) := by decide +kernel
theorem dX2_tick_37 : decode prog_4_method_7_code 37 = .ok (.aaload, 1) := by decide +kernel
theorem dX2_tick_38 : decode prog_4_method_7_code 38 = .ok (.invokevirtual 113, 3) := by decide +kernel
theorem dX2_tick_41 : decode prog_4_method_7_code 41 = .ok (.iinc 1 1, 3) := by decide +kernel
theorem dX2_tick_44 : decode prog_4_method_7_code 44 = .ok (.goto (-42), 3) := by decide +kernel
theorem dX2_tick_47 : decode prog_4_method_7_code 47 = .ok (.aload_n 0, 1) := by decide +kernel
theorem dX2_tick_48 : decode prog_4_method_7_code 48 = .ok (.dup, 1) := by decide +kernel
theorem dX2_tick_49 : decode prog_4_method_7_code 49 = .ok (.getfield 70, 3) := by decide +kernel
theorem dX2_tick_52 : decode prog_4_method_7_code 52 = .ok (.iconst 1, 1) := by decide +kernel
theorem dX2_tick_53 : decode prog_4_method_7_code 53 = .ok (.iadd, 1) := by decide +kernel
theorem dX2_tick_54 : decode prog_4_method_7_code 54 = .ok (.putfield 70, 3) := by decide +kernel
theorem dX2_tick_57 : decode prog_4_method_7_code 57 = .ok (.return_, 1) := by decide +kernel
theorem dX2_takeOne_0 : decode prog_4_method_8_code 0 = .ok (.aload_n 0, 1) := by decide +kernel
theorem dX2_takeOne_1 : decode prog_4_method_8_code 1 = .ok (.getfield 40, 3) := by decide +kernel
theorem dX2_takeOne_4 : decode prog_4_method_8_code 4 = .ok (.iload_n 1, 1) := by decide +kernel
theorem dX2_takeOne_5 : decode prog_4_method_8_code 5 = .ok (.aaload, 1) := by decide +kernel
theorem dX2_takeOne_6 : decode prog_4_method_8_code 6 = .ok (.astore_n 2, 1) := by decide +kernel
theorem dX2_takeOne_7 : decode prog_4_method_8_code 7 = .ok (.aload_n 2, 1) := by decide +kernel
theorem dX2_takeOne_8 : decode prog_4_method_8_code 8 = .ok (.aload_n 2, 1) := by decide +kernel
theorem dX2_takeOne_9 : decode prog_4_method_8_code 9 = .ok (.invokevirtual 117, 3) := by decide +kernel
theorem dX2_takeOne_12 : decode prog_4_method_8_code 12 = .ok (.putfield 101, 3) := by decide +kernel
theorem dX2_takeOne_15 : decode prog_4_method_8_code 15 = .ok (.iconst 1, 1) := by decide +kernel
theorem dX2_takeOne_16 : decode prog_4_method_8_code 16 = .ok (.istore_n 3, 1) := by decide +kernel
theorem dX2_takeOne_17 : decode prog_4_method_8_code 17 = .ok (.iload_n 3, 1) := by decide +kernel
theorem dX2_takeOne_18 : decode prog_4_method_8_code 18 = .ok (.aload_n 0, 1) := by decide +kernel
theorem dX2_takeOne_19 : decode prog_4_method_8_code 19 = .ok (.getfield 56, 3) := by decide +kernel
theorem dX2_takeOne_22 : decode prog_4_method_8_code 22 = .ok (.if_icmp .ge 55, 3) := by decide +kernel
theorem dX2_takeOne_25 : decode prog_4_method_8_code 25 = .ok (.aload_n 2, 1) := by decide +kernel
theorem dX2_takeOne_26 : decode prog_4_method_8_code 26 = .ok (.getfield 101, 3) := by decide +kernel
theorem dX2_takeOne_29 : decode prog_4_method_8_code 29 = .ok (.iconst (-1), 1) := by decide +kernel
theorem dX2_takeOne_30 : decode prog_4_method_8_code 30 = .ok (.if_icmp .ne 47, 3) := by decide +kernel
theorem dX2_takeOne_33 : decode prog_4_method_8_code 33 = .ok (.aload_n 2, 1) := by decide +kernel
theorem dX2_takeOne_34 : decode prog_4_method_8_code 34 = .ok (.aload_n 0, 1) := by decide +kernel
theorem dX2_takeOne_35 : decode prog_4_method_8_code 35 = .ok (.getfield 40, 3) := by decide +kernel
theorem dX2_takeOne_38 : decode prog_4_method_8_code 38 = .ok (.iload_n 1, 1) := by decide +kernel
theorem dX2_takeOne_39 : decode prog_4_method_8_code 39 = .ok (.iload_n 3, 1) := by decide +kernel
theorem dX2_takeOne_40 : decode prog_4_method_8_code 40 = .ok (.iadd, 1) := by decide +kernel
theorem dX2_takeOne_41 : decode prog_4_method_8_code 41 = .ok (.aload_n 0, 1) := by decide +kernel
theorem dX2_takeOne_42 : decode prog_4_method_8_code 42 = .ok (.getfield 56, 3) := by decide +kernel
theorem dX2_takeOne_45 : decode prog_4_method_8_code 45 = .ok (.irem, 1) := by decide +kernel
theorem dX2_takeOne_46 : decode prog_4_method_8_code 46 = .ok (.aaload, 1) := by decide +kernel
theorem dX2_takeOne_47 : decode prog_4_method_8_code 47 = .ok (.invokevirtual 121, 3) := by decide +kernel
theorem dX2_takeOne_50 : decode prog_4_method_8_code 50 = .ok (.putfield 101, 3) := by decide +kernel
theorem dX2_takeOne_53 : decode prog_4_method_8_code 53 = .ok (.aload_n 2, 1) := by decide +kernel
theorem dX2_takeOne_54 : decode prog_4_method_8_code 54 = .ok (.getfield 101, 3) := by decide +kernel
theorem dX2_takeOne_57 : decode prog_4_method_8_code 57 = .ok (.iconst (-1), 1) := by decide +kernel
theorem dX2_takeOne_58 : decode prog_4_method_8_code 58 = .ok (.if_icmp .eq 13, 3) := by decide +kernel
theorem dX2_takeOne_61 : decode prog_4_method_8_code 61 = .ok (.aload_n 0, 1) := by decide +kernel
theorem dX2_takeOne_62 : decode prog_4_method_8_code 62 = .ok (.dup, 1) := by decide +kernel
theorem dX2_takeOne_63 : decode prog_4_method_8_code 63 = .ok (.getfield 76, 3) := by decide +kernel
theorem dX2_takeOne_66 : decode prog_4_method_8_code 66 = .ok (.iconst 1, 1) := by decide +kernel
theorem dX2_takeOne_67 : decode prog_4_method_8_code 67 = .ok (.iadd, 1) := by decide +kernel
theorem dX2_takeOne_68 : decode prog_4_method_8_code 68 = .ok (.putfield 76, 3) := by decide +kernel
theorem dX2_takeOne_71 : decode prog_4_method_8_code 71 = .ok (.iinc 3 1, 3) := by decide +kernel
theorem dX2_takeOne_74 : decode prog_4_method_8_code 74 = .ok (.goto (-57), 3) := by decide +kernel
theorem dX2_takeOne_77 : decode prog_4_method_8_code 77 = .ok (.aload_n 2, 1) := by decide +kernel
theorem dX2_takeOne_78 : decode prog_4_method_8_code 78 = .ok (.getfield 101, 3) := by decide +kernel
theorem dX2_takeOne_81 : decode prog_4_method_8_code 81 = .ok (.iconst (-1), 1) := by decide +kernel
theorem dX2_takeOne_82 : decode prog_4_method_8_code 82 = .ok (.if_icmp .eq 16, 3) := by decide +kernel
theorem dX2_takeOne_85 : decode prog_4_method_8_code 85 = .ok (.aload_n 0, 1) := by decide +kernel
theorem dX2_takeOne_86 : decode prog_4_method_8_code 86 = .ok (.getfield 24, 3) := by decide +kernel
theorem dX2_takeOne_89 : decode prog_4_method_8_code 89 = .ok (.aload_n 2, 1) := by decide +kernel
theorem dX2_takeOne_90 : decode prog_4_method_8_code 90 = .ok (.getfield 101, 3) := by decide +kernel
theorem dX2_takeOne_93 : decode prog_4_method_8_code 93 = .ok (.aaload, 1) := by decide +kernel
theorem dX2_takeOne_94 : decode prog_4_method_8_code 94 = .ok (.iconst 1, 1) := by decide +kernel
theorem dX2_takeOne_95 : decode prog_4_method_8_code 95 = .ok (.putfield 124, 3) := by decide +kernel
theorem dX2_takeOne_98 : decode prog_4_method_8_code 98 = .ok (.return_, 1) := by decide +kernel
theorem dX2_step_0 : decode prog_4_method_9_code 0 = .ok (.aload_n 0, 1) := by decide +kernel
theorem dX2_step_1 : decode prog_4_method_9_code 1 = .ok (.getfield 24, 3) := by decide +kernel
theorem dX2_step_4 : decode prog_4_method_9_code 4 = .ok (.aload_n 1, 1) := by decide +kernel
theorem dX2_step_5 : decode prog_4_method_9_code 5 = .ok (.getfield 101, 3) := by decide +kernel
theorem dX2_step_8 : decode prog_4_method_9_code 8 = .ok (.aaload, 1) := by decide +kernel
theorem dX2_step_9 : decode prog_4_method_9_code 9 = .ok (.astore_n 2, 1) := by decide +kernel
theorem dX2_step_10 : decode prog_4_method_9_code 10 = .ok (.iconst 0, 1) := by decide +kernel
theorem dX2_step_11 : decode prog_4_method_9_code 11 = .ok (.istore_n 3, 1) := by decide +kernel
theorem dX2_step_12 : decode prog_4_method_9_code 12 = .ok (.aload_n 2, 1) := by decide +kernel
theorem dX2_step_13 : decode prog_4_method_9_code 13 = .ok (.getfield 127, 3) := by decide +kernel
theorem dX2_step_16 : decode prog_4_method_9_code 16 = .ok (.ifCond .eq 12, 3) := by decide +kernel
theorem dX2_step_19 : decode prog_4_method_9_code 19 = .ok (.aload_n 0, 1) := by decide +kernel
theorem dX2_step_20 : decode prog_4_method_9_code 20 = .ok (.aload_n 2, 1) := by decide +kernel
theorem dX2_step_21 : decode prog_4_method_9_code 21 = .ok (.invokevirtual 130, 3) := by decide +kernel
theorem dX2_step_24 : decode prog_4_method_9_code 24 = .ok (.istore_n 3, 1) := by decide +kernel
theorem dX2_step_25 : decode prog_4_method_9_code 25 = .ok (.goto 46, 3) := by decide +kernel
theorem dX2_step_28 : decode prog_4_method_9_code 28 = .ok (.aload_n 2, 1) := by decide +kernel
theorem dX2_step_29 : decode prog_4_method_9_code 29 = .ok (.getfield 134, 3) := by decide +kernel
theorem dX2_step_32 : decode prog_4_method_9_code 32 = .ok (.aload_n 0, 1) := by decide +kernel
theorem dX2_step_33 : decode prog_4_method_9_code 33 = .ok (.getfield 9, 3) := by decide +kernel
theorem dX2_step_36 : decode prog_4_method_9_code 36 = .ok (.aload_n 2, 1) := by decide +kernel
theorem dX2_step_37 : decode prog_4_method_9_code 37 = .ok (.getfield 137, 3) := by decide +kernel
theorem dX2_step_40 : decode prog_4_method_9_code 40 = .ok (.aaload, 1) := by decide +kernel
theorem dX2_step_41 : decode prog_4_method_9_code 41 = .ok (.getfield 140, 3) := by decide +kernel
theorem dX2_step_44 : decode prog_4_method_9_code 44 = .ok (.if_icmp .ge 22, 3) := by decide +kernel
theorem dX2_step_47 : decode prog_4_method_9_code 47 = .ok (.aload_n 0, 1) := by decide +kernel
theorem dX2_step_48 : decode prog_4_method_9_code 48 = .ok (.aload_n 1, 1) := by decide +kernel
theorem dX2_step_49 : decode prog_4_method_9_code 49 = .ok (.aload_n 2, 1) := by decide +kernel
theorem dX2_step_50 : decode prog_4_method_9_code 50 = .ok (.aload_n 0, 1) := by decide +kernel
theorem dX2_step_51 : decode prog_4_method_9_code 51 = .ok (.getfield 9, 3) := by decide +kernel
theorem dX2_step_54 : decode prog_4_method_9_code 54 = .ok (.aload_n 2, 1) := by decide +kernel
theorem dX2_step_55 : decode prog_4_method_9_code 55 = .ok (.getfield 137, 3) := by decide +kernel
theorem dX2_step_58 : decode prog_4_method_9_code 58 = .ok (.aaload, 1) := by decide +kernel
theorem dX2_step_59 : decode prog_4_method_9_code 59 = .ok (.invokevirtual 143, 3) := by decide +kernel
theorem dX2_step_62 : decode prog_4_method_9_code 62 = .ok (.istore_n 3, 1) := by decide +kernel
theorem dX2_step_63 : decode prog_4_method_9_code 63 = .ok (.goto 8, 3) := by decide +kernel
theorem dX2_step_66 : decode prog_4_method_9_code 66 = .ok (.aload_n 0, 1) := by decide +kernel
theorem dX2_step_67 : decode prog_4_method_9_code 67 = .ok (.aload_n 2, 1) := by decide +kernel
theorem dX2_step_68 : decode prog_4_method_9_code 68 = .ok (.invokevirtual 147, 3) := by decide +kernel
theorem dX2_step_71 : decode prog_4_method_9_code 71 = .ok (.iload_n 3, 1) := by decide +kernel
theorem dX2_step_72 : decode prog_4_method_9_code 72 = .ok (.ifCond .eq 16, 3) := by decide +kernel
theorem dX2_step_75 : decode prog_4_method_9_code 75 = .ok (.aload_n 2, 1) := by decide +kernel
theorem dX2_step_76 : decode prog_4_method_9_code 76 = .ok (.invokevirtual 151, 3) := by decide +kernel
theorem dX2_step_79 : decode prog_4_method_9_code 79 = .ok (.iload_n 3, 1) := by decide +kernel
theorem dX2_step_80 : decode prog_4_method_9_code 80 = .ok (.invokevirtual 155, 3) := by decide +kernel
theorem dX2_step_83 : decode prog_4_method_9_code 83 = .ok (.aload_n 0, 1) := by decide +kernel
theorem dX2_step_84 : decode prog_4_method_9_code 84 = .ok (.aload_n 2, 1) := by decide +kernel
theorem dX2_step_85 : decode prog_4_method_9_code 85 = .ok (.invokevirtual 147, 3) := by decide +kernel
theorem dX2_step_88 : decode prog_4_method_9_code 88 = .ok (.aload_n 2, 1) := by decide +kernel
theorem dX2_step_89 : decode prog_4_method_9_code 89 = .ok (.getfield 124, 3) := by decide +kernel
theorem dX2_step_92 : decode prog_4_method_9_code 92 = .ok (.iconst 2, 1) := by decide +kernel
theorem dX2_step_93 : decode prog_4_method_9_code 93 = .ok (.if_icmp .eq 11, 3) := by decide +kernel
theorem dX2_step_96 : decode prog_4_method_9_code 96 = .ok (.aload_n 2, 1) := by decide +kernel
theorem dX2_step_97 : decode prog_4_method_9_code 97 = .ok (.getfield 124, 3) := by decide +kernel
theorem dX2_step_100 : decode prog_4_method_9_code 100 = .ok (.iconst 3, 1) := by decide +kernel
theorem dX2_step_101 : decode prog_4_method_9_code 101 = .ok (.if_icmp .ne 8, 3) := by decide +kernel
theorem dX2_step_104 : decode prog_4_method_9_code 104 = .ok (.aload_n 1, 1) := by decide +kernel
theorem dX2_step_105 : decode prog_4_method_9_code 105 = .ok (.iconst (-1), 1) := by decide +kernel
theorem dX2_step_106 : decode prog_4_method_9_code 106 = .ok (.putfield 101, 3) := by decide +kernel
theorem dX2_step_109 : decode prog_4_method_9_code 109 = .ok (.aload_n 0, 1) := by decide +kernel
theorem dX2_step_110 : decode prog_4_method_9_code 110 = .ok (.aload_n 1, 1) := by decide +kernel
theorem dX2_step_111 : decode prog_4_method_9_code 111 = .ok (.invokevirtual 158, 3) := by decide +kernel
theorem dX2_step_114 : decode prog_4_method_9_code 114 = .ok (.aload_n 0, 1) := by decide +kernel
theorem dX2_step_115 : decode prog_4_method_9_code 115 = .ok (.dup, 1) := by decide +kernel
theorem dX2_step_116 : decode prog_4_method_9_code 116 = .ok (.getfield 73, 3) := by decide +kernel
theorem dX2_step_119 : decode prog_4_method_9_code 119 = .ok (.iconst 1, 1) := by decide +kernel
theorem dX2_step_120 : decode prog_4_method_9_code 120 = .ok (.iadd, 1) := by decide +kernel
theorem dX2_step_121 : decode prog_4_method_9_code 121 = .ok (.putfield 73, 3) := by decide +kernel
theorem dX2_step_124 : decode prog_4_method_9_code 124 = .ok (.return_, 1) := by decide +kernel
theorem dX2_finishWait_0 : decode prog_4_method_10_code 0 = .ok (.aload_n 1, 1) := by decide +kernel
theorem dX2_finishWait_1 : decode prog_4_method_10_code 1 = .ok (.getfield 127, 3) := by decide +kernel
theorem dX2_finishWait_4 : decode prog_4_method_10_code 4 = .ok (.lookupswitch 44 #[(1, 28), (2, 38)], 28) := by decide +kernel
theorem dX2_finishWait_32 : decode prog_4_method_10_code 32 = .ok (.aload_n 0, 1) := by decide +kernel
theorem dX2_finishWait_33 : decode prog_4_method_10_code 33 = .ok (.aload_n 1, 1) := by decide +kernel
theorem dX2_finishWait_34 : decode prog_4_method_10_code 34 = .ok (.aload_n 1, 1) := by decide +kernel
theorem dX2_finishWait_35 : decode prog_4_method_10_code 35 = .ok (.getfield 161, 3) := by decide +kernel
theorem dX2_finishWait_38 : decode prog_4_method_10_code 38 = .ok (.invokevirtual 164, 3) := by decide +kernel
theorem dX2_finishWait_41 : decode prog_4_method_10_code 41 = .ok (.ireturn, 1) := by decide +kernel
theorem dX2_finishWait_42 : decode prog_4_method_10_code 42 = .ok (.aload_n 0, 1) := by decide +kernel
theorem dX2_finishWait_43 : decode prog_4_method_10_code 43 = .ok (.aload_n 1, 1) := by decide +kernel
theorem dX2_finishWait_44 : decode prog_4_method_10_code 44 = .ok (.invokevirtual 168, 3) := by decide +kernel
theorem dX2_finishWait_47 : decode prog_4_method_10_code 47 = .ok (.ireturn, 1) := by decide +kernel
theorem dX2_finishWait_48 : decode prog_4_method_10_code 48 = .ok (.aload_n 0, 1) := by decide +kernel
theorem dX2_finishWait_49 : decode prog_4_method_10_code 49 = .ok (.aload_n 1, 1) := by decide +kernel
theorem dX2_finishWait_50 : decode prog_4_method_10_code 50 = .ok (.invokevirtual 171, 3) := by decide +kernel
theorem dX2_finishWait_53 : decode prog_4_method_10_code 53 = .ok (.ireturn, 1) := by decide +kernel
theorem dX2_instruct_0 : decode prog_4_method_11_code 0 = .ok (.aload_n 3, 1) := by decide +kernel
theorem dX2_instruct_1 : decode prog_4_method_11_code 1 = .ok (.getfield 174, 3) := by decide +kernel
theorem dX2_instruct_4 : decode prog_4_method_11_code 4 = .ok (.aload_n 2, 1) := by decide +kernel
theorem dX2_instruct_5 : decode prog_4_method_11_code 5 = .ok (.getfield 134, 3) := by decide +kernel
theorem dX2_instruct_8 : decode prog_4_method_11_code 8 = .ok (.iaload, 1) := by decide +kernel
theorem dX2_instruct_9 : decode prog_4_method_11_code 9 = .ok (.istore 4, 2) := by decide +kernel
theorem dX2_instruct_11 : decode prog_4_method_11_code 11 = .ok (.aload_n 2, 1) := by decide +kernel
theorem dX2_instruct_12 : decode prog_4_method_11_code 12 = .ok (.getfield 134, 3) := by decide +kernel
theorem dX2_instruct_15 : decode prog_4_method_11_code 15 = .ok (.iconst 1, 1) := by decide +kernel
theorem dX2_instruct_16 : decode prog_4_method_11_code 16 = .ok (.iadd, 1) := by decide +kernel
theorem dX2_instruct_17 : decode prog_4_method_11_code 17 = .ok (.istore 5, 2) := by decide +kernel
theorem dX2_instruct_19 : decode prog_4_method_11_code 19 = .ok (.iconst 0, 1) := by decide +kernel
theorem dX2_instruct_20 : decode prog_4_method_11_code 20 = .ok (.istore 6, 2) := by decide +kernel
theorem dX2_instruct_22 : decode prog_4_method_11_code 22 = .ok (.aload_n 3, 1) := by decide +kernel
theorem dX2_instruct_23 : decode prog_4_method_11_code 23 = .ok (.getfield 177, 3) := by decide +kernel
theorem dX2_instruct_26 : decode prog_4_method_11_code 26 = .ok (.aload_n 2, 1) := by decide +kernel
theorem dX2_instruct_27 : decode prog_4_method_11_code 27 = .ok (.getfield 134, 3) := by decide +kernel
theorem dX2_instruct_30 : decode prog_4_method_11_code 30 = .ok (.iaload, 1) := by decide +kernel
theorem dX2_instruct_31 : decode prog_4_method_11_code 31 = .ok (.tableswitch 300 0 16 #[81, 95, 109, 123, 137, 155, 161, 175, 190, 198, 216, 239, 256, 267, 270, 281, 300], 81) := by decide +kernel
theorem dX2_instruct_112 : decode prog_4_method_11_code 112 = .ok (.aload_n 2, 1) := by decide +kernel
theorem dX2_instruct_113 : decode prog_4_method_11_code 113 = .ok (.dup, 1) := by decide +kernel
theorem dX2_instruct_114 : decode prog_4_method_11_code 114 = .ok (.getfield 180, 3) := by decide +kernel
theorem dX2_instruct_117 : decode prog_4_method_11_code 117 = .ok (.iload 4, 2) := by decide +kernel
theorem dX2_instruct_119 : decode prog_4_method_11_code 119 = .ok (.iadd, 1) := by decide +kernel
theorem dX2_instruct_120 : decode prog_4_method_11_code 120 = .ok (.putfield 180, 3) := by decide +kernel
theorem dX2_instruct_123 : decode prog_4_method_11_code 123 = .ok (.goto 212, 3) := by decide +kernel
theorem dX2_instruct_126 : decode prog_4_method_11_code 126 = .ok (.aload_n 2, 1) := by decide +kernel
theorem dX2_instruct_127 : decode prog_4_method_11_code 127 = .ok (.dup, 1) := by decide +kernel
theorem dX2_instruct_128 : decode prog_4_method_11_code 128 = .ok (.getfield 180, 3) := by decide +kernel
theorem dX2_instruct_131 : decode prog_4_method_11_code 131 = .ok (.iload 4, 2) := by decide +kernel
theorem dX2_instruct_133 : decode prog_4_method_11_code 133 = .ok (.imul, 1) := by decide +kernel
theorem dX2_instruct_134 : decode prog_4_method_11_code 134 = .ok (.putfield 180, 3) := by decide +kernel
theorem dX2_instruct_137 : decode prog_4_method_11_code 137 = .ok (.goto 198, 3) := by decide +kernel
theorem dX2_instruct_140 : decode prog_4_method_11_code 140 = .ok (.aload_n 0, 1) := by decide +kernel
theorem dX2_instruct_141 : decode prog_4_method_11_code 141 = .ok (.aload_n 1, 1) := by decide +kernel
theorem dX2_instruct_142 : decode prog_4_method_11_code 142 = .ok (.aload_n 2, 1) := by decide +kernel
theorem dX2_instruct_143 : decode prog_4_method_11_code 143 = .ok (.iload 4, 2) := by decide +kernel
theorem dX2_instruct_145 : decode prog_4_method_11_code 145 = .ok (.iconst 0, 1) := by decide +kernel
theorem dX2_instruct_146 : decode prog_4_method_11_code 146 = .ok (.invokevirtual 183, 3) := by decide +kernel
theorem dX2_instruct_149 : decode prog_4_method_11_code 149 = .ok (.istore 6, 2) := by decide +kernel
theorem dX2_instruct_151 : decode prog_4_method_11_code 151 = .ok (.goto 184, 3) := by decide +kernel
theorem dX2_instruct_154 : decode prog_4_method_11_code 154 = .ok (.aload_n 0, 1) := by decide +kernel
theorem dX2_instruct_155 : decode prog_4_method_11_code 155 = .ok (.aload_n 1, 1) := by decide +kernel
theorem dX2_instruct_156 : decode prog_4_method_11_code 156 = .ok (.aload_n 2, 1) := by decide +kernel
theorem dX2_instruct_157 : decode prog_4_method_11_code 157 = .ok (.iload 4, 2) := by decide +kernel
theorem dX2_instruct_159 : decode prog_4_method_11_code 159 = .ok (.iconst 1, 1) := by decide +kernel
theorem dX2_instruct_160 : decode prog_4_method_11_code 160 = .ok (.invokevirtual 183, 3) := by decide +kernel
theorem dX2_instruct_163 : decode prog_4_method_11_code 163 = .ok (.istore 6, 2) := by decide +kernel
theorem dX2_instruct_165 : decode prog_4_method_11_code 165 = .ok (.goto 170, 3) := by decide +kernel
theorem dX2_instruct_168 : decode prog_4_method_11_code 168 = .ok (.aload_n 0, 1) := by decide +kernel
theorem dX2_instruct_169 : decode prog_4_method_11_code 169 = .ok (.aload_n 2, 1) := by decide +kernel
theorem dX2_instruct_170 : decode prog_4_method_11_code 170 = .ok (.iload 4, 2) := by decide +kernel
theorem dX2_instruct_172 : decode prog_4_method_11_code 172 = .ok (.iconst 4, 1) := by decide +kernel
theorem dX2_instruct_173 : decode prog_4_method_11_code 173 = .ok (.irem, 1) := by decide +kernel
theorem dX2_instruct_174 : decode prog_4_method_11_code 174 = .ok (.iload 4, 2) := by decide +kernel
theorem dX2_instruct_176 : decode prog_4_method_11_code 176 = .ok (.iconst 4, 1) := by decide +kernel
theorem dX2_instruct_177 : decode prog_4_method_11_code 177 = .ok (.idiv, 1) := by decide +kernel
theorem dX2_instruct_178 : decode prog_4_method_11_code 178 = .ok (.invokevirtual 187, 3) := by decide +kernel
theorem dX2_instruct_181 : decode prog_4_method_11_code 181 = .ok (.istore 6, 2) := by decide +kernel
theorem dX2_instruct_183 : decode prog_4_method_11_code 183 = .ok (.goto 152, 3) := by decide +kernel
theorem dX2_instruct_186 : decode prog_4_method_11_code 186 = .ok (.aload_n 0, 1) := by decide +kernel
theorem dX2_instruct_187 : decode prog_4_method_11_code 187 = .ok (.aload_n 2, 1) := by decide +kernel
theorem dX2_instruct_188 : decode prog_4_method_11_code 188 = .ok (.invokevirtual 191, 3) := by decide +kernel
theorem dX2_instruct_191 : decode prog_4_method_11_code 191 = .ok (.ireturn, 1) := by decide +kernel
theorem dX2_instruct_192 : decode prog_4_method_11_code 192 = .ok (.aload_n 2, 1) := by decide +kernel
theorem dX2_instruct_193 : decode prog_4_method_11_code 193 = .ok (.invokevirtual 151, 3) := by decide +kernel
theorem dX2_instruct_196 : decode prog_4_method_11_code 196 = .ok (.aload_n 2, 1) := by decide +kernel
theorem dX2_instruct_197 : decode prog_4_method_11_code 197 = .ok (.getfield 180, 3) := by decide +kernel
theorem dX2_instruct_200 : decode prog_4_method_11_code 200 = .ok (.invokevirtual 194, 3) := by decide +kernel
theorem dX2_instruct_203 : decode prog_4_method_11_code 203 = .ok (.goto 132, 3) := by decide +kernel
theorem dX2_instruct_206 : decode prog_4_method_11_code 206 = .ok (.aload_n 0, 1) := by decide +kernel
theorem dX2_instruct_207 : decode prog_4_method_11_code 207 = .ok (.iload 4, 2) := by decide +kernel
theorem dX2_instruct_209 : decode prog_4_method_11_code 209 = .ok (.aload_n 2, 1) := by decide +kernel
theorem dX2_instruct_210 : decode prog_4_method_11_code 210 = .ok (.getfield 180, 3) := by decide +kernel
theorem dX2_instruct_213 : decode prog_4_method_11_code 213 = .ok (.invokevirtual 197, 3) := by decide +kernel
theorem dX2_instruct_216 : decode prog_4_method_11_code 216 = .ok (.istore 6, 2) := by decide +kernel
theorem dX2_instruct_218 : decode prog_4_method_11_code 218 = .ok (.goto 117, 3) := by decide +kernel
theorem dX2_instruct_221 : decode prog_4_method_11_code 221 = .ok (.aload_n 0, 1) := by decide +kernel
theorem dX2_instruct_222 : decode prog_4_method_11_code 222 = .ok (.aload_n 2, 1) := by decide +kernel
theorem dX2_instruct_223 : decode prog_4_method_11_code 223 = .ok (.iload 4, 2) := by decide +kernel
theorem dX2_instruct_225 : decode prog_4_method_11_code 225 = .ok (.invokevirtual 164, 3) := by decide +kernel
theorem dX2_instruct_228 : decode prog_4_method_11_code 228 = .ok (.ireturn, 1) := by decide +kernel
theorem dX2_instruct_229 : decode prog_4_method_11_code 229 = .ok (.aload_n 0, 1) := by decide +kernel
theorem dX2_instruct_230 : decode prog_4_method_11_code 230 = .ok (.aload_n 2, 1) := by decide +kernel
theorem dX2_instruct_231 : decode prog_4_method_11_code 231 = .ok (.iload 4, 2) := by decide +kernel
theorem dX2_instruct_233 : decode prog_4_method_11_code 233 = .ok (.iconst 4, 1) := by decide +kernel
theorem dX2_instruct_234 : decode prog_4_method_11_code 234 = .ok (.idiv, 1) := by decide +kernel
theorem dX2_instruct_235 : decode prog_4_method_11_code 235 = .ok (.iload 4, 2) := by decide +kernel
theorem dX2_instruct_237 : decode prog_4_method_11_code 237 = .ok (.iconst 4, 1) := by decide +kernel
theorem dX2_instruct_238 : decode prog_4_method_11_code 238 = .ok (.irem, 1) := by decide +kernel
theorem dX2_instruct_239 : decode prog_4_method_11_code 239 = .ok (.invokevirtual 201, 3) := by decide +kernel
theorem dX2_instruct_242 : decode prog_4_method_11_code 242 = .ok (.istore 6, 2) := by decide +kernel
theorem dX2_instruct_244 : decode prog_4_method_11_code 244 = .ok (.goto 91, 3) := by decide +kernel
theorem dX2_instruct_247 : decode prog_4_method_11_code 247 = .ok (.aload_n 0, 1) := by decide +kernel
theorem dX2_instruct_248 : decode prog_4_method_11_code 248 = .ok (.aload_n 2, 1) := by decide +kernel
theorem dX2_instruct_249 : decode prog_4_method_11_code 249 = .ok (.aload_n 0, 1) := by decide +kernel
theorem dX2_instruct_250 : decode prog_4_method_11_code 250 = .ok (.getfield 33, 3) := by decide +kernel
theorem dX2_instruct_253 : decode prog_4_method_11_code 253 = .ok (.iload 4, 2) := by decide +kernel
theorem dX2_instruct_255 : decode prog_4_method_11_code 255 = .ok (.iconst 4, 1) := by decide +kernel
theorem dX2_instruct_256 : decode prog_4_method_11_code 256 = .ok (.idiv, 1) := by decide +kernel
theorem dX2_instruct_257 : decode prog_4_method_11_code 257 = .ok (.aaload, 1) := by decide +kernel
theorem dX2_instruct_258 : decode prog_4_method_11_code 258 = .ok (.iload 4, 2) := by decide +kernel
theorem dX2_instruct_260 : decode prog_4_method_11_code 260 = .ok (.iconst 4, 1) := by decide +kernel
theorem dX2_instruct_261 : decode prog_4_method_11_code 261 = .ok (.irem, 1) := by decide +kernel
theorem dX2_instruct_262 : decode prog_4_method_11_code 262 = .ok (.invokevirtual 204, 3) := by decide +kernel
theorem dX2_instruct_265 : decode prog_4_method_11_code 265 = .ok (.istore 6, 2) := by decide +kernel
theorem dX2_instruct_267 : decode prog_4_method_11_code 267 = .ok (.goto 68, 3) := by decide +kernel
theorem dX2_instruct_270 : decode prog_4_method_11_code 270 = .ok (.aload_n 0, 1) := by decide +kernel
theorem dX2_instruct_271 : decode prog_4_method_11_code 271 = .ok (.aload_n 2, 1) := by decide +kernel
theorem dX2_instruct_272 : decode prog_4_method_11_code 272 = .ok (.aload_n 0, 1) := by decide +kernel
theorem dX2_instruct_273 : decode prog_4_method_11_code 273 = .ok (.getfield 33, 3) := by decide +kernel
theorem dX2_instruct_276 : decode prog_4_method_11_code 276 = .ok (.iload 4, 2) := by decide +kernel
theorem dX2_instruct_278 : decode prog_4_method_11_code 278 = .ok (.aaload, 1) := by decide +kernel
theorem dX2_instruct_279 : decode prog_4_method_11_code 279 = .ok (.invokevirtual 208, 3) := by decide +kernel
theorem dX2_instruct_282 : decode prog_4_method_11_code 282 = .ok (.istore 6, 2) := by decide +kernel
theorem dX2_instruct_284 : decode prog_4_method_11_code 284 = .ok (.goto 51, 3) := by decide +kernel
theorem dX2_instruct_287 : decode prog_4_method_11_code 287 = .ok (.aload_n 0, 1) := by decide +kernel
theorem dX2_instruct_288 : decode prog_4_method_11_code 288 = .ok (.aload_n 2, 1) := by decide +kernel
theorem dX2_instruct_289 : decode prog_4_method_11_code 289 = .ok (.invokevirtual 212, 3) := by decide +kernel
theorem dX2_instruct_292 : decode prog_4_method_11_code 292 = .ok (.aload_n 0, 1) := by decide +kernel
theorem dX2_instruct_293 : decode prog_4_method_11_code 293 = .ok (.aload_n 2, 1) := by decide +kernel
theorem dX2_instruct_294 : decode prog_4_method_11_code 294 = .ok (.invokevirtual 168, 3) := by decide +kernel
theorem dX2_instruct_297 : decode prog_4_method_11_code 297 = .ok (.ireturn, 1) := by decide +kernel
theorem dX2_instruct_298 : decode prog_4_method_11_code 298 = .ok (.iload 4, 2) := by decide +kernel
theorem dX2_instruct_300 : decode prog_4_method_11_code 300 = .ok (.ireturn, 1) := by decide +kernel
theorem dX2_instruct_301 : decode prog_4_method_11_code 301 = .ok (.aload_n 0, 1) := by decide +kernel
theorem dX2_instruct_302 : decode prog_4_method_11_code 302 = .ok (.aload_n 2, 1) := by decide +kernel
theorem dX2_instruct_303 : decode prog_4_method_11_code 303 = .ok (.getfield 180, 3) := by decide +kernel
theorem dX2_instruct_306 : decode prog_4_method_11_code 306 = .ok (.invokevirtual 215, 3) := by decide +kernel
theorem dX2_instruct_309 : decode prog_4_method_11_code 309 = .ok (.goto 26, 3) := by decide +kernel
theorem dX2_instruct_312 : decode prog_4_method_11_code 312 = .ok (.aload_n 2, 1) := by decide +kernel
theorem dX2_instruct_313 : decode prog_4_method_11_code 313 = .ok (.getfield 180, 3) := by decide +kernel
theorem dX2_instruct_316 : decode prog_4_method_11_code 316 = .ok (.ifCond .eq 8, 3) := by decide +kernel
theorem dX2_instruct_319 : decode prog_4_method_11_code 319 = .ok (.iload 4, 2) := by decide +kernel
theorem dX2_instruct_321 : decode prog_4_method_11_code 321 = .ok (.goto 5, 3) := by decide +kernel
theorem dX2_instruct_324 : decode prog_4_method_11_code 324 = .ok (.iload 5, 2) := by decide +kernel
theorem dX2_instruct_326 : decode prog_4_method_11_code 326 = .ok (.istore 5, 2) := by decide +kernel
theorem dX2_instruct_328 : decode prog_4_method_11_code 328 = .ok (.goto 7, 3) := by decide +kernel
theorem dX2_instruct_331 : decode prog_4_method_11_code 331 = .ok (.iload 4, 2) := by decide +kernel
theorem dX2_instruct_333 : decode prog_4_method_11_code 333 = .ok (.istore 5, 2) := by decide +kernel
theorem dX2_instruct_335 : decode prog_4_method_11_code 335 = .ok (.aload_n 2, 1) := by decide +kernel
theorem dX2_instruct_336 : decode prog_4_method_11_code 336 = .ok (.iload 6, 2) := by decide +kernel
theorem dX2_instruct_338 : decode prog_4_method_11_code 338 = .ok (.ifCond .ne 8, 3) := by decide +kernel
theorem dX2_instruct_341 : decode prog_4_method_11_code 341 = .ok (.iload 5, 2) := by decide +kernel
theorem dX2_instruct_343 : decode prog_4_method_11_code 343 = .ok (.goto 7, 3) := by decide +kernel
theorem dX2_instruct_346 : decode prog_4_method_11_code 346 = .ok (.aload_n 2, 1) := by decide +kernel
theorem dX2_instruct_347 : decode prog_4_method_11_code 347 = .ok (.getfield 134, 3) := by decide +kernel
theorem dX2_instruct_350 : decode prog_4_method_11_code 350 = .ok (.putfield 134, 3) := by decide +kernel
theorem dX2_instruct_353 : decode prog_4_method_11_code 353 = .ok (.iload 6, 2) := by decide +kernel
theorem dX2_instruct_355 : decode prog_4_method_11_code 355 = .ok (.ireturn, 1) := by decide +kernel
theorem dX2_spawn_0 : decode prog_4_method_12_code 0 = .ok (.aload_n 0, 1) := by decide +kernel
theorem dX2_spawn_1 : decode prog_4_method_12_code 1 = .ok (.getfield 64, 3) := by decide +kernel
theorem dX2_spawn_4 : decode prog_4_method_12_code 4 = .ok (.bipush 48, 2) := by decide +kernel
theorem dX2_spawn_6 : decode prog_4_method_12_code 6 = .ok (.if_icmp .lt 5, 3) := by decide +kernel
theorem dX2_spawn_9 : decode prog_4_method_12_code 9 = .ok (.iconst 1, 1) := by decide +kernel
theorem dX2_spawn_10 : decode prog_4_method_12_code 10 = .ok (.ireturn, 1) := by decide +kernel
theorem dX2_spawn_11 : decode prog_4_method_12_code 11 = .ok (.aload_n 0, 1) := by decide +kernel
theorem dX2_spawn_12 : decode prog_4_method_12_code 12 = .ok (.aload_n 2, 1) := by decide +kernel
theorem dX2_spawn_13 : decode prog_4_method_12_code 13 = .ok (.iload_n 3, 1) := by decide +kernel
theorem dX2_spawn_14 : decode prog_4_method_12_code 14 = .ok (.invokevirtual 218, 3) := by decide +kernel
theorem dX2_spawn_17 : decode prog_4_method_12_code 17 = .ok (.astore 5, 2) := by decide +kernel
theorem dX2_spawn_19 : decode prog_4_method_12_code 19 = .ok (.iload 4, 2) := by decide +kernel
theorem dX2_spawn_21 : decode prog_4_method_12_code 21 = .ok (.ifCond .eq 37, 3) := by decide +kernel
theorem dX2_spawn_24 : decode prog_4_method_12_code 24 = .ok (.iconst 0, 1) := by decide +kernel
theorem dX2_spawn_25 : decode prog_4_method_12_code 25 = .ok (.istore 6, 2) := by decide +kernel
theorem dX2_spawn_27 : decode prog_4_method_12_code 27 = .ok (.iload 6, 2) := by decide +kernel
theorem dX2_spawn_29 : decode prog_4_method_12_code 29 = .ok (.iconst 2, 1) := by decide +kernel
theorem dX2_spawn_30 : decode prog_4_method_12_code 30 = .ok (.if_icmp .ge 28, 3) := by decide +kernel
theorem dX2_spawn_33 : decode prog_4_method_12_code 33 = .ok (.aload_n 0, 1) := by decide +kernel
theorem dX2_spawn_34 : decode prog_4_method_12_code 34 = .ok (.getfield 33, 3) := by decide +kernel
theorem dX2_spawn_37 : decode prog_4_method_12_code 37 = .ok (.iload 6, 2) := by decide +kernel
theorem dX2_spawn_39 : decode prog_4_method_12_code 39 = .ok (.aaload, 1) := by decide +kernel
theorem dX2_spawn_40 : decode prog_4_method_12_code 40 = .ok (.aload_n 2, 1) := by decide +kernel
theorem dX2_spawn_41 : decode prog_4_method_12_code 41 = .ok (.getfield 222, 3) := by decide +kernel
theorem dX2_spawn_44 : decode prog_4_method_12_code 44 = .ok (.aload 5, 2) := by decide +kernel
theorem dX2_spawn_46 : decode prog_4_method_12_code 46 = .ok (.getfield 222, 3) := by decide +kernel
theorem dX2_spawn_49 : decode prog_4_method_12_code 49 = .ok (.invokevirtual 225, 3) := by decide +kernel
theorem dX2_spawn_52 : decode prog_4_method_12_code 52 = .ok (.iinc 6 1, 3) := by decide +kernel
theorem dX2_spawn_55 : decode prog_4_method_12_code 55 = .ok (.goto (-28), 3) := by decide +kernel
theorem dX2_spawn_58 : decode prog_4_method_12_code 58 = .ok (.aload_n 0, 1) := by decide +kernel
theorem dX2_spawn_59 : decode prog_4_method_12_code 59 = .ok (.getfield 60, 3) := by decide +kernel
theorem dX2_spawn_62 : decode prog_4_method_12_code 62 = .ok (.ifCond .eq 34, 3) := by decide +kernel
theorem dX2_spawn_65 : decode prog_4_method_12_code 65 = .ok (.aload 5, 2) := by decide +kernel
theorem dX2_spawn_67 : decode prog_4_method_12_code 67 = .ok (.iconst 1, 1) := by decide +kernel
theorem dX2_spawn_68 : decode prog_4_method_12_code 68 = .ok (.putfield 124, 3) := by decide +kernel
theorem dX2_spawn_71 : decode prog_4_method_12_code 71 = .ok (.aload_n 1, 1) := by decide +kernel
theorem dX2_spawn_72 : decode prog_4_method_12_code 72 = .ok (.aload 5, 2) := by decide +kernel
theorem dX2_spawn_74 : decode prog_4_method_12_code 74 = .ok (.getfield 222, 3) := by decide +kernel
theorem dX2_spawn_77 : decode prog_4_method_12_code 77 = .ok (.putfield 101, 3) := by decide +kernel
theorem dX2_spawn_80 : decode prog_4_method_12_code 80 = .ok (.aload_n 2, 1) := by decide +kernel
theorem dX2_spawn_81 : decode prog_4_method_12_code 81 = .ok (.iconst 0, 1) := by decide +kernel
theorem dX2_spawn_82 : decode prog_4_method_12_code 82 = .ok (.putfield 124, 3) := by decide +kernel
theorem dX2_spawn_85 : decode prog_4_method_12_code 85 = .ok (.aload_n 1, 1) := by decide +kernel
theorem dX2_spawn_86 : decode prog_4_method_12_code 86 = .ok (.aload_n 2, 1) := by decide +kernel
theorem dX2_spawn_87 : decode prog_4_method_12_code 87 = .ok (.getfield 222, 3) := by decide +kernel
theorem dX2_spawn_90 : decode prog_4_method_12_code 90 = .ok (.invokevirtual 93, 3) := by decide +kernel
theorem dX2_spawn_93 : decode prog_4_method_12_code 93 = .ok (.goto 12, 3) := by decide +kernel
theorem dX2_spawn_96 : decode prog_4_method_12_code 96 = .ok (.aload_n 1, 1) := by decide +kernel
theorem dX2_spawn_97 : decode prog_4_method_12_code 97 = .ok (.aload 5, 2) := by decide +kernel
theorem dX2_spawn_99 : decode prog_4_method_12_code 99 = .ok (.getfield 222, 3) := by decide +kernel
theorem dX2_spawn_102 : decode prog_4_method_12_code 102 = .ok (.invokevirtual 93, 3) := by decide +kernel
theorem dX2_spawn_105 : decode prog_4_method_12_code 105 = .ok (.iconst 0, 1) := by decide +kernel
theorem dX2_spawn_106 : decode prog_4_method_12_code 106 = .ok (.ireturn, 1) := by decide +kernel
theorem dX2_spawnWaiting_0 : decode prog_4_method_13_code 0 = .ok (.aload_n 0, 1) := by decide +kernel
theorem dX2_spawnWaiting_1 : decode prog_4_method_13_code 1 = .ok (.getfield 64, 3) := by decide +kernel
theorem dX2_spawnWaiting_4 : decode prog_4_method_13_code 4 = .ok (.bipush 48, 2) := by decide +kernel
theorem dX2_spawnWaiting_6 : decode prog_4_method_13_code 6 = .ok (.if_icmp .lt 5, 3) := by decide +kernel
theorem dX2_spawnWaiting_9 : decode prog_4_method_13_code 9 = .ok (.iconst 1, 1) := by decide +kernel
theorem dX2_spawnWaiting_10 : decode prog_4_method_13_code 10 = .ok (.ireturn, 1) := by decide +kernel
theorem dX2_spawnWaiting_11 : decode prog_4_method_13_code 11 = .ok (.aload_n 0, 1) := by decide +kernel
theorem dX2_spawnWaiting_12 : decode prog_4_method_13_code 12 = .ok (.aload_n 1, 1) := by decide +kernel
theorem dX2_spawnWaiting_13 : decode prog_4_method_13_code 13 = .ok (.iload_n 2, 1) := by decide +kernel
theorem dX2_spawnWaiting_14 : decode prog_4_method_13_code 14 = .ok (.invokevirtual 218, 3) := by decide +kernel
theorem dX2_spawnWaiting_17 : decode prog_4_method_13_code 17 = .ok (.iconst 0, 1) := by decide +kernel
theorem dX2_spawnWaiting_18 : decode prog_4_method_13_code 18 = .ok (.iload_n 3, 1) := by decide +kernel
theorem dX2_spawnWaiting_19 : decode prog_4_method_13_code 19 = .ok (.invokevirtual 228, 3) := by decide +kernel
theorem dX2_spawnWaiting_22 : decode prog_4_method_13_code 22 = .ok (.iconst 0, 1) := by decide +kernel
theorem dX2_spawnWaiting_23 : decode prog_4_method_13_code 23 = .ok (.ireturn, 1) := by decide +kernel
theorem dX2_makeTask_0 : decode prog_4_method_14_code 0 = .ok (.aload_n 0, 1) := by decide +kernel
theorem dX2_makeTask_1 : decode prog_4_method_14_code 1 = .ok (.getfield 24, 3) := by decide +kernel
theorem dX2_makeTask_4 : decode prog_4_method_14_code 4 = .ok (.aload_n 0, 1) := by decide +kernel
theorem dX2_makeTask_5 : decode prog_4_method_14_code 5 = .ok (.getfield 64, 3) := by decide +kernel
theorem dX2_makeTask_8 : decode prog_4_method_14_code 8 = .ok (.aaload, 1) := by decide +kernel
theorem dX2_makeTask_9 : decode prog_4_method_14_code 9 = .ok (.astore_n 3, 1) := by decide +kernel
theorem dX2_makeTask_10 : decode prog_4_method_14_code 10 = .ok (.aload_n 0, 1) := by decide +kernel
theorem dX2_makeTask_11 : decode prog_4_method_14_code 11 = .ok (.dup, 1) := by decide +kernel
theorem dX2_makeTask_12 : decode prog_4_method_14_code 12 = .ok (.getfield 64, 3) := by decide +kernel
theorem dX2_makeTask_15 : decode prog_4_method_14_code 15 = .ok (.iconst 1, 1) := by decide +kernel
theorem dX2_makeTask_16 : decode prog_4_method_14_code 16 = .ok (.iadd, 1) := by decide +kernel
theorem dX2_makeTask_17 : decode prog_4_method_14_code 17 = .ok (.putfield 64, 3) := by decide +kernel
theorem dX2_makeTask_20 : decode prog_4_method_14_code 20 = .ok (.aload_n 1, 1) := by decide +kernel
theorem dX2_makeTask_21 : decode prog_4_method_14_code 21 = .ok (.invokevirtual 151, 3) := by decide +kernel
theorem dX2_makeTask_24 : decode prog_4_method_14_code 24 = .ok (.astore 4, 2) := by decide +kernel
theorem dX2_makeTask_26 : decode prog_4_method_14_code 26 = .ok (.aload_n 3, 1) := by decide +kernel
theorem dX2_makeTask_27 : decode prog_4_method_14_code 27 = .ok (.iload_n 2, 1) := by decide +kernel
theorem dX2_makeTask_28 : decode prog_4_method_14_code 28 = .ok (.aload_n 1, 1) := by decide +kernel
theorem dX2_makeTask_29 : decode prog_4_method_14_code 29 = .ok (.getfield 180, 3) := by decide +kernel
theorem dX2_makeTask_32 : decode prog_4_method_14_code 32 = .ok (.aload 4, 2) := by decide +kernel
theorem dX2_makeTask_34 : decode prog_4_method_14_code 34 = .ok (.invokevirtual 87, 3) := by decide +kernel
theorem dX2_makeTask_37 : decode prog_4_method_14_code 37 = .ok (.aload 4, 2) := by decide +kernel
theorem dX2_makeTask_39 : decode prog_4_method_14_code 39 = .ok (.dup, 1) := by decide +kernel
theorem dX2_makeTask_40 : decode prog_4_method_14_code 40 = .ok (.getfield 90, 3) := by decide +kernel
theorem dX2_makeTask_43 : decode prog_4_method_14_code 43 = .ok (.iconst 1, 1) := by decide +kernel
theorem dX2_makeTask_44 : decode prog_4_method_14_code 44 = .ok (.iadd, 1) := by decide +kernel
theorem dX2_makeTask_45 : decode prog_4_method_14_code 45 = .ok (.putfield 90, 3) := by decide +kernel
theorem dX2_makeTask_48 : decode prog_4_method_14_code 48 = .ok (.aload_n 3, 1) := by decide +kernel
theorem dX2_makeTask_49 : decode prog_4_method_14_code 49 = .ok (.areturn, 1) := by decide +kernel
theorem dX2_openScope_0 : decode prog_4_method_15_code 0 = .ok (.aload_n 1, 1) := by decide +kernel
theorem dX2_openScope_1 : decode prog_4_method_15_code 1 = .ok (.getfield 231, 3) := by decide +kernel
theorem dX2_openScope_4 : decode prog_4_method_15_code 4 = .ok (.iconst 3, 1) := by decide +kernel
theorem dX2_openScope_5 : decode prog_4_method_15_code 5 = .ok (.if_icmp .lt 5, 3) := by decide +kernel
theorem dX2_openScope_8 : decode prog_4_method_15_code 8 = .ok (.iconst 1, 1) := by decide +kernel
theorem dX2_openScope_9 : decode prog_4_method_15_code 9 = .ok (.ireturn, 1) := by decide +kernel
theorem dX2_openScope_10 : decode prog_4_method_15_code 10 = .ok (.aload_n 1, 1) := by decide +kernel
theorem dX2_openScope_11 : decode prog_4_method_15_code 11 = .ok (.getfield 234, 3) := by decide +kernel
theorem dX2_openScope_14 : decode prog_4_method_15_code 14 = .ok (.aload_n 1, 1) := by decide +kernel
theorem dX2_openScope_15 : decode prog_4_method_15_code 15 = .ok (.getfield 231, 3) := by decide +kernel
theorem dX2_openScope_18 : decode prog_4_method_15_code 18 = .ok (.aaload, 1) := by decide +kernel
theorem dX2_openScope_19 : decode prog_4_method_15_code 19 = .ok (.iload_n 2, 1) := by decide +kernel
theorem dX2_openScope_20 : decode prog_4_method_15_code 20 = .ok (.iload_n 3, 1) := by decide +kernel
theorem dX2_openScope_21 : decode prog_4_method_15_code 21 = .ok (.invokevirtual 79, 3) := by decide +kernel
theorem dX2_openScope_24 : decode prog_4_method_15_code 24 = .ok (.aload_n 1, 1) := by decide +kernel
theorem dX2_openScope_25 : decode prog_4_method_15_code 25 = .ok (.dup, 1) := by decide +kernel
theorem dX2_openScope_26 : decode prog_4_method_15_code 26 = .ok (.getfield 231, 3) := by decide +kernel
theorem dX2_openScope_29 : decode prog_4_method_15_code 29 = .ok (.iconst 1, 1) := by decide +kernel
theorem dX2_openScope_30 : decode prog_4_method_15_code 30 = .ok (.iadd, 1) := by decide +kernel
theorem dX2_openScope_31 : decode prog_4_method_15_code 31 = .ok (.putfield 231, 3) := by decide +kernel
theorem dX2_openScope_34 : decode prog_4_method_15_code 34 = .ok (.iconst 0, 1) := by decide +kernel
theorem dX2_openScope_35 : decode prog_4_method_15_code 35 = .ok (.ireturn, 1) := by decide +kernel
theorem dX2_close_0 : decode prog_4_method_16_code 0 = .ok (.aload_n 1, 1) := by decide +kernel
theorem dX2_close_1 : decode prog_4_method_16_code 1 = .ok (.getfield 231, 3) := by decide +kernel
theorem dX2_close_4 : decode prog_4_method_16_code 4 = .ok (.ifCond .ne 5, 3) := by decide +kernel
theorem dX2_close_7 : decode prog_4_method_16_code 7 = .ok (.iconst 4, 1) := by decide +kernel
theorem dX2_close_8 : decode prog_4_method_16_code 8 = .ok (.ireturn, 1) := by decide +kernel
theorem dX2_close_9 : decode prog_4_method_16_code 9 = .ok (.aload_n 1, 1) := by decide +kernel
theorem dX2_close_10 : decode prog_4_method_16_code 10 = .ok (.iconst 3, 1) := by decide +kernel
theorem dX2_close_11 : decode prog_4_method_16_code 11 = .ok (.putfield 127, 3) := by decide +kernel
theorem dX2_close_14 : decode prog_4_method_16_code 14 = .ok (.iconst 0, 1) := by decide +kernel
theorem dX2_close_15 : decode prog_4_method_16_code 15 = .ok (.ireturn, 1) := by decide +kernel
theorem dX2_put_0 : decode prog_4_method_17_code 0 = .ok (.aload_n 0, 1) := by decide +kernel
theorem dX2_put_1 : decode prog_4_method_17_code 1 = .ok (.getfield 49, 3) := by decide +kernel
theorem dX2_put_4 : decode prog_4_method_17_code 4 = .ok (.iload_n 1, 1) := by decide +kernel
theorem dX2_put_5 : decode prog_4_method_17_code 5 = .ok (.baload, 1) := by decide +kernel
theorem dX2_put_6 : decode prog_4_method_17_code 6 = .ok (.ifCond .eq 5, 3) := by decide +kernel
theorem dX2_put_9 : decode prog_4_method_17_code 9 = .ok (.iconst 2, 1) := by decide +kernel
theorem dX2_put_10 : decode prog_4_method_17_code 10 = .ok (.ireturn, 1) := by decide +kernel
theorem dX2_put_11 : decode prog_4_method_17_code 11 = .ok (.aload_n 0, 1) := by decide +kernel
theorem dX2_put_12 : decode prog_4_method_17_code 12 = .ok (.getfield 49, 3) := by decide +kernel
theorem dX2_put_15 : decode prog_4_method_17_code 15 = .ok (.iload_n 1, 1) := by decide +kernel
theorem dX2_put_16 : decode prog_4_method_17_code 16 = .ok (.iconst 1, 1) := by decide +kernel
theorem dX2_put_17 : decode prog_4_method_17_code 17 = .ok (.bastore, 1) := by decide +kernel
theorem dX2_put_18 : decode prog_4_method_17_code 18 = .ok (.aload_n 0, 1) := by decide +kernel
theorem dX2_put_19 : decode prog_4_method_17_code 19 = .ok (.getfield 45, 3) := by decide +kernel
theorem dX2_put_22 : decode prog_4_method_17_code 22 = .ok (.iload_n 1, 1) := by decide +kernel
theorem dX2_put_23 : decode prog_4_method_17_code 23 = .ok (.iload_n 2, 1) := by decide +kernel
theorem dX2_put_24 : decode prog_4_method_17_code 24 = .ok (.iastore, 1) := by decide +kernel
theorem dX2_put_25 : decode prog_4_method_17_code 25 = .ok (.iconst 0, 1) := by decide +kernel
theorem dX2_put_26 : decode prog_4_method_17_code 26 = .ok (.ireturn, 1) := by decide +kernel
theorem dX2_get_0 : decode prog_4_method_18_code 0 = .ok (.aload_n 0, 1) := by decide +kernel
theorem dX2_get_1 : decode prog_4_method_18_code 1 = .ok (.getfield 49, 3) := by decide +kernel
theorem dX2_get_4 : decode prog_4_method_18_code 4 = .ok (.iload_n 2, 1) := by decide +kernel
theorem dX2_get_5 : decode prog_4_method_18_code 5 = .ok (.baload, 1) := by decide +kernel
theorem dX2_get_6 : decode prog_4_method_18_code 6 = .ok (.ifCond .ne 11, 3) := by decide +kernel
theorem dX2_get_9 : decode prog_4_method_18_code 9 = .ok (.aload_n 1, 1) := by decide +kernel
theorem dX2_get_10 : decode prog_4_method_18_code 10 = .ok (.iconst 1, 1) := by decide +kernel
theorem dX2_get_11 : decode prog_4_method_18_code 11 = .ok (.iload_n 2, 1) := by decide +kernel
theorem dX2_get_12 : decode prog_4_method_18_code 12 = .ok (.invokevirtual 228, 3) := by decide +kernel
theorem dX2_get_15 : decode prog_4_method_18_code 15 = .ok (.iconst 0, 1) := by decide +kernel
theorem dX2_get_16 : decode prog_4_method_18_code 16 = .ok (.ireturn, 1) := by decide +kernel
theorem dX2_get_17 : decode prog_4_method_18_code 17 = .ok (.aload_n 1, 1) := by decide +kernel
theorem dX2_get_18 : decode prog_4_method_18_code 18 = .ok (.dup, 1) := by decide +kernel
theorem dX2_get_19 : decode prog_4_method_18_code 19 = .ok (.getfield 180, 3) := by decide +kernel
theorem dX2_get_22 : decode prog_4_method_18_code 22 = .ok (.aload_n 0, 1) := by decide +kernel
theorem dX2_get_23 : decode prog_4_method_18_code 23 = .ok (.getfield 45, 3) := by decide +kernel
theorem dX2_get_26 : decode prog_4_method_18_code 26 = .ok (.iload_n 2, 1) := by decide +kernel
theorem dX2_get_27 : decode prog_4_method_18_code 27 = .ok (.iaload, 1) := by decide +kernel
theorem dX2_get_28 : decode prog_4_method_18_code 28 = .ok (.iadd, 1) := by decide +kernel
theorem dX2_get_29 : decode prog_4_method_18_code 29 = .ok (.putfield 180, 3) := by decide +kernel
theorem dX2_get_32 : decode prog_4_method_18_code 32 = .ok (.aload_n 1, 1) := by decide +kernel
theorem dX2_get_33 : decode prog_4_method_18_code 33 = .ok (.iconst 0, 1) := by decide +kernel
theorem dX2_get_34 : decode prog_4_method_18_code 34 = .ok (.putfield 127, 3) := by decide +kernel
theorem dX2_get_37 : decode prog_4_method_18_code 37 = .ok (.aload_n 1, 1) := by decide +kernel
theorem dX2_get_38 : decode prog_4_method_18_code 38 = .ok (.dup, 1) := by decide +kernel
theorem dX2_get_39 : decode prog_4_method_18_code 39 = .ok (.getfield 134, 3) := by decide +kernel
theorem dX2_get_42 : decode prog_4_method_18_code 42 = .ok (.iconst 1, 1) := by decide +kernel
theorem dX2_get_43 : decode prog_4_method_18_code 43 = .ok (.iadd, 1) := by decide +kernel
theorem dX2_get_44 : decode prog_4_method_18_code 44 = .ok (.putfield 134, 3) := by decide +kernel
theorem dX2_get_47 : decode prog_4_method_18_code 47 = .ok (.iconst 0, 1) := by decide +kernel
theorem dX2_get_48 : decode prog_4_method_18_code 48 = .ok (.ireturn, 1) := by decide +kernel
theorem dX2_join_0 : decode prog_4_method_19_code 0 = .ok (.iload_n 3, 1) := by decide +kernel
theorem dX2_join_1 : decode prog_4_method_19_code 1 = .ok (.ifCond .eq 15, 3) := by decide +kernel
theorem dX2_join_4 : decode prog_4_method_19_code 4 = .ok (.aload_n 2, 1) := by decide +kernel
theorem dX2_join_5 : decode prog_4_method_19_code 5 = .ok (.getfield 238, 3) := by decide +kernel
theorem dX2_join_8 : decode prog_4_method_19_code 8 = .ok (.aload_n 1, 1) := by decide +kernel
theorem dX2_join_9 : decode prog_4_method_19_code 9 = .ok (.getfield 222, 3) := by decide +kernel
theorem dX2_join_12 : decode prog_4_method_19_code 12 = .ok (.iaload, 1) := by decide +kernel
theorem dX2_join_13 : decode prog_4_method_19_code 13 = .ok (.ifCond .eq 5, 3) := by decide +kernel
theorem dX2_join_16 : decode prog_4_method_19_code 16 = .ok (.iconst 3, 1) := by decide +kernel
theorem dX2_join_17 : decode prog_4_method_19_code 17 = .ok (.ireturn, 1) := by decide +kernel
theorem dX2_join_18 : decode prog_4_method_19_code 18 = .ok (.aload_n 2, 1) := by decide +kernel
theorem dX2_join_19 : decode prog_4_method_19_code 19 = .ok (.aload_n 1, 1) := by decide +kernel
theorem dX2_join_20 : decode prog_4_method_19_code 20 = .ok (.getfield 222, 3) := by decide +kernel
theorem dX2_join_23 : decode prog_4_method_19_code 23 = .ok (.iload_n 3, 1) := by decide +kernel
theorem dX2_join_24 : decode prog_4_method_19_code 24 = .ok (.invokevirtual 241, 3) := by decide +kernel
theorem dX2_join_27 : decode prog_4_method_19_code 27 = .ok (.iconst 0, 1) := by decide +kernel
theorem dX2_join_28 : decode prog_4_method_19_code 28 = .ok (.ireturn, 1) := by decide +kernel
theorem dX2_leave_0 : decode prog_4_method_20_code 0 = .ok (.aload_n 2, 1) := by decide +kernel
theorem dX2_leave_1 : decode prog_4_method_20_code 1 = .ok (.getfield 238, 3) := by decide +kernel
theorem dX2_leave_4 : decode prog_4_method_20_code 4 = .ok (.aload_n 1, 1) := by decide +kernel
theorem dX2_leave_5 : decode prog_4_method_20_code 5 = .ok (.getfield 222, 3) := by decide +kernel
theorem dX2_leave_8 : decode prog_4_method_20_code 8 = .ok (.iaload, 1) := by decide +kernel
theorem dX2_leave_9 : decode prog_4_method_20_code 9 = .ok (.ifCond .ne 5, 3) := by decide +kernel
theorem dX2_leave_12 : decode prog_4_method_20_code 12 = .ok (.iconst 3, 1) := by decide +kernel
theorem dX2_leave_13 : decode prog_4_method_20_code 13 = .ok (.ireturn, 1) := by decide +kernel
theorem dX2_leave_14 : decode prog_4_method_20_code 14 = .ok (.aload_n 2, 1) := by decide +kernel
theorem dX2_leave_15 : decode prog_4_method_20_code 15 = .ok (.aload_n 1, 1) := by decide +kernel
theorem dX2_leave_16 : decode prog_4_method_20_code 16 = .ok (.getfield 222, 3) := by decide +kernel
theorem dX2_leave_19 : decode prog_4_method_20_code 19 = .ok (.invokevirtual 243, 3) := by decide +kernel
theorem dX2_leave_22 : decode prog_4_method_20_code 22 = .ok (.iconst 0, 1) := by decide +kernel
theorem dX2_leave_23 : decode prog_4_method_20_code 23 = .ok (.ireturn, 1) := by decide +kernel
theorem dX2_signalAll_0 : decode prog_4_method_21_code 0 = .ok (.iconst 0, 1) := by decide +kernel
theorem dX2_signalAll_1 : decode prog_4_method_21_code 1 = .ok (.istore_n 2, 1) := by decide +kernel
theorem dX2_signalAll_2 : decode prog_4_method_21_code 2 = .ok (.iload_n 2, 1) := by decide +kernel
theorem dX2_signalAll_3 : decode prog_4_method_21_code 3 = .ok (.iconst 2, 1) := by decide +kernel
theorem dX2_signalAll_4 : decode prog_4_method_21_code 4 = .ok (.if_icmp .ge 22, 3) := by decide +kernel
theorem dX2_signalAll_7 : decode prog_4_method_21_code 7 = .ok (.aload_n 0, 1) := by decide +kernel
theorem dX2_signalAll_8 : decode prog_4_method_21_code 8 = .ok (.getfield 33, 3) := by decide +kernel
theorem dX2_signalAll_11 : decode prog_4_method_21_code 11 = .ok (.iload_n 2, 1) := by decide +kernel
theorem dX2_signalAll_12 : decode prog_4_method_21_code 12 = .ok (.aaload, 1) := by decide +kernel
theorem dX2_signalAll_13 : decode prog_4_method_21_code 13 = .ok (.aload_n 1, 1) := by decide +kernel
theorem dX2_signalAll_14 : decode prog_4_method_21_code 14 = .ok (.getfield 222, 3) := by decide +kernel
theorem dX2_signalAll_17 : decode prog_4_method_21_code 17 = .ok (.invokevirtual 245, 3) := by decide +kernel
theorem dX2_signalAll_20 : decode prog_4_method_21_code 20 = .ok (.iinc 2 1, 3) := by decide +kernel
theorem dX2_signalAll_23 : decode prog_4_method_21_code 23 = .ok (.goto (-21), 3) := by decide +kernel
theorem dX2_signalAll_26 : decode prog_4_method_21_code 26 = .ok (.return_, 1) := by decide +kernel
theorem dX2_passPhases_0 : decode prog_4_method_22_code 0 = .ok (.aload_n 0, 1) := by decide +kernel
theorem dX2_passPhases_1 : decode prog_4_method_22_code 1 = .ok (.aload_n 1, 1) := by decide +kernel
theorem dX2_passPhases_2 : decode prog_4_method_22_code 2 = .ok (.invokevirtual 248, 3) := by decide +kernel
theorem dX2_passPhases_5 : decode prog_4_method_22_code 5 = .ok (.ifCond .eq 11, 3) := by decide +kernel
theorem dX2_passPhases_8 : decode prog_4_method_22_code 8 = .ok (.aload_n 1, 1) := by decide +kernel
theorem dX2_passPhases_9 : decode prog_4_method_22_code 9 = .ok (.iconst 2, 1) := by decide +kernel
theorem dX2_passPhases_10 : decode prog_4_method_22_code 10 = .ok (.iconst 0, 1) := by decide +kernel
theorem dX2_passPhases_11 : decode prog_4_method_22_code 11 = .ok (.invokevirtual 228, 3) := by decide +kernel
theorem dX2_passPhases_14 : decode prog_4_method_22_code 14 = .ok (.iconst 0, 1) := by decide +kernel
theorem dX2_passPhases_15 : decode prog_4_method_22_code 15 = .ok (.ireturn, 1) := by decide +kernel
theorem dX2_passPhases_16 : decode prog_4_method_22_code 16 = .ok (.iconst 0, 1) := by decide +kernel
theorem dX2_passPhases_17 : decode prog_4_method_22_code 17 = .ok (.istore_n 2, 1) := by decide +kernel
theorem dX2_passPhases_18 : decode prog_4_method_22_code 18 = .ok (.iload_n 2, 1) := by decide +kernel
theorem dX2_passPhases_19 : decode prog_4_method_22_code 19 = .ok (.iconst 2, 1) := by decide +kernel
theorem dX2_passPhases_20 : decode prog_4_method_22_code 20 = .ok (.if_icmp .ge 22, 3) := by decide +kernel
theorem dX2_passPhases_23 : decode prog_4_method_22_code 23 = .ok (.aload_n 0, 1) := by decide +kernel
theorem dX2_passPhases_24 : decode prog_4_method_22_code 24 = .ok (.getfield 33, 3) := by decide +kernel
theorem dX2_passPhases_27 : decode prog_4_method_22_code 27 = .ok (.iload_n 2, 1) := by decide +kernel
theorem dX2_passPhases_28 : decode prog_4_method_22_code 28 = .ok (.aaload, 1) := by decide +kernel
theorem dX2_passPhases_29 : decode prog_4_method_22_code 29 = .ok (.aload_n 1, 1) := by decide +kernel
theorem dX2_passPhases_30 : decode prog_4_method_22_code 30 = .ok (.getfield 222, 3) := by decide +kernel
theorem dX2_passPhases_33 : decode prog_4_method_22_code 33 = .ok (.invokevirtual 252, 3) := by decide +kernel
theorem dX2_passPhases_36 : decode prog_4_method_22_code 36 = .ok (.iinc 2 1, 3) := by decide +kernel
theorem dX2_passPhases_39 : decode prog_4_method_22_code 39 = .ok (.goto (-21), 3) := by decide +kernel
theorem dX2_passPhases_42 : decode prog_4_method_22_code 42 = .ok (.aload_n 1, 1) := by decide +kernel
theorem dX2_passPhases_43 : decode prog_4_method_22_code 43 = .ok (.iconst 0, 1) := by decide +kernel
theorem dX2_passPhases_44 : decode prog_4_method_22_code 44 = .ok (.putfield 127, 3) := by decide +kernel
theorem dX2_passPhases_47 : decode prog_4_method_22_code 47 = .ok (.aload_n 1, 1) := by decide +kernel
theorem dX2_passPhases_48 : decode prog_4_method_22_code 48 = .ok (.dup, 1) := by decide +kernel
theorem dX2_passPhases_49 : decode prog_4_method_22_code 49 = .ok (.getfield 134, 3) := by decide +kernel
theorem dX2_passPhases_52 : decode prog_4_method_22_code 52 = .ok (.iconst 1, 1) := by decide +kernel
theorem dX2_passPhases_53 : decode prog_4_method_22_code 53 = .ok (.iadd, 1) := by decide +kernel
theorem dX2_passPhases_54 : decode prog_4_method_22_code 54 = .ok (.putfield 134, 3) := by decide +kernel
theorem dX2_passPhases_57 : decode prog_4_method_22_code 57 = .ok (.iconst 0, 1) := by decide +kernel
theorem dX2_passPhases_58 : decode prog_4_method_22_code 58 = .ok (.ireturn, 1) := by decide +kernel
theorem dX2_isHeldBack_0 : decode prog_4_method_23_code 0 = .ok (.iconst 0, 1) := by decide +kernel
theorem dX2_isHeldBack_1 : decode prog_4_method_23_code 1 = .ok (.istore_n 2, 1) := by decide +kernel
theorem dX2_isHeldBack_2 : decode prog_4_method_23_code 2 = .ok (.iload_n 2, 1) := by decide +kernel
theorem dX2_isHeldBack_3 : decode prog_4_method_23_code 3 = .ok (.iconst 2, 1) := by decide +kernel
theorem dX2_isHeldBack_4 : decode prog_4_method_23_code 4 = .ok (.if_icmp .ge 27, 3) := by decide +kernel
theorem dX2_isHeldBack_7 : decode prog_4_method_23_code 7 = .ok (.aload_n 0, 1) := by decide +kernel
theorem dX2_isHeldBack_8 : decode prog_4_method_23_code 8 = .ok (.getfield 33, 3) := by decide +kernel
theorem dX2_isHeldBack_11 : decode prog_4_method_23_code 11 = .ok (.iload_n 2, 1) := by decide +kernel
theorem dX2_isHeldBack_12 : decode prog_4_method_23_code 12 = .ok (.aaload, 1) := by decide +kernel
theorem dX2_isHeldBack_13 : decode prog_4_method_23_code 13 = .ok (.aload_n 1, 1) := by decide +kernel
theorem dX2_isHeldBack_14 : decode prog_4_method_23_code 14 = .ok (.getfield 222, 3) := by decide +kernel
theorem dX2_isHeldBack_17 : decode prog_4_method_23_code 17 = .ok (.invokevirtual 255, 3) := by decide +kernel
theorem dX2_isHeldBack_20 : decode prog_4_method_23_code 20 = .ok (.ifCond .eq 5, 3) := by decide +kernel
theorem dX2_isHeldBack_23 : decode prog_4_method_23_code 23 = .ok (.iconst 1, 1) := by decide +kernel
theorem dX2_isHeldBack_24 : decode prog_4_method_23_code 24 = .ok (.ireturn, 1) := by decide +kernel
theorem dX2_isHeldBack_25 : decode prog_4_method_23_code 25 = .ok (.iinc 2 1, 3) := by decide +kernel
theorem dX2_isHeldBack_28 : decode prog_4_method_23_code 28 = .ok (.goto (-26), 3) := by decide +kernel
theorem dX2_isHeldBack_31 : decode prog_4_method_23_code 31 = .ok (.iconst 0, 1) := by decide +kernel
theorem dX2_isHeldBack_32 : decode prog_4_method_23_code 32 = .ok (.ireturn, 1) := by decide +kernel
theorem dX2_say_0 : decode prog_4_method_24_code 0 = .ok (.aload_n 0, 1) := by decide +kernel
theorem dX2_say_1 : decode prog_4_method_24_code 1 = .ok (.getfield 67, 3) := by decide +kernel
theorem dX2_say_4 : decode prog_4_method_24_code 4 = .ok (.bipush 40, 2) := by decide +kernel
theorem dX2_say_6 : decode prog_4_method_24_code 6 = .ok (.if_icmp .ge 13, 3) := by decide +kernel
theorem dX2_say_9 : decode prog_4_method_24_code 9 = .ok (.aload_n 0, 1) := by decide +kernel
theorem dX2_say_10 : decode prog_4_method_24_code 10 = .ok (.getfield 53, 3) := by decide +kernel
theorem dX2_say_13 : decode prog_4_method_24_code 13 = .ok (.aload_n 0, 1) := by decide +kernel
theorem dX2_say_14 : decode prog_4_method_24_code 14 = .ok (.getfield 67, 3) := by decide +kernel
theorem dX2_say_17 : decode prog_4_method_24_code 17 = .ok (.iload_n 1, 1) := by decide +kernel
theorem dX2_say_18 : decode prog_4_method_24_code 18 = .ok (.iastore, 1) := by decide +kernel
theorem dX2_say_19 : decode prog_4_method_24_code 19 = .ok (.aload_n 0, 1) := by decide +kernel
theorem dX2_say_20 : decode prog_4_method_24_code 20 = .ok (.dup, 1) := by decide +kernel
theorem dX2_say_21 : decode prog_4_method_24_code 21 = .ok (.getfield 67, 3) := by decide +kernel
theorem dX2_say_24 : decode prog_4_method_24_code 24 = .ok (.iconst 1, 1) := by decide +kernel
theorem dX2_say_25 : decode prog_4_method_24_code 25 = .ok (.iadd, 1) := by decide +kernel
theorem dX2_say_26 : decode prog_4_method_24_code 26 = .ok (.putfield 67, 3) := by decide +kernel
theorem dX2_say_29 : decode prog_4_method_24_code 29 = .ok (.return_, 1) := by decide +kernel
theorem dX2_endScope_0 : decode prog_4_method_25_code 0 = .ok (.aload_n 1, 1) := by decide +kernel
theorem dX2_endScope_1 : decode prog_4_method_25_code 1 = .ok (.invokevirtual 151, 3) := by decide +kernel
theorem dX2_endScope_4 : decode prog_4_method_25_code 4 = .ok (.astore_n 2, 1) := by decide +kernel
theorem dX2_endScope_5 : decode prog_4_method_25_code 5 = .ok (.aload_n 2, 1) := by decide +kernel
theorem dX2_endScope_6 : decode prog_4_method_25_code 6 = .ok (.getfield 90, 3) := by decide +kernel
theorem dX2_endScope_9 : decode prog_4_method_25_code 9 = .ok (.ifCond .le 10, 3) := by decide +kernel
theorem dX2_endScope_12 : decode prog_4_method_25_code 12 = .ok (.aload_n 1, 1) := by decide +kernel
theorem dX2_endScope_13 : decode prog_4_method_25_code 13 = .ok (.iconst 2, 1) := by decide +kernel
theorem dX2_endScope_14 : decode prog_4_method_25_code 14 = .ok (.putfield 124, 3) := by decide +kernel
theorem dX2_endScope_17 : decode prog_4_method_25_code 17 = .ok (.iconst 0, 1) := by decide +kernel
theorem dX2_endScope_18 : decode prog_4_method_25_code 18 = .ok (.ireturn, 1) := by decide +kernel
theorem dX2_endScope_19 : decode prog_4_method_25_code 19 = .ok (.aload_n 1, 1) := by decide +kernel
theorem dX2_endScope_20 : decode prog_4_method_25_code 20 = .ok (.getfield 127, 3) := by decide +kernel
theorem dX2_endScope_23 : decode prog_4_method_25_code 23 = .ok (.iconst 3, 1) := by decide +kernel
theorem dX2_endScope_24 : decode prog_4_method_25_code 24 = .ok (.if_icmp .ne 7, 3) := by decide +kernel
theorem dX2_endScope_27 : decode prog_4_method_25_code 27 = .ok (.iconst 1, 1) := by decide +kernel
theorem dX2_endScope_28 : decode prog_4_method_25_code 28 = .ok (.goto 4, 3) := by decide +kernel
theorem dX2_endScope_31 : decode prog_4_method_25_code 31 = .ok (.iconst 0, 1) := by decide +kernel
theorem dX2_endScope_32 : decode prog_4_method_25_code 32 = .ok (.istore_n 3, 1) := by decide +kernel
theorem dX2_endScope_33 : decode prog_4_method_25_code 33 = .ok (.aload_n 1, 1) := by decide +kernel
theorem dX2_endScope_34 : decode prog_4_method_25_code 34 = .ok (.dup, 1) := by decide +kernel
theorem dX2_endScope_35 : decode prog_4_method_25_code 35 = .ok (.getfield 231, 3) := by decide +kernel
theorem dX2_endScope_38 : decode prog_4_method_25_code 38 = .ok (.iconst 1, 1) := by decide +kernel
theorem dX2_endScope_39 : decode prog_4_method_25_code 39 = .ok (.isub, 1) := by decide +kernel
theorem dX2_endScope_40 : decode prog_4_method_25_code 40 = .ok (.putfield 231, 3) := by decide +kernel
theorem dX2_endScope_43 : decode prog_4_method_25_code 43 = .ok (.aload_n 1, 1) := by decide +kernel
theorem dX2_endScope_44 : decode prog_4_method_25_code 44 = .ok (.iconst 0, 1) := by decide +kernel
theorem dX2_endScope_45 : decode prog_4_method_25_code 45 = .ok (.putfield 127, 3) := by decide +kernel
theorem dX2_endScope_48 : decode prog_4_method_25_code 48 = .ok (.aload_n 2, 1) := by decide +kernel
theorem dX2_endScope_49 : decode prog_4_method_25_code 49 = .ok (.getfield 259, 3) := by decide +kernel
theorem dX2_endScope_52 : decode prog_4_method_25_code 52 = .ok (.ifCond .ne 35, 3) := by decide +kernel
theorem dX2_endScope_55 : decode prog_4_method_25_code 55 = .ok (.aload_n 1, 1) := by decide +kernel
theorem dX2_endScope_56 : decode prog_4_method_25_code 56 = .ok (.aload_n 2, 1) := by decide +kernel
theorem dX2_endScope_57 : decode prog_4_method_25_code 57 = .ok (.aload_n 1, 1) := by decide +kernel
theorem dX2_endScope_58 : decode prog_4_method_25_code 58 = .ok (.getfield 180, 3) := by decide +kernel
theorem dX2_endScope_61 : decode prog_4_method_25_code 61 = .ok (.invokevirtual 262, 3) := by decide +kernel
theorem dX2_endScope_64 : decode prog_4_method_25_code 64 = .ok (.putfield 180, 3) := by decide +kernel
theorem dX2_endScope_67 : decode prog_4_method_25_code 67 = .ok (.aload_n 1, 1) := by decide +kernel
theorem dX2_endScope_68 : decode prog_4_method_25_code 68 = .ok (.dup, 1) := by decide +kernel
theorem dX2_endScope_69 : decode prog_4_method_25_code 69 = .ok (.getfield 134, 3) := by decide +kernel
theorem dX2_endScope_72 : decode prog_4_method_25_code 72 = .ok (.iload_n 3, 1) := by decide +kernel
theorem dX2_endScope_73 : decode prog_4_method_25_code 73 = .ok (.ifCond .eq 7, 3) := by decide +kernel
theorem dX2_endScope_76 : decode prog_4_method_25_code 76 = .ok (.iconst 1, 1) := by decide +kernel
theorem dX2_endScope_77 : decode prog_4_method_25_code 77 = .ok (.goto 4, 3) := by decide +kernel
theorem dX2_endScope_80 : decode prog_4_method_25_code 80 = .ok (.iconst 0, 1) := by decide +kernel
theorem dX2_endScope_81 : decode prog_4_method_25_code 81 = .ok (.iadd, 1) := by decide +kernel
theorem dX2_endScope_82 : decode prog_4_method_25_code 82 = .ok (.putfield 134, 3) := by decide +kernel
theorem dX2_endScope_85 : decode prog_4_method_25_code 85 = .ok (.iconst 0, 1) := by decide +kernel
theorem dX2_endScope_86 : decode prog_4_method_25_code 86 = .ok (.ireturn, 1) := by decide +kernel
theorem dX2_endScope_87 : decode prog_4_method_25_code 87 = .ok (.aload_n 2, 1) := by decide +kernel
theorem dX2_endScope_88 : decode prog_4_method_25_code 88 = .ok (.getfield 266, 3) := by decide +kernel
theorem dX2_endScope_91 : decode prog_4_method_25_code 91 = .ok (.ifCond .ne 8, 3) := by decide +kernel
theorem dX2_endScope_94 : decode prog_4_method_25_code 94 = .ok (.aload_n 2, 1) := by decide +kernel
theorem dX2_endScope_95 : decode prog_4_method_25_code 95 = .ok (.getfield 269, 3) := by decide +kernel
theorem dX2_endScope_98 : decode prog_4_method_25_code 98 = .ok (.ireturn, 1) := by decide +kernel
theorem dX2_endScope_99 : decode prog_4_method_25_code 99 = .ok (.aload_n 1, 1) := by decide +kernel
theorem dX2_endScope_100 : decode prog_4_method_25_code 100 = .ok (.aload_n 2, 1) := by decide +kernel
theorem dX2_endScope_101 : decode prog_4_method_25_code 101 = .ok (.getfield 269, 3) := by decide +kernel
theorem dX2_endScope_104 : decode prog_4_method_25_code 104 = .ok (.putfield 180, 3) := by decide +kernel
theorem dX2_endScope_107 : decode prog_4_method_25_code 107 = .ok (.aload_n 1, 1) := by decide +kernel
theorem dX2_endScope_108 : decode prog_4_method_25_code 108 = .ok (.aload_n 2, 1) := by decide +kernel
theorem dX2_endScope_109 : decode prog_4_method_25_code 109 = .ok (.getfield 266, 3) := by decide +kernel
theorem dX2_endScope_112 : decode prog_4_method_25_code 112 = .ok (.putfield 134, 3) := by decide +kernel
theorem dX2_endScope_115 : decode prog_4_method_25_code 115 = .ok (.iconst 0, 1) := by decide +kernel
theorem dX2_endScope_116 : decode prog_4_method_25_code 116 = .ok (.ireturn, 1) := by decide +kernel
theorem dX2_endInnermost_0 : decode prog_4_method_26_code 0 = .ok (.aload_n 1, 1) := by decide +kernel
theorem dX2_endInnermost_1 : decode prog_4_method_26_code 1 = .ok (.getfield 231, 3) := by decide +kernel
theorem dX2_endInnermost_4 : decode prog_4_method_26_code 4 = .ok (.ifCond .le 11, 3) := by decide +kernel
theorem dX2_endInnermost_7 : decode prog_4_method_26_code 7 = .ok (.aload_n 1, 1) := by decide +kernel
theorem dX2_endInnermost_8 : decode prog_4_method_26_code 8 = .ok (.iconst 4, 1) := by decide +kernel
theorem dX2_endInnermost_9 : decode prog_4_method_26_code 9 = .ok (.putfield 127, 3) := by decide +kernel
theorem dX2_endInnermost_12 : decode prog_4_method_26_code 12 = .ok (.goto 8, 3) := by decide +kernel
theorem dX2_endInnermost_15 : decode prog_4_method_26_code 15 = .ok (.aload_n 0, 1) := by decide +kernel
theorem dX2_endInnermost_16 : decode prog_4_method_26_code 16 = .ok (.aload_n 1, 1) := by decide +kernel
theorem dX2_endInnermost_17 : decode prog_4_method_26_code 17 = .ok (.invokevirtual 272, 3) := by decide +kernel
theorem dX2_endInnermost_20 : decode prog_4_method_26_code 20 = .ok (.return_, 1) := by decide +kernel
theorem dX2_finish_0 : decode prog_4_method_27_code 0 = .ok (.aload_n 1, 1) := by decide +kernel
theorem dX2_finish_1 : decode prog_4_method_27_code 1 = .ok (.iconst 3, 1) := by decide +kernel
theorem dX2_finish_2 : decode prog_4_method_27_code 2 = .ok (.putfield 124, 3) := by decide +kernel
theorem dX2_finish_5 : decode prog_4_method_27_code 5 = .ok (.iconst 0, 1) := by decide +kernel
theorem dX2_finish_6 : decode prog_4_method_27_code 6 = .ok (.istore_n 2, 1) := by decide +kernel
theorem dX2_finish_7 : decode prog_4_method_27_code 7 = .ok (.iload_n 2, 1) := by decide +kernel
theorem dX2_finish_8 : decode prog_4_method_27_code 8 = .ok (.iconst 2, 1) := by decide +kernel
theorem dX2_finish_9 : decode prog_4_method_27_code 9 = .ok (.if_icmp .ge 22, 3) := by decide +kernel
theorem dX2_finish_12 : decode prog_4_method_27_code 12 = .ok (.aload_n 0, 1) := by decide +kernel
theorem dX2_finish_13 : decode prog_4_method_27_code 13 = .ok (.getfield 33, 3) := by decide +kernel
theorem dX2_finish_16 : decode prog_4_method_27_code 16 = .ok (.iload_n 2, 1) := by decide +kernel
theorem dX2_finish_17 : decode prog_4_method_27_code 17 = .ok (.aaload, 1) := by decide +kernel
theorem dX2_finish_18 : decode prog_4_method_27_code 18 = .ok (.aload_n 1, 1) := by decide +kernel
theorem dX2_finish_19 : decode prog_4_method_27_code 19 = .ok (.getfield 222, 3) := by decide +kernel
theorem dX2_finish_22 : decode prog_4_method_27_code 22 = .ok (.invokevirtual 243, 3) := by decide +kernel
theorem dX2_finish_25 : decode prog_4_method_27_code 25 = .ok (.iinc 2 1, 3) := by decide +kernel
theorem dX2_finish_28 : decode prog_4_method_27_code 28 = .ok (.goto (-21), 3) := by decide +kernel
theorem dX2_finish_31 : decode prog_4_method_27_code 31 = .ok (.aload_n 1, 1) := by decide +kernel
theorem dX2_finish_32 : decode prog_4_method_27_code 32 = .ok (.getfield 275, 3) := by decide +kernel
theorem dX2_finish_35 : decode prog_4_method_27_code 35 = .ok (.dup, 1) := by decide +kernel
theorem dX2_finish_36 : decode prog_4_method_27_code 36 = .ok (.getfield 90, 3) := by decide +kernel
theorem dX2_finish_39 : decode prog_4_method_27_code 39 = .ok (.iconst 1, 1) := by decide +kernel
theorem dX2_finish_40 : decode prog_4_method_27_code 40 = .ok (.isub, 1) := by decide +kernel
theorem dX2_finish_41 : decode prog_4_method_27_code 41 = .ok (.putfield 90, 3) := by decide +kernel
theorem dX2_finish_44 : decode prog_4_method_27_code 44 = .ok (.return_, 1) := by decide +kernel
theorem dX2_wakeAll_0 : decode prog_4_method_28_code 0 = .ok (.iconst 0, 1) := by decide +kernel
theorem dX2_wakeAll_1 : decode prog_4_method_28_code 1 = .ok (.istore_n 2, 1) := by decide +kernel
theorem dX2_wakeAll_2 : decode prog_4_method_28_code 2 = .ok (.iload_n 2, 1) := by decide +kernel
theorem dX2_wakeAll_3 : decode prog_4_method_28_code 3 = .ok (.aload_n 0, 1) := by decide +kernel
theorem dX2_wakeAll_4 : decode prog_4_method_28_code 4 = .ok (.getfield 64, 3) := by decide +kernel
theorem dX2_wakeAll_7 : decode prog_4_method_28_code 7 = .ok (.if_icmp .ge 50, 3) := by decide +kernel
theorem dX2_wakeAll_10 : decode prog_4_method_28_code 10 = .ok (.aload_n 0, 1) := by decide +kernel
theorem dX2_wakeAll_11 : decode prog_4_method_28_code 11 = .ok (.getfield 24, 3) := by decide +kernel
theorem dX2_wakeAll_14 : decode prog_4_method_28_code 14 = .ok (.iload_n 2, 1) := by decide +kernel
theorem dX2_wakeAll_15 : decode prog_4_method_28_code 15 = .ok (.aaload, 1) := by decide +kernel
theorem dX2_wakeAll_16 : decode prog_4_method_28_code 16 = .ok (.getfield 124, 3) := by decide +kernel
theorem dX2_wakeAll_19 : decode prog_4_method_28_code 19 = .ok (.iconst 2, 1) := by decide +kernel
theorem dX2_wakeAll_20 : decode prog_4_method_28_code 20 = .ok (.if_icmp .ne 31, 3) := by decide +kernel
theorem dX2_wakeAll_23 : decode prog_4_method_28_code 23 = .ok (.aload_n 0, 1) := by decide +kernel
theorem dX2_wakeAll_24 : decode prog_4_method_28_code 24 = .ok (.aload_n 0, 1) := by decide +kernel
theorem dX2_wakeAll_25 : decode prog_4_method_28_code 25 = .ok (.getfield 24, 3) := by decide +kernel
theorem dX2_wakeAll_28 : decode prog_4_method_28_code 28 = .ok (.iload_n 2, 1) := by decide +kernel
theorem dX2_wakeAll_29 : decode prog_4_method_28_code 29 = .ok (.aaload, 1) := by decide +kernel
theorem dX2_wakeAll_30 : decode prog_4_method_28_code 30 = .ok (.invokevirtual 278, 3) := by decide +kernel
theorem dX2_wakeAll_33 : decode prog_4_method_28_code 33 = .ok (.ifCond .eq 18, 3) := by decide +kernel
theorem dX2_wakeAll_36 : decode prog_4_method_28_code 36 = .ok (.aload_n 0, 1) := by decide +kernel
theorem dX2_wakeAll_37 : decode prog_4_method_28_code 37 = .ok (.getfield 24, 3) := by decide +kernel
theorem dX2_wakeAll_40 : decode prog_4_method_28_code 40 = .ok (.iload_n 2, 1) := by decide +kernel
theorem dX2_wakeAll_41 : decode prog_4_method_28_code 41 = .ok (.aaload, 1) := by decide +kernel
theorem dX2_wakeAll_42 : decode prog_4_method_28_code 42 = .ok (.iconst 0, 1) := by decide +kernel
theorem dX2_wakeAll_43 : decode prog_4_method_28_code 43 = .ok (.putfield 124, 3) := by decide +kernel
theorem dX2_wakeAll_46 : decode prog_4_method_28_code 46 = .ok (.aload_n 1, 1) := by decide +kernel
theorem dX2_wakeAll_47 : decode prog_4_method_28_code 47 = .ok (.iload_n 2, 1) := by decide +kernel
theorem dX2_wakeAll_48 : decode prog_4_method_28_code 48 = .ok (.invokevirtual 93, 3) := by decide +kernel
theorem dX2_wakeAll_51 : decode prog_4_method_28_code 51 = .ok (.iinc 2 1, 3) := by decide +kernel
theorem dX2_wakeAll_54 : decode prog_4_method_28_code 54 = .ok (.goto (-52), 3) := by decide +kernel
theorem dX2_wakeAll_57 : decode prog_4_method_28_code 57 = .ok (.return_, 1) := by decide +kernel
theorem dX2_isWaitOver_0 : decode prog_4_method_29_code 0 = .ok (.aload_n 1, 1) := by decide +kernel
theorem dX2_isWaitOver_1 : decode prog_4_method_29_code 1 = .ok (.getfield 127, 3) := by decide +kernel
theorem dX2_isWaitOver_4 : decode prog_4_method_29_code 4 = .ok (.tableswitch 52 0 2 #[28, 28, 38], 28) := by decide +kernel
theorem dX2_isWaitOver_32 : decode prog_4_method_29_code 32 = .ok (.aload_n 0, 1) := by decide +kernel
theorem dX2_isWaitOver_33 : decode prog_4_method_29_code 33 = .ok (.getfield 49, 3) := by decide +kernel
theorem dX2_isWaitOver_36 : decode prog_4_method_29_code 36 = .ok (.aload_n 1, 1) := by decide +kernel
theorem dX2_isWaitOver_37 : decode prog_4_method_29_code 37 = .ok (.getfield 161, 3) := by decide +kernel
theorem dX2_isWaitOver_40 : decode prog_4_method_29_code 40 = .ok (.baload, 1) := by decide +kernel
theorem dX2_isWaitOver_41 : decode prog_4_method_29_code 41 = .ok (.ireturn, 1) := by decide +kernel
theorem dX2_isWaitOver_42 : decode prog_4_method_29_code 42 = .ok (.aload_n 0, 1) := by decide +kernel
theorem dX2_isWaitOver_43 : decode prog_4_method_29_code 43 = .ok (.aload_n 1, 1) := by decide +kernel
theorem dX2_isWaitOver_44 : decode prog_4_method_29_code 44 = .ok (.invokevirtual 248, 3) := by decide +kernel
theorem dX2_isWaitOver_47 : decode prog_4_method_29_code 47 = .ok (.ifCond .ne 7, 3) := by decide +kernel
theorem dX2_isWaitOver_50 : decode prog_4_method_29_code 50 = .ok (.iconst 1, 1) := by decide +kernel
theorem dX2_isWaitOver_51 : decode prog_4_method_29_code 51 = .ok (.goto 4, 3) := by decide +kernel
theorem dX2_isWaitOver_54 : decode prog_4_method_29_code 54 = .ok (.iconst 0, 1) := by decide +kernel
theorem dX2_isWaitOver_55 : decode prog_4_method_29_code 55 = .ok (.ireturn, 1) := by decide +kernel
theorem dX2_isWaitOver_56 : decode prog_4_method_29_code 56 = .ok (.aload_n 1, 1) := by decide +kernel
theorem dX2_isWaitOver_57 : decode prog_4_method_29_code 57 = .ok (.invokevirtual 151, 3) := by decide +kernel
theorem dX2_isWaitOver_60 : decode prog_4_method_29_code 60 = .ok (.getfield 90, 3) := by decide +kernel
theorem dX2_isWaitOver_63 : decode prog_4_method_29_code 63 = .ok (.ifCond .ne 7, 3) := by decide +kernel
theorem dX2_isWaitOver_66 : decode prog_4_method_29_code 66 = .ok (.iconst 1, 1) := by decide +kernel
theorem dX2_isWaitOver_67 : decode prog_4_method_29_code 67 = .ok (.goto 4, 3) := by decide +kernel
theorem dX2_isWaitOver_70 : decode prog_4_method_29_code 70 = .ok (.iconst 0, 1) := by decide +kernel
theorem dX2_isWaitOver_71 : decode prog_4_method_29_code 71 = .ok (.ireturn, 1) := by decide +kernel
theorem dX2_answerOf_0 : decode prog_4_method_30_code 0 = .ok (.iload_n 2, 1) := by decide +kernel
theorem dX2_answerOf_1 : decode prog_4_method_30_code 1 = .ok (.tableswitch 79 0 5 #[39, 44, 49, 54, 59, 64], 39) := by decide +kernel
theorem dX2_answerOf_40 : decode prog_4_method_30_code 40 = .ok (.aload_n 1, 1) := by decide +kernel
theorem dX2_answerOf_41 : decode prog_4_method_30_code 41 = .ok (.getfield 124, 3) := by decide +kernel
theorem dX2_answerOf_44 : decode prog_4_method_30_code 44 = .ok (.ireturn, 1) := by decide +kernel
theorem dX2_answerOf_45 : decode prog_4_method_30_code 45 = .ok (.aload_n 1, 1) := by decide +kernel
theorem dX2_answerOf_46 : decode prog_4_method_30_code 46 = .ok (.getfield 180, 3) := by decide +kernel
theorem dX2_answerOf_49 : decode prog_4_method_30_code 49 = .ok (.ireturn, 1) := by decide +kernel
theorem dX2_answerOf_50 : decode prog_4_method_30_code 50 = .ok (.aload_n 1, 1) := by decide +kernel
theorem dX2_answerOf_51 : decode prog_4_method_30_code 51 = .ok (.getfield 134, 3) := by decide +kernel
theorem dX2_answerOf_54 : decode prog_4_method_30_code 54 = .ok (.ireturn, 1) := by decide +kernel
theorem dX2_answerOf_55 : decode prog_4_method_30_code 55 = .ok (.aload_n 1, 1) := by decide +kernel
theorem dX2_answerOf_56 : decode prog_4_method_30_code 56 = .ok (.getfield 137, 3) := by decide +kernel
theorem dX2_answerOf_59 : decode prog_4_method_30_code 59 = .ok (.ireturn, 1) := by decide +kernel
theorem dX2_answerOf_60 : decode prog_4_method_30_code 60 = .ok (.aload_n 1, 1) := by decide +kernel
theorem dX2_answerOf_61 : decode prog_4_method_30_code 61 = .ok (.getfield 231, 3) := by decide +kernel
theorem dX2_answerOf_64 : decode prog_4_method_30_code 64 = .ok (.ireturn, 1) := by decide +kernel
theorem dX2_answerOf_65 : decode prog_4_method_30_code 65 = .ok (.aload_n 0, 1) := by decide +kernel
theorem dX2_answerOf_66 : decode prog_4_method_30_code 66 = .ok (.getfield 33, 3) := by decide +kernel
theorem dX2_answerOf_69 : decode prog_4_method_30_code 69 = .ok (.iconst 0, 1) := by decide +kernel
theorem dX2_answerOf_70 : decode prog_4_method_30_code 70 = .ok (.aaload, 1) := by decide +kernel
theorem dX2_answerOf_71 : decode prog_4_method_30_code 71 = .ok (.getfield 238, 3) := by decide +kernel
theorem dX2_answerOf_74 : decode prog_4_method_30_code 74 = .ok (.aload_n 1, 1) := by decide +kernel
theorem dX2_answerOf_75 : decode prog_4_method_30_code 75 = .ok (.getfield 222, 3) := by decide +kernel
theorem dX2_answerOf_78 : decode prog_4_method_30_code 78 = .ok (.iaload, 1) := by decide +kernel
theorem dX2_answerOf_79 : decode prog_4_method_30_code 79 = .ok (.ireturn, 1) := by decide +kernel
theorem dX2_answerOf_80 : decode prog_4_method_30_code 80 = .ok (.aload_n 0, 1) := by decide +kernel
theorem dX2_answerOf_81 : decode prog_4_method_30_code 81 = .ok (.getfield 33, 3) := by decide +kernel
theorem dX2_answerOf_84 : decode prog_4_method_30_code 84 = .ok (.iconst 1, 1) := by decide +kernel
theorem dX2_answerOf_85 : decode prog_4_method_30_code 85 = .ok (.aaload, 1) := by decide +kernel
theorem dX2_answerOf_86 : decode prog_4_method_30_code 86 = .ok (.getfield 238, 3) := by decide +kernel
theorem dX2_answerOf_89 : decode prog_4_method_30_code 89 = .ok (.aload_n 1, 1) := by decide +kernel
theorem dX2_answerOf_90 : decode prog_4_method_30_code 90 = .ok (.getfield 222, 3) := by decide +kernel
theorem dX2_answerOf_93 : decode prog_4_method_30_code 93 = .ok (.iaload, 1) := by decide +kernel
theorem dX2_answerOf_94 : decode prog_4_method_30_code 94 = .ok (.ireturn, 1) := by decide +kernel
theorem dX2_figure_0 : decode prog_4_method_31_code 0 = .ok (.iload_n 1, 1) := by decide +kernel
theorem dX2_figure_1 : decode prog_4_method_31_code 1 = .ok (.tableswitch 121 0 9 #[55, 60, 65, 70, 75, 80, 85, 93, 101, 111], 55) := by decide +kernel
theorem dX2_figure_56 : decode prog_4_method_31_code 56 = .ok (.aload_n 0, 1) := by decide +kernel
theorem dX2_figure_57 : decode prog_4_method_31_code 57 = .ok (.getfield 64, 3) := by decide +kernel
theorem dX2_figure_60 : decode prog_4_method_31_code 60 = .ok (.ireturn, 1) := by decide +kernel
theorem dX2_figure_61 : decode prog_4_method_31_code 61 = .ok (.aload_n 0, 1) := by decide +kernel
theorem dX2_figure_62 : decode prog_4_method_31_code 62 = .ok (.invokevirtual 281, 3) := by decide +kernel
theorem dX2_figure_65 : decode prog_4_method_31_code 65 = .ok (.ireturn, 1) := by decide +kernel
theorem dX2_figure_66 : decode prog_4_method_31_code 66 = .ok (.aload_n 0, 1) := by decide +kernel
theorem dX2_figure_67 : decode prog_4_method_31_code 67 = .ok (.getfield 70, 3) := by decide +kernel
theorem dX2_figure_70 : decode prog_4_method_31_code 70 = .ok (.ireturn, 1) := by decide +kernel
theorem dX2_figure_71 : decode prog_4_method_31_code 71 = .ok (.aload_n 0, 1) := by decide +kernel
theorem dX2_figure_72 : decode prog_4_method_31_code 72 = .ok (.getfield 73, 3) := by decide +kernel
theorem dX2_figure_75 : decode prog_4_method_31_code 75 = .ok (.ireturn, 1) := by decide +kernel
theorem dX2_figure_76 : decode prog_4_method_31_code 76 = .ok (.aload_n 0, 1) := by decide +kernel
theorem dX2_figure_77 : decode prog_4_method_31_code 77 = .ok (.getfield 76, 3) := by decide +kernel
theorem dX2_figure_80 : decode prog_4_method_31_code 80 = .ok (.ireturn, 1) := by decide +kernel
theorem dX2_figure_81 : decode prog_4_method_31_code 81 = .ok (.aload_n 0, 1) := by decide +kernel
theorem dX2_figure_82 : decode prog_4_method_31_code 82 = .ok (.getfield 67, 3) := by decide +kernel
theorem dX2_figure_85 : decode prog_4_method_31_code 85 = .ok (.ireturn, 1) := by decide +kernel
theorem dX2_figure_86 : decode prog_4_method_31_code 86 = .ok (.aload_n 0, 1) := by decide +kernel
theorem dX2_figure_87 : decode prog_4_method_31_code 87 = .ok (.getfield 18, 3) := by decide +kernel
theorem dX2_figure_90 : decode prog_4_method_31_code 90 = .ok (.getfield 259, 3) := by decide +kernel
theorem dX2_figure_93 : decode prog_4_method_31_code 93 = .ok (.ireturn, 1) := by decide +kernel
theorem dX2_figure_94 : decode prog_4_method_31_code 94 = .ok (.aload_n 0, 1) := by decide +kernel
theorem dX2_figure_95 : decode prog_4_method_31_code 95 = .ok (.getfield 18, 3) := by decide +kernel
theorem dX2_figure_98 : decode prog_4_method_31_code 98 = .ok (.getfield 269, 3) := by decide +kernel
theorem dX2_figure_101 : decode prog_4_method_31_code 101 = .ok (.ireturn, 1) := by decide +kernel
theorem dX2_figure_102 : decode prog_4_method_31_code 102 = .ok (.aload_n 0, 1) := by decide +kernel
theorem dX2_figure_103 : decode prog_4_method_31_code 103 = .ok (.getfield 33, 3) := by decide +kernel
theorem dX2_figure_106 : decode prog_4_method_31_code 106 = .ok (.iconst 0, 1) := by decide +kernel
theorem dX2_figure_107 : decode prog_4_method_31_code 107 = .ok (.aaload, 1) := by decide +kernel
theorem dX2_figure_108 : decode prog_4_method_31_code 108 = .ok (.getfield 284, 3) := by decide +kernel
theorem dX2_figure_111 : decode prog_4_method_31_code 111 = .ok (.ireturn, 1) := by decide +kernel
theorem dX2_figure_112 : decode prog_4_method_31_code 112 = .ok (.aload_n 0, 1) := by decide +kernel
theorem dX2_figure_113 : decode prog_4_method_31_code 113 = .ok (.getfield 33, 3) := by decide +kernel
theorem dX2_figure_116 : decode prog_4_method_31_code 116 = .ok (.iconst 1, 1) := by decide +kernel
theorem dX2_figure_117 : decode prog_4_method_31_code 117 = .ok (.aaload, 1) := by decide +kernel
theorem dX2_figure_118 : decode prog_4_method_31_code 118 = .ok (.getfield 284, 3) := by decide +kernel
theorem dX2_figure_121 : decode prog_4_method_31_code 121 = .ok (.ireturn, 1) := by decide +kernel
theorem dX2_figure_122 : decode prog_4_method_31_code 122 = .ok (.aload_n 0, 1) := by decide +kernel
theorem dX2_figure_123 : decode prog_4_method_31_code 123 = .ok (.invokevirtual 107, 3) := by decide +kernel
theorem dX2_figure_126 : decode prog_4_method_31_code 126 = .ok (.ifCond .eq 7, 3) := by decide +kernel
theorem dX2_figure_129 : decode prog_4_method_31_code 129 = .ok (.iconst 1, 1) := by decide +kernel
theorem dX2_figure_130 : decode prog_4_method_31_code 130 = .ok (.goto 4, 3) := by decide +kernel
theorem dX2_figure_133 : decode prog_4_method_31_code 133 = .ok (.iconst 0, 1) := by decide +kernel
theorem dX2_figure_134 : decode prog_4_method_31_code 134 = .ok (.ireturn, 1) := by decide +kernel
theorem dX2_unfinishedTasks_0 : decode prog_4_method_32_code 0 = .ok (.iconst 0, 1) := by decide +kernel
theorem dX2_unfinishedTasks_1 : decode prog_4_method_32_code 1 = .ok (.istore_n 1, 1) := by decide +kernel
theorem dX2_unfinishedTasks_2 : decode prog_4_method_32_code 2 = .ok (.iconst 0, 1) := by decide +kernel
theorem dX2_unfinishedTasks_3 : decode prog_4_method_32_code 3 = .ok (.istore_n 2, 1) := by decide +kernel
theorem dX2_unfinishedTasks_4 : decode prog_4_method_32_code 4 = .ok (.iload_n 2, 1) := by decide +kernel
theorem dX2_unfinishedTasks_5 : decode prog_4_method_32_code 5 = .ok (.aload_n 0, 1) := by decide +kernel
theorem dX2_unfinishedTasks_6 : decode prog_4_method_32_code 6 = .ok (.getfield 64, 3) := by decide +kernel
theorem dX2_unfinishedTasks_9 : decode prog_4_method_32_code 9 = .ok (.if_icmp .ge 25, 3) := by decide +kernel
theorem dX2_unfinishedTasks_12 : decode prog_4_method_32_code 12 = .ok (.aload_n 0, 1) := by decide +kernel
theorem dX2_unfinishedTasks_13 : decode prog_4_method_32_code 13 = .ok (.getfield 24, 3) := by decide +kernel
theorem dX2_unfinishedTasks_16 : decode prog_4_method_32_code 16 = .ok (.iload_n 2, 1) := by decide +kernel
theorem dX2_unfinishedTasks_17 : decode prog_4_method_32_code 17 = .ok (.aaload, 1) := by decide +kernel
theorem dX2_unfinishedTasks_18 : decode prog_4_method_32_code 18 = .ok (.getfield 124, 3) := by decide +kernel
theorem dX2_unfinishedTasks_21 : decode prog_4_method_32_code 21 = .ok (.iconst 3, 1) := by decide +kernel
theorem dX2_unfinishedTasks_22 : decode prog_4_method_32_code 22 = .ok (.if_icmp .eq 6, 3) := by decide +kernel
theorem dX2_unfinishedTasks_25 : decode prog_4_method_32_code 25 = .ok (.iinc 1 1, 3) := by decide +kernel
theorem dX2_unfinishedTasks_28 : decode prog_4_method_32_code 28 = .ok (.iinc 2 1, 3) := by decide +kernel
theorem dX2_unfinishedTasks_31 : decode prog_4_method_32_code 31 = .ok (.goto (-27), 3) := by decide +kernel
theorem dX2_unfinishedTasks_34 : decode prog_4_method_32_code 34 = .ok (.iload_n 1, 1) := by decide +kernel
theorem dX2_unfinishedTasks_35 : decode prog_4_method_32_code 35 = .ok (.ireturn, 1) := by decide +kernel
end
section
theorem dX3_init_0 : decode prog_5_method_1_code 0 = .ok (.aload_n 0, 1) := by decide +kernel
theorem dX3_init_1 : decode prog_5_method_1_code 1 = .ok (.invokespecial 3, 3) := by decide +kernel
theorem dX3_init_4 : decode prog_5_method_1_code 4 = .ok (.return_, 1) := by decide +kernel
theorem dX3_open_0 : decode prog_5_method_2_code 0 = .ok (.aload_n 0, 1) := by decide +kernel
theorem dX3_open_1 : decode prog_5_method_2_code 1 = .ok (.iload_n 1, 1) := by decide +kernel
theorem dX3_open_2 : decode prog_5_method_2_code 2 = .ok (.putfield 9, 3) := by decide +kernel
theorem dX3_open_5 : decode prog_5_method_2_code 5 = .ok (.aload_n 0, 1) := by decide +kernel
theorem dX3_open_6 : decode prog_5_method_2_code 6 = .ok (.iload_n 2, 1) := by decide +kernel
theorem dX3_open_7 : decode prog_5_method_2_code 7 = .ok (.putfield 15, 3) := by decide +kernel
theorem dX3_open_10 : decode prog_5_method_2_code 10 = .ok (.aload_n 0, 1) := by decide +kernel
theorem dX3_open_11 : decode prog_5_method_2_code 11 = .ok (.iconst 0, 1) := by decide +kernel
theorem dX3_open_12 : decode prog_5_method_2_code 12 = .ok (.putfield 18, 3) := by decide +kernel
theorem dX3_open_15 : decode prog_5_method_2_code 15 = .ok (.aload_n 0, 1) := by decide +kernel
theorem dX3_open_16 : decode prog_5_method_2_code 16 = .ok (.getstatic 21, 3) := by decide +kernel
theorem dX3_open_19 : decode prog_5_method_2_code 19 = .ok (.iload_n 1, 1) := by decide +kernel
theorem dX3_open_20 : decode prog_5_method_2_code 20 = .ok (.iaload, 1) := by decide +kernel
theorem dX3_open_21 : decode prog_5_method_2_code 21 = .ok (.putfield 25, 3) := by decide +kernel
theorem dX3_open_24 : decode prog_5_method_2_code 24 = .ok (.aload_n 0, 1) := by decide +kernel
theorem dX3_open_25 : decode prog_5_method_2_code 25 = .ok (.iconst 0, 1) := by decide +kernel
theorem dX3_open_26 : decode prog_5_method_2_code 26 = .ok (.putfield 28, 3) := by decide +kernel
theorem dX3_open_29 : decode prog_5_method_2_code 29 = .ok (.aload_n 0, 1) := by decide +kernel
theorem dX3_open_30 : decode prog_5_method_2_code 30 = .ok (.iconst 0, 1) := by decide +kernel
theorem dX3_open_31 : decode prog_5_method_2_code 31 = .ok (.putfield 31, 3) := by decide +kernel
theorem dX3_open_34 : decode prog_5_method_2_code 34 = .ok (.return_, 1) := by decide +kernel
theorem dX3_give_0 : decode prog_5_method_3_code 0 = .ok (.aload_n 0, 1) := by decide +kernel
theorem dX3_give_1 : decode prog_5_method_3_code 1 = .ok (.getfield 9, 3) := by decide +kernel
theorem dX3_give_4 : decode prog_5_method_3_code 4 = .ok (.tableswitch 71 0 2 #[28, 41, 56], 28) := by decide +kernel
theorem dX3_give_32 : decode prog_5_method_3_code 32 = .ok (.aload_n 0, 1) := by decide +kernel
theorem dX3_give_33 : decode prog_5_method_3_code 33 = .ok (.dup, 1) := by decide +kernel
theorem dX3_give_34 : decode prog_5_method_3_code 34 = .ok (.getfield 25, 3) := by decide +kernel
theorem dX3_give_37 : decode prog_5_method_3_code 37 = .ok (.iload_n 1, 1) := by decide +kernel
theorem dX3_give_38 : decode prog_5_method_3_code 38 = .ok (.iadd, 1) := by decide +kernel
theorem dX3_give_39 : decode prog_5_method_3_code 39 = .ok (.putfield 25, 3) := by decide +kernel
theorem dX3_give_42 : decode prog_5_method_3_code 42 = .ok (.goto 43, 3) := by decide +kernel
theorem dX3_give_45 : decode prog_5_method_3_code 45 = .ok (.aload_n 0, 1) := by decide +kernel
theorem dX3_give_46 : decode prog_5_method_3_code 46 = .ok (.aload_n 0, 1) := by decide +kernel
theorem dX3_give_47 : decode prog_5_method_3_code 47 = .ok (.getfield 25, 3) := by decide +kernel
theorem dX3_give_50 : decode prog_5_method_3_code 50 = .ok (.iload_n 1, 1) := by decide +kernel
theorem dX3_give_51 : decode prog_5_method_3_code 51 = .ok (.invokestatic 34, 3) := by decide +kernel
theorem dX3_give_54 : decode prog_5_method_3_code 54 = .ok (.putfield 25, 3) := by decide +kernel
theorem dX3_give_57 : decode prog_5_method_3_code 57 = .ok (.goto 28, 3) := by decide +kernel
theorem dX3_give_60 : decode prog_5_method_3_code 60 = .ok (.aload_n 0, 1) := by decide +kernel
theorem dX3_give_61 : decode prog_5_method_3_code 61 = .ok (.aload_n 0, 1) := by decide +kernel
theorem dX3_give_62 : decode prog_5_method_3_code 62 = .ok (.getfield 25, 3) := by decide +kernel
theorem dX3_give_65 : decode prog_5_method_3_code 65 = .ok (.iload_n 1, 1) := by decide +kernel
theorem dX3_give_66 : decode prog_5_method_3_code 66 = .ok (.invokestatic 40, 3) := by decide +kernel
theorem dX3_give_69 : decode prog_5_method_3_code 69 = .ok (.putfield 25, 3) := by decide +kernel
theorem dX3_give_72 : decode prog_5_method_3_code 72 = .ok (.goto 13, 3) := by decide +kernel
theorem dX3_give_75 : decode prog_5_method_3_code 75 = .ok (.aload_n 0, 1) := by decide +kernel
theorem dX3_give_76 : decode prog_5_method_3_code 76 = .ok (.dup, 1) := by decide +kernel
theorem dX3_give_77 : decode prog_5_method_3_code 77 = .ok (.getfield 25, 3) := by decide +kernel
theorem dX3_give_80 : decode prog_5_method_3_code 80 = .ok (.iload_n 1, 1) := by decide +kernel
theorem dX3_give_81 : decode prog_5_method_3_code 81 = .ok (.imul, 1) := by decide +kernel
theorem dX3_give_82 : decode prog_5_method_3_code 82 = .ok (.putfield 25, 3) := by decide +kernel
theorem dX3_give_85 : decode prog_5_method_3_code 85 = .ok (.return_, 1) := by decide +kernel
theorem dX3_note_0 : decode prog_5_method_4_code 0 = .ok (.aload_n 0, 1) := by decide +kernel
theorem dX3_note_1 : decode prog_5_method_4_code 1 = .ok (.aload_n 0, 1) := by decide +kernel
theorem dX3_note_2 : decode prog_5_method_4_code 2 = .ok (.getfield 28, 3) := by decide +kernel
theorem dX3_note_5 : decode prog_5_method_4_code 5 = .ok (.ifCond .ne 7, 3) := by decide +kernel
theorem dX3_note_8 : decode prog_5_method_4_code 8 = .ok (.iload_n 1, 1) := by decide +kernel
theorem dX3_note_9 : decode prog_5_method_4_code 9 = .ok (.goto 11, 3) := by decide +kernel
theorem dX3_note_12 : decode prog_5_method_4_code 12 = .ok (.aload_n 0, 1) := by decide +kernel
theorem dX3_note_13 : decode prog_5_method_4_code 13 = .ok (.getfield 31, 3) := by decide +kernel
theorem dX3_note_16 : decode prog_5_method_4_code 16 = .ok (.iload_n 1, 1) := by decide +kernel
theorem dX3_note_17 : decode prog_5_method_4_code 17 = .ok (.invokestatic 34, 3) := by decide +kernel
theorem dX3_note_20 : decode prog_5_method_4_code 20 = .ok (.putfield 31, 3) := by decide +kernel
theorem dX3_note_23 : decode prog_5_method_4_code 23 = .ok (.aload_n 0, 1) := by decide +kernel
theorem dX3_note_24 : decode prog_5_method_4_code 24 = .ok (.dup, 1) := by decide +kernel
theorem dX3_note_25 : decode prog_5_method_4_code 25 = .ok (.getfield 28, 3) := by decide +kernel
theorem dX3_note_28 : decode prog_5_method_4_code 28 = .ok (.iconst 1, 1) := by decide +kernel
theorem dX3_note_29 : decode prog_5_method_4_code 29 = .ok (.iadd, 1) := by decide +kernel
theorem dX3_note_30 : decode prog_5_method_4_code 30 = .ok (.putfield 28, 3) := by decide +kernel
theorem dX3_note_33 : decode prog_5_method_4_code 33 = .ok (.return_, 1) := by decide +kernel
theorem dX3_sumAfter_0 : decode prog_5_method_5_code 0 = .ok (.aload_n 0, 1) := by decide +kernel
theorem dX3_sumAfter_1 : decode prog_5_method_5_code 1 = .ok (.getfield 9, 3) := by decide +kernel
theorem dX3_sumAfter_4 : decode prog_5_method_5_code 4 = .ok (.iconst 1, 1) := by decide +kernel
theorem dX3_sumAfter_5 : decode prog_5_method_5_code 5 = .ok (.if_icmp .eq 11, 3) := by decide +kernel
theorem dX3_sumAfter_8 : decode prog_5_method_5_code 8 = .ok (.aload_n 0, 1) := by decide +kernel
theorem dX3_sumAfter_9 : decode prog_5_method_5_code 9 = .ok (.getfield 9, 3) := by decide +kernel
theorem dX3_sumAfter_12 : decode prog_5_method_5_code 12 = .ok (.iconst 2, 1) := by decide +kernel
theorem dX3_sumAfter_13 : decode prog_5_method_5_code 13 = .ok (.if_icmp .ne 10, 3) := by decide +kernel
theorem dX3_sumAfter_16 : decode prog_5_method_5_code 16 = .ok (.aload_n 0, 1) := by decide +kernel
theorem dX3_sumAfter_17 : decode prog_5_method_5_code 17 = .ok (.getfield 25, 3) := by decide +kernel
theorem dX3_sumAfter_20 : decode prog_5_method_5_code 20 = .ok (.goto 9, 3) := by decide +kernel
theorem dX3_sumAfter_23 : decode prog_5_method_5_code 23 = .ok (.iload_n 1, 1) := by decide +kernel
theorem dX3_sumAfter_24 : decode prog_5_method_5_code 24 = .ok (.aload_n 0, 1) := by decide +kernel
theorem dX3_sumAfter_25 : decode prog_5_method_5_code 25 = .ok (.getfield 25, 3) := by decide +kernel
theorem dX3_sumAfter_28 : decode prog_5_method_5_code 28 = .ok (.iadd, 1) := by decide +kernel
theorem dX3_sumAfter_29 : decode prog_5_method_5_code 29 = .ok (.ireturn, 1) := by decide +kernel
end
section
theorem dX4_init_0 : decode prog_6_method_1_code 0 = .ok (.aload_n 0, 1) := by decide +kernel
theorem dX4_init_1 : decode prog_6_method_1_code 1 = .ok (.invokespecial 3, 3) := by decide +kernel
theorem dX4_init_4 : decode prog_6_method_1_code 4 = .ok (.aload_n 0, 1) := by decide +kernel
theorem dX4_init_5 : decode prog_6_method_1_code 5 = .ok (.iload_n 1, 1) := by decide +kernel
theorem dX4_init_6 : decode prog_6_method_1_code 6 = .ok (.putfield 9, 3) := by decide +kernel
theorem dX4_init_9 : decode prog_6_method_1_code 9 = .ok (.aload_n 0, 1) := by decide +kernel
theorem dX4_init_10 : decode prog_6_method_1_code 10 = .ok (.aload_n 2, 1) := by decide +kernel
theorem dX4_init_11 : decode prog_6_method_1_code 11 = .ok (.putfield 15, 3) := by decide +kernel
theorem dX4_init_14 : decode prog_6_method_1_code 14 = .ok (.aload_n 0, 1) := by decide +kernel
theorem dX4_init_15 : decode prog_6_method_1_code 15 = .ok (.iconst 3, 1) := by decide +kernel
theorem dX4_init_16 : decode prog_6_method_1_code 16 = .ok (.anewarray 19, 3) := by decide +kernel
theorem dX4_init_19 : decode prog_6_method_1_code 19 = .ok (.putfield 21, 3) := by decide +kernel
theorem dX4_init_22 : decode prog_6_method_1_code 22 = .ok (.iconst 0, 1) := by decide +kernel
theorem dX4_init_23 : decode prog_6_method_1_code 23 = .ok (.istore_n 3, 1) := by decide +kernel
theorem dX4_init_24 : decode prog_6_method_1_code 24 = .ok (.iload_n 3, 1) := by decide +kernel
theorem dX4_init_25 : decode prog_6_method_1_code 25 = .ok (.iconst 3, 1) := by decide +kernel
theorem dX4_init_26 : decode prog_6_method_1_code 26 = .ok (.if_icmp .ge 22, 3) := by decide +kernel
theorem dX4_init_29 : decode prog_6_method_1_code 29 = .ok (.aload_n 0, 1) := by decide +kernel
theorem dX4_init_30 : decode prog_6_method_1_code 30 = .ok (.getfield 21, 3) := by decide +kernel
theorem dX4_init_33 : decode prog_6_method_1_code 33 = .ok (.iload_n 3, 1) := by decide +kernel
theorem dX4_init_34 : decode prog_6_method_1_code 34 = .ok (.new 19, 3) := by decide +kernel
theorem dX4_init_37 : decode prog_6_method_1_code 37 = .ok (.dup, 1) := by decide +kernel
theorem dX4_init_38 : decode prog_6_method_1_code 38 = .ok (.invokespecial 25, 3) := by decide +kernel
theorem dX4_init_41 : decode prog_6_method_1_code 41 = .ok (.aastore, 1) := by decide +kernel
theorem dX4_init_42 : decode prog_6_method_1_code 42 = .ok (.iinc 3 1, 3) := by decide +kernel
theorem dX4_init_45 : decode prog_6_method_1_code 45 = .ok (.goto (-21), 3) := by decide +kernel
theorem dX4_init_48 : decode prog_6_method_1_code 48 = .ok (.return_, 1) := by decide +kernel
theorem dX4_reset_0 : decode prog_6_method_2_code 0 = .ok (.aload_n 0, 1) := by decide +kernel
theorem dX4_reset_1 : decode prog_6_method_2_code 1 = .ok (.iload_n 1, 1) := by decide +kernel
theorem dX4_reset_2 : decode prog_6_method_2_code 2 = .ok (.putfield 26, 3) := by decide +kernel
theorem dX4_reset_5 : decode prog_6_method_2_code 5 = .ok (.aload_n 0, 1) := by decide +kernel
theorem dX4_reset_6 : decode prog_6_method_2_code 6 = .ok (.iload_n 2, 1) := by decide +kernel
theorem dX4_reset_7 : decode prog_6_method_2_code 7 = .ok (.putfield 29, 3) := by decide +kernel
theorem dX4_reset_10 : decode prog_6_method_2_code 10 = .ok (.aload_n 0, 1) := by decide +kernel
theorem dX4_reset_11 : decode prog_6_method_2_code 11 = .ok (.aload_n 3, 1) := by decide +kernel
theorem dX4_reset_12 : decode prog_6_method_2_code 12 = .ok (.putfield 15, 3) := by decide +kernel
theorem dX4_reset_15 : decode prog_6_method_2_code 15 = .ok (.aload_n 0, 1) := by decide +kernel
theorem dX4_reset_16 : decode prog_6_method_2_code 16 = .ok (.iconst 0, 1) := by decide +kernel
theorem dX4_reset_17 : decode prog_6_method_2_code 17 = .ok (.putfield 32, 3) := by decide +kernel
theorem dX4_reset_20 : decode prog_6_method_2_code 20 = .ok (.aload_n 0, 1) := by decide +kernel
theorem dX4_reset_21 : decode prog_6_method_2_code 21 = .ok (.iconst 0, 1) := by decide +kernel
theorem dX4_reset_22 : decode prog_6_method_2_code 22 = .ok (.putfield 35, 3) := by decide +kernel
theorem dX4_reset_25 : decode prog_6_method_2_code 25 = .ok (.aload_n 0, 1) := by decide +kernel
theorem dX4_reset_26 : decode prog_6_method_2_code 26 = .ok (.iconst 0, 1) := by decide +kernel
theorem dX4_reset_27 : decode prog_6_method_2_code 27 = .ok (.putfield 38, 3) := by decide +kernel
theorem dX4_reset_30 : decode prog_6_method_2_code 30 = .ok (.aload_n 0, 1) := by decide +kernel
theorem dX4_reset_31 : decode prog_6_method_2_code 31 = .ok (.iconst 0, 1) := by decide +kernel
theorem dX4_reset_32 : decode prog_6_method_2_code 32 = .ok (.putfield 41, 3) := by decide +kernel
theorem dX4_reset_35 : decode prog_6_method_2_code 35 = .ok (.return_, 1) := by decide +kernel
theorem dX4_innerScope_0 : decode prog_6_method_3_code 0 = .ok (.aload_n 0, 1) := by decide +kernel
theorem dX4_innerScope_1 : decode prog_6_method_3_code 1 = .ok (.getfield 35, 3) := by decide +kernel
theorem dX4_innerScope_4 : decode prog_6_method_3_code 4 = .ok (.ifCond .le 17, 3) := by decide +kernel
theorem dX4_innerScope_7 : decode prog_6_method_3_code 7 = .ok (.aload_n 0, 1) := by decide +kernel
theorem dX4_innerScope_8 : decode prog_6_method_3_code 8 = .ok (.getfield 21, 3) := by decide +kernel
theorem dX4_innerScope_11 : decode prog_6_method_3_code 11 = .ok (.aload_n 0, 1) := by decide +kernel
theorem dX4_innerScope_12 : decode prog_6_method_3_code 12 = .ok (.getfield 35, 3) := by decide +kernel
theorem dX4_innerScope_15 : decode prog_6_method_3_code 15 = .ok (.iconst 1, 1) := by decide +kernel
theorem dX4_innerScope_16 : decode prog_6_method_3_code 16 = .ok (.isub, 1) := by decide +kernel
theorem dX4_innerScope_17 : decode prog_6_method_3_code 17 = .ok (.aaload, 1) := by decide +kernel
theorem dX4_innerScope_18 : decode prog_6_method_3_code 18 = .ok (.goto 7, 3) := by decide +kernel
theorem dX4_innerScope_21 : decode prog_6_method_3_code 21 = .ok (.aload_n 0, 1) := by decide +kernel
theorem dX4_innerScope_22 : decode prog_6_method_3_code 22 = .ok (.getfield 15, 3) := by decide +kernel
theorem dX4_innerScope_25 : decode prog_6_method_3_code 25 = .ok (.areturn, 1) := by decide +kernel
theorem dX4_waitFor_0 : decode prog_6_method_4_code 0 = .ok (.aload_n 0, 1) := by decide +kernel
theorem dX4_waitFor_1 : decode prog_6_method_4_code 1 = .ok (.iconst 2, 1) := by decide +kernel
theorem dX4_waitFor_2 : decode prog_6_method_4_code 2 = .ok (.putfield 38, 3) := by decide +kernel
theorem dX4_waitFor_5 : decode prog_6_method_4_code 5 = .ok (.aload_n 0, 1) := by decide +kernel
theorem dX4_waitFor_6 : decode prog_6_method_4_code 6 = .ok (.iload_n 1, 1) := by decide +kernel
theorem dX4_waitFor_7 : decode prog_6_method_4_code 7 = .ok (.putfield 41, 3) := by decide +kernel
theorem dX4_waitFor_10 : decode prog_6_method_4_code 10 = .ok (.aload_n 0, 1) := by decide +kernel
theorem dX4_waitFor_11 : decode prog_6_method_4_code 11 = .ok (.iload_n 2, 1) := by decide +kernel
theorem dX4_waitFor_12 : decode prog_6_method_4_code 12 = .ok (.putfield 44, 3) := by decide +kernel
theorem dX4_waitFor_15 : decode prog_6_method_4_code 15 = .ok (.return_, 1) := by decide +kernel
end
section
theorem dX5_init_0 : decode prog_7_method_1_code 0 = .ok (.aload_n 0, 1) := by decide +kernel
theorem dX5_init_1 : decode prog_7_method_1_code 1 = .ok (.invokespecial 3, 3) := by decide +kernel
theorem dX5_init_4 : decode prog_7_method_1_code 4 = .ok (.aload_n 0, 1) := by decide +kernel
theorem dX5_init_5 : decode prog_7_method_1_code 5 = .ok (.bipush 48, 2) := by decide +kernel
theorem dX5_init_7 : decode prog_7_method_1_code 7 = .ok (.newarray .int, 2) := by decide +kernel
theorem dX5_init_9 : decode prog_7_method_1_code 9 = .ok (.putfield 9, 3) := by decide +kernel
theorem dX5_init_12 : decode prog_7_method_1_code 12 = .ok (.aload_n 0, 1) := by decide +kernel
theorem dX5_init_13 : decode prog_7_method_1_code 13 = .ok (.iconst (-1), 1) := by decide +kernel
theorem dX5_init_14 : decode prog_7_method_1_code 14 = .ok (.putfield 15, 3) := by decide +kernel
theorem dX5_init_17 : decode prog_7_method_1_code 17 = .ok (.return_, 1) := by decide +kernel
theorem dX5_reset_0 : decode prog_7_method_2_code 0 = .ok (.aload_n 0, 1) := by decide +kernel
theorem dX5_reset_1 : decode prog_7_method_2_code 1 = .ok (.iconst 0, 1) := by decide +kernel
theorem dX5_reset_2 : decode prog_7_method_2_code 2 = .ok (.putfield 19, 3) := by decide +kernel
theorem dX5_reset_5 : decode prog_7_method_2_code 5 = .ok (.aload_n 0, 1) := by decide +kernel
theorem dX5_reset_6 : decode prog_7_method_2_code 6 = .ok (.iconst (-1), 1) := by decide +kernel
theorem dX5_reset_7 : decode prog_7_method_2_code 7 = .ok (.putfield 15, 3) := by decide +kernel
theorem dX5_reset_10 : decode prog_7_method_2_code 10 = .ok (.return_, 1) := by decide +kernel
theorem dX5_taskAt_0 : decode prog_7_method_3_code 0 = .ok (.iload_n 1, 1) := by decide +kernel
theorem dX5_taskAt_1 : decode prog_7_method_3_code 1 = .ok (.ifCond .lt 20, 3) := by decide +kernel
theorem dX5_taskAt_4 : decode prog_7_method_3_code 4 = .ok (.iload_n 1, 1) := by decide +kernel
theorem dX5_taskAt_5 : decode prog_7_method_3_code 5 = .ok (.aload_n 0, 1) := by decide +kernel
theorem dX5_taskAt_6 : decode prog_7_method_3_code 6 = .ok (.getfield 19, 3) := by decide +kernel
theorem dX5_taskAt_9 : decode prog_7_method_3_code 9 = .ok (.if_icmp .ge 12, 3) := by decide +kernel
theorem dX5_taskAt_12 : decode prog_7_method_3_code 12 = .ok (.aload_n 0, 1) := by decide +kernel
theorem dX5_taskAt_13 : decode prog_7_method_3_code 13 = .ok (.getfield 9, 3) := by decide +kernel
theorem dX5_taskAt_16 : decode prog_7_method_3_code 16 = .ok (.iload_n 1, 1) := by decide +kernel
theorem dX5_taskAt_17 : decode prog_7_method_3_code 17 = .ok (.iaload, 1) := by decide +kernel
theorem dX5_taskAt_18 : decode prog_7_method_3_code 18 = .ok (.goto 4, 3) := by decide +kernel
theorem dX5_taskAt_21 : decode prog_7_method_3_code 21 = .ok (.iconst (-1), 1) := by decide +kernel
theorem dX5_taskAt_22 : decode prog_7_method_3_code 22 = .ok (.ireturn, 1) := by decide +kernel
theorem dX5_append_0 : decode prog_7_method_4_code 0 = .ok (.aload_n 0, 1) := by decide +kernel
theorem dX5_append_1 : decode prog_7_method_4_code 1 = .ok (.getfield 19, 3) := by decide +kernel
theorem dX5_append_4 : decode prog_7_method_4_code 4 = .ok (.bipush 48, 2) := by decide +kernel
theorem dX5_append_6 : decode prog_7_method_4_code 6 = .ok (.if_icmp .ge 23, 3) := by decide +kernel
theorem dX5_append_9 : decode prog_7_method_4_code 9 = .ok (.aload_n 0, 1) := by decide +kernel
theorem dX5_append_10 : decode prog_7_method_4_code 10 = .ok (.getfield 9, 3) := by decide +kernel
theorem dX5_append_13 : decode prog_7_method_4_code 13 = .ok (.aload_n 0, 1) := by decide +kernel
theorem dX5_append_14 : decode prog_7_method_4_code 14 = .ok (.getfield 19, 3) := by decide +kernel
theorem dX5_append_17 : decode prog_7_method_4_code 17 = .ok (.iload_n 1, 1) := by decide +kernel
theorem dX5_append_18 : decode prog_7_method_4_code 18 = .ok (.iastore, 1) := by decide +kernel
theorem dX5_append_19 : decode prog_7_method_4_code 19 = .ok (.aload_n 0, 1) := by decide +kernel
theorem dX5_append_20 : decode prog_7_method_4_code 20 = .ok (.dup, 1) := by decide +kernel
theorem dX5_append_21 : decode prog_7_method_4_code 21 = .ok (.getfield 19, 3) := by decide +kernel
theorem dX5_append_24 : decode prog_7_method_4_code 24 = .ok (.iconst 1, 1) := by decide +kernel
theorem dX5_append_25 : decode prog_7_method_4_code 25 = .ok (.iadd, 1) := by decide +kernel
theorem dX5_append_26 : decode prog_7_method_4_code 26 = .ok (.putfield 19, 3) := by decide +kernel
theorem dX5_append_29 : decode prog_7_method_4_code 29 = .ok (.return_, 1) := by decide +kernel
theorem dX5_takeLast_0 : decode prog_7_method_5_code 0 = .ok (.aload_n 0, 1) := by decide +kernel
theorem dX5_takeLast_1 : decode prog_7_method_5_code 1 = .ok (.aload_n 0, 1) := by decide +kernel
theorem dX5_takeLast_2 : decode prog_7_method_5_code 2 = .ok (.getfield 19, 3) := by decide +kernel
theorem dX5_takeLast_5 : decode prog_7_method_5_code 5 = .ok (.iconst 1, 1) := by decide +kernel
theorem dX5_takeLast_6 : decode prog_7_method_5_code 6 = .ok (.isub, 1) := by decide +kernel
theorem dX5_takeLast_7 : decode prog_7_method_5_code 7 = .ok (.invokevirtual 22, 3) := by decide +kernel
theorem dX5_takeLast_10 : decode prog_7_method_5_code 10 = .ok (.istore_n 1, 1) := by decide +kernel
theorem dX5_takeLast_11 : decode prog_7_method_5_code 11 = .ok (.aload_n 0, 1) := by decide +kernel
theorem dX5_takeLast_12 : decode prog_7_method_5_code 12 = .ok (.getfield 19, 3) := by decide +kernel
theorem dX5_takeLast_15 : decode prog_7_method_5_code 15 = .ok (.ifCond .le 13, 3) := by decide +kernel
theorem dX5_takeLast_18 : decode prog_7_method_5_code 18 = .ok (.aload_n 0, 1) := by decide +kernel
theorem dX5_takeLast_19 : decode prog_7_method_5_code 19 = .ok (.dup, 1) := by decide +kernel
theorem dX5_takeLast_20 : decode prog_7_method_5_code 20 = .ok (.getfield 19, 3) := by decide +kernel
theorem dX5_takeLast_23 : decode prog_7_method_5_code 23 = .ok (.iconst 1, 1) := by decide +kernel
theorem dX5_takeLast_24 : decode prog_7_method_5_code 24 = .ok (.isub, 1) := by decide +kernel
theorem dX5_takeLast_25 : decode prog_7_method_5_code 25 = .ok (.putfield 19, 3) := by decide +kernel
theorem dX5_takeLast_28 : decode prog_7_method_5_code 28 = .ok (.iload_n 1, 1) := by decide +kernel
theorem dX5_takeLast_29 : decode prog_7_method_5_code 29 = .ok (.ireturn, 1) := by decide +kernel
theorem dX5_takeFirst_0 : decode prog_7_method_6_code 0 = .ok (.aload_n 0, 1) := by decide +kernel
theorem dX5_takeFirst_1 : decode prog_7_method_6_code 1 = .ok (.iconst 0, 1) := by decide +kernel
theorem dX5_takeFirst_2 : decode prog_7_method_6_code 2 = .ok (.invokevirtual 22, 3) := by decide +kernel
theorem dX5_takeFirst_5 : decode prog_7_method_6_code 5 = .ok (.istore_n 1, 1) := by decide +kernel
theorem dX5_takeFirst_6 : decode prog_7_method_6_code 6 = .ok (.aload_n 0, 1) := by decide +kernel
theorem dX5_takeFirst_7 : decode prog_7_method_6_code 7 = .ok (.getfield 19, 3) := by decide +kernel
theorem dX5_takeFirst_10 : decode prog_7_method_6_code 10 = .ok (.ifCond .le 30, 3) := by decide +kernel
theorem dX5_takeFirst_13 : decode prog_7_method_6_code 13 = .ok (.aload_n 0, 1) := by decide +kernel
theorem dX5_takeFirst_14 : decode prog_7_method_6_code 14 = .ok (.dup, 1) := by decide +kernel
theorem dX5_takeFirst_15 : decode prog_7_method_6_code 15 = .ok (.getfield 19, 3) := by decide +kernel
theorem dX5_takeFirst_18 : decode prog_7_method_6_code 18 = .ok (.iconst 1, 1) := by decide +kernel
theorem dX5_takeFirst_19 : decode prog_7_method_6_code 19 = .ok (.isub, 1) := by decide +kernel
theorem dX5_takeFirst_20 : decode prog_7_method_6_code 20 = .ok (.putfield 19, 3) := by decide +kernel
theorem dX5_takeFirst_23 : decode prog_7_method_6_code 23 = .ok (.aload_n 0, 1) := by decide +kernel
theorem dX5_takeFirst_24 : decode prog_7_method_6_code 24 = .ok (.getfield 9, 3) := by decide +kernel
theorem dX5_takeFirst_27 : decode prog_7_method_6_code 27 = .ok (.iconst 1, 1) := by decide +kernel
theorem dX5_takeFirst_28 : decode prog_7_method_6_code 28 = .ok (.aload_n 0, 1) := by decide +kernel
theorem dX5_takeFirst_29 : decode prog_7_method_6_code 29 = .ok (.getfield 9, 3) := by decide +kernel
theorem dX5_takeFirst_32 : decode prog_7_method_6_code 32 = .ok (.iconst 0, 1) := by decide +kernel
theorem dX5_takeFirst_33 : decode prog_7_method_6_code 33 = .ok (.aload_n 0, 1) := by decide +kernel
theorem dX5_takeFirst_34 : decode prog_7_method_6_code 34 = .ok (.getfield 19, 3) := by decide +kernel
theorem dX5_takeFirst_37 : decode prog_7_method_6_code 37 = .ok (.invokestatic 26, 3) := by decide +kernel
theorem dX5_takeFirst_40 : decode prog_7_method_6_code 40 = .ok (.iload_n 1, 1) := by decide +kernel
theorem dX5_takeFirst_41 : decode prog_7_method_6_code 41 = .ok (.ireturn, 1) := by decide +kernel
end
section
theorem dX6_init_0 : decode prog_1_method_1_code 0 = .ok (.aload_n 0, 1) := by decide +kernel
theorem dX6_init_1 : decode prog_1_method_1_code 1 = .ok (.invokespecial 1, 3) := by decide +kernel
theorem dX6_init_4 : decode prog_1_method_1_code 4 = .ok (.aload_n 0, 1) := by decide +kernel
theorem dX6_init_5 : decode prog_1_method_1_code 5 = .ok (.bipush 8, 2) := by decide +kernel
theorem dX6_init_7 : decode prog_1_method_1_code 7 = .ok (.anewarray 9, 3) := by decide +kernel
theorem dX6_init_10 : decode prog_1_method_1_code 10 = .ok (.putfield 11, 3) := by decide +kernel
theorem dX6_init_13 : decode prog_1_method_1_code 13 = .ok (.iconst 0, 1) := by decide +kernel
theorem dX6_init_14 : decode prog_1_method_1_code 14 = .ok (.istore_n 1, 1) := by decide +kernel
theorem dX6_init_15 : decode prog_1_method_1_code 15 = .ok (.iload_n 1, 1) := by decide +kernel
theorem dX6_init_16 : decode prog_1_method_1_code 16 = .ok (.bipush 8, 2) := by decide +kernel
theorem dX6_init_18 : decode prog_1_method_1_code 18 = .ok (.if_icmp .ge 22, 3) := by decide +kernel
theorem dX6_init_21 : decode prog_1_method_1_code 21 = .ok (.aload_n 0, 1) := by decide +kernel
theorem dX6_init_22 : decode prog_1_method_1_code 22 = .ok (.getfield 11, 3) := by decide +kernel
theorem dX6_init_25 : decode prog_1_method_1_code 25 = .ok (.iload_n 1, 1) := by decide +kernel
theorem dX6_init_26 : decode prog_1_method_1_code 26 = .ok (.new 9, 3) := by decide +kernel
theorem dX6_init_29 : decode prog_1_method_1_code 29 = .ok (.dup, 1) := by decide +kernel
theorem dX6_init_30 : decode prog_1_method_1_code 30 = .ok (.invokespecial 15, 3) := by decide +kernel
theorem dX6_init_33 : decode prog_1_method_1_code 33 = .ok (.aastore, 1) := by decide +kernel
theorem dX6_init_34 : decode prog_1_method_1_code 34 = .ok (.iinc 1 1, 3) := by decide +kernel
theorem dX6_init_37 : decode prog_1_method_1_code 37 = .ok (.goto (-22), 3) := by decide +kernel
theorem dX6_init_40 : decode prog_1_method_1_code 40 = .ok (.aload_n 0, 1) := by decide +kernel
theorem dX6_init_41 : decode prog_1_method_1_code 41 = .ok (.new 16, 3) := by decide +kernel
theorem dX6_init_44 : decode prog_1_method_1_code 44 = .ok (.dup, 1) := by decide +kernel
theorem dX6_init_45 : decode prog_1_method_1_code 45 = .ok (.aload_n 0, 1) := by decide +kernel
theorem dX6_init_46 : decode prog_1_method_1_code 46 = .ok (.getfield 11, 3) := by decide +kernel
theorem dX6_init_49 : decode prog_1_method_1_code 49 = .ok (.invokespecial 18, 3) := by decide +kernel
theorem dX6_init_52 : decode prog_1_method_1_code 52 = .ok (.putfield 21, 3) := by decide +kernel
theorem dX6_init_55 : decode prog_1_method_1_code 55 = .ok (.return_, 1) := by decide +kernel
theorem dX6_body_0 : decode prog_1_method_2_code 0 = .ok (.iload_n 1, 1) := by decide +kernel
theorem dX6_body_1 : decode prog_1_method_2_code 1 = .ok (.iconst 0, 1) := by decide +kernel
theorem dX6_body_2 : decode prog_1_method_2_code 2 = .ok (.bipush 7, 2) := by decide +kernel
theorem dX6_body_4 : decode prog_1_method_2_code 4 = .ok (.invokestatic 25, 3) := by decide +kernel
theorem dX6_body_7 : decode prog_1_method_2_code 7 = .ok (.ifCond .ne 13, 3) := by decide +kernel
theorem dX6_body_10 : decode prog_1_method_2_code 10 = .ok (.new 29, 3) := by decide +kernel
theorem dX6_body_13 : decode prog_1_method_2_code 13 = .ok (.dup, 1) := by decide +kernel
theorem dX6_body_14 : decode prog_1_method_2_code 14 = .ok (.ldc 31, 2) := by decide +kernel
theorem dX6_body_16 : decode prog_1_method_2_code 16 = .ok (.invokespecial 33, 3) := by decide +kernel
theorem dX6_body_19 : decode prog_1_method_2_code 19 = .ok (.athrow, 1) := by decide +kernel
theorem dX6_body_20 : decode prog_1_method_2_code 20 = .ok (.aload_n 0, 1) := by decide +kernel
theorem dX6_body_21 : decode prog_1_method_2_code 21 = .ok (.getfield 11, 3) := by decide +kernel
theorem dX6_body_24 : decode prog_1_method_2_code 24 = .ok (.iload_n 1, 1) := by decide +kernel
theorem dX6_body_25 : decode prog_1_method_2_code 25 = .ok (.aaload, 1) := by decide +kernel
theorem dX6_body_26 : decode prog_1_method_2_code 26 = .ok (.getfield 36, 3) := by decide +kernel
theorem dX6_body_29 : decode prog_1_method_2_code 29 = .ok (.istore_n 2, 1) := by decide +kernel
theorem dX6_body_30 : decode prog_1_method_2_code 30 = .ok (.aload_n 0, 1) := by decide +kernel
theorem dX6_body_31 : decode prog_1_method_2_code 31 = .ok (.getfield 11, 3) := by decide +kernel
theorem dX6_body_34 : decode prog_1_method_2_code 34 = .ok (.iload_n 1, 1) := by decide +kernel
theorem dX6_body_35 : decode prog_1_method_2_code 35 = .ok (.aaload, 1) := by decide +kernel
theorem dX6_body_36 : decode prog_1_method_2_code 36 = .ok (.iconst 0, 1) := by decide +kernel
theorem dX6_body_37 : decode prog_1_method_2_code 37 = .ok (.putfield 36, 3) := by decide +kernel
theorem dX6_body_40 : decode prog_1_method_2_code 40 = .ok (.iload_n 2, 1) := by decide +kernel
theorem dX6_body_41 : decode prog_1_method_2_code 41 = .ok (.ireturn, 1) := by decide +kernel
theorem dX6_add_0 : decode prog_1_method_3_code 0 = .ok (.iload_n 1, 1) := by decide +kernel
theorem dX6_add_1 : decode prog_1_method_3_code 1 = .ok (.iconst 0, 1) := by decide +kernel
theorem dX6_add_2 : decode prog_1_method_3_code 2 = .ok (.bipush 7, 2) := by decide +kernel
theorem dX6_add_4 : decode prog_1_method_3_code 4 = .ok (.invokestatic 25, 3) := by decide +kernel
theorem dX6_add_7 : decode prog_1_method_3_code 7 = .ok (.ifCond .eq 11, 3) := by decide +kernel
theorem dX6_add_10 : decode prog_1_method_3_code 10 = .ok (.iload_n 2, 1) := by decide +kernel
theorem dX6_add_11 : decode prog_1_method_3_code 11 = .ok (.iload_n 3, 1) := by decide +kernel
theorem dX6_add_12 : decode prog_1_method_3_code 12 = .ok (.invokestatic 40, 3) := by decide +kernel
theorem dX6_add_15 : decode prog_1_method_3_code 15 = .ok (.ifCond .ne 13, 3) := by decide +kernel
theorem dX6_add_18 : decode prog_1_method_3_code 18 = .ok (.new 29, 3) := by decide +kernel
theorem dX6_add_21 : decode prog_1_method_3_code 21 = .ok (.dup, 1) := by decide +kernel
theorem dX6_add_22 : decode prog_1_method_3_code 22 = .ok (.ldc 44, 2) := by decide +kernel
theorem dX6_add_24 : decode prog_1_method_3_code 24 = .ok (.invokespecial 33, 3) := by decide +kernel
theorem dX6_add_27 : decode prog_1_method_3_code 27 = .ok (.athrow, 1) := by decide +kernel
theorem dX6_add_28 : decode prog_1_method_3_code 28 = .ok (.aload_n 0, 1) := by decide +kernel
theorem dX6_add_29 : decode prog_1_method_3_code 29 = .ok (.getfield 11, 3) := by decide +kernel
theorem dX6_add_32 : decode prog_1_method_3_code 32 = .ok (.iload_n 1, 1) := by decide +kernel
theorem dX6_add_33 : decode prog_1_method_3_code 33 = .ok (.aaload, 1) := by decide +kernel
theorem dX6_add_34 : decode prog_1_method_3_code 34 = .ok (.getfield 36, 3) := by decide +kernel
theorem dX6_add_37 : decode prog_1_method_3_code 37 = .ok (.bipush 16, 2) := by decide +kernel
theorem dX6_add_39 : decode prog_1_method_3_code 39 = .ok (.if_icmp .lt 13, 3) := by decide +kernel
theorem dX6_add_42 : decode prog_1_method_3_code 42 = .ok (.new 46, 3) := by decide +kernel
theorem dX6_add_45 : decode prog_1_method_3_code 45 = .ok (.dup, 1) := by decide +kernel
theorem dX6_add_46 : decode prog_1_method_3_code 46 = .ok (.ldc 48, 2) := by decide +kernel
theorem dX6_add_48 : decode prog_1_method_3_code 48 = .ok (.invokespecial 50, 3) := by decide +kernel
theorem dX6_add_51 : decode prog_1_method_3_code 51 = .ok (.athrow, 1) := by decide +kernel
theorem dX6_add_52 : decode prog_1_method_3_code 52 = .ok (.aload_n 0, 1) := by decide +kernel
theorem dX6_add_53 : decode prog_1_method_3_code 53 = .ok (.getfield 11, 3) := by decide +kernel
theorem dX6_add_56 : decode prog_1_method_3_code 56 = .ok (.iload_n 1, 1) := by decide +kernel
theorem dX6_add_57 : decode prog_1_method_3_code 57 = .ok (.aaload, 1) := by decide +kernel
theorem dX6_add_58 : decode prog_1_method_3_code 58 = .ok (.iload_n 2, 1) := by decide +kernel
theorem dX6_add_59 : decode prog_1_method_3_code 59 = .ok (.iload_n 3, 1) := by decide +kernel
theorem dX6_add_60 : decode prog_1_method_3_code 60 = .ok (.invokevirtual 51, 3) := by decide +kernel
theorem dX6_add_63 : decode prog_1_method_3_code 63 = .ok (.aload_n 0, 1) := by decide +kernel
theorem dX6_add_64 : decode prog_1_method_3_code 64 = .ok (.getfield 11, 3) := by decide +kernel
theorem dX6_add_67 : decode prog_1_method_3_code 67 = .ok (.iload_n 1, 1) := by decide +kernel
theorem dX6_add_68 : decode prog_1_method_3_code 68 = .ok (.aaload, 1) := by decide +kernel
theorem dX6_add_69 : decode prog_1_method_3_code 69 = .ok (.getfield 36, 3) := by decide +kernel
theorem dX6_add_72 : decode prog_1_method_3_code 72 = .ok (.ireturn, 1) := by decide +kernel
theorem dX6_begin_0 : decode prog_1_method_4_code 0 = .ok (.iload_n 1, 1) := by decide +kernel
theorem dX6_begin_1 : decode prog_1_method_4_code 1 = .ok (.iconst 0, 1) := by decide +kernel
theorem dX6_begin_2 : decode prog_1_method_4_code 2 = .ok (.bipush 7, 2) := by decide +kernel
theorem dX6_begin_4 : decode prog_1_method_4_code 4 = .ok (.invokestatic 25, 3) := by decide +kernel
theorem dX6_begin_7 : decode prog_1_method_4_code 7 = .ok (.ifCond .eq 22, 3) := by decide +kernel
theorem dX6_begin_10 : decode prog_1_method_4_code 10 = .ok (.iload_n 3, 1) := by decide +kernel
theorem dX6_begin_11 : decode prog_1_method_4_code 11 = .ok (.iconst 1, 1) := by decide +kernel
theorem dX6_begin_12 : decode prog_1_method_4_code 12 = .ok (.iconst 3, 1) := by decide +kernel
theorem dX6_begin_13 : decode prog_1_method_4_code 13 = .ok (.invokestatic 25, 3) := by decide +kernel
theorem dX6_begin_16 : decode prog_1_method_4_code 16 = .ok (.ifCond .eq 13, 3) := by decide +kernel
theorem dX6_begin_19 : decode prog_1_method_4_code 19 = .ok (.iload 4, 2) := by decide +kernel
theorem dX6_begin_21 : decode prog_1_method_4_code 21 = .ok (.iconst 0, 1) := by decide +kernel
theorem dX6_begin_22 : decode prog_1_method_4_code 22 = .ok (.iconst 1, 1) := by decide +kernel
theorem dX6_begin_23 : decode prog_1_method_4_code 23 = .ok (.invokestatic 25, 3) := by decide +kernel
theorem dX6_begin_26 : decode prog_1_method_4_code 26 = .ok (.ifCond .ne 13, 3) := by decide +kernel
theorem dX6_begin_29 : decode prog_1_method_4_code 29 = .ok (.new 29, 3) := by decide +kernel
theorem dX6_begin_32 : decode prog_1_method_4_code 32 = .ok (.dup, 1) := by decide +kernel
theorem dX6_begin_33 : decode prog_1_method_4_code 33 = .ok (.ldc 55, 2) := by decide +kernel
theorem dX6_begin_35 : decode prog_1_method_4_code 35 = .ok (.invokespecial 33, 3) := by decide +kernel
theorem dX6_begin_38 : decode prog_1_method_4_code 38 = .ok (.athrow, 1) := by decide +kernel
theorem dX6_begin_39 : decode prog_1_method_4_code 39 = .ok (.aload_n 0, 1) := by decide +kernel
theorem dX6_begin_40 : decode prog_1_method_4_code 40 = .ok (.getfield 21, 3) := by decide +kernel
theorem dX6_begin_43 : decode prog_1_method_4_code 43 = .ok (.iload_n 3, 1) := by decide +kernel
theorem dX6_begin_44 : decode prog_1_method_4_code 44 = .ok (.iload 4, 2) := by decide +kernel
theorem dX6_begin_46 : decode prog_1_method_4_code 46 = .ok (.iconst 1, 1) := by decide +kernel
theorem dX6_begin_47 : decode prog_1_method_4_code 47 = .ok (.if_icmp .ne 7, 3) := by decide +kernel
theorem dX6_begin_50 : decode prog_1_method_4_code 50 = .ok (.iconst 1, 1) := by decide +kernel
theorem dX6_begin_51 : decode prog_1_method_4_code 51 = .ok (.goto 4, 3) := by decide +kernel
theorem dX6_begin_54 : decode prog_1_method_4_code 54 = .ok (.iconst 0, 1) := by decide +kernel
theorem dX6_begin_55 : decode prog_1_method_4_code 55 = .ok (.invokevirtual 57, 3) := by decide +kernel
theorem dX6_begin_58 : decode prog_1_method_4_code 58 = .ok (.aload_n 0, 1) := by decide +kernel
theorem dX6_begin_59 : decode prog_1_method_4_code 59 = .ok (.getfield 21, 3) := by decide +kernel
theorem dX6_begin_62 : decode prog_1_method_4_code 62 = .ok (.iload_n 1, 1) := by decide +kernel
theorem dX6_begin_63 : decode prog_1_method_4_code 63 = .ok (.iload_n 2, 1) := by decide +kernel
theorem dX6_begin_64 : decode prog_1_method_4_code 64 = .ok (.invokevirtual 61, 3) := by decide +kernel
theorem dX6_begin_67 : decode prog_1_method_4_code 67 = .ok (.return_, 1) := by decide +kernel
theorem dX6_run_0 : decode prog_1_method_5_code 0 = .ok (.iload_n 1, 1) := by decide +kernel
theorem dX6_run_1 : decode prog_1_method_5_code 1 = .ok (.iconst 0, 1) := by decide +kernel
theorem dX6_run_2 : decode prog_1_method_5_code 2 = .ok (.sipush 200, 3) := by decide +kernel
theorem dX6_run_5 : decode prog_1_method_5_code 5 = .ok (.invokestatic 25, 3) := by decide +kernel
theorem dX6_run_8 : decode prog_1_method_5_code 8 = .ok (.ifCond .ne 13, 3) := by decide +kernel
theorem dX6_run_11 : decode prog_1_method_5_code 11 = .ok (.new 29, 3) := by decide +kernel
theorem dX6_run_14 : decode prog_1_method_5_code 14 = .ok (.dup, 1) := by decide +kernel
theorem dX6_run_15 : decode prog_1_method_5_code 15 = .ok (.ldc 64, 2) := by decide +kernel
theorem dX6_run_17 : decode prog_1_method_5_code 17 = .ok (.invokespecial 33, 3) := by decide +kernel
theorem dX6_run_20 : decode prog_1_method_5_code 20 = .ok (.athrow, 1) := by decide +kernel
theorem dX6_run_21 : decode prog_1_method_5_code 21 = .ok (.aload_n 0, 1) := by decide +kernel
theorem dX6_run_22 : decode prog_1_method_5_code 22 = .ok (.getfield 21, 3) := by decide +kernel
theorem dX6_run_25 : decode prog_1_method_5_code 25 = .ok (.invokevirtual 66, 3) := by decide +kernel
theorem dX6_run_28 : decode prog_1_method_5_code 28 = .ok (.ifCond .ne 13, 3) := by decide +kernel
theorem dX6_run_31 : decode prog_1_method_5_code 31 = .ok (.new 46, 3) := by decide +kernel
theorem dX6_run_34 : decode prog_1_method_5_code 34 = .ok (.dup, 1) := by decide +kernel
theorem dX6_run_35 : decode prog_1_method_5_code 35 = .ok (.ldc 70, 2) := by decide +kernel
theorem dX6_run_37 : decode prog_1_method_5_code 37 = .ok (.invokespecial 50, 3) := by decide +kernel
theorem dX6_run_40 : decode prog_1_method_5_code 40 = .ok (.athrow, 1) := by decide +kernel
theorem dX6_run_41 : decode prog_1_method_5_code 41 = .ok (.iconst 0, 1) := by decide +kernel
theorem dX6_run_42 : decode prog_1_method_5_code 42 = .ok (.istore_n 2, 1) := by decide +kernel
theorem dX6_run_43 : decode prog_1_method_5_code 43 = .ok (.iload_n 2, 1) := by decide +kernel
theorem dX6_run_44 : decode prog_1_method_5_code 44 = .ok (.iload_n 1, 1) := by decide +kernel
theorem dX6_run_45 : decode prog_1_method_5_code 45 = .ok (.if_icmp .ge 36, 3) := by decide +kernel
theorem dX6_run_48 : decode prog_1_method_5_code 48 = .ok (.aload_n 0, 1) := by decide +kernel
theorem dX6_run_49 : decode prog_1_method_5_code 49 = .ok (.getfield 21, 3) := by decide +kernel
theorem dX6_run_52 : decode prog_1_method_5_code 52 = .ok (.invokevirtual 72, 3) := by decide +kernel
theorem dX6_run_55 : decode prog_1_method_5_code 55 = .ok (.ifCond .ne 26, 3) := by decide +kernel
theorem dX6_run_58 : decode prog_1_method_5_code 58 = .ok (.aload_n 0, 1) := by decide +kernel
theorem dX6_run_59 : decode prog_1_method_5_code 59 = .ok (.getfield 21, 3) := by decide +kernel
theorem dX6_run_62 : decode prog_1_method_5_code 62 = .ok (.invokevirtual 75, 3) := by decide +kernel
theorem dX6_run_65 : decode prog_1_method_5_code 65 = .ok (.ifCond .ne 16, 3) := by decide +kernel
theorem dX6_run_68 : decode prog_1_method_5_code 68 = .ok (.aload_n 0, 1) := by decide +kernel
theorem dX6_run_69 : decode prog_1_method_5_code 69 = .ok (.getfield 21, 3) := by decide +kernel
theorem dX6_run_72 : decode prog_1_method_5_code 72 = .ok (.invokevirtual 78, 3) := by decide +kernel
theorem dX6_run_75 : decode prog_1_method_5_code 75 = .ok (.iinc 2 1, 3) := by decide +kernel
theorem dX6_run_78 : decode prog_1_method_5_code 78 = .ok (.goto (-35), 3) := by decide +kernel
theorem dX6_run_81 : decode prog_1_method_5_code 81 = .ok (.aload_n 0, 1) := by decide +kernel
theorem dX6_run_82 : decode prog_1_method_5_code 82 = .ok (.getfield 21, 3) := by decide +kernel
theorem dX6_run_85 : decode prog_1_method_5_code 85 = .ok (.invokevirtual 75, 3) := by decide +kernel
theorem dX6_run_88 : decode prog_1_method_5_code 88 = .ok (.ifCond .eq 13, 3) := by decide +kernel
theorem dX6_run_91 : decode prog_1_method_5_code 91 = .ok (.new 81, 3) := by decide +kernel
theorem dX6_run_94 : decode prog_1_method_5_code 94 = .ok (.dup, 1) := by decide +kernel
theorem dX6_run_95 : decode prog_1_method_5_code 95 = .ok (.ldc 83, 2) := by decide +kernel
theorem dX6_run_97 : decode prog_1_method_5_code 97 = .ok (.invokespecial 85, 3) := by decide +kernel
theorem dX6_run_100 : decode prog_1_method_5_code 100 = .ok (.athrow, 1) := by decide +kernel
theorem dX6_run_101 : decode prog_1_method_5_code 101 = .ok (.aload_n 0, 1) := by decide +kernel
theorem dX6_run_102 : decode prog_1_method_5_code 102 = .ok (.getfield 21, 3) := by decide +kernel
theorem dX6_run_105 : decode prog_1_method_5_code 105 = .ok (.invokevirtual 72, 3) := by decide +kernel
theorem dX6_run_108 : decode prog_1_method_5_code 108 = .ok (.ifCond .eq 7, 3) := by decide +kernel
theorem dX6_run_111 : decode prog_1_method_5_code 111 = .ok (.iconst 1, 1) := by decide +kernel
theorem dX6_run_112 : decode prog_1_method_5_code 112 = .ok (.goto 4, 3) := by decide +kernel
theorem dX6_run_115 : decode prog_1_method_5_code 115 = .ok (.iconst 0, 1) := by decide +kernel
theorem dX6_run_116 : decode prog_1_method_5_code 116 = .ok (.ireturn, 1) := by decide +kernel
theorem dX6_result_0 : decode prog_1_method_6_code 0 = .ok (.aload_n 0, 1) := by decide +kernel
theorem dX6_result_1 : decode prog_1_method_6_code 1 = .ok (.getfield 21, 3) := by decide +kernel
theorem dX6_result_4 : decode prog_1_method_6_code 4 = .ok (.invokevirtual 72, 3) := by decide +kernel
theorem dX6_result_7 : decode prog_1_method_6_code 7 = .ok (.ifCond .ne 13, 3) := by decide +kernel
theorem dX6_result_10 : decode prog_1_method_6_code 10 = .ok (.new 46, 3) := by decide +kernel
theorem dX6_result_13 : decode prog_1_method_6_code 13 = .ok (.dup, 1) := by decide +kernel
theorem dX6_result_14 : decode prog_1_method_6_code 14 = .ok (.ldc 86, 2) := by decide +kernel
theorem dX6_result_16 : decode prog_1_method_6_code 16 = .ok (.invokespecial 50, 3) := by decide +kernel
theorem dX6_result_19 : decode prog_1_method_6_code 19 = .ok (.athrow, 1) := by decide +kernel
theorem dX6_result_20 : decode prog_1_method_6_code 20 = .ok (.aload_n 0, 1) := by decide +kernel
theorem dX6_result_21 : decode prog_1_method_6_code 21 = .ok (.getfield 21, 3) := by decide +kernel
theorem dX6_result_24 : decode prog_1_method_6_code 24 = .ok (.getfield 88, 3) := by decide +kernel
theorem dX6_result_27 : decode prog_1_method_6_code 27 = .ok (.getfield 92, 3) := by decide +kernel
theorem dX6_result_30 : decode prog_1_method_6_code 30 = .ok (.ifCond .le 13, 3) := by decide +kernel
theorem dX6_result_33 : decode prog_1_method_6_code 33 = .ok (.new 97, 3) := by decide +kernel
theorem dX6_result_36 : decode prog_1_method_6_code 36 = .ok (.dup, 1) := by decide +kernel
theorem dX6_result_37 : decode prog_1_method_6_code 37 = .ok (.ldc 99, 2) := by decide +kernel
theorem dX6_result_39 : decode prog_1_method_6_code 39 = .ok (.invokespecial 101, 3) := by decide +kernel
theorem dX6_result_42 : decode prog_1_method_6_code 42 = .ok (.athrow, 1) := by decide +kernel
theorem dX6_result_43 : decode prog_1_method_6_code 43 = .ok (.aload_n 0, 1) := by decide +kernel
theorem dX6_result_44 : decode prog_1_method_6_code 44 = .ok (.getfield 21, 3) := by decide +kernel
theorem dX6_result_47 : decode prog_1_method_6_code 47 = .ok (.getfield 102, 3) := by decide +kernel
theorem dX6_result_50 : decode prog_1_method_6_code 50 = .ok (.iconst 0, 1) := by decide +kernel
theorem dX6_result_51 : decode prog_1_method_6_code 51 = .ok (.aaload, 1) := by decide +kernel
theorem dX6_result_52 : decode prog_1_method_6_code 52 = .ok (.getfield 106, 3) := by decide +kernel
theorem dX6_result_55 : decode prog_1_method_6_code 55 = .ok (.aload_n 0, 1) := by decide +kernel
theorem dX6_result_56 : decode prog_1_method_6_code 56 = .ok (.getfield 21, 3) := by decide +kernel
theorem dX6_result_59 : decode prog_1_method_6_code 59 = .ok (.getfield 88, 3) := by decide +kernel
theorem dX6_result_62 : decode prog_1_method_6_code 62 = .ok (.getfield 111, 3) := by decide +kernel
theorem dX6_result_65 : decode prog_1_method_6_code 65 = .ok (.iadd, 1) := by decide +kernel
theorem dX6_result_66 : decode prog_1_method_6_code 66 = .ok (.ireturn, 1) := by decide +kernel
theorem dX6_said_0 : decode prog_1_method_7_code 0 = .ok (.iload_n 1, 1) := by decide +kernel
theorem dX6_said_1 : decode prog_1_method_7_code 1 = .ok (.iconst 0, 1) := by decide +kernel
theorem dX6_said_2 : decode prog_1_method_7_code 2 = .ok (.aload_n 0, 1) := by decide +kernel
theorem dX6_said_3 : decode prog_1_method_7_code 3 = .ok (.getfield 21, 3) := by decide +kernel
theorem dX6_said_6 : decode prog_1_method_7_code 6 = .ok (.getfield 114, 3) := by decide +kernel
theorem dX6_said_9 : decode prog_1_method_7_code 9 = .ok (.bipush 40, 2) := by decide +kernel
theorem dX6_said_11 : decode prog_1_method_7_code 11 = .ok (.invokestatic 117, 3) := by decide +kernel
theorem dX6_said_14 : decode prog_1_method_7_code 14 = .ok (.iconst 1, 1) := by decide +kernel
theorem dX6_said_15 : decode prog_1_method_7_code 15 = .ok (.isub, 1) := by decide +kernel
theorem dX6_said_16 : decode prog_1_method_7_code 16 = .ok (.invokestatic 25, 3) := by decide +kernel
theorem dX6_said_19 : decode prog_1_method_7_code 19 = .ok (.ifCond .ne 13, 3) := by decide +kernel
theorem dX6_said_22 : decode prog_1_method_7_code 22 = .ok (.new 123, 3) := by decide +kernel
theorem dX6_said_25 : decode prog_1_method_7_code 25 = .ok (.dup, 1) := by decide +kernel
theorem dX6_said_26 : decode prog_1_method_7_code 26 = .ok (.ldc 125, 2) := by decide +kernel
theorem dX6_said_28 : decode prog_1_method_7_code 28 = .ok (.invokespecial 127, 3) := by decide +kernel
theorem dX6_said_31 : decode prog_1_method_7_code 31 = .ok (.athrow, 1) := by decide +kernel
theorem dX6_said_32 : decode prog_1_method_7_code 32 = .ok (.aload_n 0, 1) := by decide +kernel
theorem dX6_said_33 : decode prog_1_method_7_code 33 = .ok (.getfield 21, 3) := by decide +kernel
theorem dX6_said_36 : decode prog_1_method_7_code 36 = .ok (.getfield 128, 3) := by decide +kernel
theorem dX6_said_39 : decode prog_1_method_7_code 39 = .ok (.iload_n 1, 1) := by decide +kernel
theorem dX6_said_40 : decode prog_1_method_7_code 40 = .ok (.iaload, 1) := by decide +kernel
theorem dX6_said_41 : decode prog_1_method_7_code 41 = .ok (.ireturn, 1) := by decide +kernel
theorem dX6_task_0 : decode prog_1_method_8_code 0 = .ok (.iload_n 2, 1) := by decide +kernel
theorem dX6_task_1 : decode prog_1_method_8_code 1 = .ok (.iconst 0, 1) := by decide +kernel
theorem dX6_task_2 : decode prog_1_method_8_code 2 = .ok (.bipush 6, 2) := by decide +kernel
theorem dX6_task_4 : decode prog_1_method_8_code 4 = .ok (.invokestatic 25, 3) := by decide +kernel
theorem dX6_task_7 : decode prog_1_method_8_code 7 = .ok (.ifCond .ne 13, 3) := by decide +kernel
theorem dX6_task_10 : decode prog_1_method_8_code 10 = .ok (.new 29, 3) := by decide +kernel
theorem dX6_task_13 : decode prog_1_method_8_code 13 = .ok (.dup, 1) := by decide +kernel
theorem dX6_task_14 : decode prog_1_method_8_code 14 = .ok (.ldc 132, 2) := by decide +kernel
theorem dX6_task_16 : decode prog_1_method_8_code 16 = .ok (.invokespecial 33, 3) := by decide +kernel
theorem dX6_task_19 : decode prog_1_method_8_code 19 = .ok (.athrow, 1) := by decide +kernel
theorem dX6_task_20 : decode prog_1_method_8_code 20 = .ok (.iload_n 1, 1) := by decide +kernel
theorem dX6_task_21 : decode prog_1_method_8_code 21 = .ok (.iconst 0, 1) := by decide +kernel
theorem dX6_task_22 : decode prog_1_method_8_code 22 = .ok (.aload_n 0, 1) := by decide +kernel
theorem dX6_task_23 : decode prog_1_method_8_code 23 = .ok (.getfield 21, 3) := by decide +kernel
theorem dX6_task_26 : decode prog_1_method_8_code 26 = .ok (.getfield 134, 3) := by decide +kernel
theorem dX6_task_29 : decode prog_1_method_8_code 29 = .ok (.iconst 1, 1) := by decide +kernel
theorem dX6_task_30 : decode prog_1_method_8_code 30 = .ok (.isub, 1) := by decide +kernel
theorem dX6_task_31 : decode prog_1_method_8_code 31 = .ok (.invokestatic 25, 3) := by decide +kernel
theorem dX6_task_34 : decode prog_1_method_8_code 34 = .ok (.ifCond .ne 13, 3) := by decide +kernel
theorem dX6_task_37 : decode prog_1_method_8_code 37 = .ok (.new 123, 3) := by decide +kernel
theorem dX6_task_40 : decode prog_1_method_8_code 40 = .ok (.dup, 1) := by decide +kernel
theorem dX6_task_41 : decode prog_1_method_8_code 41 = .ok (.ldc 137, 2) := by decide +kernel
theorem dX6_task_43 : decode prog_1_method_8_code 43 = .ok (.invokespecial 127, 3) := by decide +kernel
theorem dX6_task_46 : decode prog_1_method_8_code 46 = .ok (.athrow, 1) := by decide +kernel
theorem dX6_task_47 : decode prog_1_method_8_code 47 = .ok (.aload_n 0, 1) := by decide +kernel
theorem dX6_task_48 : decode prog_1_method_8_code 48 = .ok (.getfield 21, 3) := by decide +kernel
theorem dX6_task_51 : decode prog_1_method_8_code 51 = .ok (.aload_n 0, 1) := by decide +kernel
theorem dX6_task_52 : decode prog_1_method_8_code 52 = .ok (.getfield 21, 3) := by decide +kernel
theorem dX6_task_55 : decode prog_1_method_8_code 55 = .ok (.getfield 102, 3) := by decide +kernel
theorem dX6_task_58 : decode prog_1_method_8_code 58 = .ok (.iload_n 1, 1) := by decide +kernel
theorem dX6_task_59 : decode prog_1_method_8_code 59 = .ok (.aaload, 1) := by decide +kernel
theorem dX6_task_60 : decode prog_1_method_8_code 60 = .ok (.iload_n 2, 1) := by decide +kernel
theorem dX6_task_61 : decode prog_1_method_8_code 61 = .ok (.invokevirtual 139, 3) := by decide +kernel
theorem dX6_task_64 : decode prog_1_method_8_code 64 = .ok (.ireturn, 1) := by decide +kernel
theorem dX6_future_0 : decode prog_1_method_9_code 0 = .ok (.iload_n 1, 1) := by decide +kernel
theorem dX6_future_1 : decode prog_1_method_9_code 1 = .ok (.iconst 0, 1) := by decide +kernel
theorem dX6_future_2 : decode prog_1_method_9_code 2 = .ok (.iconst 3, 1) := by decide +kernel
theorem dX6_future_3 : decode prog_1_method_9_code 3 = .ok (.invokestatic 25, 3) := by decide +kernel
theorem dX6_future_6 : decode prog_1_method_9_code 6 = .ok (.ifCond .ne 13, 3) := by decide +kernel
theorem dX6_future_9 : decode prog_1_method_9_code 9 = .ok (.new 29, 3) := by decide +kernel
theorem dX6_future_12 : decode prog_1_method_9_code 12 = .ok (.dup, 1) := by decide +kernel
theorem dX6_future_13 : decode prog_1_method_9_code 13 = .ok (.ldc 143, 2) := by decide +kernel
theorem dX6_future_15 : decode prog_1_method_9_code 15 = .ok (.invokespecial 33, 3) := by decide +kernel
theorem dX6_future_18 : decode prog_1_method_9_code 18 = .ok (.athrow, 1) := by decide +kernel
theorem dX6_future_19 : decode prog_1_method_9_code 19 = .ok (.aload_n 0, 1) := by decide +kernel
theorem dX6_future_20 : decode prog_1_method_9_code 20 = .ok (.getfield 21, 3) := by decide +kernel
theorem dX6_future_23 : decode prog_1_method_9_code 23 = .ok (.getfield 145, 3) := by decide +kernel
theorem dX6_future_26 : decode prog_1_method_9_code 26 = .ok (.iload_n 1, 1) := by decide +kernel
theorem dX6_future_27 : decode prog_1_method_9_code 27 = .ok (.baload, 1) := by decide +kernel
theorem dX6_future_28 : decode prog_1_method_9_code 28 = .ok (.ifCond .ne 13, 3) := by decide +kernel
theorem dX6_future_31 : decode prog_1_method_9_code 31 = .ok (.new 46, 3) := by decide +kernel
theorem dX6_future_34 : decode prog_1_method_9_code 34 = .ok (.dup, 1) := by decide +kernel
theorem dX6_future_35 : decode prog_1_method_9_code 35 = .ok (.ldc 149, 2) := by decide +kernel
theorem dX6_future_37 : decode prog_1_method_9_code 37 = .ok (.invokespecial 50, 3) := by decide +kernel
theorem dX6_future_40 : decode prog_1_method_9_code 40 = .ok (.athrow, 1) := by decide +kernel
theorem dX6_future_41 : decode prog_1_method_9_code 41 = .ok (.aload_n 0, 1) := by decide +kernel
theorem dX6_future_42 : decode prog_1_method_9_code 42 = .ok (.getfield 21, 3) := by decide +kernel
theorem dX6_future_45 : decode prog_1_method_9_code 45 = .ok (.getfield 151, 3) := by decide +kernel
theorem dX6_future_48 : decode prog_1_method_9_code 48 = .ok (.iload_n 1, 1) := by decide +kernel
theorem dX6_future_49 : decode prog_1_method_9_code 49 = .ok (.iaload, 1) := by decide +kernel
theorem dX6_future_50 : decode prog_1_method_9_code 50 = .ok (.ireturn, 1) := by decide +kernel
theorem dX6_count_0 : decode prog_1_method_10_code 0 = .ok (.iload_n 1, 1) := by decide +kernel
theorem dX6_count_1 : decode prog_1_method_10_code 1 = .ok (.iconst 0, 1) := by decide +kernel
theorem dX6_count_2 : decode prog_1_method_10_code 2 = .ok (.bipush 10, 2) := by decide +kernel
theorem dX6_count_4 : decode prog_1_method_10_code 4 = .ok (.invokestatic 25, 3) := by decide +kernel
theorem dX6_count_7 : decode prog_1_method_10_code 7 = .ok (.ifCond .eq 12, 3) := by decide +kernel
theorem dX6_count_10 : decode prog_1_method_10_code 10 = .ok (.aload_n 0, 1) := by decide +kernel
theorem dX6_count_11 : decode prog_1_method_10_code 11 = .ok (.getfield 21, 3) := by decide +kernel
theorem dX6_count_14 : decode prog_1_method_10_code 14 = .ok (.iload_n 1, 1) := by decide +kernel
theorem dX6_count_15 : decode prog_1_method_10_code 15 = .ok (.invokevirtual 154, 3) := by decide +kernel
theorem dX6_count_18 : decode prog_1_method_10_code 18 = .ok (.ireturn, 1) := by decide +kernel
theorem dX6_count_19 : decode prog_1_method_10_code 19 = .ok (.iload_n 1, 1) := by decide +kernel
theorem dX6_count_20 : decode prog_1_method_10_code 20 = .ok (.bipush 20, 2) := by decide +kernel
theorem dX6_count_22 : decode prog_1_method_10_code 22 = .ok (.bipush 22, 2) := by decide +kernel
theorem dX6_count_24 : decode prog_1_method_10_code 24 = .ok (.invokestatic 25, 3) := by decide +kernel
theorem dX6_count_27 : decode prog_1_method_10_code 27 = .ok (.ifCond .eq 19, 3) := by decide +kernel
theorem dX6_count_30 : decode prog_1_method_10_code 30 = .ok (.aload_n 0, 1) := by decide +kernel
theorem dX6_count_31 : decode prog_1_method_10_code 31 = .ok (.getfield 21, 3) := by decide +kernel
theorem dX6_count_34 : decode prog_1_method_10_code 34 = .ok (.getfield 158, 3) := by decide +kernel
theorem dX6_count_37 : decode prog_1_method_10_code 37 = .ok (.iload_n 1, 1) := by decide +kernel
theorem dX6_count_38 : decode prog_1_method_10_code 38 = .ok (.bipush 20, 2) := by decide +kernel
theorem dX6_count_40 : decode prog_1_method_10_code 40 = .ok (.isub, 1) := by decide +kernel
theorem dX6_count_41 : decode prog_1_method_10_code 41 = .ok (.aaload, 1) := by decide +kernel
theorem dX6_count_42 : decode prog_1_method_10_code 42 = .ok (.getfield 162, 3) := by decide +kernel
theorem dX6_count_45 : decode prog_1_method_10_code 45 = .ok (.ireturn, 1) := by decide +kernel
theorem dX6_count_46 : decode prog_1_method_10_code 46 = .ok (.iload_n 1, 1) := by decide +kernel
theorem dX6_count_47 : decode prog_1_method_10_code 47 = .ok (.bipush 30, 2) := by decide +kernel
theorem dX6_count_49 : decode prog_1_method_10_code 49 = .ok (.bipush 32, 2) := by decide +kernel
theorem dX6_count_51 : decode prog_1_method_10_code 51 = .ok (.invokestatic 25, 3) := by decide +kernel
theorem dX6_count_54 : decode prog_1_method_10_code 54 = .ok (.ifCond .eq 19, 3) := by decide +kernel
theorem dX6_count_57 : decode prog_1_method_10_code 57 = .ok (.aload_n 0, 1) := by decide +kernel
theorem dX6_count_58 : decode prog_1_method_10_code 58 = .ok (.getfield 21, 3) := by decide +kernel
theorem dX6_count_61 : decode prog_1_method_10_code 61 = .ok (.getfield 158, 3) := by decide +kernel
theorem dX6_count_64 : decode prog_1_method_10_code 64 = .ok (.iload_n 1, 1) := by decide +kernel
theorem dX6_count_65 : decode prog_1_method_10_code 65 = .ok (.bipush 30, 2) := by decide +kernel
theorem dX6_count_67 : decode prog_1_method_10_code 67 = .ok (.isub, 1) := by decide +kernel
theorem dX6_count_68 : decode prog_1_method_10_code 68 = .ok (.aaload, 1) := by decide +kernel
theorem dX6_count_69 : decode prog_1_method_10_code 69 = .ok (.getfield 167, 3) := by decide +kernel
theorem dX6_count_72 : decode prog_1_method_10_code 72 = .ok (.ireturn, 1) := by decide +kernel
theorem dX6_count_73 : decode prog_1_method_10_code 73 = .ok (.iload_n 1, 1) := by decide +kernel
theorem dX6_count_74 : decode prog_1_method_10_code 74 = .ok (.bipush 40, 2) := by decide +kernel
theorem dX6_count_76 : decode prog_1_method_10_code 76 = .ok (.bipush 87, 2) := by decide +kernel
theorem dX6_count_78 : decode prog_1_method_10_code 78 = .ok (.invokestatic 25, 3) := by decide +kernel
theorem dX6_count_81 : decode prog_1_method_10_code 81 = .ok (.ifCond .eq 20, 3) := by decide +kernel
theorem dX6_count_84 : decode prog_1_method_10_code 84 = .ok (.aload_n 0, 1) := by decide +kernel
theorem dX6_count_85 : decode prog_1_method_10_code 85 = .ok (.getfield 21, 3) := by decide +kernel
theorem dX6_count_88 : decode prog_1_method_10_code 88 = .ok (.getfield 158, 3) := by decide +kernel
theorem dX6_count_91 : decode prog_1_method_10_code 91 = .ok (.iconst 0, 1) := by decide +kernel
theorem dX6_count_92 : decode prog_1_method_10_code 92 = .ok (.aaload, 1) := by decide +kernel
theorem dX6_count_93 : decode prog_1_method_10_code 93 = .ok (.iload_n 1, 1) := by decide +kernel
theorem dX6_count_94 : decode prog_1_method_10_code 94 = .ok (.bipush 40, 2) := by decide +kernel
theorem dX6_count_96 : decode prog_1_method_10_code 96 = .ok (.isub, 1) := by decide +kernel
theorem dX6_count_97 : decode prog_1_method_10_code 97 = .ok (.invokevirtual 168, 3) := by decide +kernel
theorem dX6_count_100 : decode prog_1_method_10_code 100 = .ok (.ireturn, 1) := by decide +kernel
theorem dX6_count_101 : decode prog_1_method_10_code 101 = .ok (.iload_n 1, 1) := by decide +kernel
theorem dX6_count_102 : decode prog_1_method_10_code 102 = .ok (.bipush 100, 2) := by decide +kernel
theorem dX6_count_104 : decode prog_1_method_10_code 104 = .ok (.sipush 147, 3) := by decide +kernel
theorem dX6_count_107 : decode prog_1_method_10_code 107 = .ok (.invokestatic 25, 3) := by decide +kernel
theorem dX6_count_110 : decode prog_1_method_10_code 110 = .ok (.ifCond .eq 20, 3) := by decide +kernel
theorem dX6_count_113 : decode prog_1_method_10_code 113 = .ok (.aload_n 0, 1) := by decide +kernel
theorem dX6_count_114 : decode prog_1_method_10_code 114 = .ok (.getfield 21, 3) := by decide +kernel
theorem dX6_count_117 : decode prog_1_method_10_code 117 = .ok (.getfield 158, 3) := by decide +kernel
theorem dX6_count_120 : decode prog_1_method_10_code 120 = .ok (.iconst 1, 1) := by decide +kernel
theorem dX6_count_121 : decode prog_1_method_10_code 121 = .ok (.aaload, 1) := by decide +kernel
theorem dX6_count_122 : decode prog_1_method_10_code 122 = .ok (.iload_n 1, 1) := by decide +kernel
theorem dX6_count_123 : decode prog_1_method_10_code 123 = .ok (.bipush 100, 2) := by decide +kernel
theorem dX6_count_125 : decode prog_1_method_10_code 125 = .ok (.isub, 1) := by decide +kernel
theorem dX6_count_126 : decode prog_1_method_10_code 126 = .ok (.invokevirtual 168, 3) := by decide +kernel
theorem dX6_count_129 : decode prog_1_method_10_code 129 = .ok (.ireturn, 1) := by decide +kernel
theorem dX6_count_130 : decode prog_1_method_10_code 130 = .ok (.new 29, 3) := by decide +kernel
theorem dX6_count_133 : decode prog_1_method_10_code 133 = .ok (.dup, 1) := by decide +kernel
theorem dX6_count_134 : decode prog_1_method_10_code 134 = .ok (.ldc 171, 2) := by decide +kernel
theorem dX6_count_136 : decode prog_1_method_10_code 136 = .ok (.invokespecial 33, 3) := by decide +kernel
theorem dX6_count_139 : decode prog_1_method_10_code 139 = .ok (.athrow, 1) := by decide +kernel
theorem dX6_isWithin_0 : decode prog_1_method_11_code 0 = .ok (.iload_n 0, 1) := by decide +kernel
theorem dX6_isWithin_1 : decode prog_1_method_11_code 1 = .ok (.iload_n 1, 1) := by decide +kernel
theorem dX6_isWithin_2 : decode prog_1_method_11_code 2 = .ok (.if_icmp .lt 12, 3) := by decide +kernel
theorem dX6_isWithin_5 : decode prog_1_method_11_code 5 = .ok (.iload_n 0, 1) := by decide +kernel
theorem dX6_isWithin_6 : decode prog_1_method_11_code 6 = .ok (.iload_n 2, 1) := by decide +kernel
theorem dX6_isWithin_7 : decode prog_1_method_11_code 7 = .ok (.if_icmp .gt 7, 3) := by decide +kernel
theorem dX6_isWithin_10 : decode prog_1_method_11_code 10 = .ok (.iconst 1, 1) := by decide +kernel
theorem dX6_isWithin_11 : decode prog_1_method_11_code 11 = .ok (.goto 4, 3) := by decide +kernel
theorem dX6_isWithin_14 : decode prog_1_method_11_code 14 = .ok (.iconst 0, 1) := by decide +kernel
theorem dX6_isWithin_15 : decode prog_1_method_11_code 15 = .ok (.ireturn, 1) := by decide +kernel
theorem dX6_isInstruction_0 : decode prog_1_method_12_code 0 = .ok (.iload_n 0, 1) := by decide +kernel
theorem dX6_isInstruction_1 : decode prog_1_method_12_code 1 = .ok (.iconst 0, 1) := by decide +kernel
theorem dX6_isInstruction_2 : decode prog_1_method_12_code 2 = .ok (.bipush 16, 2) := by decide +kernel
theorem dX6_isInstruction_4 : decode prog_1_method_12_code 4 = .ok (.invokestatic 25, 3) := by decide +kernel
theorem dX6_isInstruction_7 : decode prog_1_method_12_code 7 = .ok (.ifCond .eq 24, 3) := by decide +kernel
theorem dX6_isInstruction_10 : decode prog_1_method_12_code 10 = .ok (.iload_n 1, 1) := by decide +kernel
theorem dX6_isInstruction_11 : decode prog_1_method_12_code 11 = .ok (.getstatic 173, 3) := by decide +kernel
theorem dX6_isInstruction_14 : decode prog_1_method_12_code 14 = .ok (.iload_n 0, 1) := by decide +kernel
theorem dX6_isInstruction_15 : decode prog_1_method_12_code 15 = .ok (.iaload, 1) := by decide +kernel
theorem dX6_isInstruction_16 : decode prog_1_method_12_code 16 = .ok (.getstatic 176, 3) := by decide +kernel
theorem dX6_isInstruction_19 : decode prog_1_method_12_code 19 = .ok (.iload_n 0, 1) := by decide +kernel
theorem dX6_isInstruction_20 : decode prog_1_method_12_code 20 = .ok (.iaload, 1) := by decide +kernel
theorem dX6_isInstruction_21 : decode prog_1_method_12_code 21 = .ok (.invokestatic 25, 3) := by decide +kernel
theorem dX6_isInstruction_24 : decode prog_1_method_12_code 24 = .ok (.ifCond .eq 7, 3) := by decide +kernel
theorem dX6_isInstruction_27 : decode prog_1_method_12_code 27 = .ok (.iconst 1, 1) := by decide +kernel
theorem dX6_isInstruction_28 : decode prog_1_method_12_code 28 = .ok (.goto 4, 3) := by decide +kernel
theorem dX6_isInstruction_31 : decode prog_1_method_12_code 31 = .ok (.iconst 0, 1) := by decide +kernel
theorem dX6_isInstruction_32 : decode prog_1_method_12_code 32 = .ok (.ireturn, 1) := by decide +kernel
end
section
theorem dX7_init_0 : decode prog_9_method_1_code 0 = .ok (.aload_n 0, 1) := by decide +kernel
theorem dX7_init_1 : decode prog_9_method_1_code 1 = .ok (.invokespecial 1, 3) := by decide +kernel
theorem dX7_init_4 : decode prog_9_method_1_code 4 = .ok (.aload_n 0, 1) := by decide +kernel
theorem dX7_init_5 : decode prog_9_method_1_code 5 = .ok (.bipush 8, 2) := by decide +kernel
theorem dX7_init_7 : decode prog_9_method_1_code 7 = .ok (.newarray .int, 2) := by decide +kernel
theorem dX7_init_9 : decode prog_9_method_1_code 9 = .ok (.putfield 7, 3) := by decide +kernel
theorem dX7_init_12 : decode prog_9_method_1_code 12 = .ok (.aload_n 0, 1) := by decide +kernel
theorem dX7_init_13 : decode prog_9_method_1_code 13 = .ok (.sipush 128, 3) := by decide +kernel
theorem dX7_init_16 : decode prog_9_method_1_code 16 = .ok (.newarray .int, 2) := by decide +kernel
theorem dX7_init_18 : decode prog_9_method_1_code 18 = .ok (.putfield 13, 3) := by decide +kernel
theorem dX7_init_21 : decode prog_9_method_1_code 21 = .ok (.aload_n 0, 1) := by decide +kernel
theorem dX7_init_22 : decode prog_9_method_1_code 22 = .ok (.sipush 128, 3) := by decide +kernel
theorem dX7_init_25 : decode prog_9_method_1_code 25 = .ok (.newarray .int, 2) := by decide +kernel
theorem dX7_init_27 : decode prog_9_method_1_code 27 = .ok (.putfield 16, 3) := by decide +kernel
theorem dX7_init_30 : decode prog_9_method_1_code 30 = .ok (.aload_n 0, 1) := by decide +kernel
theorem dX7_init_31 : decode prog_9_method_1_code 31 = .ok (.bipush 48, 2) := by decide +kernel
theorem dX7_init_33 : decode prog_9_method_1_code 33 = .ok (.newarray .int, 2) := by decide +kernel
theorem dX7_init_35 : decode prog_9_method_1_code 35 = .ok (.putfield 19, 3) := by decide +kernel
theorem dX7_init_38 : decode prog_9_method_1_code 38 = .ok (.aload_n 0, 1) := by decide +kernel
theorem dX7_init_39 : decode prog_9_method_1_code 39 = .ok (.bipush 48, 2) := by decide +kernel
theorem dX7_init_41 : decode prog_9_method_1_code 41 = .ok (.newarray .int, 2) := by decide +kernel
theorem dX7_init_43 : decode prog_9_method_1_code 43 = .ok (.putfield 22, 3) := by decide +kernel
theorem dX7_init_46 : decode prog_9_method_1_code 46 = .ok (.aload_n 0, 1) := by decide +kernel
theorem dX7_init_47 : decode prog_9_method_1_code 47 = .ok (.bipush 48, 2) := by decide +kernel
theorem dX7_init_49 : decode prog_9_method_1_code 49 = .ok (.newarray .int, 2) := by decide +kernel
theorem dX7_init_51 : decode prog_9_method_1_code 51 = .ok (.putfield 25, 3) := by decide +kernel
theorem dX7_init_54 : decode prog_9_method_1_code 54 = .ok (.aload_n 0, 1) := by decide +kernel
theorem dX7_init_55 : decode prog_9_method_1_code 55 = .ok (.bipush 48, 2) := by decide +kernel
theorem dX7_init_57 : decode prog_9_method_1_code 57 = .ok (.newarray .int, 2) := by decide +kernel
theorem dX7_init_59 : decode prog_9_method_1_code 59 = .ok (.putfield 28, 3) := by decide +kernel
theorem dX7_init_62 : decode prog_9_method_1_code 62 = .ok (.aload_n 0, 1) := by decide +kernel
theorem dX7_init_63 : decode prog_9_method_1_code 63 = .ok (.bipush 48, 2) := by decide +kernel
theorem dX7_init_65 : decode prog_9_method_1_code 65 = .ok (.newarray .int, 2) := by decide +kernel
theorem dX7_init_67 : decode prog_9_method_1_code 67 = .ok (.putfield 31, 3) := by decide +kernel
theorem dX7_init_70 : decode prog_9_method_1_code 70 = .ok (.aload_n 0, 1) := by decide +kernel
theorem dX7_init_71 : decode prog_9_method_1_code 71 = .ok (.bipush 48, 2) := by decide +kernel
theorem dX7_init_73 : decode prog_9_method_1_code 73 = .ok (.newarray .int, 2) := by decide +kernel
theorem dX7_init_75 : decode prog_9_method_1_code 75 = .ok (.putfield 34, 3) := by decide +kernel
theorem dX7_init_78 : decode prog_9_method_1_code 78 = .ok (.aload_n 0, 1) := by decide +kernel
theorem dX7_init_79 : decode prog_9_method_1_code 79 = .ok (.bipush 48, 2) := by decide +kernel
theorem dX7_init_81 : decode prog_9_method_1_code 81 = .ok (.newarray .int, 2) := by decide +kernel
theorem dX7_init_83 : decode prog_9_method_1_code 83 = .ok (.putfield 37, 3) := by decide +kernel
theorem dX7_init_86 : decode prog_9_method_1_code 86 = .ok (.aload_n 0, 1) := by decide +kernel
theorem dX7_init_87 : decode prog_9_method_1_code 87 = .ok (.bipush 48, 2) := by decide +kernel
theorem dX7_init_89 : decode prog_9_method_1_code 89 = .ok (.newarray .int, 2) := by decide +kernel
theorem dX7_init_91 : decode prog_9_method_1_code 91 = .ok (.putfield 40, 3) := by decide +kernel
theorem dX7_init_94 : decode prog_9_method_1_code 94 = .ok (.aload_n 0, 1) := by decide +kernel
theorem dX7_init_95 : decode prog_9_method_1_code 95 = .ok (.iconst 4, 1) := by decide +kernel
theorem dX7_init_96 : decode prog_9_method_1_code 96 = .ok (.newarray .int, 2) := by decide +kernel
theorem dX7_init_98 : decode prog_9_method_1_code 98 = .ok (.putfield 43, 3) := by decide +kernel
theorem dX7_init_101 : decode prog_9_method_1_code 101 = .ok (.aload_n 0, 1) := by decide +kernel
theorem dX7_init_102 : decode prog_9_method_1_code 102 = .ok (.bipush 48, 2) := by decide +kernel
theorem dX7_init_104 : decode prog_9_method_1_code 104 = .ok (.newarray .boolean, 2) := by decide +kernel
theorem dX7_init_106 : decode prog_9_method_1_code 106 = .ok (.putfield 46, 3) := by decide +kernel
theorem dX7_init_109 : decode prog_9_method_1_code 109 = .ok (.aload_n 0, 1) := by decide +kernel
theorem dX7_init_110 : decode prog_9_method_1_code 110 = .ok (.bipush 48, 2) := by decide +kernel
theorem dX7_init_112 : decode prog_9_method_1_code 112 = .ok (.newarray .boolean, 2) := by decide +kernel
theorem dX7_init_114 : decode prog_9_method_1_code 114 = .ok (.putfield 50, 3) := by decide +kernel
theorem dX7_init_117 : decode prog_9_method_1_code 117 = .ok (.aload_n 0, 1) := by decide +kernel
theorem dX7_init_118 : decode prog_9_method_1_code 118 = .ok (.bipush 48, 2) := by decide +kernel
theorem dX7_init_120 : decode prog_9_method_1_code 120 = .ok (.newarray .boolean, 2) := by decide +kernel
theorem dX7_init_122 : decode prog_9_method_1_code 122 = .ok (.putfield 53, 3) := by decide +kernel
theorem dX7_init_125 : decode prog_9_method_1_code 125 = .ok (.aload_n 0, 1) := by decide +kernel
theorem dX7_init_126 : decode prog_9_method_1_code 126 = .ok (.iconst 4, 1) := by decide +kernel
theorem dX7_init_127 : decode prog_9_method_1_code 127 = .ok (.newarray .boolean, 2) := by decide +kernel
theorem dX7_init_129 : decode prog_9_method_1_code 129 = .ok (.putfield 56, 3) := by decide +kernel
theorem dX7_init_132 : decode prog_9_method_1_code 132 = .ok (.aload_n 0, 1) := by decide +kernel
theorem dX7_init_133 : decode prog_9_method_1_code 133 = .ok (.bipush 96, 2) := by decide +kernel
theorem dX7_init_135 : decode prog_9_method_1_code 135 = .ok (.newarray .int, 2) := by decide +kernel
theorem dX7_init_137 : decode prog_9_method_1_code 137 = .ok (.putfield 59, 3) := by decide +kernel
theorem dX7_init_140 : decode prog_9_method_1_code 140 = .ok (.aload_n 0, 1) := by decide +kernel
theorem dX7_init_141 : decode prog_9_method_1_code 141 = .ok (.bipush 96, 2) := by decide +kernel
theorem dX7_init_143 : decode prog_9_method_1_code 143 = .ok (.newarray .int, 2) := by decide +kernel
theorem dX7_init_145 : decode prog_9_method_1_code 145 = .ok (.putfield 62, 3) := by decide +kernel
theorem dX7_init_148 : decode prog_9_method_1_code 148 = .ok (.aload_n 0, 1) := by decide +kernel
theorem dX7_init_149 : decode prog_9_method_1_code 149 = .ok (.bipush 96, 2) := by decide +kernel
theorem dX7_init_151 : decode prog_9_method_1_code 151 = .ok (.newarray .int, 2) := by decide +kernel
theorem dX7_init_153 : decode prog_9_method_1_code 153 = .ok (.putfield 65, 3) := by decide +kernel
theorem dX7_init_156 : decode prog_9_method_1_code 156 = .ok (.aload_n 0, 1) := by decide +kernel
theorem dX7_init_157 : decode prog_9_method_1_code 157 = .ok (.iconst 2, 1) := by decide +kernel
theorem dX7_init_158 : decode prog_9_method_1_code 158 = .ok (.newarray .int, 2) := by decide +kernel
theorem dX7_init_160 : decode prog_9_method_1_code 160 = .ok (.putfield 68, 3) := by decide +kernel
theorem dX7_init_163 : decode prog_9_method_1_code 163 = .ok (.aload_n 0, 1) := by decide +kernel
theorem dX7_init_164 : decode prog_9_method_1_code 164 = .ok (.sipush 145, 3) := by decide +kernel
theorem dX7_init_167 : decode prog_9_method_1_code 167 = .ok (.newarray .int, 2) := by decide +kernel
theorem dX7_init_169 : decode prog_9_method_1_code 169 = .ok (.putfield 71, 3) := by decide +kernel
theorem dX7_init_172 : decode prog_9_method_1_code 172 = .ok (.aload_n 0, 1) := by decide +kernel
theorem dX7_init_173 : decode prog_9_method_1_code 173 = .ok (.sipush 145, 3) := by decide +kernel
theorem dX7_init_176 : decode prog_9_method_1_code 176 = .ok (.newarray .int, 2) := by decide +kernel
theorem dX7_init_178 : decode prog_9_method_1_code 178 = .ok (.putfield 74, 3) := by decide +kernel
theorem dX7_init_181 : decode prog_9_method_1_code 181 = .ok (.aload_n 0, 1) := by decide +kernel
theorem dX7_init_182 : decode prog_9_method_1_code 182 = .ok (.sipush 145, 3) := by decide +kernel
theorem dX7_init_185 : decode prog_9_method_1_code 185 = .ok (.newarray .int, 2) := by decide +kernel
theorem dX7_init_187 : decode prog_9_method_1_code 187 = .ok (.putfield 77, 3) := by decide +kernel
theorem dX7_init_190 : decode prog_9_method_1_code 190 = .ok (.aload_n 0, 1) := by decide +kernel
theorem dX7_init_191 : decode prog_9_method_1_code 191 = .ok (.sipush 145, 3) := by decide +kernel
theorem dX7_init_194 : decode prog_9_method_1_code 194 = .ok (.newarray .int, 2) := by decide +kernel
theorem dX7_init_196 : decode prog_9_method_1_code 196 = .ok (.putfield 80, 3) := by decide +kernel
theorem dX7_init_199 : decode prog_9_method_1_code 199 = .ok (.aload_n 0, 1) := by decide +kernel
theorem dX7_init_200 : decode prog_9_method_1_code 200 = .ok (.sipush 145, 3) := by decide +kernel
theorem dX7_init_203 : decode prog_9_method_1_code 203 = .ok (.newarray .int, 2) := by decide +kernel
theorem dX7_init_205 : decode prog_9_method_1_code 205 = .ok (.putfield 83, 3) := by decide +kernel
theorem dX7_init_208 : decode prog_9_method_1_code 208 = .ok (.aload_n 0, 1) := by decide +kernel
theorem dX7_init_209 : decode prog_9_method_1_code 209 = .ok (.sipush 145, 3) := by decide +kernel
theorem dX7_init_212 : decode prog_9_method_1_code 212 = .ok (.newarray .int, 2) := by decide +kernel
theorem dX7_init_214 : decode prog_9_method_1_code 214 = .ok (.putfield 86, 3) := by decide +kernel
theorem dX7_init_217 : decode prog_9_method_1_code 217 = .ok (.aload_n 0, 1) := by decide +kernel
theorem dX7_init_218 : decode prog_9_method_1_code 218 = .ok (.iconst 3, 1) := by decide +kernel
theorem dX7_init_219 : decode prog_9_method_1_code 219 = .ok (.newarray .int, 2) := by decide +kernel
theorem dX7_init_221 : decode prog_9_method_1_code 221 = .ok (.putfield 89, 3) := by decide +kernel
theorem dX7_init_224 : decode prog_9_method_1_code 224 = .ok (.aload_n 0, 1) := by decide +kernel
theorem dX7_init_225 : decode prog_9_method_1_code 225 = .ok (.iconst 3, 1) := by decide +kernel
theorem dX7_init_226 : decode prog_9_method_1_code 226 = .ok (.newarray .int, 2) := by decide +kernel
theorem dX7_init_228 : decode prog_9_method_1_code 228 = .ok (.putfield 92, 3) := by decide +kernel
theorem dX7_init_231 : decode prog_9_method_1_code 231 = .ok (.aload_n 0, 1) := by decide +kernel
theorem dX7_init_232 : decode prog_9_method_1_code 232 = .ok (.sipush 144, 3) := by decide +kernel
theorem dX7_init_235 : decode prog_9_method_1_code 235 = .ok (.newarray .int, 2) := by decide +kernel
theorem dX7_init_237 : decode prog_9_method_1_code 237 = .ok (.putfield 95, 3) := by decide +kernel
theorem dX7_init_240 : decode prog_9_method_1_code 240 = .ok (.aload_n 0, 1) := by decide +kernel
theorem dX7_init_241 : decode prog_9_method_1_code 241 = .ok (.bipush 40, 2) := by decide +kernel
theorem dX7_init_243 : decode prog_9_method_1_code 243 = .ok (.newarray .int, 2) := by decide +kernel
theorem dX7_init_245 : decode prog_9_method_1_code 245 = .ok (.putfield 98, 3) := by decide +kernel
theorem dX7_init_248 : decode prog_9_method_1_code 248 = .ok (.return_, 1) := by decide +kernel
theorem dX7_thrown_0 : decode prog_9_method_2_code 0 = .ok (.aload_n 0, 1) := by decide +kernel
theorem dX7_thrown_1 : decode prog_9_method_2_code 1 = .ok (.getfield 101, 3) := by decide +kernel
theorem dX7_thrown_4 : decode prog_9_method_2_code 4 = .ok (.ireturn, 1) := by decide +kernel
theorem dX7_in_0 : decode prog_9_method_3_code 0 = .ok (.iload_n 0, 1) := by decide +kernel
theorem dX7_in_1 : decode prog_9_method_3_code 1 = .ok (.iload_n 1, 1) := by decide +kernel
theorem dX7_in_2 : decode prog_9_method_3_code 2 = .ok (.if_icmp .lt 12, 3) := by decide +kernel
theorem dX7_in_5 : decode prog_9_method_3_code 5 = .ok (.iload_n 0, 1) := by decide +kernel
theorem dX7_in_6 : decode prog_9_method_3_code 6 = .ok (.iload_n 2, 1) := by decide +kernel
theorem dX7_in_7 : decode prog_9_method_3_code 7 = .ok (.if_icmp .gt 7, 3) := by decide +kernel
theorem dX7_in_10 : decode prog_9_method_3_code 10 = .ok (.iconst 1, 1) := by decide +kernel
theorem dX7_in_11 : decode prog_9_method_3_code 11 = .ok (.goto 4, 3) := by decide +kernel
theorem dX7_in_14 : decode prog_9_method_3_code 14 = .ok (.iconst 0, 1) := by decide +kernel
theorem dX7_in_15 : decode prog_9_method_3_code 15 = .ok (.ireturn, 1) := by decide +kernel
theorem dX7_fail_0 : decode prog_9_method_4_code 0 = .ok (.aload_n 0, 1) := by decide +kernel
theorem dX7_fail_1 : decode prog_9_method_4_code 1 = .ok (.iload_n 1, 1) := by decide +kernel
theorem dX7_fail_2 : decode prog_9_method_4_code 2 = .ok (.putfield 101, 3) := by decide +kernel
theorem dX7_fail_5 : decode prog_9_method_4_code 5 = .ok (.iconst 0, 1) := by decide +kernel
theorem dX7_fail_6 : decode prog_9_method_4_code 6 = .ok (.ireturn, 1) := by decide +kernel
theorem dX7_body_0 : decode prog_9_method_5_code 0 = .ok (.iload_n 1, 1) := by decide +kernel
theorem dX7_body_1 : decode prog_9_method_5_code 1 = .ok (.iconst 0, 1) := by decide +kernel
theorem dX7_body_2 : decode prog_9_method_5_code 2 = .ok (.bipush 7, 2) := by decide +kernel
theorem dX7_body_4 : decode prog_9_method_5_code 4 = .ok (.invokestatic 105, 3) := by decide +kernel
theorem dX7_body_7 : decode prog_9_method_5_code 7 = .ok (.ifCond .ne 9, 3) := by decide +kernel
theorem dX7_body_10 : decode prog_9_method_5_code 10 = .ok (.aload_n 0, 1) := by decide +kernel
theorem dX7_body_11 : decode prog_9_method_5_code 11 = .ok (.iconst 1, 1) := by decide +kernel
theorem dX7_body_12 : decode prog_9_method_5_code 12 = .ok (.invokevirtual 109, 3) := by decide +kernel
theorem dX7_body_15 : decode prog_9_method_5_code 15 = .ok (.ireturn, 1) := by decide +kernel
theorem dX7_body_16 : decode prog_9_method_5_code 16 = .ok (.aload_n 0, 1) := by decide +kernel
theorem dX7_body_17 : decode prog_9_method_5_code 17 = .ok (.iconst 0, 1) := by decide +kernel
theorem dX7_body_18 : decode prog_9_method_5_code 18 = .ok (.putfield 101, 3) := by decide +kernel
theorem dX7_body_21 : decode prog_9_method_5_code 21 = .ok (.aload_n 0, 1) := by decide +kernel
theorem dX7_body_22 : decode prog_9_method_5_code 22 = .ok (.getfield 7, 3) := by decide +kernel
theorem dX7_body_25 : decode prog_9_method_5_code 25 = .ok (.iload_n 1, 1) := by decide +kernel
theorem dX7_body_26 : decode prog_9_method_5_code 26 = .ok (.iaload, 1) := by decide +kernel
theorem dX7_body_27 : decode prog_9_method_5_code 27 = .ok (.istore_n 2, 1) := by decide +kernel
theorem dX7_body_28 : decode prog_9_method_5_code 28 = .ok (.aload_n 0, 1) := by decide +kernel
theorem dX7_body_29 : decode prog_9_method_5_code 29 = .ok (.getfield 7, 3) := by decide +kernel
theorem dX7_body_32 : decode prog_9_method_5_code 32 = .ok (.iload_n 1, 1) := by decide +kernel
theorem dX7_body_33 : decode prog_9_method_5_code 33 = .ok (.iconst 0, 1) := by decide +kernel
theorem dX7_body_34 : decode prog_9_method_5_code 34 = .ok (.iastore, 1) := by decide +kernel
theorem dX7_body_35 : decode prog_9_method_5_code 35 = .ok (.iload_n 2, 1) := by decide +kernel
theorem dX7_body_36 : decode prog_9_method_5_code 36 = .ok (.ireturn, 1) := by decide +kernel
theorem dX7_fits_0 : decode prog_9_method_6_code 0 = .ok (.iload_n 0, 1) := by decide +kernel
theorem dX7_fits_1 : decode prog_9_method_6_code 1 = .ok (.tableswitch 130 2 16 #[75, 75, 83, 130, 130, 91, 91, 98, 75, 106, 130, 113, 130, 122, 122], 75) := by decide +kernel
theorem dX7_fits_76 : decode prog_9_method_6_code 76 = .ok (.iload_n 1, 1) := by decide +kernel
theorem dX7_fits_77 : decode prog_9_method_6_code 77 = .ok (.iconst 0, 1) := by decide +kernel
theorem dX7_fits_78 : decode prog_9_method_6_code 78 = .ok (.bipush 7, 2) := by decide +kernel
theorem dX7_fits_80 : decode prog_9_method_6_code 80 = .ok (.invokestatic 105, 3) := by decide +kernel
theorem dX7_fits_83 : decode prog_9_method_6_code 83 = .ok (.ireturn, 1) := by decide +kernel
theorem dX7_fits_84 : decode prog_9_method_6_code 84 = .ok (.iload_n 1, 1) := by decide +kernel
theorem dX7_fits_85 : decode prog_9_method_6_code 85 = .ok (.iconst 0, 1) := by decide +kernel
theorem dX7_fits_86 : decode prog_9_method_6_code 86 = .ok (.bipush 63, 2) := by decide +kernel
theorem dX7_fits_88 : decode prog_9_method_6_code 88 = .ok (.invokestatic 105, 3) := by decide +kernel
theorem dX7_fits_91 : decode prog_9_method_6_code 91 = .ok (.ireturn, 1) := by decide +kernel
theorem dX7_fits_92 : decode prog_9_method_6_code 92 = .ok (.iload_n 1, 1) := by decide +kernel
theorem dX7_fits_93 : decode prog_9_method_6_code 93 = .ok (.iconst 0, 1) := by decide +kernel
theorem dX7_fits_94 : decode prog_9_method_6_code 94 = .ok (.iconst 3, 1) := by decide +kernel
theorem dX7_fits_95 : decode prog_9_method_6_code 95 = .ok (.invokestatic 105, 3) := by decide +kernel
theorem dX7_fits_98 : decode prog_9_method_6_code 98 = .ok (.ireturn, 1) := by decide +kernel
theorem dX7_fits_99 : decode prog_9_method_6_code 99 = .ok (.iload_n 1, 1) := by decide +kernel
theorem dX7_fits_100 : decode prog_9_method_6_code 100 = .ok (.iconst 0, 1) := by decide +kernel
theorem dX7_fits_101 : decode prog_9_method_6_code 101 = .ok (.bipush 31, 2) := by decide +kernel
theorem dX7_fits_103 : decode prog_9_method_6_code 103 = .ok (.invokestatic 105, 3) := by decide +kernel
theorem dX7_fits_106 : decode prog_9_method_6_code 106 = .ok (.ireturn, 1) := by decide +kernel
theorem dX7_fits_107 : decode prog_9_method_6_code 107 = .ok (.iload_n 1, 1) := by decide +kernel
theorem dX7_fits_108 : decode prog_9_method_6_code 108 = .ok (.iconst 0, 1) := by decide +kernel
theorem dX7_fits_109 : decode prog_9_method_6_code 109 = .ok (.iconst 1, 1) := by decide +kernel
theorem dX7_fits_110 : decode prog_9_method_6_code 110 = .ok (.invokestatic 105, 3) := by decide +kernel
theorem dX7_fits_113 : decode prog_9_method_6_code 113 = .ok (.ireturn, 1) := by decide +kernel
theorem dX7_fits_114 : decode prog_9_method_6_code 114 = .ok (.iload_n 1, 1) := by decide +kernel
theorem dX7_fits_115 : decode prog_9_method_6_code 115 = .ok (.bipush 10, 2) := by decide +kernel
theorem dX7_fits_117 : decode prog_9_method_6_code 117 = .ok (.bipush 99, 2) := by decide +kernel
theorem dX7_fits_119 : decode prog_9_method_6_code 119 = .ok (.invokestatic 105, 3) := by decide +kernel
theorem dX7_fits_122 : decode prog_9_method_6_code 122 = .ok (.ireturn, 1) := by decide +kernel
theorem dX7_fits_123 : decode prog_9_method_6_code 123 = .ok (.iload_n 1, 1) := by decide +kernel
theorem dX7_fits_124 : decode prog_9_method_6_code 124 = .ok (.iconst 0, 1) := by decide +kernel
theorem dX7_fits_125 : decode prog_9_method_6_code 125 = .ok (.bipush 15, 2) := by decide +kernel
theorem dX7_fits_127 : decode prog_9_method_6_code 127 = .ok (.invokestatic 105, 3) := by decide +kernel
theorem dX7_fits_130 : decode prog_9_method_6_code 130 = .ok (.ireturn, 1) := by decide +kernel
theorem dX7_fits_131 : decode prog_9_method_6_code 131 = .ok (.iload_n 0, 1) := by decide +kernel
theorem dX7_fits_132 : decode prog_9_method_6_code 132 = .ok (.iconst 0, 1) := by decide +kernel
theorem dX7_fits_133 : decode prog_9_method_6_code 133 = .ok (.bipush 16, 2) := by decide +kernel
theorem dX7_fits_135 : decode prog_9_method_6_code 135 = .ok (.invokestatic 105, 3) := by decide +kernel
theorem dX7_fits_138 : decode prog_9_method_6_code 138 = .ok (.ireturn, 1) := by decide +kernel
theorem dX7_add_0 : decode prog_9_method_7_code 0 = .ok (.iload_n 1, 1) := by decide +kernel
theorem dX7_add_1 : decode prog_9_method_7_code 1 = .ok (.iconst 0, 1) := by decide +kernel
theorem dX7_add_2 : decode prog_9_method_7_code 2 = .ok (.bipush 7, 2) := by decide +kernel
theorem dX7_add_4 : decode prog_9_method_7_code 4 = .ok (.invokestatic 105, 3) := by decide +kernel
theorem dX7_add_7 : decode prog_9_method_7_code 7 = .ok (.ifCond .eq 11, 3) := by decide +kernel
theorem dX7_add_10 : decode prog_9_method_7_code 10 = .ok (.iload_n 2, 1) := by decide +kernel
theorem dX7_add_11 : decode prog_9_method_7_code 11 = .ok (.iload_n 3, 1) := by decide +kernel
theorem dX7_add_12 : decode prog_9_method_7_code 12 = .ok (.invokestatic 113, 3) := by decide +kernel
theorem dX7_add_15 : decode prog_9_method_7_code 15 = .ok (.ifCond .ne 9, 3) := by decide +kernel
theorem dX7_add_18 : decode prog_9_method_7_code 18 = .ok (.aload_n 0, 1) := by decide +kernel
theorem dX7_add_19 : decode prog_9_method_7_code 19 = .ok (.iconst 1, 1) := by decide +kernel
theorem dX7_add_20 : decode prog_9_method_7_code 20 = .ok (.invokevirtual 109, 3) := by decide +kernel
theorem dX7_add_23 : decode prog_9_method_7_code 23 = .ok (.ireturn, 1) := by decide +kernel
theorem dX7_add_24 : decode prog_9_method_7_code 24 = .ok (.aload_n 0, 1) := by decide +kernel
theorem dX7_add_25 : decode prog_9_method_7_code 25 = .ok (.getfield 7, 3) := by decide +kernel
theorem dX7_add_28 : decode prog_9_method_7_code 28 = .ok (.iload_n 1, 1) := by decide +kernel
theorem dX7_add_29 : decode prog_9_method_7_code 29 = .ok (.iaload, 1) := by decide +kernel
theorem dX7_add_30 : decode prog_9_method_7_code 30 = .ok (.bipush 16, 2) := by decide +kernel
theorem dX7_add_32 : decode prog_9_method_7_code 32 = .ok (.if_icmp .ne 9, 3) := by decide +kernel
theorem dX7_add_35 : decode prog_9_method_7_code 35 = .ok (.aload_n 0, 1) := by decide +kernel
theorem dX7_add_36 : decode prog_9_method_7_code 36 = .ok (.iconst 2, 1) := by decide +kernel
theorem dX7_add_37 : decode prog_9_method_7_code 37 = .ok (.invokevirtual 109, 3) := by decide +kernel
theorem dX7_add_40 : decode prog_9_method_7_code 40 = .ok (.ireturn, 1) := by decide +kernel
theorem dX7_add_41 : decode prog_9_method_7_code 41 = .ok (.aload_n 0, 1) := by decide +kernel
theorem dX7_add_42 : decode prog_9_method_7_code 42 = .ok (.iconst 0, 1) := by decide +kernel
theorem dX7_add_43 : decode prog_9_method_7_code 43 = .ok (.putfield 101, 3) := by decide +kernel
theorem dX7_add_46 : decode prog_9_method_7_code 46 = .ok (.aload_n 0, 1) := by decide +kernel
theorem dX7_add_47 : decode prog_9_method_7_code 47 = .ok (.getfield 13, 3) := by decide +kernel
theorem dX7_add_50 : decode prog_9_method_7_code 50 = .ok (.bipush 16, 2) := by decide +kernel
theorem dX7_add_52 : decode prog_9_method_7_code 52 = .ok (.iload_n 1, 1) := by decide +kernel
theorem dX7_add_53 : decode prog_9_method_7_code 53 = .ok (.imul, 1) := by decide +kernel
theorem dX7_add_54 : decode prog_9_method_7_code 54 = .ok (.aload_n 0, 1) := by decide +kernel
theorem dX7_add_55 : decode prog_9_method_7_code 55 = .ok (.getfield 7, 3) := by decide +kernel
theorem dX7_add_58 : decode prog_9_method_7_code 58 = .ok (.iload_n 1, 1) := by decide +kernel
theorem dX7_add_59 : decode prog_9_method_7_code 59 = .ok (.iaload, 1) := by decide +kernel
theorem dX7_add_60 : decode prog_9_method_7_code 60 = .ok (.iadd, 1) := by decide +kernel
theorem dX7_add_61 : decode prog_9_method_7_code 61 = .ok (.iload_n 2, 1) := by decide +kernel
theorem dX7_add_62 : decode prog_9_method_7_code 62 = .ok (.iastore, 1) := by decide +kernel
theorem dX7_add_63 : decode prog_9_method_7_code 63 = .ok (.aload_n 0, 1) := by decide +kernel
theorem dX7_add_64 : decode prog_9_method_7_code 64 = .ok (.getfield 16, 3) := by decide +kernel
theorem dX7_add_67 : decode prog_9_method_7_code 67 = .ok (.bipush 16, 2) := by decide +kernel
theorem dX7_add_69 : decode prog_9_method_7_code 69 = .ok (.iload_n 1, 1) := by decide +kernel
theorem dX7_add_70 : decode prog_9_method_7_code 70 = .ok (.imul, 1) := by decide +kernel
theorem dX7_add_71 : decode prog_9_method_7_code 71 = .ok (.aload_n 0, 1) := by decide +kernel
theorem dX7_add_72 : decode prog_9_method_7_code 72 = .ok (.getfield 7, 3) := by decide +kernel
theorem dX7_add_75 : decode prog_9_method_7_code 75 = .ok (.iload_n 1, 1) := by decide +kernel
theorem dX7_add_76 : decode prog_9_method_7_code 76 = .ok (.iaload, 1) := by decide +kernel
theorem dX7_add_77 : decode prog_9_method_7_code 77 = .ok (.iadd, 1) := by decide +kernel
theorem dX7_add_78 : decode prog_9_method_7_code 78 = .ok (.iload_n 3, 1) := by decide +kernel
theorem dX7_add_79 : decode prog_9_method_7_code 79 = .ok (.iastore, 1) := by decide +kernel
theorem dX7_add_80 : decode prog_9_method_7_code 80 = .ok (.aload_n 0, 1) := by decide +kernel
theorem dX7_add_81 : decode prog_9_method_7_code 81 = .ok (.getfield 7, 3) := by decide +kernel
theorem dX7_add_84 : decode prog_9_method_7_code 84 = .ok (.iload_n 1, 1) := by decide +kernel
theorem dX7_add_85 : decode prog_9_method_7_code 85 = .ok (.dup2, 1) := by decide +kernel
theorem dX7_add_86 : decode prog_9_method_7_code 86 = .ok (.iaload, 1) := by decide +kernel
theorem dX7_add_87 : decode prog_9_method_7_code 87 = .ok (.iconst 1, 1) := by decide +kernel
theorem dX7_add_88 : decode prog_9_method_7_code 88 = .ok (.iadd, 1) := by decide +kernel
theorem dX7_add_89 : decode prog_9_method_7_code 89 = .ok (.iastore, 1) := by decide +kernel
theorem dX7_add_90 : decode prog_9_method_7_code 90 = .ok (.aload_n 0, 1) := by decide +kernel
theorem dX7_add_91 : decode prog_9_method_7_code 91 = .ok (.getfield 7, 3) := by decide +kernel
theorem dX7_add_94 : decode prog_9_method_7_code 94 = .ok (.iload_n 1, 1) := by decide +kernel
theorem dX7_add_95 : decode prog_9_method_7_code 95 = .ok (.iaload, 1) := by decide +kernel
theorem dX7_add_96 : decode prog_9_method_7_code 96 = .ok (.ireturn, 1) := by decide +kernel
theorem dX7_openScope_0 : decode prog_9_method_8_code 0 = .ok (.aload_n 0, 1) := by decide +kernel
theorem dX7_openScope_1 : decode prog_9_method_8_code 1 = .ok (.getfield 71, 3) := by decide +kernel
theorem dX7_openScope_4 : decode prog_9_method_8_code 4 = .ok (.iload_n 1, 1) := by decide +kernel
theorem dX7_openScope_5 : decode prog_9_method_8_code 5 = .ok (.iconst 0, 1) := by decide +kernel
theorem dX7_openScope_6 : decode prog_9_method_8_code 6 = .ok (.iastore, 1) := by decide +kernel
theorem dX7_openScope_7 : decode prog_9_method_8_code 7 = .ok (.aload_n 0, 1) := by decide +kernel
theorem dX7_openScope_8 : decode prog_9_method_8_code 8 = .ok (.getfield 77, 3) := by decide +kernel
theorem dX7_openScope_11 : decode prog_9_method_8_code 11 = .ok (.iload_n 1, 1) := by decide +kernel
theorem dX7_openScope_12 : decode prog_9_method_8_code 12 = .ok (.iload_n 2, 1) := by decide +kernel
theorem dX7_openScope_13 : decode prog_9_method_8_code 13 = .ok (.iastore, 1) := by decide +kernel
theorem dX7_openScope_14 : decode prog_9_method_8_code 14 = .ok (.aload_n 0, 1) := by decide +kernel
theorem dX7_openScope_15 : decode prog_9_method_8_code 15 = .ok (.getfield 80, 3) := by decide +kernel
theorem dX7_openScope_18 : decode prog_9_method_8_code 18 = .ok (.iload_n 1, 1) := by decide +kernel
theorem dX7_openScope_19 : decode prog_9_method_8_code 19 = .ok (.iload_n 3, 1) := by decide +kernel
theorem dX7_openScope_20 : decode prog_9_method_8_code 20 = .ok (.iastore, 1) := by decide +kernel
theorem dX7_openScope_21 : decode prog_9_method_8_code 21 = .ok (.aload_n 0, 1) := by decide +kernel
theorem dX7_openScope_22 : decode prog_9_method_8_code 22 = .ok (.getfield 83, 3) := by decide +kernel
theorem dX7_openScope_25 : decode prog_9_method_8_code 25 = .ok (.iload_n 1, 1) := by decide +kernel
theorem dX7_openScope_26 : decode prog_9_method_8_code 26 = .ok (.iconst 0, 1) := by decide +kernel
theorem dX7_openScope_27 : decode prog_9_method_8_code 27 = .ok (.iastore, 1) := by decide +kernel
theorem dX7_openScope_28 : decode prog_9_method_8_code 28 = .ok (.aload_n 0, 1) := by decide +kernel
theorem dX7_openScope_29 : decode prog_9_method_8_code 29 = .ok (.getfield 86, 3) := by decide +kernel
theorem dX7_openScope_32 : decode prog_9_method_8_code 32 = .ok (.iload_n 1, 1) := by decide +kernel
theorem dX7_openScope_33 : decode prog_9_method_8_code 33 = .ok (.iconst 0, 1) := by decide +kernel
theorem dX7_openScope_34 : decode prog_9_method_8_code 34 = .ok (.iastore, 1) := by decide +kernel
theorem dX7_openScope_35 : decode prog_9_method_8_code 35 = .ok (.aload_n 0, 1) := by decide +kernel
theorem dX7_openScope_36 : decode prog_9_method_8_code 36 = .ok (.getfield 74, 3) := by decide +kernel
theorem dX7_openScope_39 : decode prog_9_method_8_code 39 = .ok (.iload_n 1, 1) := by decide +kernel
theorem dX7_openScope_40 : decode prog_9_method_8_code 40 = .ok (.iload_n 2, 1) := by decide +kernel
theorem dX7_openScope_41 : decode prog_9_method_8_code 41 = .ok (.iconst 1, 1) := by decide +kernel
theorem dX7_openScope_42 : decode prog_9_method_8_code 42 = .ok (.if_icmp .ne 8, 3) := by decide +kernel
theorem dX7_openScope_45 : decode prog_9_method_8_code 45 = .ok (.ldc 117, 2) := by decide +kernel
theorem dX7_openScope_47 : decode prog_9_method_8_code 47 = .ok (.goto 23, 3) := by decide +kernel
theorem dX7_openScope_50 : decode prog_9_method_8_code 50 = .ok (.iload_n 2, 1) := by decide +kernel
theorem dX7_openScope_51 : decode prog_9_method_8_code 51 = .ok (.iconst 2, 1) := by decide +kernel
theorem dX7_openScope_52 : decode prog_9_method_8_code 52 = .ok (.if_icmp .ne 8, 3) := by decide +kernel
theorem dX7_openScope_55 : decode prog_9_method_8_code 55 = .ok (.ldc 118, 2) := by decide +kernel
theorem dX7_openScope_57 : decode prog_9_method_8_code 57 = .ok (.goto 13, 3) := by decide +kernel
theorem dX7_openScope_60 : decode prog_9_method_8_code 60 = .ok (.iload_n 2, 1) := by decide +kernel
theorem dX7_openScope_61 : decode prog_9_method_8_code 61 = .ok (.iconst 3, 1) := by decide +kernel
theorem dX7_openScope_62 : decode prog_9_method_8_code 62 = .ok (.if_icmp .ne 7, 3) := by decide +kernel
theorem dX7_openScope_65 : decode prog_9_method_8_code 65 = .ok (.iconst 1, 1) := by decide +kernel
theorem dX7_openScope_66 : decode prog_9_method_8_code 66 = .ok (.goto 4, 3) := by decide +kernel
theorem dX7_openScope_69 : decode prog_9_method_8_code 69 = .ok (.iconst 0, 1) := by decide +kernel
theorem dX7_openScope_70 : decode prog_9_method_8_code 70 = .ok (.iastore, 1) := by decide +kernel
theorem dX7_openScope_71 : decode prog_9_method_8_code 71 = .ok (.return_, 1) := by decide +kernel
theorem dX7_note_0 : decode prog_9_method_9_code 0 = .ok (.aload_n 0, 1) := by decide +kernel
theorem dX7_note_1 : decode prog_9_method_9_code 1 = .ok (.getfield 83, 3) := by decide +kernel
theorem dX7_note_4 : decode prog_9_method_9_code 4 = .ok (.iload_n 1, 1) := by decide +kernel
theorem dX7_note_5 : decode prog_9_method_9_code 5 = .ok (.iaload, 1) := by decide +kernel
theorem dX7_note_6 : decode prog_9_method_9_code 6 = .ok (.ifCond .eq 13, 3) := by decide +kernel
theorem dX7_note_9 : decode prog_9_method_9_code 9 = .ok (.iload_n 2, 1) := by decide +kernel
theorem dX7_note_10 : decode prog_9_method_9_code 10 = .ok (.aload_n 0, 1) := by decide +kernel
theorem dX7_note_11 : decode prog_9_method_9_code 11 = .ok (.getfield 86, 3) := by decide +kernel
theorem dX7_note_14 : decode prog_9_method_9_code 14 = .ok (.iload_n 1, 1) := by decide +kernel
theorem dX7_note_15 : decode prog_9_method_9_code 15 = .ok (.iaload, 1) := by decide +kernel
theorem dX7_note_16 : decode prog_9_method_9_code 16 = .ok (.if_icmp .ge 10, 3) := by decide +kernel
theorem dX7_note_19 : decode prog_9_method_9_code 19 = .ok (.aload_n 0, 1) := by decide +kernel
theorem dX7_note_20 : decode prog_9_method_9_code 20 = .ok (.getfield 86, 3) := by decide +kernel
theorem dX7_note_23 : decode prog_9_method_9_code 23 = .ok (.iload_n 1, 1) := by decide +kernel
theorem dX7_note_24 : decode prog_9_method_9_code 24 = .ok (.iload_n 2, 1) := by decide +kernel
theorem dX7_note_25 : decode prog_9_method_9_code 25 = .ok (.iastore, 1) := by decide +kernel
theorem dX7_note_26 : decode prog_9_method_9_code 26 = .ok (.aload_n 0, 1) := by decide +kernel
theorem dX7_note_27 : decode prog_9_method_9_code 27 = .ok (.getfield 83, 3) := by decide +kernel
theorem dX7_note_30 : decode prog_9_method_9_code 30 = .ok (.iload_n 1, 1) := by decide +kernel
theorem dX7_note_31 : decode prog_9_method_9_code 31 = .ok (.dup2, 1) := by decide +kernel
theorem dX7_note_32 : decode prog_9_method_9_code 32 = .ok (.iaload, 1) := by decide +kernel
theorem dX7_note_33 : decode prog_9_method_9_code 33 = .ok (.iconst 1, 1) := by decide +kernel
theorem dX7_note_34 : decode prog_9_method_9_code 34 = .ok (.iadd, 1) := by decide +kernel
theorem dX7_note_35 : decode prog_9_method_9_code 35 = .ok (.iastore, 1) := by decide +kernel
theorem dX7_note_36 : decode prog_9_method_9_code 36 = .ok (.return_, 1) := by decide +kernel
theorem dX7_inner_0 : decode prog_9_method_10_code 0 = .ok (.aload_n 0, 1) := by decide +kernel
theorem dX7_inner_1 : decode prog_9_method_10_code 1 = .ok (.getfield 34, 3) := by decide +kernel
theorem dX7_inner_4 : decode prog_9_method_10_code 4 = .ok (.iload_n 1, 1) := by decide +kernel
theorem dX7_inner_5 : decode prog_9_method_10_code 5 = .ok (.iaload, 1) := by decide +kernel
theorem dX7_inner_6 : decode prog_9_method_10_code 6 = .ok (.ifCond .le 18, 3) := by decide +kernel
theorem dX7_inner_9 : decode prog_9_method_10_code 9 = .ok (.iconst 3, 1) := by decide +kernel
theorem dX7_inner_10 : decode prog_9_method_10_code 10 = .ok (.iload_n 1, 1) := by decide +kernel
theorem dX7_inner_11 : decode prog_9_method_10_code 11 = .ok (.imul, 1) := by decide +kernel
theorem dX7_inner_12 : decode prog_9_method_10_code 12 = .ok (.aload_n 0, 1) := by decide +kernel
theorem dX7_inner_13 : decode prog_9_method_10_code 13 = .ok (.getfield 34, 3) := by decide +kernel
theorem dX7_inner_16 : decode prog_9_method_10_code 16 = .ok (.iload_n 1, 1) := by decide +kernel
theorem dX7_inner_17 : decode prog_9_method_10_code 17 = .ok (.iaload, 1) := by decide +kernel
theorem dX7_inner_18 : decode prog_9_method_10_code 18 = .ok (.iadd, 1) := by decide +kernel
theorem dX7_inner_19 : decode prog_9_method_10_code 19 = .ok (.iconst 1, 1) := by decide +kernel
theorem dX7_inner_20 : decode prog_9_method_10_code 20 = .ok (.isub, 1) := by decide +kernel
theorem dX7_inner_21 : decode prog_9_method_10_code 21 = .ok (.goto 9, 3) := by decide +kernel
theorem dX7_inner_24 : decode prog_9_method_10_code 24 = .ok (.aload_n 0, 1) := by decide +kernel
theorem dX7_inner_25 : decode prog_9_method_10_code 25 = .ok (.getfield 31, 3) := by decide +kernel
theorem dX7_inner_28 : decode prog_9_method_10_code 28 = .ok (.iload_n 1, 1) := by decide +kernel
theorem dX7_inner_29 : decode prog_9_method_10_code 29 = .ok (.iaload, 1) := by decide +kernel
theorem dX7_inner_30 : decode prog_9_method_10_code 30 = .ok (.ireturn, 1) := by decide +kernel
theorem dX7_newTask_0 : decode prog_9_method_11_code 0 = .ok (.aload_n 0, 1) := by decide +kernel
theorem dX7_newTask_1 : decode prog_9_method_11_code 1 = .ok (.getfield 119, 3) := by decide +kernel
theorem dX7_newTask_4 : decode prog_9_method_11_code 4 = .ok (.istore 4, 2) := by decide +kernel
theorem dX7_newTask_6 : decode prog_9_method_11_code 6 = .ok (.aload_n 0, 1) := by decide +kernel
theorem dX7_newTask_7 : decode prog_9_method_11_code 7 = .ok (.dup, 1) := by decide +kernel
theorem dX7_newTask_8 : decode prog_9_method_11_code 8 = .ok (.getfield 119, 3) := by decide +kernel
theorem dX7_newTask_11 : decode prog_9_method_11_code 11 = .ok (.iconst 1, 1) := by decide +kernel
theorem dX7_newTask_12 : decode prog_9_method_11_code 12 = .ok (.iadd, 1) := by decide +kernel
theorem dX7_newTask_13 : decode prog_9_method_11_code 13 = .ok (.putfield 119, 3) := by decide +kernel
theorem dX7_newTask_16 : decode prog_9_method_11_code 16 = .ok (.aload_n 0, 1) := by decide +kernel
theorem dX7_newTask_17 : decode prog_9_method_11_code 17 = .ok (.getfield 28, 3) := by decide +kernel
theorem dX7_newTask_20 : decode prog_9_method_11_code 20 = .ok (.iload 4, 2) := by decide +kernel
theorem dX7_newTask_22 : decode prog_9_method_11_code 22 = .ok (.iload_n 1, 1) := by decide +kernel
theorem dX7_newTask_23 : decode prog_9_method_11_code 23 = .ok (.iastore, 1) := by decide +kernel
theorem dX7_newTask_24 : decode prog_9_method_11_code 24 = .ok (.aload_n 0, 1) := by decide +kernel
theorem dX7_newTask_25 : decode prog_9_method_11_code 25 = .ok (.getfield 22, 3) := by decide +kernel
theorem dX7_newTask_28 : decode prog_9_method_11_code 28 = .ok (.iload 4, 2) := by decide +kernel
theorem dX7_newTask_30 : decode prog_9_method_11_code 30 = .ok (.iload_n 2, 1) := by decide +kernel
theorem dX7_newTask_31 : decode prog_9_method_11_code 31 = .ok (.iastore, 1) := by decide +kernel
theorem dX7_newTask_32 : decode prog_9_method_11_code 32 = .ok (.aload_n 0, 1) := by decide +kernel
theorem dX7_newTask_33 : decode prog_9_method_11_code 33 = .ok (.getfield 25, 3) := by decide +kernel
theorem dX7_newTask_36 : decode prog_9_method_11_code 36 = .ok (.iload 4, 2) := by decide +kernel
theorem dX7_newTask_38 : decode prog_9_method_11_code 38 = .ok (.iconst 0, 1) := by decide +kernel
theorem dX7_newTask_39 : decode prog_9_method_11_code 39 = .ok (.iastore, 1) := by decide +kernel
theorem dX7_newTask_40 : decode prog_9_method_11_code 40 = .ok (.aload_n 0, 1) := by decide +kernel
theorem dX7_newTask_41 : decode prog_9_method_11_code 41 = .ok (.getfield 34, 3) := by decide +kernel
theorem dX7_newTask_44 : decode prog_9_method_11_code 44 = .ok (.iload 4, 2) := by decide +kernel
theorem dX7_newTask_46 : decode prog_9_method_11_code 46 = .ok (.iconst 0, 1) := by decide +kernel
theorem dX7_newTask_47 : decode prog_9_method_11_code 47 = .ok (.iastore, 1) := by decide +kernel
theorem dX7_newTask_48 : decode prog_9_method_11_code 48 = .ok (.aload_n 0, 1) := by decide +kernel
theorem dX7_newTask_49 : decode prog_9_method_11_code 49 = .ok (.getfield 31, 3) := by decide +kernel
theorem dX7_newTask_52 : decode prog_9_method_11_code 52 = .ok (.iload 4, 2) := by decide +kernel
theorem dX7_newTask_54 : decode prog_9_method_11_code 54 = .ok (.iload_n 3, 1) := by decide +kernel
theorem dX7_newTask_55 : decode prog_9_method_11_code 55 = .ok (.iastore, 1) := by decide +kernel
theorem dX7_newTask_56 : decode prog_9_method_11_code 56 = .ok (.aload_n 0, 1) := by decide +kernel
theorem dX7_newTask_57 : decode prog_9_method_11_code 57 = .ok (.getfield 19, 3) := by decide +kernel
theorem dX7_newTask_60 : decode prog_9_method_11_code 60 = .ok (.iload 4, 2) := by decide +kernel
theorem dX7_newTask_62 : decode prog_9_method_11_code 62 = .ok (.iconst 0, 1) := by decide +kernel
theorem dX7_newTask_63 : decode prog_9_method_11_code 63 = .ok (.iastore, 1) := by decide +kernel
theorem dX7_newTask_64 : decode prog_9_method_11_code 64 = .ok (.aload_n 0, 1) := by decide +kernel
theorem dX7_newTask_65 : decode prog_9_method_11_code 65 = .ok (.getfield 37, 3) := by decide +kernel
theorem dX7_newTask_68 : decode prog_9_method_11_code 68 = .ok (.iload 4, 2) := by decide +kernel
theorem dX7_newTask_70 : decode prog_9_method_11_code 70 = .ok (.iconst 0, 1) := by decide +kernel
theorem dX7_newTask_71 : decode prog_9_method_11_code 71 = .ok (.iastore, 1) := by decide +kernel
theorem dX7_newTask_72 : decode prog_9_method_11_code 72 = .ok (.aload_n 0, 1) := by decide +kernel
theorem dX7_newTask_73 : decode prog_9_method_11_code 73 = .ok (.getfield 46, 3) := by decide +kernel
theorem dX7_newTask_76 : decode prog_9_method_11_code 76 = .ok (.iload 4, 2) := by decide +kernel
theorem dX7_newTask_78 : decode prog_9_method_11_code 78 = .ok (.iconst 0, 1) := by decide +kernel
theorem dX7_newTask_79 : decode prog_9_method_11_code 79 = .ok (.bastore, 1) := by decide +kernel
theorem dX7_newTask_80 : decode prog_9_method_11_code 80 = .ok (.aload_n 0, 1) := by decide +kernel
theorem dX7_newTask_81 : decode prog_9_method_11_code 81 = .ok (.getfield 53, 3) := by decide +kernel
theorem dX7_newTask_84 : decode prog_9_method_11_code 84 = .ok (.iload 4, 2) := by decide +kernel
theorem dX7_newTask_86 : decode prog_9_method_11_code 86 = .ok (.iconst 0, 1) := by decide +kernel
theorem dX7_newTask_87 : decode prog_9_method_11_code 87 = .ok (.bastore, 1) := by decide +kernel
theorem dX7_newTask_88 : decode prog_9_method_11_code 88 = .ok (.iconst 0, 1) := by decide +kernel
theorem dX7_newTask_89 : decode prog_9_method_11_code 89 = .ok (.istore 5, 2) := by decide +kernel
theorem dX7_newTask_91 : decode prog_9_method_11_code 91 = .ok (.iload 5, 2) := by decide +kernel
theorem dX7_newTask_93 : decode prog_9_method_11_code 93 = .ok (.iconst 2, 1) := by decide +kernel
theorem dX7_newTask_94 : decode prog_9_method_11_code 94 = .ok (.if_icmp .ge 22, 3) := by decide +kernel
theorem dX7_newTask_97 : decode prog_9_method_11_code 97 = .ok (.aload_n 0, 1) := by decide +kernel
theorem dX7_newTask_98 : decode prog_9_method_11_code 98 = .ok (.getfield 59, 3) := by decide +kernel
theorem dX7_newTask_101 : decode prog_9_method_11_code 101 = .ok (.iconst 2, 1) := by decide +kernel
theorem dX7_newTask_102 : decode prog_9_method_11_code 102 = .ok (.iload 4, 2) := by decide +kernel
theorem dX7_newTask_104 : decode prog_9_method_11_code 104 = .ok (.imul, 1) := by decide +kernel
theorem dX7_newTask_105 : decode prog_9_method_11_code 105 = .ok (.iload 5, 2) := by decide +kernel
theorem dX7_newTask_107 : decode prog_9_method_11_code 107 = .ok (.iadd, 1) := by decide +kernel
theorem dX7_newTask_108 : decode prog_9_method_11_code 108 = .ok (.iconst 0, 1) := by decide +kernel
theorem dX7_newTask_109 : decode prog_9_method_11_code 109 = .ok (.iastore, 1) := by decide +kernel
theorem dX7_newTask_110 : decode prog_9_method_11_code 110 = .ok (.iinc 5 1, 3) := by decide +kernel
theorem dX7_newTask_113 : decode prog_9_method_11_code 113 = .ok (.goto (-22), 3) := by decide +kernel
theorem dX7_newTask_116 : decode prog_9_method_11_code 116 = .ok (.aload_n 0, 1) := by decide +kernel
theorem dX7_newTask_117 : decode prog_9_method_11_code 117 = .ok (.getfield 71, 3) := by decide +kernel
theorem dX7_newTask_120 : decode prog_9_method_11_code 120 = .ok (.iload_n 3, 1) := by decide +kernel
theorem dX7_newTask_121 : decode prog_9_method_11_code 121 = .ok (.dup2, 1) := by decide +kernel
theorem dX7_newTask_122 : decode prog_9_method_11_code 122 = .ok (.iaload, 1) := by decide +kernel
theorem dX7_newTask_123 : decode prog_9_method_11_code 123 = .ok (.iconst 1, 1) := by decide +kernel
theorem dX7_newTask_124 : decode prog_9_method_11_code 124 = .ok (.iadd, 1) := by decide +kernel
theorem dX7_newTask_125 : decode prog_9_method_11_code 125 = .ok (.iastore, 1) := by decide +kernel
theorem dX7_newTask_126 : decode prog_9_method_11_code 126 = .ok (.iload 4, 2) := by decide +kernel
theorem dX7_newTask_128 : decode prog_9_method_11_code 128 = .ok (.ireturn, 1) := by decide +kernel
theorem dX7_begin_0 : decode prog_9_method_12_code 0 = .ok (.aload_n 0, 1) := by decide +kernel
theorem dX7_begin_1 : decode prog_9_method_12_code 1 = .ok (.iload_n 1, 1) := by decide +kernel
theorem dX7_begin_2 : decode prog_9_method_12_code 2 = .ok (.iconst 0, 1) := by decide +kernel
theorem dX7_begin_3 : decode prog_9_method_12_code 3 = .ok (.bipush 7, 2) := by decide +kernel
theorem dX7_begin_5 : decode prog_9_method_12_code 5 = .ok (.invokestatic 105, 3) := by decide +kernel
theorem dX7_begin_8 : decode prog_9_method_12_code 8 = .ok (.ifCond .eq 26, 3) := by decide +kernel
theorem dX7_begin_11 : decode prog_9_method_12_code 11 = .ok (.iload_n 3, 1) := by decide +kernel
theorem dX7_begin_12 : decode prog_9_method_12_code 12 = .ok (.iconst 1, 1) := by decide +kernel
theorem dX7_begin_13 : decode prog_9_method_12_code 13 = .ok (.iconst 3, 1) := by decide +kernel
theorem dX7_begin_14 : decode prog_9_method_12_code 14 = .ok (.invokestatic 105, 3) := by decide +kernel
theorem dX7_begin_17 : decode prog_9_method_12_code 17 = .ok (.ifCond .eq 17, 3) := by decide +kernel
theorem dX7_begin_20 : decode prog_9_method_12_code 20 = .ok (.iload 4, 2) := by decide +kernel
theorem dX7_begin_22 : decode prog_9_method_12_code 22 = .ok (.iconst 0, 1) := by decide +kernel
theorem dX7_begin_23 : decode prog_9_method_12_code 23 = .ok (.iconst 1, 1) := by decide +kernel
theorem dX7_begin_24 : decode prog_9_method_12_code 24 = .ok (.invokestatic 105, 3) := by decide +kernel
theorem dX7_begin_27 : decode prog_9_method_12_code 27 = .ok (.ifCond .eq 7, 3) := by decide +kernel
theorem dX7_begin_30 : decode prog_9_method_12_code 30 = .ok (.iconst 0, 1) := by decide +kernel
theorem dX7_begin_31 : decode prog_9_method_12_code 31 = .ok (.goto 4, 3) := by decide +kernel
theorem dX7_begin_34 : decode prog_9_method_12_code 34 = .ok (.iconst 1, 1) := by decide +kernel
theorem dX7_begin_35 : decode prog_9_method_12_code 35 = .ok (.putfield 101, 3) := by decide +kernel
theorem dX7_begin_38 : decode prog_9_method_12_code 38 = .ok (.aload_n 0, 1) := by decide +kernel
theorem dX7_begin_39 : decode prog_9_method_12_code 39 = .ok (.getfield 101, 3) := by decide +kernel
theorem dX7_begin_42 : decode prog_9_method_12_code 42 = .ok (.ifCond .le 4, 3) := by decide +kernel
theorem dX7_begin_45 : decode prog_9_method_12_code 45 = .ok (.return_, 1) := by decide +kernel
theorem dX7_begin_46 : decode prog_9_method_12_code 46 = .ok (.aload_n 0, 1) := by decide +kernel
theorem dX7_begin_47 : decode prog_9_method_12_code 47 = .ok (.iconst 1, 1) := by decide +kernel
theorem dX7_begin_48 : decode prog_9_method_12_code 48 = .ok (.putfield 122, 3) := by decide +kernel
theorem dX7_begin_51 : decode prog_9_method_12_code 51 = .ok (.aload_n 0, 1) := by decide +kernel
theorem dX7_begin_52 : decode prog_9_method_12_code 52 = .ok (.iconst 0, 1) := by decide +kernel
theorem dX7_begin_53 : decode prog_9_method_12_code 53 = .ok (.putfield 119, 3) := by decide +kernel
theorem dX7_begin_56 : decode prog_9_method_12_code 56 = .ok (.aload_n 0, 1) := by decide +kernel
theorem dX7_begin_57 : decode prog_9_method_12_code 57 = .ok (.iconst 0, 1) := by decide +kernel
theorem dX7_begin_58 : decode prog_9_method_12_code 58 = .ok (.putfield 126, 3) := by decide +kernel
theorem dX7_begin_61 : decode prog_9_method_12_code 61 = .ok (.aload_n 0, 1) := by decide +kernel
theorem dX7_begin_62 : decode prog_9_method_12_code 62 = .ok (.iconst 0, 1) := by decide +kernel
theorem dX7_begin_63 : decode prog_9_method_12_code 63 = .ok (.putfield 129, 3) := by decide +kernel
theorem dX7_begin_66 : decode prog_9_method_12_code 66 = .ok (.aload_n 0, 1) := by decide +kernel
theorem dX7_begin_67 : decode prog_9_method_12_code 67 = .ok (.iconst 0, 1) := by decide +kernel
theorem dX7_begin_68 : decode prog_9_method_12_code 68 = .ok (.putfield 132, 3) := by decide +kernel
theorem dX7_begin_71 : decode prog_9_method_12_code 71 = .ok (.aload_n 0, 1) := by decide +kernel
theorem dX7_begin_72 : decode prog_9_method_12_code 72 = .ok (.iconst 0, 1) := by decide +kernel
theorem dX7_begin_73 : decode prog_9_method_12_code 73 = .ok (.putfield 135, 3) := by decide +kernel
theorem dX7_begin_76 : decode prog_9_method_12_code 76 = .ok (.aload_n 0, 1) := by decide +kernel
theorem dX7_begin_77 : decode prog_9_method_12_code 77 = .ok (.iload_n 3, 1) := by decide +kernel
theorem dX7_begin_78 : decode prog_9_method_12_code 78 = .ok (.putfield 138, 3) := by decide +kernel
theorem dX7_begin_81 : decode prog_9_method_12_code 81 = .ok (.aload_n 0, 1) := by decide +kernel
theorem dX7_begin_82 : decode prog_9_method_12_code 82 = .ok (.iload 4, 2) := by decide +kernel
theorem dX7_begin_84 : decode prog_9_method_12_code 84 = .ok (.putfield 141, 3) := by decide +kernel
theorem dX7_begin_87 : decode prog_9_method_12_code 87 = .ok (.iconst 0, 1) := by decide +kernel
theorem dX7_begin_88 : decode prog_9_method_12_code 88 = .ok (.istore 5, 2) := by decide +kernel
theorem dX7_begin_90 : decode prog_9_method_12_code 90 = .ok (.iload 5, 2) := by decide +kernel
theorem dX7_begin_92 : decode prog_9_method_12_code 92 = .ok (.iconst 4, 1) := by decide +kernel
theorem dX7_begin_93 : decode prog_9_method_12_code 93 = .ok (.if_icmp .ge 17, 3) := by decide +kernel
theorem dX7_begin_96 : decode prog_9_method_12_code 96 = .ok (.aload_n 0, 1) := by decide +kernel
theorem dX7_begin_97 : decode prog_9_method_12_code 97 = .ok (.getfield 56, 3) := by decide +kernel
theorem dX7_begin_100 : decode prog_9_method_12_code 100 = .ok (.iload 5, 2) := by decide +kernel
theorem dX7_begin_102 : decode prog_9_method_12_code 102 = .ok (.iconst 0, 1) := by decide +kernel
theorem dX7_begin_103 : decode prog_9_method_12_code 103 = .ok (.bastore, 1) := by decide +kernel
theorem dX7_begin_104 : decode prog_9_method_12_code 104 = .ok (.iinc 5 1, 3) := by decide +kernel
theorem dX7_begin_107 : decode prog_9_method_12_code 107 = .ok (.goto (-17), 3) := by decide +kernel
theorem dX7_begin_110 : decode prog_9_method_12_code 110 = .ok (.iconst 0, 1) := by decide +kernel
theorem dX7_begin_111 : decode prog_9_method_12_code 111 = .ok (.istore 5, 2) := by decide +kernel
theorem dX7_begin_113 : decode prog_9_method_12_code 113 = .ok (.iload 5, 2) := by decide +kernel
theorem dX7_begin_115 : decode prog_9_method_12_code 115 = .ok (.iconst 3, 1) := by decide +kernel
theorem dX7_begin_116 : decode prog_9_method_12_code 116 = .ok (.if_icmp .ge 25, 3) := by decide +kernel
theorem dX7_begin_119 : decode prog_9_method_12_code 119 = .ok (.aload_n 0, 1) := by decide +kernel
theorem dX7_begin_120 : decode prog_9_method_12_code 120 = .ok (.getfield 89, 3) := by decide +kernel
theorem dX7_begin_123 : decode prog_9_method_12_code 123 = .ok (.iload 5, 2) := by decide +kernel
theorem dX7_begin_125 : decode prog_9_method_12_code 125 = .ok (.iconst (-1), 1) := by decide +kernel
theorem dX7_begin_126 : decode prog_9_method_12_code 126 = .ok (.iastore, 1) := by decide +kernel
theorem dX7_begin_127 : decode prog_9_method_12_code 127 = .ok (.aload_n 0, 1) := by decide +kernel
theorem dX7_begin_128 : decode prog_9_method_12_code 128 = .ok (.getfield 92, 3) := by decide +kernel
theorem dX7_begin_131 : decode prog_9_method_12_code 131 = .ok (.iload 5, 2) := by decide +kernel
theorem dX7_begin_133 : decode prog_9_method_12_code 133 = .ok (.iconst 0, 1) := by decide +kernel
theorem dX7_begin_134 : decode prog_9_method_12_code 134 = .ok (.iastore, 1) := by decide +kernel
theorem dX7_begin_135 : decode prog_9_method_12_code 135 = .ok (.iinc 5 1, 3) := by decide +kernel
theorem dX7_begin_138 : decode prog_9_method_12_code 138 = .ok (.goto (-25), 3) := by decide +kernel
theorem dX7_begin_141 : decode prog_9_method_12_code 141 = .ok (.aload_n 0, 1) := by decide +kernel
theorem dX7_begin_142 : decode prog_9_method_12_code 142 = .ok (.getfield 68, 3) := by decide +kernel
theorem dX7_begin_145 : decode prog_9_method_12_code 145 = .ok (.iconst 0, 1) := by decide +kernel
theorem dX7_begin_146 : decode prog_9_method_12_code 146 = .ok (.iconst 0, 1) := by decide +kernel
theorem dX7_begin_147 : decode prog_9_method_12_code 147 = .ok (.iastore, 1) := by decide +kernel
theorem dX7_begin_148 : decode prog_9_method_12_code 148 = .ok (.aload_n 0, 1) := by decide +kernel
theorem dX7_begin_149 : decode prog_9_method_12_code 149 = .ok (.getfield 68, 3) := by decide +kernel
theorem dX7_begin_152 : decode prog_9_method_12_code 152 = .ok (.iconst 1, 1) := by decide +kernel
theorem dX7_begin_153 : decode prog_9_method_12_code 153 = .ok (.iconst 0, 1) := by decide +kernel
theorem dX7_begin_154 : decode prog_9_method_12_code 154 = .ok (.iastore, 1) := by decide +kernel
theorem dX7_begin_155 : decode prog_9_method_12_code 155 = .ok (.aload_n 0, 1) := by decide +kernel
theorem dX7_begin_156 : decode prog_9_method_12_code 156 = .ok (.sipush 144, 3) := by decide +kernel
theorem dX7_begin_159 : decode prog_9_method_12_code 159 = .ok (.iconst 0, 1) := by decide +kernel
theorem dX7_begin_160 : decode prog_9_method_12_code 160 = .ok (.iconst 0, 1) := by decide +kernel
theorem dX7_begin_161 : decode prog_9_method_12_code 161 = .ok (.invokevirtual 144, 3) := by decide +kernel
theorem dX7_begin_164 : decode prog_9_method_12_code 164 = .ok (.aload_n 0, 1) := by decide +kernel
theorem dX7_begin_165 : decode prog_9_method_12_code 165 = .ok (.iload_n 1, 1) := by decide +kernel
theorem dX7_begin_166 : decode prog_9_method_12_code 166 = .ok (.iload_n 2, 1) := by decide +kernel
theorem dX7_begin_167 : decode prog_9_method_12_code 167 = .ok (.sipush 144, 3) := by decide +kernel
theorem dX7_begin_170 : decode prog_9_method_12_code 170 = .ok (.invokevirtual 148, 3) := by decide +kernel
theorem dX7_begin_173 : decode prog_9_method_12_code 173 = .ok (.istore 5, 2) := by decide +kernel
theorem dX7_begin_175 : decode prog_9_method_12_code 175 = .ok (.aload_n 0, 1) := by decide +kernel
theorem dX7_begin_176 : decode prog_9_method_12_code 176 = .ok (.iconst 0, 1) := by decide +kernel
theorem dX7_begin_177 : decode prog_9_method_12_code 177 = .ok (.iload 5, 2) := by decide +kernel
theorem dX7_begin_179 : decode prog_9_method_12_code 179 = .ok (.invokevirtual 152, 3) := by decide +kernel
theorem dX7_begin_182 : decode prog_9_method_12_code 182 = .ok (.return_, 1) := by decide +kernel
theorem dX7_push_0 : decode prog_9_method_13_code 0 = .ok (.aload_n 0, 1) := by decide +kernel
theorem dX7_push_1 : decode prog_9_method_13_code 1 = .ok (.getfield 19, 3) := by decide +kernel
theorem dX7_push_4 : decode prog_9_method_13_code 4 = .ok (.iload_n 2, 1) := by decide +kernel
theorem dX7_push_5 : decode prog_9_method_13_code 5 = .ok (.iconst 0, 1) := by decide +kernel
theorem dX7_push_6 : decode prog_9_method_13_code 6 = .ok (.iastore, 1) := by decide +kernel
theorem dX7_push_7 : decode prog_9_method_13_code 7 = .ok (.aload_n 0, 1) := by decide +kernel
theorem dX7_push_8 : decode prog_9_method_13_code 8 = .ok (.getfield 95, 3) := by decide +kernel
theorem dX7_push_11 : decode prog_9_method_13_code 11 = .ok (.bipush 48, 2) := by decide +kernel
theorem dX7_push_13 : decode prog_9_method_13_code 13 = .ok (.iload_n 1, 1) := by decide +kernel
theorem dX7_push_14 : decode prog_9_method_13_code 14 = .ok (.imul, 1) := by decide +kernel
theorem dX7_push_15 : decode prog_9_method_13_code 15 = .ok (.aload_n 0, 1) := by decide +kernel
theorem dX7_push_16 : decode prog_9_method_13_code 16 = .ok (.getfield 92, 3) := by decide +kernel
theorem dX7_push_19 : decode prog_9_method_13_code 19 = .ok (.iload_n 1, 1) := by decide +kernel
theorem dX7_push_20 : decode prog_9_method_13_code 20 = .ok (.iaload, 1) := by decide +kernel
theorem dX7_push_21 : decode prog_9_method_13_code 21 = .ok (.iadd, 1) := by decide +kernel
theorem dX7_push_22 : decode prog_9_method_13_code 22 = .ok (.iload_n 2, 1) := by decide +kernel
theorem dX7_push_23 : decode prog_9_method_13_code 23 = .ok (.iastore, 1) := by decide +kernel
theorem dX7_push_24 : decode prog_9_method_13_code 24 = .ok (.aload_n 0, 1) := by decide +kernel
theorem dX7_push_25 : decode prog_9_method_13_code 25 = .ok (.getfield 92, 3) := by decide +kernel
theorem dX7_push_28 : decode prog_9_method_13_code 28 = .ok (.iload_n 1, 1) := by decide +kernel
theorem dX7_push_29 : decode prog_9_method_13_code 29 = .ok (.dup2, 1) := by decide +kernel
theorem dX7_push_30 : decode prog_9_method_13_code 30 = .ok (.iaload, 1) := by decide +kernel
theorem dX7_push_31 : decode prog_9_method_13_code 31 = .ok (.iconst 1, 1) := by decide +kernel
theorem dX7_push_32 : decode prog_9_method_13_code 32 = .ok (.iadd, 1) := by decide +kernel
theorem dX7_push_33 : decode prog_9_method_13_code 33 = .ok (.iastore, 1) := by decide +kernel
theorem dX7_push_34 : decode prog_9_method_13_code 34 = .ok (.return_, 1) := by decide +kernel
theorem dX7_move_0 : decode prog_9_method_14_code 0 = .ok (.iconst 0, 1) := by decide +kernel
theorem dX7_move_1 : decode prog_9_method_14_code 1 = .ok (.istore_n 1, 1) := by decide +kernel
theorem dX7_move_2 : decode prog_9_method_14_code 2 = .ok (.iload_n 1, 1) := by decide +kernel
theorem dX7_move_3 : decode prog_9_method_14_code 3 = .ok (.iconst 2, 1) := by decide +kernel
theorem dX7_move_4 : decode prog_9_method_14_code 4 = .ok (.if_icmp .ge 89, 3) := by decide +kernel
theorem dX7_move_7 : decode prog_9_method_14_code 7 = .ok (.iconst (-1), 1) := by decide +kernel
theorem dX7_move_8 : decode prog_9_method_14_code 8 = .ok (.istore_n 2, 1) := by decide +kernel
theorem dX7_move_9 : decode prog_9_method_14_code 9 = .ok (.iconst 0, 1) := by decide +kernel
theorem dX7_move_10 : decode prog_9_method_14_code 10 = .ok (.istore_n 3, 1) := by decide +kernel
theorem dX7_move_11 : decode prog_9_method_14_code 11 = .ok (.iload_n 3, 1) := by decide +kernel
theorem dX7_move_12 : decode prog_9_method_14_code 12 = .ok (.aload_n 0, 1) := by decide +kernel
theorem dX7_move_13 : decode prog_9_method_14_code 13 = .ok (.getfield 119, 3) := by decide +kernel
theorem dX7_move_16 : decode prog_9_method_14_code 16 = .ok (.if_icmp .ge 54, 3) := by decide +kernel
theorem dX7_move_19 : decode prog_9_method_14_code 19 = .ok (.aload_n 0, 1) := by decide +kernel
theorem dX7_move_20 : decode prog_9_method_14_code 20 = .ok (.getfield 59, 3) := by decide +kernel
theorem dX7_move_23 : decode prog_9_method_14_code 23 = .ok (.iconst 2, 1) := by decide +kernel
theorem dX7_move_24 : decode prog_9_method_14_code 24 = .ok (.iload_n 3, 1) := by decide +kernel
theorem dX7_move_25 : decode prog_9_method_14_code 25 = .ok (.imul, 1) := by decide +kernel
theorem dX7_move_26 : decode prog_9_method_14_code 26 = .ok (.iload_n 1, 1) := by decide +kernel
theorem dX7_move_27 : decode prog_9_method_14_code 27 = .ok (.iadd, 1) := by decide +kernel
theorem dX7_move_28 : decode prog_9_method_14_code 28 = .ok (.iaload, 1) := by decide +kernel
theorem dX7_move_29 : decode prog_9_method_14_code 29 = .ok (.iconst 1, 1) := by decide +kernel
theorem dX7_move_30 : decode prog_9_method_14_code 30 = .ok (.iand, 1) := by decide +kernel
theorem dX7_move_31 : decode prog_9_method_14_code 31 = .ok (.iconst 1, 1) := by decide +kernel
theorem dX7_move_32 : decode prog_9_method_14_code 32 = .ok (.if_icmp .ne 32, 3) := by decide +kernel
theorem dX7_move_35 : decode prog_9_method_14_code 35 = .ok (.iload_n 2, 1) := by decide +kernel
theorem dX7_move_36 : decode prog_9_method_14_code 36 = .ok (.ifCond .lt 17, 3) := by decide +kernel
theorem dX7_move_39 : decode prog_9_method_14_code 39 = .ok (.aload_n 0, 1) := by decide +kernel
theorem dX7_move_40 : decode prog_9_method_14_code 40 = .ok (.getfield 62, 3) := by decide +kernel
theorem dX7_move_43 : decode prog_9_method_14_code 43 = .ok (.iconst 2, 1) := by decide +kernel
theorem dX7_move_44 : decode prog_9_method_14_code 44 = .ok (.iload_n 3, 1) := by decide +kernel
theorem dX7_move_45 : decode prog_9_method_14_code 45 = .ok (.imul, 1) := by decide +kernel
theorem dX7_move_46 : decode prog_9_method_14_code 46 = .ok (.iload_n 1, 1) := by decide +kernel
theorem dX7_move_47 : decode prog_9_method_14_code 47 = .ok (.iadd, 1) := by decide +kernel
theorem dX7_move_48 : decode prog_9_method_14_code 48 = .ok (.iaload, 1) := by decide +kernel
theorem dX7_move_49 : decode prog_9_method_14_code 49 = .ok (.iload_n 2, 1) := by decide +kernel
theorem dX7_move_50 : decode prog_9_method_14_code 50 = .ok (.if_icmp .ge 14, 3) := by decide +kernel
theorem dX7_move_53 : decode prog_9_method_14_code 53 = .ok (.aload_n 0, 1) := by decide +kernel
theorem dX7_move_54 : decode prog_9_method_14_code 54 = .ok (.getfield 62, 3) := by decide +kernel
theorem dX7_move_57 : decode prog_9_method_14_code 57 = .ok (.iconst 2, 1) := by decide +kernel
theorem dX7_move_58 : decode prog_9_method_14_code 58 = .ok (.iload_n 3, 1) := by decide +kernel
theorem dX7_move_59 : decode prog_9_method_14_code 59 = .ok (.imul, 1) := by decide +kernel
theorem dX7_move_60 : decode prog_9_method_14_code 60 = .ok (.iload_n 1, 1) := by decide +kernel
theorem dX7_move_61 : decode prog_9_method_14_code 61 = .ok (.iadd, 1) := by decide +kernel
theorem dX7_move_62 : decode prog_9_method_14_code 62 = .ok (.iaload, 1) := by decide +kernel
theorem dX7_move_63 : decode prog_9_method_14_code 63 = .ok (.istore_n 2, 1) := by decide +kernel
theorem dX7_move_64 : decode prog_9_method_14_code 64 = .ok (.iinc 3 1, 3) := by decide +kernel
theorem dX7_move_67 : decode prog_9_method_14_code 67 = .ok (.goto (-56), 3) := by decide +kernel
theorem dX7_move_70 : decode prog_9_method_14_code 70 = .ok (.iload_n 2, 1) := by decide +kernel
theorem dX7_move_71 : decode prog_9_method_14_code 71 = .ok (.aload_n 0, 1) := by decide +kernel
theorem dX7_move_72 : decode prog_9_method_14_code 72 = .ok (.getfield 68, 3) := by decide +kernel
theorem dX7_move_75 : decode prog_9_method_14_code 75 = .ok (.iload_n 1, 1) := by decide +kernel
theorem dX7_move_76 : decode prog_9_method_14_code 76 = .ok (.iaload, 1) := by decide +kernel
theorem dX7_move_77 : decode prog_9_method_14_code 77 = .ok (.if_icmp .le 10, 3) := by decide +kernel
theorem dX7_move_80 : decode prog_9_method_14_code 80 = .ok (.aload_n 0, 1) := by decide +kernel
theorem dX7_move_81 : decode prog_9_method_14_code 81 = .ok (.getfield 68, 3) := by decide +kernel
theorem dX7_move_84 : decode prog_9_method_14_code 84 = .ok (.iload_n 1, 1) := by decide +kernel
theorem dX7_move_85 : decode prog_9_method_14_code 85 = .ok (.iload_n 2, 1) := by decide +kernel
theorem dX7_move_86 : decode prog_9_method_14_code 86 = .ok (.iastore, 1) := by decide +kernel
theorem dX7_move_87 : decode prog_9_method_14_code 87 = .ok (.iinc 1 1, 3) := by decide +kernel
theorem dX7_move_90 : decode prog_9_method_14_code 90 = .ok (.goto (-88), 3) := by decide +kernel
theorem dX7_move_93 : decode prog_9_method_14_code 93 = .ok (.return_, 1) := by decide +kernel
theorem dX7_isPassed_0 : decode prog_9_method_15_code 0 = .ok (.iconst 0, 1) := by decide +kernel
theorem dX7_isPassed_1 : decode prog_9_method_15_code 1 = .ok (.istore_n 2, 1) := by decide +kernel
theorem dX7_isPassed_2 : decode prog_9_method_15_code 2 = .ok (.iload_n 2, 1) := by decide +kernel
theorem dX7_isPassed_3 : decode prog_9_method_15_code 3 = .ok (.iconst 2, 1) := by decide +kernel
theorem dX7_isPassed_4 : decode prog_9_method_15_code 4 = .ok (.if_icmp .ge 46, 3) := by decide +kernel
theorem dX7_isPassed_7 : decode prog_9_method_15_code 7 = .ok (.aload_n 0, 1) := by decide +kernel
theorem dX7_isPassed_8 : decode prog_9_method_15_code 8 = .ok (.getfield 59, 3) := by decide +kernel
theorem dX7_isPassed_11 : decode prog_9_method_15_code 11 = .ok (.iconst 2, 1) := by decide +kernel
theorem dX7_isPassed_12 : decode prog_9_method_15_code 12 = .ok (.iload_n 1, 1) := by decide +kernel
theorem dX7_isPassed_13 : decode prog_9_method_15_code 13 = .ok (.imul, 1) := by decide +kernel
theorem dX7_isPassed_14 : decode prog_9_method_15_code 14 = .ok (.iload_n 2, 1) := by decide +kernel
theorem dX7_isPassed_15 : decode prog_9_method_15_code 15 = .ok (.iadd, 1) := by decide +kernel
theorem dX7_isPassed_16 : decode prog_9_method_15_code 16 = .ok (.iaload, 1) := by decide +kernel
theorem dX7_isPassed_17 : decode prog_9_method_15_code 17 = .ok (.iconst 2, 1) := by decide +kernel
theorem dX7_isPassed_18 : decode prog_9_method_15_code 18 = .ok (.iand, 1) := by decide +kernel
theorem dX7_isPassed_19 : decode prog_9_method_15_code 19 = .ok (.iconst 2, 1) := by decide +kernel
theorem dX7_isPassed_20 : decode prog_9_method_15_code 20 = .ok (.if_icmp .ne 24, 3) := by decide +kernel
theorem dX7_isPassed_23 : decode prog_9_method_15_code 23 = .ok (.aload_n 0, 1) := by decide +kernel
theorem dX7_isPassed_24 : decode prog_9_method_15_code 24 = .ok (.getfield 68, 3) := by decide +kernel
theorem dX7_isPassed_27 : decode prog_9_method_15_code 27 = .ok (.iload_n 2, 1) := by decide +kernel
theorem dX7_isPassed_28 : decode prog_9_method_15_code 28 = .ok (.iaload, 1) := by decide +kernel
theorem dX7_isPassed_29 : decode prog_9_method_15_code 29 = .ok (.aload_n 0, 1) := by decide +kernel
theorem dX7_isPassed_30 : decode prog_9_method_15_code 30 = .ok (.getfield 65, 3) := by decide +kernel
theorem dX7_isPassed_33 : decode prog_9_method_15_code 33 = .ok (.iconst 2, 1) := by decide +kernel
theorem dX7_isPassed_34 : decode prog_9_method_15_code 34 = .ok (.iload_n 1, 1) := by decide +kernel
theorem dX7_isPassed_35 : decode prog_9_method_15_code 35 = .ok (.imul, 1) := by decide +kernel
theorem dX7_isPassed_36 : decode prog_9_method_15_code 36 = .ok (.iload_n 2, 1) := by decide +kernel
theorem dX7_isPassed_37 : decode prog_9_method_15_code 37 = .ok (.iadd, 1) := by decide +kernel
theorem dX7_isPassed_38 : decode prog_9_method_15_code 38 = .ok (.iaload, 1) := by decide +kernel
theorem dX7_isPassed_39 : decode prog_9_method_15_code 39 = .ok (.if_icmp .gt 5, 3) := by decide +kernel
theorem dX7_isPassed_42 : decode prog_9_method_15_code 42 = .ok (.iconst 0, 1) := by decide +kernel
theorem dX7_isPassed_43 : decode prog_9_method_15_code 43 = .ok (.ireturn, 1) := by decide +kernel
theorem dX7_isPassed_44 : decode prog_9_method_15_code 44 = .ok (.iinc 2 1, 3) := by decide +kernel
theorem dX7_isPassed_47 : decode prog_9_method_15_code 47 = .ok (.goto (-45), 3) := by decide +kernel
theorem dX7_isPassed_50 : decode prog_9_method_15_code 50 = .ok (.iconst 1, 1) := by decide +kernel
theorem dX7_isPassed_51 : decode prog_9_method_15_code 51 = .ok (.ireturn, 1) := by decide +kernel
theorem dX7_next_0 : decode prog_9_method_16_code 0 = .ok (.iconst 0, 1) := by decide +kernel
theorem dX7_next_1 : decode prog_9_method_16_code 1 = .ok (.istore_n 2, 1) := by decide +kernel
theorem dX7_next_2 : decode prog_9_method_16_code 2 = .ok (.iload_n 2, 1) := by decide +kernel
theorem dX7_next_3 : decode prog_9_method_16_code 3 = .ok (.iconst 2, 1) := by decide +kernel
theorem dX7_next_4 : decode prog_9_method_16_code 4 = .ok (.if_icmp .ge 48, 3) := by decide +kernel
theorem dX7_next_7 : decode prog_9_method_16_code 7 = .ok (.aload_n 0, 1) := by decide +kernel
theorem dX7_next_8 : decode prog_9_method_16_code 8 = .ok (.getfield 53, 3) := by decide +kernel
theorem dX7_next_11 : decode prog_9_method_16_code 11 = .ok (.iload_n 1, 1) := by decide +kernel
theorem dX7_next_12 : decode prog_9_method_16_code 12 = .ok (.baload, 1) := by decide +kernel
theorem dX7_next_13 : decode prog_9_method_16_code 13 = .ok (.ifCond .ne 39, 3) := by decide +kernel
theorem dX7_next_16 : decode prog_9_method_16_code 16 = .ok (.aload_n 0, 1) := by decide +kernel
theorem dX7_next_17 : decode prog_9_method_16_code 17 = .ok (.getfield 59, 3) := by decide +kernel
theorem dX7_next_20 : decode prog_9_method_16_code 20 = .ok (.iconst 2, 1) := by decide +kernel
theorem dX7_next_21 : decode prog_9_method_16_code 21 = .ok (.iload_n 1, 1) := by decide +kernel
theorem dX7_next_22 : decode prog_9_method_16_code 22 = .ok (.imul, 1) := by decide +kernel
theorem dX7_next_23 : decode prog_9_method_16_code 23 = .ok (.iload_n 2, 1) := by decide +kernel
theorem dX7_next_24 : decode prog_9_method_16_code 24 = .ok (.iadd, 1) := by decide +kernel
theorem dX7_next_25 : decode prog_9_method_16_code 25 = .ok (.iaload, 1) := by decide +kernel
theorem dX7_next_26 : decode prog_9_method_16_code 26 = .ok (.iconst 1, 1) := by decide +kernel
theorem dX7_next_27 : decode prog_9_method_16_code 27 = .ok (.iand, 1) := by decide +kernel
theorem dX7_next_28 : decode prog_9_method_16_code 28 = .ok (.iconst 1, 1) := by decide +kernel
theorem dX7_next_29 : decode prog_9_method_16_code 29 = .ok (.if_icmp .ne 17, 3) := by decide +kernel
theorem dX7_next_32 : decode prog_9_method_16_code 32 = .ok (.aload_n 0, 1) := by decide +kernel
theorem dX7_next_33 : decode prog_9_method_16_code 33 = .ok (.getfield 62, 3) := by decide +kernel
theorem dX7_next_36 : decode prog_9_method_16_code 36 = .ok (.iconst 2, 1) := by decide +kernel
theorem dX7_next_37 : decode prog_9_method_16_code 37 = .ok (.iload_n 1, 1) := by decide +kernel
theorem dX7_next_38 : decode prog_9_method_16_code 38 = .ok (.imul, 1) := by decide +kernel
theorem dX7_next_39 : decode prog_9_method_16_code 39 = .ok (.iload_n 2, 1) := by decide +kernel
theorem dX7_next_40 : decode prog_9_method_16_code 40 = .ok (.iadd, 1) := by decide +kernel
theorem dX7_next_41 : decode prog_9_method_16_code 41 = .ok (.dup2, 1) := by decide +kernel
theorem dX7_next_42 : decode prog_9_method_16_code 42 = .ok (.iaload, 1) := by decide +kernel
theorem dX7_next_43 : decode prog_9_method_16_code 43 = .ok (.iconst 1, 1) := by decide +kernel
theorem dX7_next_44 : decode prog_9_method_16_code 44 = .ok (.iadd, 1) := by decide +kernel
theorem dX7_next_45 : decode prog_9_method_16_code 45 = .ok (.iastore, 1) := by decide +kernel
theorem dX7_next_46 : decode prog_9_method_16_code 46 = .ok (.iinc 2 1, 3) := by decide +kernel
theorem dX7_next_49 : decode prog_9_method_16_code 49 = .ok (.goto (-47), 3) := by decide +kernel
theorem dX7_next_52 : decode prog_9_method_16_code 52 = .ok (.aload_n 0, 1) := by decide +kernel
theorem dX7_next_53 : decode prog_9_method_16_code 53 = .ok (.getfield 53, 3) := by decide +kernel
theorem dX7_next_56 : decode prog_9_method_16_code 56 = .ok (.iload_n 1, 1) := by decide +kernel
theorem dX7_next_57 : decode prog_9_method_16_code 57 = .ok (.iconst 1, 1) := by decide +kernel
theorem dX7_next_58 : decode prog_9_method_16_code 58 = .ok (.bastore, 1) := by decide +kernel
theorem dX7_next_59 : decode prog_9_method_16_code 59 = .ok (.aload_n 0, 1) := by decide +kernel
theorem dX7_next_60 : decode prog_9_method_16_code 60 = .ok (.invokevirtual 156, 3) := by decide +kernel
theorem dX7_next_63 : decode prog_9_method_16_code 63 = .ok (.aload_n 0, 1) := by decide +kernel
theorem dX7_next_64 : decode prog_9_method_16_code 64 = .ok (.iload_n 1, 1) := by decide +kernel
theorem dX7_next_65 : decode prog_9_method_16_code 65 = .ok (.invokevirtual 159, 3) := by decide +kernel
theorem dX7_next_68 : decode prog_9_method_16_code 68 = .ok (.istore_n 2, 1) := by decide +kernel
theorem dX7_next_69 : decode prog_9_method_16_code 69 = .ok (.iload_n 2, 1) := by decide +kernel
theorem dX7_next_70 : decode prog_9_method_16_code 70 = .ok (.ifCond .ne 10, 3) := by decide +kernel
theorem dX7_next_73 : decode prog_9_method_16_code 73 = .ok (.aload_n 0, 1) := by decide +kernel
theorem dX7_next_74 : decode prog_9_method_16_code 74 = .ok (.iload_n 1, 1) := by decide +kernel
theorem dX7_next_75 : decode prog_9_method_16_code 75 = .ok (.iconst 2, 1) := by decide +kernel
theorem dX7_next_76 : decode prog_9_method_16_code 76 = .ok (.invokevirtual 163, 3) := by decide +kernel
theorem dX7_next_79 : decode prog_9_method_16_code 79 = .ok (.return_, 1) := by decide +kernel
theorem dX7_next_80 : decode prog_9_method_16_code 80 = .ok (.iconst 0, 1) := by decide +kernel
theorem dX7_next_81 : decode prog_9_method_16_code 81 = .ok (.istore_n 3, 1) := by decide +kernel
theorem dX7_next_82 : decode prog_9_method_16_code 82 = .ok (.iload_n 3, 1) := by decide +kernel
theorem dX7_next_83 : decode prog_9_method_16_code 83 = .ok (.iconst 2, 1) := by decide +kernel
theorem dX7_next_84 : decode prog_9_method_16_code 84 = .ok (.if_icmp .ge 39, 3) := by decide +kernel
theorem dX7_next_87 : decode prog_9_method_16_code 87 = .ok (.aload_n 0, 1) := by decide +kernel
theorem dX7_next_88 : decode prog_9_method_16_code 88 = .ok (.getfield 59, 3) := by decide +kernel
theorem dX7_next_91 : decode prog_9_method_16_code 91 = .ok (.iconst 2, 1) := by decide +kernel
theorem dX7_next_92 : decode prog_9_method_16_code 92 = .ok (.iload_n 1, 1) := by decide +kernel
theorem dX7_next_93 : decode prog_9_method_16_code 93 = .ok (.imul, 1) := by decide +kernel
theorem dX7_next_94 : decode prog_9_method_16_code 94 = .ok (.iload_n 3, 1) := by decide +kernel
theorem dX7_next_95 : decode prog_9_method_16_code 95 = .ok (.iadd, 1) := by decide +kernel
theorem dX7_next_96 : decode prog_9_method_16_code 96 = .ok (.iaload, 1) := by decide +kernel
theorem dX7_next_97 : decode prog_9_method_16_code 97 = .ok (.iconst 2, 1) := by decide +kernel
theorem dX7_next_98 : decode prog_9_method_16_code 98 = .ok (.iand, 1) := by decide +kernel
theorem dX7_next_99 : decode prog_9_method_16_code 99 = .ok (.iconst 2, 1) := by decide +kernel
theorem dX7_next_100 : decode prog_9_method_16_code 100 = .ok (.if_icmp .ne 17, 3) := by decide +kernel
theorem dX7_next_103 : decode prog_9_method_16_code 103 = .ok (.aload_n 0, 1) := by decide +kernel
theorem dX7_next_104 : decode prog_9_method_16_code 104 = .ok (.getfield 65, 3) := by decide +kernel
theorem dX7_next_107 : decode prog_9_method_16_code 107 = .ok (.iconst 2, 1) := by decide +kernel
theorem dX7_next_108 : decode prog_9_method_16_code 108 = .ok (.iload_n 1, 1) := by decide +kernel
theorem dX7_next_109 : decode prog_9_method_16_code 109 = .ok (.imul, 1) := by decide +kernel
theorem dX7_next_110 : decode prog_9_method_16_code 110 = .ok (.iload_n 3, 1) := by decide +kernel
theorem dX7_next_111 : decode prog_9_method_16_code 111 = .ok (.iadd, 1) := by decide +kernel
theorem dX7_next_112 : decode prog_9_method_16_code 112 = .ok (.dup2, 1) := by decide +kernel
theorem dX7_next_113 : decode prog_9_method_16_code 113 = .ok (.iaload, 1) := by decide +kernel
theorem dX7_next_114 : decode prog_9_method_16_code 114 = .ok (.iconst 1, 1) := by decide +kernel
theorem dX7_next_115 : decode prog_9_method_16_code 115 = .ok (.iadd, 1) := by decide +kernel
theorem dX7_next_116 : decode prog_9_method_16_code 116 = .ok (.iastore, 1) := by decide +kernel
theorem dX7_next_117 : decode prog_9_method_16_code 117 = .ok (.iinc 3 1, 3) := by decide +kernel
theorem dX7_next_120 : decode prog_9_method_16_code 120 = .ok (.goto (-38), 3) := by decide +kernel
theorem dX7_next_123 : decode prog_9_method_16_code 123 = .ok (.aload_n 0, 1) := by decide +kernel
theorem dX7_next_124 : decode prog_9_method_16_code 124 = .ok (.getfield 53, 3) := by decide +kernel
theorem dX7_next_127 : decode prog_9_method_16_code 127 = .ok (.iload_n 1, 1) := by decide +kernel
theorem dX7_next_128 : decode prog_9_method_16_code 128 = .ok (.iconst 0, 1) := by decide +kernel
theorem dX7_next_129 : decode prog_9_method_16_code 129 = .ok (.bastore, 1) := by decide +kernel
theorem dX7_next_130 : decode prog_9_method_16_code 130 = .ok (.aload_n 0, 1) := by decide +kernel
theorem dX7_next_131 : decode prog_9_method_16_code 131 = .ok (.getfield 25, 3) := by decide +kernel
theorem dX7_next_134 : decode prog_9_method_16_code 134 = .ok (.iload_n 1, 1) := by decide +kernel
theorem dX7_next_135 : decode prog_9_method_16_code 135 = .ok (.dup2, 1) := by decide +kernel
theorem dX7_next_136 : decode prog_9_method_16_code 136 = .ok (.iaload, 1) := by decide +kernel
theorem dX7_next_137 : decode prog_9_method_16_code 137 = .ok (.iconst 1, 1) := by decide +kernel
theorem dX7_next_138 : decode prog_9_method_16_code 138 = .ok (.iadd, 1) := by decide +kernel
theorem dX7_next_139 : decode prog_9_method_16_code 139 = .ok (.iastore, 1) := by decide +kernel
theorem dX7_next_140 : decode prog_9_method_16_code 140 = .ok (.return_, 1) := by decide +kernel
theorem dX7_set_0 : decode prog_9_method_17_code 0 = .ok (.aload_n 0, 1) := by decide +kernel
theorem dX7_set_1 : decode prog_9_method_17_code 1 = .ok (.getfield 19, 3) := by decide +kernel
theorem dX7_set_4 : decode prog_9_method_17_code 4 = .ok (.iload_n 1, 1) := by decide +kernel
theorem dX7_set_5 : decode prog_9_method_17_code 5 = .ok (.iconst 2, 1) := by decide +kernel
theorem dX7_set_6 : decode prog_9_method_17_code 6 = .ok (.iastore, 1) := by decide +kernel
theorem dX7_set_7 : decode prog_9_method_17_code 7 = .ok (.aload_n 0, 1) := by decide +kernel
theorem dX7_set_8 : decode prog_9_method_17_code 8 = .ok (.getfield 37, 3) := by decide +kernel
theorem dX7_set_11 : decode prog_9_method_17_code 11 = .ok (.iload_n 1, 1) := by decide +kernel
theorem dX7_set_12 : decode prog_9_method_17_code 12 = .ok (.iload_n 2, 1) := by decide +kernel
theorem dX7_set_13 : decode prog_9_method_17_code 13 = .ok (.iastore, 1) := by decide +kernel
theorem dX7_set_14 : decode prog_9_method_17_code 14 = .ok (.return_, 1) := by decide +kernel
theorem dX7_finish_0 : decode prog_9_method_18_code 0 = .ok (.aload_n 0, 1) := by decide +kernel
theorem dX7_finish_1 : decode prog_9_method_18_code 1 = .ok (.getfield 19, 3) := by decide +kernel
theorem dX7_finish_4 : decode prog_9_method_18_code 4 = .ok (.iload_n 1, 1) := by decide +kernel
theorem dX7_finish_5 : decode prog_9_method_18_code 5 = .ok (.iconst 3, 1) := by decide +kernel
theorem dX7_finish_6 : decode prog_9_method_18_code 6 = .ok (.iastore, 1) := by decide +kernel
theorem dX7_finish_7 : decode prog_9_method_18_code 7 = .ok (.iconst 0, 1) := by decide +kernel
theorem dX7_finish_8 : decode prog_9_method_18_code 8 = .ok (.istore_n 2, 1) := by decide +kernel
theorem dX7_finish_9 : decode prog_9_method_18_code 9 = .ok (.iload_n 2, 1) := by decide +kernel
theorem dX7_finish_10 : decode prog_9_method_18_code 10 = .ok (.iconst 2, 1) := by decide +kernel
theorem dX7_finish_11 : decode prog_9_method_18_code 11 = .ok (.if_icmp .ge 20, 3) := by decide +kernel
theorem dX7_finish_14 : decode prog_9_method_18_code 14 = .ok (.aload_n 0, 1) := by decide +kernel
theorem dX7_finish_15 : decode prog_9_method_18_code 15 = .ok (.getfield 59, 3) := by decide +kernel
theorem dX7_finish_18 : decode prog_9_method_18_code 18 = .ok (.iconst 2, 1) := by decide +kernel
theorem dX7_finish_19 : decode prog_9_method_18_code 19 = .ok (.iload_n 1, 1) := by decide +kernel
theorem dX7_finish_20 : decode prog_9_method_18_code 20 = .ok (.imul, 1) := by decide +kernel
theorem dX7_finish_21 : decode prog_9_method_18_code 21 = .ok (.iload_n 2, 1) := by decide +kernel
theorem dX7_finish_22 : decode prog_9_method_18_code 22 = .ok (.iadd, 1) := by decide +kernel
theorem dX7_finish_23 : decode prog_9_method_18_code 23 = .ok (.iconst 0, 1) := by decide +kernel
theorem dX7_finish_24 : decode prog_9_method_18_code 24 = .ok (.iastore, 1) := by decide +kernel
theorem dX7_finish_25 : decode prog_9_method_18_code 25 = .ok (.iinc 2 1, 3) := by decide +kernel
theorem dX7_finish_28 : decode prog_9_method_18_code 28 = .ok (.goto (-19), 3) := by decide +kernel
theorem dX7_finish_31 : decode prog_9_method_18_code 31 = .ok (.aload_n 0, 1) := by decide +kernel
theorem dX7_finish_32 : decode prog_9_method_18_code 32 = .ok (.invokevirtual 156, 3) := by decide +kernel
theorem dX7_finish_35 : decode prog_9_method_18_code 35 = .ok (.aload_n 0, 1) := by decide +kernel
theorem dX7_finish_36 : decode prog_9_method_18_code 36 = .ok (.getfield 71, 3) := by decide +kernel
theorem dX7_finish_39 : decode prog_9_method_18_code 39 = .ok (.aload_n 0, 1) := by decide +kernel
theorem dX7_finish_40 : decode prog_9_method_18_code 40 = .ok (.getfield 31, 3) := by decide +kernel
theorem dX7_finish_43 : decode prog_9_method_18_code 43 = .ok (.iload_n 1, 1) := by decide +kernel
theorem dX7_finish_44 : decode prog_9_method_18_code 44 = .ok (.iaload, 1) := by decide +kernel
theorem dX7_finish_45 : decode prog_9_method_18_code 45 = .ok (.dup2, 1) := by decide +kernel
theorem dX7_finish_46 : decode prog_9_method_18_code 46 = .ok (.iaload, 1) := by decide +kernel
theorem dX7_finish_47 : decode prog_9_method_18_code 47 = .ok (.iconst 1, 1) := by decide +kernel
theorem dX7_finish_48 : decode prog_9_method_18_code 48 = .ok (.isub, 1) := by decide +kernel
theorem dX7_finish_49 : decode prog_9_method_18_code 49 = .ok (.iastore, 1) := by decide +kernel
theorem dX7_finish_50 : decode prog_9_method_18_code 50 = .ok (.return_, 1) := by decide +kernel
theorem dX7_raise_0 : decode prog_9_method_19_code 0 = .ok (.aload_n 0, 1) := by decide +kernel
theorem dX7_raise_1 : decode prog_9_method_19_code 1 = .ok (.getfield 34, 3) := by decide +kernel
theorem dX7_raise_4 : decode prog_9_method_19_code 4 = .ok (.iload_n 1, 1) := by decide +kernel
theorem dX7_raise_5 : decode prog_9_method_19_code 5 = .ok (.iaload, 1) := by decide +kernel
theorem dX7_raise_6 : decode prog_9_method_19_code 6 = .ok (.ifCond .le 30, 3) := by decide +kernel
theorem dX7_raise_9 : decode prog_9_method_19_code 9 = .ok (.aload_n 0, 1) := by decide +kernel
theorem dX7_raise_10 : decode prog_9_method_19_code 10 = .ok (.aload_n 0, 1) := by decide +kernel
theorem dX7_raise_11 : decode prog_9_method_19_code 11 = .ok (.iload_n 1, 1) := by decide +kernel
theorem dX7_raise_12 : decode prog_9_method_19_code 12 = .ok (.invokevirtual 166, 3) := by decide +kernel
theorem dX7_raise_15 : decode prog_9_method_19_code 15 = .ok (.iload_n 2, 1) := by decide +kernel
theorem dX7_raise_16 : decode prog_9_method_19_code 16 = .ok (.invokevirtual 169, 3) := by decide +kernel
theorem dX7_raise_19 : decode prog_9_method_19_code 19 = .ok (.aload_n 0, 1) := by decide +kernel
theorem dX7_raise_20 : decode prog_9_method_19_code 20 = .ok (.getfield 46, 3) := by decide +kernel
theorem dX7_raise_23 : decode prog_9_method_19_code 23 = .ok (.iload_n 1, 1) := by decide +kernel
theorem dX7_raise_24 : decode prog_9_method_19_code 24 = .ok (.iconst 1, 1) := by decide +kernel
theorem dX7_raise_25 : decode prog_9_method_19_code 25 = .ok (.bastore, 1) := by decide +kernel
theorem dX7_raise_26 : decode prog_9_method_19_code 26 = .ok (.aload_n 0, 1) := by decide +kernel
theorem dX7_raise_27 : decode prog_9_method_19_code 27 = .ok (.getfield 50, 3) := by decide +kernel
theorem dX7_raise_30 : decode prog_9_method_19_code 30 = .ok (.iload_n 1, 1) := by decide +kernel
theorem dX7_raise_31 : decode prog_9_method_19_code 31 = .ok (.iconst 0, 1) := by decide +kernel
theorem dX7_raise_32 : decode prog_9_method_19_code 32 = .ok (.bastore, 1) := by decide +kernel
theorem dX7_raise_33 : decode prog_9_method_19_code 33 = .ok (.goto 19, 3) := by decide +kernel
theorem dX7_raise_36 : decode prog_9_method_19_code 36 = .ok (.aload_n 0, 1) := by decide +kernel
theorem dX7_raise_37 : decode prog_9_method_19_code 37 = .ok (.aload_n 0, 1) := by decide +kernel
theorem dX7_raise_38 : decode prog_9_method_19_code 38 = .ok (.getfield 31, 3) := by decide +kernel
theorem dX7_raise_41 : decode prog_9_method_19_code 41 = .ok (.iload_n 1, 1) := by decide +kernel
theorem dX7_raise_42 : decode prog_9_method_19_code 42 = .ok (.iaload, 1) := by decide +kernel
theorem dX7_raise_43 : decode prog_9_method_19_code 43 = .ok (.iload_n 2, 1) := by decide +kernel
theorem dX7_raise_44 : decode prog_9_method_19_code 44 = .ok (.invokevirtual 169, 3) := by decide +kernel
theorem dX7_raise_47 : decode prog_9_method_19_code 47 = .ok (.aload_n 0, 1) := by decide +kernel
theorem dX7_raise_48 : decode prog_9_method_19_code 48 = .ok (.iload_n 1, 1) := by decide +kernel
theorem dX7_raise_49 : decode prog_9_method_19_code 49 = .ok (.invokevirtual 172, 3) := by decide +kernel
theorem dX7_raise_52 : decode prog_9_method_19_code 52 = .ok (.return_, 1) := by decide +kernel
theorem dX7_end_0 : decode prog_9_method_20_code 0 = .ok (.aload_n 0, 1) := by decide +kernel
theorem dX7_end_1 : decode prog_9_method_20_code 1 = .ok (.iload_n 1, 1) := by decide +kernel
theorem dX7_end_2 : decode prog_9_method_20_code 2 = .ok (.invokevirtual 166, 3) := by decide +kernel
theorem dX7_end_5 : decode prog_9_method_20_code 5 = .ok (.istore_n 2, 1) := by decide +kernel
theorem dX7_end_6 : decode prog_9_method_20_code 6 = .ok (.aload_n 0, 1) := by decide +kernel
theorem dX7_end_7 : decode prog_9_method_20_code 7 = .ok (.getfield 71, 3) := by decide +kernel
theorem dX7_end_10 : decode prog_9_method_20_code 10 = .ok (.iload_n 2, 1) := by decide +kernel
theorem dX7_end_11 : decode prog_9_method_20_code 11 = .ok (.iaload, 1) := by decide +kernel
theorem dX7_end_12 : decode prog_9_method_20_code 12 = .ok (.ifCond .le 10, 3) := by decide +kernel
theorem dX7_end_15 : decode prog_9_method_20_code 15 = .ok (.aload_n 0, 1) := by decide +kernel
theorem dX7_end_16 : decode prog_9_method_20_code 16 = .ok (.iload_n 1, 1) := by decide +kernel
theorem dX7_end_17 : decode prog_9_method_20_code 17 = .ok (.iconst 3, 1) := by decide +kernel
theorem dX7_end_18 : decode prog_9_method_20_code 18 = .ok (.invokevirtual 163, 3) := by decide +kernel
theorem dX7_end_21 : decode prog_9_method_20_code 21 = .ok (.return_, 1) := by decide +kernel
theorem dX7_end_22 : decode prog_9_method_20_code 22 = .ok (.aload_n 0, 1) := by decide +kernel
theorem dX7_end_23 : decode prog_9_method_20_code 23 = .ok (.getfield 46, 3) := by decide +kernel
theorem dX7_end_26 : decode prog_9_method_20_code 26 = .ok (.iload_n 1, 1) := by decide +kernel
theorem dX7_end_27 : decode prog_9_method_20_code 27 = .ok (.iconst 0, 1) := by decide +kernel
theorem dX7_end_28 : decode prog_9_method_20_code 28 = .ok (.bastore, 1) := by decide +kernel
theorem dX7_end_29 : decode prog_9_method_20_code 29 = .ok (.aload_n 0, 1) := by decide +kernel
theorem dX7_end_30 : decode prog_9_method_20_code 30 = .ok (.getfield 34, 3) := by decide +kernel
theorem dX7_end_33 : decode prog_9_method_20_code 33 = .ok (.iload_n 1, 1) := by decide +kernel
theorem dX7_end_34 : decode prog_9_method_20_code 34 = .ok (.dup2, 1) := by decide +kernel
theorem dX7_end_35 : decode prog_9_method_20_code 35 = .ok (.iaload, 1) := by decide +kernel
theorem dX7_end_36 : decode prog_9_method_20_code 36 = .ok (.iconst 1, 1) := by decide +kernel
theorem dX7_end_37 : decode prog_9_method_20_code 37 = .ok (.isub, 1) := by decide +kernel
theorem dX7_end_38 : decode prog_9_method_20_code 38 = .ok (.iastore, 1) := by decide +kernel
theorem dX7_end_39 : decode prog_9_method_20_code 39 = .ok (.aload_n 0, 1) := by decide +kernel
theorem dX7_end_40 : decode prog_9_method_20_code 40 = .ok (.getfield 83, 3) := by decide +kernel
theorem dX7_end_43 : decode prog_9_method_20_code 43 = .ok (.iload_n 2, 1) := by decide +kernel
theorem dX7_end_44 : decode prog_9_method_20_code 44 = .ok (.iaload, 1) := by decide +kernel
theorem dX7_end_45 : decode prog_9_method_20_code 45 = .ok (.ifCond .ne 72, 3) := by decide +kernel
theorem dX7_end_48 : decode prog_9_method_20_code 48 = .ok (.aload_n 0, 1) := by decide +kernel
theorem dX7_end_49 : decode prog_9_method_20_code 49 = .ok (.getfield 22, 3) := by decide +kernel
theorem dX7_end_52 : decode prog_9_method_20_code 52 = .ok (.iload_n 1, 1) := by decide +kernel
theorem dX7_end_53 : decode prog_9_method_20_code 53 = .ok (.aload_n 0, 1) := by decide +kernel
theorem dX7_end_54 : decode prog_9_method_20_code 54 = .ok (.getfield 77, 3) := by decide +kernel
theorem dX7_end_57 : decode prog_9_method_20_code 57 = .ok (.iload_n 2, 1) := by decide +kernel
theorem dX7_end_58 : decode prog_9_method_20_code 58 = .ok (.iaload, 1) := by decide +kernel
theorem dX7_end_59 : decode prog_9_method_20_code 59 = .ok (.ifCond .eq 13, 3) := by decide +kernel
theorem dX7_end_62 : decode prog_9_method_20_code 62 = .ok (.aload_n 0, 1) := by decide +kernel
theorem dX7_end_63 : decode prog_9_method_20_code 63 = .ok (.getfield 77, 3) := by decide +kernel
theorem dX7_end_66 : decode prog_9_method_20_code 66 = .ok (.iload_n 2, 1) := by decide +kernel
theorem dX7_end_67 : decode prog_9_method_20_code 67 = .ok (.iaload, 1) := by decide +kernel
theorem dX7_end_68 : decode prog_9_method_20_code 68 = .ok (.iconst 3, 1) := by decide +kernel
theorem dX7_end_69 : decode prog_9_method_20_code 69 = .ok (.if_icmp .ne 19, 3) := by decide +kernel
theorem dX7_end_72 : decode prog_9_method_20_code 72 = .ok (.aload_n 0, 1) := by decide +kernel
theorem dX7_end_73 : decode prog_9_method_20_code 73 = .ok (.getfield 22, 3) := by decide +kernel
theorem dX7_end_76 : decode prog_9_method_20_code 76 = .ok (.iload_n 1, 1) := by decide +kernel
theorem dX7_end_77 : decode prog_9_method_20_code 77 = .ok (.iaload, 1) := by decide +kernel
theorem dX7_end_78 : decode prog_9_method_20_code 78 = .ok (.aload_n 0, 1) := by decide +kernel
theorem dX7_end_79 : decode prog_9_method_20_code 79 = .ok (.getfield 74, 3) := by decide +kernel
theorem dX7_end_82 : decode prog_9_method_20_code 82 = .ok (.iload_n 2, 1) := by decide +kernel
theorem dX7_end_83 : decode prog_9_method_20_code 83 = .ok (.iaload, 1) := by decide +kernel
theorem dX7_end_84 : decode prog_9_method_20_code 84 = .ok (.iadd, 1) := by decide +kernel
theorem dX7_end_85 : decode prog_9_method_20_code 85 = .ok (.goto 9, 3) := by decide +kernel
theorem dX7_end_88 : decode prog_9_method_20_code 88 = .ok (.aload_n 0, 1) := by decide +kernel
theorem dX7_end_89 : decode prog_9_method_20_code 89 = .ok (.getfield 74, 3) := by decide +kernel
theorem dX7_end_92 : decode prog_9_method_20_code 92 = .ok (.iload_n 2, 1) := by decide +kernel
theorem dX7_end_93 : decode prog_9_method_20_code 93 = .ok (.iaload, 1) := by decide +kernel
theorem dX7_end_94 : decode prog_9_method_20_code 94 = .ok (.iastore, 1) := by decide +kernel
theorem dX7_end_95 : decode prog_9_method_20_code 95 = .ok (.aload_n 0, 1) := by decide +kernel
theorem dX7_end_96 : decode prog_9_method_20_code 96 = .ok (.getfield 50, 3) := by decide +kernel
theorem dX7_end_99 : decode prog_9_method_20_code 99 = .ok (.iload_n 1, 1) := by decide +kernel
theorem dX7_end_100 : decode prog_9_method_20_code 100 = .ok (.baload, 1) := by decide +kernel
theorem dX7_end_101 : decode prog_9_method_20_code 101 = .ok (.ifCond .eq 63, 3) := by decide +kernel
theorem dX7_end_104 : decode prog_9_method_20_code 104 = .ok (.aload_n 0, 1) := by decide +kernel
theorem dX7_end_105 : decode prog_9_method_20_code 105 = .ok (.getfield 25, 3) := by decide +kernel
theorem dX7_end_108 : decode prog_9_method_20_code 108 = .ok (.iload_n 1, 1) := by decide +kernel
theorem dX7_end_109 : decode prog_9_method_20_code 109 = .ok (.dup2, 1) := by decide +kernel
theorem dX7_end_110 : decode prog_9_method_20_code 110 = .ok (.iaload, 1) := by decide +kernel
theorem dX7_end_111 : decode prog_9_method_20_code 111 = .ok (.iconst 1, 1) := by decide +kernel
theorem dX7_end_112 : decode prog_9_method_20_code 112 = .ok (.iadd, 1) := by decide +kernel
theorem dX7_end_113 : decode prog_9_method_20_code 113 = .ok (.iastore, 1) := by decide +kernel
theorem dX7_end_114 : decode prog_9_method_20_code 114 = .ok (.goto 50, 3) := by decide +kernel
theorem dX7_end_117 : decode prog_9_method_20_code 117 = .ok (.aload_n 0, 1) := by decide +kernel
theorem dX7_end_118 : decode prog_9_method_20_code 118 = .ok (.getfield 80, 3) := by decide +kernel
theorem dX7_end_121 : decode prog_9_method_20_code 121 = .ok (.iload_n 2, 1) := by decide +kernel
theorem dX7_end_122 : decode prog_9_method_20_code 122 = .ok (.iaload, 1) := by decide +kernel
theorem dX7_end_123 : decode prog_9_method_20_code 123 = .ok (.ifCond .le 30, 3) := by decide +kernel
theorem dX7_end_126 : decode prog_9_method_20_code 126 = .ok (.aload_n 0, 1) := by decide +kernel
theorem dX7_end_127 : decode prog_9_method_20_code 127 = .ok (.getfield 25, 3) := by decide +kernel
theorem dX7_end_130 : decode prog_9_method_20_code 130 = .ok (.iload_n 1, 1) := by decide +kernel
theorem dX7_end_131 : decode prog_9_method_20_code 131 = .ok (.aload_n 0, 1) := by decide +kernel
theorem dX7_end_132 : decode prog_9_method_20_code 132 = .ok (.getfield 80, 3) := by decide +kernel
theorem dX7_end_135 : decode prog_9_method_20_code 135 = .ok (.iload_n 2, 1) := by decide +kernel
theorem dX7_end_136 : decode prog_9_method_20_code 136 = .ok (.iaload, 1) := by decide +kernel
theorem dX7_end_137 : decode prog_9_method_20_code 137 = .ok (.iastore, 1) := by decide +kernel
theorem dX7_end_138 : decode prog_9_method_20_code 138 = .ok (.aload_n 0, 1) := by decide +kernel
theorem dX7_end_139 : decode prog_9_method_20_code 139 = .ok (.getfield 22, 3) := by decide +kernel
theorem dX7_end_142 : decode prog_9_method_20_code 142 = .ok (.iload_n 1, 1) := by decide +kernel
theorem dX7_end_143 : decode prog_9_method_20_code 143 = .ok (.aload_n 0, 1) := by decide +kernel
theorem dX7_end_144 : decode prog_9_method_20_code 144 = .ok (.getfield 86, 3) := by decide +kernel
theorem dX7_end_147 : decode prog_9_method_20_code 147 = .ok (.iload_n 2, 1) := by decide +kernel
theorem dX7_end_148 : decode prog_9_method_20_code 148 = .ok (.iaload, 1) := by decide +kernel
theorem dX7_end_149 : decode prog_9_method_20_code 149 = .ok (.iastore, 1) := by decide +kernel
theorem dX7_end_150 : decode prog_9_method_20_code 150 = .ok (.goto 14, 3) := by decide +kernel
theorem dX7_end_153 : decode prog_9_method_20_code 153 = .ok (.aload_n 0, 1) := by decide +kernel
theorem dX7_end_154 : decode prog_9_method_20_code 154 = .ok (.iload_n 1, 1) := by decide +kernel
theorem dX7_end_155 : decode prog_9_method_20_code 155 = .ok (.aload_n 0, 1) := by decide +kernel
theorem dX7_end_156 : decode prog_9_method_20_code 156 = .ok (.getfield 86, 3) := by decide +kernel
theorem dX7_end_159 : decode prog_9_method_20_code 159 = .ok (.iload_n 2, 1) := by decide +kernel
theorem dX7_end_160 : decode prog_9_method_20_code 160 = .ok (.iaload, 1) := by decide +kernel
theorem dX7_end_161 : decode prog_9_method_20_code 161 = .ok (.invokevirtual 176, 3) := by decide +kernel
theorem dX7_end_164 : decode prog_9_method_20_code 164 = .ok (.return_, 1) := by decide +kernel
theorem dX7_give_0 : decode prog_9_method_21_code 0 = .ok (.aload_n 0, 1) := by decide +kernel
theorem dX7_give_1 : decode prog_9_method_21_code 1 = .ok (.iload_n 1, 1) := by decide +kernel
theorem dX7_give_2 : decode prog_9_method_21_code 2 = .ok (.invokevirtual 166, 3) := by decide +kernel
theorem dX7_give_5 : decode prog_9_method_21_code 5 = .ok (.istore_n 2, 1) := by decide +kernel
theorem dX7_give_6 : decode prog_9_method_21_code 6 = .ok (.aload_n 0, 1) := by decide +kernel
theorem dX7_give_7 : decode prog_9_method_21_code 7 = .ok (.getfield 22, 3) := by decide +kernel
theorem dX7_give_10 : decode prog_9_method_21_code 10 = .ok (.iload_n 1, 1) := by decide +kernel
theorem dX7_give_11 : decode prog_9_method_21_code 11 = .ok (.iaload, 1) := by decide +kernel
theorem dX7_give_12 : decode prog_9_method_21_code 12 = .ok (.istore_n 3, 1) := by decide +kernel
theorem dX7_give_13 : decode prog_9_method_21_code 13 = .ok (.aload_n 0, 1) := by decide +kernel
theorem dX7_give_14 : decode prog_9_method_21_code 14 = .ok (.getfield 77, 3) := by decide +kernel
theorem dX7_give_17 : decode prog_9_method_21_code 17 = .ok (.iload_n 2, 1) := by decide +kernel
theorem dX7_give_18 : decode prog_9_method_21_code 18 = .ok (.iaload, 1) := by decide +kernel
theorem dX7_give_19 : decode prog_9_method_21_code 19 = .ok (.ifCond .ne 16, 3) := by decide +kernel
theorem dX7_give_22 : decode prog_9_method_21_code 22 = .ok (.aload_n 0, 1) := by decide +kernel
theorem dX7_give_23 : decode prog_9_method_21_code 23 = .ok (.getfield 74, 3) := by decide +kernel
theorem dX7_give_26 : decode prog_9_method_21_code 26 = .ok (.iload_n 2, 1) := by decide +kernel
theorem dX7_give_27 : decode prog_9_method_21_code 27 = .ok (.dup2, 1) := by decide +kernel
theorem dX7_give_28 : decode prog_9_method_21_code 28 = .ok (.iaload, 1) := by decide +kernel
theorem dX7_give_29 : decode prog_9_method_21_code 29 = .ok (.iload_n 3, 1) := by decide +kernel
theorem dX7_give_30 : decode prog_9_method_21_code 30 = .ok (.iadd, 1) := by decide +kernel
theorem dX7_give_31 : decode prog_9_method_21_code 31 = .ok (.iastore, 1) := by decide +kernel
theorem dX7_give_32 : decode prog_9_method_21_code 32 = .ok (.goto 91, 3) := by decide +kernel
theorem dX7_give_35 : decode prog_9_method_21_code 35 = .ok (.aload_n 0, 1) := by decide +kernel
theorem dX7_give_36 : decode prog_9_method_21_code 36 = .ok (.getfield 77, 3) := by decide +kernel
theorem dX7_give_39 : decode prog_9_method_21_code 39 = .ok (.iload_n 2, 1) := by decide +kernel
theorem dX7_give_40 : decode prog_9_method_21_code 40 = .ok (.iaload, 1) := by decide +kernel
theorem dX7_give_41 : decode prog_9_method_21_code 41 = .ok (.iconst 1, 1) := by decide +kernel
theorem dX7_give_42 : decode prog_9_method_21_code 42 = .ok (.if_icmp .ne 32, 3) := by decide +kernel
theorem dX7_give_45 : decode prog_9_method_21_code 45 = .ok (.aload_n 0, 1) := by decide +kernel
theorem dX7_give_46 : decode prog_9_method_21_code 46 = .ok (.getfield 74, 3) := by decide +kernel
theorem dX7_give_49 : decode prog_9_method_21_code 49 = .ok (.iload_n 2, 1) := by decide +kernel
theorem dX7_give_50 : decode prog_9_method_21_code 50 = .ok (.iload_n 3, 1) := by decide +kernel
theorem dX7_give_51 : decode prog_9_method_21_code 51 = .ok (.aload_n 0, 1) := by decide +kernel
theorem dX7_give_52 : decode prog_9_method_21_code 52 = .ok (.getfield 74, 3) := by decide +kernel
theorem dX7_give_55 : decode prog_9_method_21_code 55 = .ok (.iload_n 2, 1) := by decide +kernel
theorem dX7_give_56 : decode prog_9_method_21_code 56 = .ok (.iaload, 1) := by decide +kernel
theorem dX7_give_57 : decode prog_9_method_21_code 57 = .ok (.if_icmp .ge 7, 3) := by decide +kernel
theorem dX7_give_60 : decode prog_9_method_21_code 60 = .ok (.iload_n 3, 1) := by decide +kernel
theorem dX7_give_61 : decode prog_9_method_21_code 61 = .ok (.goto 9, 3) := by decide +kernel
theorem dX7_give_64 : decode prog_9_method_21_code 64 = .ok (.aload_n 0, 1) := by decide +kernel
theorem dX7_give_65 : decode prog_9_method_21_code 65 = .ok (.getfield 74, 3) := by decide +kernel
theorem dX7_give_68 : decode prog_9_method_21_code 68 = .ok (.iload_n 2, 1) := by decide +kernel
theorem dX7_give_69 : decode prog_9_method_21_code 69 = .ok (.iaload, 1) := by decide +kernel
theorem dX7_give_70 : decode prog_9_method_21_code 70 = .ok (.iastore, 1) := by decide +kernel
theorem dX7_give_71 : decode prog_9_method_21_code 71 = .ok (.goto 52, 3) := by decide +kernel
theorem dX7_give_74 : decode prog_9_method_21_code 74 = .ok (.aload_n 0, 1) := by decide +kernel
theorem dX7_give_75 : decode prog_9_method_21_code 75 = .ok (.getfield 77, 3) := by decide +kernel
theorem dX7_give_78 : decode prog_9_method_21_code 78 = .ok (.iload_n 2, 1) := by decide +kernel
theorem dX7_give_79 : decode prog_9_method_21_code 79 = .ok (.iaload, 1) := by decide +kernel
theorem dX7_give_80 : decode prog_9_method_21_code 80 = .ok (.iconst 2, 1) := by decide +kernel
theorem dX7_give_81 : decode prog_9_method_21_code 81 = .ok (.if_icmp .ne 32, 3) := by decide +kernel
theorem dX7_give_84 : decode prog_9_method_21_code 84 = .ok (.aload_n 0, 1) := by decide +kernel
theorem dX7_give_85 : decode prog_9_method_21_code 85 = .ok (.getfield 74, 3) := by decide +kernel
theorem dX7_give_88 : decode prog_9_method_21_code 88 = .ok (.iload_n 2, 1) := by decide +kernel
theorem dX7_give_89 : decode prog_9_method_21_code 89 = .ok (.iload_n 3, 1) := by decide +kernel
theorem dX7_give_90 : decode prog_9_method_21_code 90 = .ok (.aload_n 0, 1) := by decide +kernel
theorem dX7_give_91 : decode prog_9_method_21_code 91 = .ok (.getfield 74, 3) := by decide +kernel
theorem dX7_give_94 : decode prog_9_method_21_code 94 = .ok (.iload_n 2, 1) := by decide +kernel
theorem dX7_give_95 : decode prog_9_method_21_code 95 = .ok (.iaload, 1) := by decide +kernel
theorem dX7_give_96 : decode prog_9_method_21_code 96 = .ok (.if_icmp .le 7, 3) := by decide +kernel
theorem dX7_give_99 : decode prog_9_method_21_code 99 = .ok (.iload_n 3, 1) := by decide +kernel
theorem dX7_give_100 : decode prog_9_method_21_code 100 = .ok (.goto 9, 3) := by decide +kernel
theorem dX7_give_103 : decode prog_9_method_21_code 103 = .ok (.aload_n 0, 1) := by decide +kernel
theorem dX7_give_104 : decode prog_9_method_21_code 104 = .ok (.getfield 74, 3) := by decide +kernel
theorem dX7_give_107 : decode prog_9_method_21_code 107 = .ok (.iload_n 2, 1) := by decide +kernel
theorem dX7_give_108 : decode prog_9_method_21_code 108 = .ok (.iaload, 1) := by decide +kernel
theorem dX7_give_109 : decode prog_9_method_21_code 109 = .ok (.iastore, 1) := by decide +kernel
theorem dX7_give_110 : decode prog_9_method_21_code 110 = .ok (.goto 13, 3) := by decide +kernel
theorem dX7_give_113 : decode prog_9_method_21_code 113 = .ok (.aload_n 0, 1) := by decide +kernel
theorem dX7_give_114 : decode prog_9_method_21_code 114 = .ok (.getfield 74, 3) := by decide +kernel
theorem dX7_give_117 : decode prog_9_method_21_code 117 = .ok (.iload_n 2, 1) := by decide +kernel
theorem dX7_give_118 : decode prog_9_method_21_code 118 = .ok (.dup2, 1) := by decide +kernel
theorem dX7_give_119 : decode prog_9_method_21_code 119 = .ok (.iaload, 1) := by decide +kernel
theorem dX7_give_120 : decode prog_9_method_21_code 120 = .ok (.iload_n 3, 1) := by decide +kernel
theorem dX7_give_121 : decode prog_9_method_21_code 121 = .ok (.imul, 1) := by decide +kernel
theorem dX7_give_122 : decode prog_9_method_21_code 122 = .ok (.iastore, 1) := by decide +kernel
theorem dX7_give_123 : decode prog_9_method_21_code 123 = .ok (.return_, 1) := by decide +kernel
theorem dX7_spawn_0 : decode prog_9_method_22_code 0 = .ok (.aload_n 0, 1) := by decide +kernel
theorem dX7_spawn_1 : decode prog_9_method_22_code 1 = .ok (.getfield 119, 3) := by decide +kernel
theorem dX7_spawn_4 : decode prog_9_method_22_code 4 = .ok (.bipush 48, 2) := by decide +kernel
theorem dX7_spawn_6 : decode prog_9_method_22_code 6 = .ok (.if_icmp .ne 10, 3) := by decide +kernel
theorem dX7_spawn_9 : decode prog_9_method_22_code 9 = .ok (.aload_n 0, 1) := by decide +kernel
theorem dX7_spawn_10 : decode prog_9_method_22_code 10 = .ok (.iload_n 1, 1) := by decide +kernel
theorem dX7_spawn_11 : decode prog_9_method_22_code 11 = .ok (.iconst 1, 1) := by decide +kernel
theorem dX7_spawn_12 : decode prog_9_method_22_code 12 = .ok (.invokevirtual 176, 3) := by decide +kernel
theorem dX7_spawn_15 : decode prog_9_method_22_code 15 = .ok (.return_, 1) := by decide +kernel
theorem dX7_spawn_16 : decode prog_9_method_22_code 16 = .ok (.aload_n 0, 1) := by decide +kernel
theorem dX7_spawn_17 : decode prog_9_method_22_code 17 = .ok (.iload_n 2, 1) := by decide +kernel
theorem dX7_spawn_18 : decode prog_9_method_22_code 18 = .ok (.bipush 9, 2) := by decide +kernel
theorem dX7_spawn_20 : decode prog_9_method_22_code 20 = .ok (.if_icmp .ne 9, 3) := by decide +kernel
theorem dX7_spawn_23 : decode prog_9_method_22_code 23 = .ok (.iload_n 3, 1) := by decide +kernel
theorem dX7_spawn_24 : decode prog_9_method_22_code 24 = .ok (.iconst 4, 1) := by decide +kernel
theorem dX7_spawn_25 : decode prog_9_method_22_code 25 = .ok (.idiv, 1) := by decide +kernel
theorem dX7_spawn_26 : decode prog_9_method_22_code 26 = .ok (.goto 4, 3) := by decide +kernel
theorem dX7_spawn_29 : decode prog_9_method_22_code 29 = .ok (.iload_n 3, 1) := by decide +kernel
theorem dX7_spawn_30 : decode prog_9_method_22_code 30 = .ok (.aload_n 0, 1) := by decide +kernel
theorem dX7_spawn_31 : decode prog_9_method_22_code 31 = .ok (.getfield 22, 3) := by decide +kernel
theorem dX7_spawn_34 : decode prog_9_method_22_code 34 = .ok (.iload_n 1, 1) := by decide +kernel
theorem dX7_spawn_35 : decode prog_9_method_22_code 35 = .ok (.iaload, 1) := by decide +kernel
theorem dX7_spawn_36 : decode prog_9_method_22_code 36 = .ok (.aload_n 0, 1) := by decide +kernel
theorem dX7_spawn_37 : decode prog_9_method_22_code 37 = .ok (.iload_n 1, 1) := by decide +kernel
theorem dX7_spawn_38 : decode prog_9_method_22_code 38 = .ok (.invokevirtual 166, 3) := by decide +kernel
theorem dX7_spawn_41 : decode prog_9_method_22_code 41 = .ok (.invokevirtual 148, 3) := by decide +kernel
theorem dX7_spawn_44 : decode prog_9_method_22_code 44 = .ok (.istore 4, 2) := by decide +kernel
theorem dX7_spawn_46 : decode prog_9_method_22_code 46 = .ok (.iconst 0, 1) := by decide +kernel
theorem dX7_spawn_47 : decode prog_9_method_22_code 47 = .ok (.istore 5, 2) := by decide +kernel
theorem dX7_spawn_49 : decode prog_9_method_22_code 49 = .ok (.iload 5, 2) := by decide +kernel
theorem dX7_spawn_51 : decode prog_9_method_22_code 51 = .ok (.iconst 2, 1) := by decide +kernel
theorem dX7_spawn_52 : decode prog_9_method_22_code 52 = .ok (.if_icmp .ge 83, 3) := by decide +kernel
theorem dX7_spawn_55 : decode prog_9_method_22_code 55 = .ok (.iload_n 2, 1) := by decide +kernel
theorem dX7_spawn_56 : decode prog_9_method_22_code 56 = .ok (.iconst 3, 1) := by decide +kernel
theorem dX7_spawn_57 : decode prog_9_method_22_code 57 = .ok (.if_icmp .ne 78, 3) := by decide +kernel
theorem dX7_spawn_60 : decode prog_9_method_22_code 60 = .ok (.aload_n 0, 1) := by decide +kernel
theorem dX7_spawn_61 : decode prog_9_method_22_code 61 = .ok (.getfield 59, 3) := by decide +kernel
theorem dX7_spawn_64 : decode prog_9_method_22_code 64 = .ok (.iconst 2, 1) := by decide +kernel
theorem dX7_spawn_65 : decode prog_9_method_22_code 65 = .ok (.iload 4, 2) := by decide +kernel
theorem dX7_spawn_67 : decode prog_9_method_22_code 67 = .ok (.imul, 1) := by decide +kernel
theorem dX7_spawn_68 : decode prog_9_method_22_code 68 = .ok (.iload 5, 2) := by decide +kernel
theorem dX7_spawn_70 : decode prog_9_method_22_code 70 = .ok (.iadd, 1) := by decide +kernel
theorem dX7_spawn_71 : decode prog_9_method_22_code 71 = .ok (.aload_n 0, 1) := by decide +kernel
theorem dX7_spawn_72 : decode prog_9_method_22_code 72 = .ok (.getfield 59, 3) := by decide +kernel
theorem dX7_spawn_75 : decode prog_9_method_22_code 75 = .ok (.iconst 2, 1) := by decide +kernel
theorem dX7_spawn_76 : decode prog_9_method_22_code 76 = .ok (.iload_n 1, 1) := by decide +kernel
theorem dX7_spawn_77 : decode prog_9_method_22_code 77 = .ok (.imul, 1) := by decide +kernel
theorem dX7_spawn_78 : decode prog_9_method_22_code 78 = .ok (.iload 5, 2) := by decide +kernel
theorem dX7_spawn_80 : decode prog_9_method_22_code 80 = .ok (.iadd, 1) := by decide +kernel
theorem dX7_spawn_81 : decode prog_9_method_22_code 81 = .ok (.iaload, 1) := by decide +kernel
theorem dX7_spawn_82 : decode prog_9_method_22_code 82 = .ok (.iastore, 1) := by decide +kernel
theorem dX7_spawn_83 : decode prog_9_method_22_code 83 = .ok (.aload_n 0, 1) := by decide +kernel
theorem dX7_spawn_84 : decode prog_9_method_22_code 84 = .ok (.getfield 62, 3) := by decide +kernel
theorem dX7_spawn_87 : decode prog_9_method_22_code 87 = .ok (.iconst 2, 1) := by decide +kernel
theorem dX7_spawn_88 : decode prog_9_method_22_code 88 = .ok (.iload 4, 2) := by decide +kernel
theorem dX7_spawn_90 : decode prog_9_method_22_code 90 = .ok (.imul, 1) := by decide +kernel
theorem dX7_spawn_91 : decode prog_9_method_22_code 91 = .ok (.iload 5, 2) := by decide +kernel
theorem dX7_spawn_93 : decode prog_9_method_22_code 93 = .ok (.iadd, 1) := by decide +kernel
theorem dX7_spawn_94 : decode prog_9_method_22_code 94 = .ok (.aload_n 0, 1) := by decide +kernel
theorem dX7_spawn_95 : decode prog_9_method_22_code 95 = .ok (.getfield 62, 3) := by decide +kernel
theorem dX7_spawn_98 : decode prog_9_method_22_code 98 = .ok (.iconst 2, 1) := by decide +kernel
theorem dX7_spawn_99 : decode prog_9_method_22_code 99 = .ok (.iload_n 1, 1) := by decide +kernel
theorem dX7_spawn_100 : decode prog_9_method_22_code 100 = .ok (.imul, 1) := by decide +kernel
theorem dX7_spawn_101 : decode prog_9_method_22_code 101 = .ok (.iload 5, 2) := by decide +kernel
theorem dX7_spawn_103 : decode prog_9_method_22_code 103 = .ok (.iadd, 1) := by decide +kernel
theorem dX7_spawn_104 : decode prog_9_method_22_code 104 = .ok (.iaload, 1) := by decide +kernel
theorem dX7_spawn_105 : decode prog_9_method_22_code 105 = .ok (.iastore, 1) := by decide +kernel
theorem dX7_spawn_106 : decode prog_9_method_22_code 106 = .ok (.aload_n 0, 1) := by decide +kernel
theorem dX7_spawn_107 : decode prog_9_method_22_code 107 = .ok (.getfield 65, 3) := by decide +kernel
theorem dX7_spawn_110 : decode prog_9_method_22_code 110 = .ok (.iconst 2, 1) := by decide +kernel
theorem dX7_spawn_111 : decode prog_9_method_22_code 111 = .ok (.iload 4, 2) := by decide +kernel
theorem dX7_spawn_113 : decode prog_9_method_22_code 113 = .ok (.imul, 1) := by decide +kernel
theorem dX7_spawn_114 : decode prog_9_method_22_code 114 = .ok (.iload 5, 2) := by decide +kernel
theorem dX7_spawn_116 : decode prog_9_method_22_code 116 = .ok (.iadd, 1) := by decide +kernel
theorem dX7_spawn_117 : decode prog_9_method_22_code 117 = .ok (.aload_n 0, 1) := by decide +kernel
theorem dX7_spawn_118 : decode prog_9_method_22_code 118 = .ok (.getfield 65, 3) := by decide +kernel
theorem dX7_spawn_121 : decode prog_9_method_22_code 121 = .ok (.iconst 2, 1) := by decide +kernel
theorem dX7_spawn_122 : decode prog_9_method_22_code 122 = .ok (.iload_n 1, 1) := by decide +kernel
theorem dX7_spawn_123 : decode prog_9_method_22_code 123 = .ok (.imul, 1) := by decide +kernel
theorem dX7_spawn_124 : decode prog_9_method_22_code 124 = .ok (.iload 5, 2) := by decide +kernel
theorem dX7_spawn_126 : decode prog_9_method_22_code 126 = .ok (.iadd, 1) := by decide +kernel
theorem dX7_spawn_127 : decode prog_9_method_22_code 127 = .ok (.iaload, 1) := by decide +kernel
theorem dX7_spawn_128 : decode prog_9_method_22_code 128 = .ok (.iastore, 1) := by decide +kernel
theorem dX7_spawn_129 : decode prog_9_method_22_code 129 = .ok (.iinc 5 1, 3) := by decide +kernel
theorem dX7_spawn_132 : decode prog_9_method_22_code 132 = .ok (.goto (-83), 3) := by decide +kernel
theorem dX7_spawn_135 : decode prog_9_method_22_code 135 = .ok (.iload_n 2, 1) := by decide +kernel
theorem dX7_spawn_136 : decode prog_9_method_22_code 136 = .ok (.bipush 9, 2) := by decide +kernel
theorem dX7_spawn_138 : decode prog_9_method_22_code 138 = .ok (.if_icmp .ne 23, 3) := by decide +kernel
theorem dX7_spawn_141 : decode prog_9_method_22_code 141 = .ok (.aload_n 0, 1) := by decide +kernel
theorem dX7_spawn_142 : decode prog_9_method_22_code 142 = .ok (.iload 4, 2) := by decide +kernel
theorem dX7_spawn_144 : decode prog_9_method_22_code 144 = .ok (.iconst 4, 1) := by decide +kernel
theorem dX7_spawn_145 : decode prog_9_method_22_code 145 = .ok (.invokevirtual 163, 3) := by decide +kernel
theorem dX7_spawn_148 : decode prog_9_method_22_code 148 = .ok (.aload_n 0, 1) := by decide +kernel
theorem dX7_spawn_149 : decode prog_9_method_22_code 149 = .ok (.getfield 40, 3) := by decide +kernel
theorem dX7_spawn_152 : decode prog_9_method_22_code 152 = .ok (.iload 4, 2) := by decide +kernel
theorem dX7_spawn_154 : decode prog_9_method_22_code 154 = .ok (.iload_n 3, 1) := by decide +kernel
theorem dX7_spawn_155 : decode prog_9_method_22_code 155 = .ok (.iconst 4, 1) := by decide +kernel
theorem dX7_spawn_156 : decode prog_9_method_22_code 156 = .ok (.irem, 1) := by decide +kernel
theorem dX7_spawn_157 : decode prog_9_method_22_code 157 = .ok (.iastore, 1) := by decide +kernel
theorem dX7_spawn_158 : decode prog_9_method_22_code 158 = .ok (.goto 9, 3) := by decide +kernel
theorem dX7_spawn_161 : decode prog_9_method_22_code 161 = .ok (.aload_n 0, 1) := by decide +kernel
theorem dX7_spawn_162 : decode prog_9_method_22_code 162 = .ok (.iload 4, 2) := by decide +kernel
theorem dX7_spawn_164 : decode prog_9_method_22_code 164 = .ok (.putfield 179, 3) := by decide +kernel
theorem dX7_spawn_167 : decode prog_9_method_22_code 167 = .ok (.aload_n 0, 1) := by decide +kernel
theorem dX7_spawn_168 : decode prog_9_method_22_code 168 = .ok (.getfield 25, 3) := by decide +kernel
theorem dX7_spawn_171 : decode prog_9_method_22_code 171 = .ok (.iload_n 1, 1) := by decide +kernel
theorem dX7_spawn_172 : decode prog_9_method_22_code 172 = .ok (.dup2, 1) := by decide +kernel
theorem dX7_spawn_173 : decode prog_9_method_22_code 173 = .ok (.iaload, 1) := by decide +kernel
theorem dX7_spawn_174 : decode prog_9_method_22_code 174 = .ok (.iconst 1, 1) := by decide +kernel
theorem dX7_spawn_175 : decode prog_9_method_22_code 175 = .ok (.iadd, 1) := by decide +kernel
theorem dX7_spawn_176 : decode prog_9_method_22_code 176 = .ok (.iastore, 1) := by decide +kernel
theorem dX7_spawn_177 : decode prog_9_method_22_code 177 = .ok (.return_, 1) := by decide +kernel
theorem dX7_join_0 : decode prog_9_method_23_code 0 = .ok (.iload_n 2, 1) := by decide +kernel
theorem dX7_join_1 : decode prog_9_method_23_code 1 = .ok (.bipush 10, 2) := by decide +kernel
theorem dX7_join_3 : decode prog_9_method_23_code 3 = .ok (.if_icmp .ne 9, 3) := by decide +kernel
theorem dX7_join_6 : decode prog_9_method_23_code 6 = .ok (.iload_n 3, 1) := by decide +kernel
theorem dX7_join_7 : decode prog_9_method_23_code 7 = .ok (.iconst 4, 1) := by decide +kernel
theorem dX7_join_8 : decode prog_9_method_23_code 8 = .ok (.idiv, 1) := by decide +kernel
theorem dX7_join_9 : decode prog_9_method_23_code 9 = .ok (.goto 4, 3) := by decide +kernel
theorem dX7_join_12 : decode prog_9_method_23_code 12 = .ok (.iload_n 3, 1) := by decide +kernel
theorem dX7_join_13 : decode prog_9_method_23_code 13 = .ok (.istore 4, 2) := by decide +kernel
theorem dX7_join_15 : decode prog_9_method_23_code 15 = .ok (.iload_n 2, 1) := by decide +kernel
theorem dX7_join_16 : decode prog_9_method_23_code 16 = .ok (.bipush 10, 2) := by decide +kernel
theorem dX7_join_18 : decode prog_9_method_23_code 18 = .ok (.if_icmp .ne 9, 3) := by decide +kernel
theorem dX7_join_21 : decode prog_9_method_23_code 21 = .ok (.iload_n 3, 1) := by decide +kernel
theorem dX7_join_22 : decode prog_9_method_23_code 22 = .ok (.iconst 4, 1) := by decide +kernel
theorem dX7_join_23 : decode prog_9_method_23_code 23 = .ok (.irem, 1) := by decide +kernel
theorem dX7_join_24 : decode prog_9_method_23_code 24 = .ok (.goto 4, 3) := by decide +kernel
theorem dX7_join_27 : decode prog_9_method_23_code 27 = .ok (.iconst 0, 1) := by decide +kernel
theorem dX7_join_28 : decode prog_9_method_23_code 28 = .ok (.istore 5, 2) := by decide +kernel
theorem dX7_join_30 : decode prog_9_method_23_code 30 = .ok (.iconst 2, 1) := by decide +kernel
theorem dX7_join_31 : decode prog_9_method_23_code 31 = .ok (.iload_n 1, 1) := by decide +kernel
theorem dX7_join_32 : decode prog_9_method_23_code 32 = .ok (.imul, 1) := by decide +kernel
theorem dX7_join_33 : decode prog_9_method_23_code 33 = .ok (.iload 4, 2) := by decide +kernel
theorem dX7_join_35 : decode prog_9_method_23_code 35 = .ok (.iadd, 1) := by decide +kernel
theorem dX7_join_36 : decode prog_9_method_23_code 36 = .ok (.istore 6, 2) := by decide +kernel
theorem dX7_join_38 : decode prog_9_method_23_code 38 = .ok (.iload_n 2, 1) := by decide +kernel
theorem dX7_join_39 : decode prog_9_method_23_code 39 = .ok (.bipush 10, 2) := by decide +kernel
theorem dX7_join_41 : decode prog_9_method_23_code 41 = .ok (.if_icmp .ne 21, 3) := by decide +kernel
theorem dX7_join_44 : decode prog_9_method_23_code 44 = .ok (.aload_n 0, 1) := by decide +kernel
theorem dX7_join_45 : decode prog_9_method_23_code 45 = .ok (.getfield 59, 3) := by decide +kernel
theorem dX7_join_48 : decode prog_9_method_23_code 48 = .ok (.iload 6, 2) := by decide +kernel
theorem dX7_join_50 : decode prog_9_method_23_code 50 = .ok (.iaload, 1) := by decide +kernel
theorem dX7_join_51 : decode prog_9_method_23_code 51 = .ok (.ifCond .gt 21, 3) := by decide +kernel
theorem dX7_join_54 : decode prog_9_method_23_code 54 = .ok (.iload 5, 2) := by decide +kernel
theorem dX7_join_56 : decode prog_9_method_23_code 56 = .ok (.ifCond .ne 23, 3) := by decide +kernel
theorem dX7_join_59 : decode prog_9_method_23_code 59 = .ok (.goto 13, 3) := by decide +kernel
theorem dX7_join_62 : decode prog_9_method_23_code 62 = .ok (.aload_n 0, 1) := by decide +kernel
theorem dX7_join_63 : decode prog_9_method_23_code 63 = .ok (.getfield 59, 3) := by decide +kernel
theorem dX7_join_66 : decode prog_9_method_23_code 66 = .ok (.iload 6, 2) := by decide +kernel
theorem dX7_join_68 : decode prog_9_method_23_code 68 = .ok (.iaload, 1) := by decide +kernel
theorem dX7_join_69 : decode prog_9_method_23_code 69 = .ok (.ifCond .ne 10, 3) := by decide +kernel
theorem dX7_join_72 : decode prog_9_method_23_code 72 = .ok (.aload_n 0, 1) := by decide +kernel
theorem dX7_join_73 : decode prog_9_method_23_code 73 = .ok (.iload_n 1, 1) := by decide +kernel
theorem dX7_join_74 : decode prog_9_method_23_code 74 = .ok (.iconst 3, 1) := by decide +kernel
theorem dX7_join_75 : decode prog_9_method_23_code 75 = .ok (.invokevirtual 176, 3) := by decide +kernel
theorem dX7_join_78 : decode prog_9_method_23_code 78 = .ok (.return_, 1) := by decide +kernel
theorem dX7_join_79 : decode prog_9_method_23_code 79 = .ok (.aload_n 0, 1) := by decide +kernel
theorem dX7_join_80 : decode prog_9_method_23_code 80 = .ok (.getfield 59, 3) := by decide +kernel
theorem dX7_join_83 : decode prog_9_method_23_code 83 = .ok (.iload 6, 2) := by decide +kernel
theorem dX7_join_85 : decode prog_9_method_23_code 85 = .ok (.iload 5, 2) := by decide +kernel
theorem dX7_join_87 : decode prog_9_method_23_code 87 = .ok (.iastore, 1) := by decide +kernel
theorem dX7_join_88 : decode prog_9_method_23_code 88 = .ok (.aload_n 0, 1) := by decide +kernel
theorem dX7_join_89 : decode prog_9_method_23_code 89 = .ok (.getfield 62, 3) := by decide +kernel
theorem dX7_join_92 : decode prog_9_method_23_code 92 = .ok (.iload 6, 2) := by decide +kernel
theorem dX7_join_94 : decode prog_9_method_23_code 94 = .ok (.aload_n 0, 1) := by decide +kernel
theorem dX7_join_95 : decode prog_9_method_23_code 95 = .ok (.getfield 68, 3) := by decide +kernel
theorem dX7_join_98 : decode prog_9_method_23_code 98 = .ok (.iload 4, 2) := by decide +kernel
theorem dX7_join_100 : decode prog_9_method_23_code 100 = .ok (.iaload, 1) := by decide +kernel
theorem dX7_join_101 : decode prog_9_method_23_code 101 = .ok (.iastore, 1) := by decide +kernel
theorem dX7_join_102 : decode prog_9_method_23_code 102 = .ok (.aload_n 0, 1) := by decide +kernel
theorem dX7_join_103 : decode prog_9_method_23_code 103 = .ok (.getfield 65, 3) := by decide +kernel
theorem dX7_join_106 : decode prog_9_method_23_code 106 = .ok (.iload 6, 2) := by decide +kernel
theorem dX7_join_108 : decode prog_9_method_23_code 108 = .ok (.aload_n 0, 1) := by decide +kernel
theorem dX7_join_109 : decode prog_9_method_23_code 109 = .ok (.getfield 68, 3) := by decide +kernel
theorem dX7_join_112 : decode prog_9_method_23_code 112 = .ok (.iload 4, 2) := by decide +kernel
theorem dX7_join_114 : decode prog_9_method_23_code 114 = .ok (.iaload, 1) := by decide +kernel
theorem dX7_join_115 : decode prog_9_method_23_code 115 = .ok (.iastore, 1) := by decide +kernel
theorem dX7_join_116 : decode prog_9_method_23_code 116 = .ok (.aload_n 0, 1) := by decide +kernel
theorem dX7_join_117 : decode prog_9_method_23_code 117 = .ok (.invokevirtual 156, 3) := by decide +kernel
theorem dX7_join_120 : decode prog_9_method_23_code 120 = .ok (.aload_n 0, 1) := by decide +kernel
theorem dX7_join_121 : decode prog_9_method_23_code 121 = .ok (.getfield 25, 3) := by decide +kernel
theorem dX7_join_124 : decode prog_9_method_23_code 124 = .ok (.iload_n 1, 1) := by decide +kernel
theorem dX7_join_125 : decode prog_9_method_23_code 125 = .ok (.dup2, 1) := by decide +kernel
theorem dX7_join_126 : decode prog_9_method_23_code 126 = .ok (.iaload, 1) := by decide +kernel
theorem dX7_join_127 : decode prog_9_method_23_code 127 = .ok (.iconst 1, 1) := by decide +kernel
theorem dX7_join_128 : decode prog_9_method_23_code 128 = .ok (.iadd, 1) := by decide +kernel
theorem dX7_join_129 : decode prog_9_method_23_code 129 = .ok (.iastore, 1) := by decide +kernel
theorem dX7_join_130 : decode prog_9_method_23_code 130 = .ok (.return_, 1) := by decide +kernel
theorem dX7_onFuture_0 : decode prog_9_method_24_code 0 = .ok (.iload_n 2, 1) := by decide +kernel
theorem dX7_onFuture_1 : decode prog_9_method_24_code 1 = .ok (.bipush 7, 2) := by decide +kernel
theorem dX7_onFuture_3 : decode prog_9_method_24_code 3 = .ok (.if_icmp .ne 21, 3) := by decide +kernel
theorem dX7_onFuture_6 : decode prog_9_method_24_code 6 = .ok (.aload_n 0, 1) := by decide +kernel
theorem dX7_onFuture_7 : decode prog_9_method_24_code 7 = .ok (.getfield 56, 3) := by decide +kernel
theorem dX7_onFuture_10 : decode prog_9_method_24_code 10 = .ok (.iload_n 3, 1) := by decide +kernel
theorem dX7_onFuture_11 : decode prog_9_method_24_code 11 = .ok (.baload, 1) := by decide +kernel
theorem dX7_onFuture_12 : decode prog_9_method_24_code 12 = .ok (.ifCond .eq 12, 3) := by decide +kernel
theorem dX7_onFuture_15 : decode prog_9_method_24_code 15 = .ok (.aload_n 0, 1) := by decide +kernel
theorem dX7_onFuture_16 : decode prog_9_method_24_code 16 = .ok (.iload_n 1, 1) := by decide +kernel
theorem dX7_onFuture_17 : decode prog_9_method_24_code 17 = .ok (.iconst 2, 1) := by decide +kernel
theorem dX7_onFuture_18 : decode prog_9_method_24_code 18 = .ok (.invokevirtual 176, 3) := by decide +kernel
theorem dX7_onFuture_21 : decode prog_9_method_24_code 21 = .ok (.goto 87, 3) := by decide +kernel
theorem dX7_onFuture_24 : decode prog_9_method_24_code 24 = .ok (.iload_n 2, 1) := by decide +kernel
theorem dX7_onFuture_25 : decode prog_9_method_24_code 25 = .ok (.bipush 8, 2) := by decide +kernel
theorem dX7_onFuture_27 : decode prog_9_method_24_code 27 = .ok (.if_icmp .ne 28, 3) := by decide +kernel
theorem dX7_onFuture_30 : decode prog_9_method_24_code 30 = .ok (.aload_n 0, 1) := by decide +kernel
theorem dX7_onFuture_31 : decode prog_9_method_24_code 31 = .ok (.getfield 56, 3) := by decide +kernel
theorem dX7_onFuture_34 : decode prog_9_method_24_code 34 = .ok (.iload_n 3, 1) := by decide +kernel
theorem dX7_onFuture_35 : decode prog_9_method_24_code 35 = .ok (.baload, 1) := by decide +kernel
theorem dX7_onFuture_36 : decode prog_9_method_24_code 36 = .ok (.ifCond .ne 19, 3) := by decide +kernel
theorem dX7_onFuture_39 : decode prog_9_method_24_code 39 = .ok (.aload_n 0, 1) := by decide +kernel
theorem dX7_onFuture_40 : decode prog_9_method_24_code 40 = .ok (.iload_n 1, 1) := by decide +kernel
theorem dX7_onFuture_41 : decode prog_9_method_24_code 41 = .ok (.iconst 1, 1) := by decide +kernel
theorem dX7_onFuture_42 : decode prog_9_method_24_code 42 = .ok (.invokevirtual 163, 3) := by decide +kernel
theorem dX7_onFuture_45 : decode prog_9_method_24_code 45 = .ok (.aload_n 0, 1) := by decide +kernel
theorem dX7_onFuture_46 : decode prog_9_method_24_code 46 = .ok (.getfield 40, 3) := by decide +kernel
theorem dX7_onFuture_49 : decode prog_9_method_24_code 49 = .ok (.iload_n 1, 1) := by decide +kernel
theorem dX7_onFuture_50 : decode prog_9_method_24_code 50 = .ok (.iload_n 3, 1) := by decide +kernel
theorem dX7_onFuture_51 : decode prog_9_method_24_code 51 = .ok (.iastore, 1) := by decide +kernel
theorem dX7_onFuture_52 : decode prog_9_method_24_code 52 = .ok (.goto 56, 3) := by decide +kernel
theorem dX7_onFuture_55 : decode prog_9_method_24_code 55 = .ok (.iload_n 2, 1) := by decide +kernel
theorem dX7_onFuture_56 : decode prog_9_method_24_code 56 = .ok (.bipush 7, 2) := by decide +kernel
theorem dX7_onFuture_58 : decode prog_9_method_24_code 58 = .ok (.if_icmp .ne 18, 3) := by decide +kernel
theorem dX7_onFuture_61 : decode prog_9_method_24_code 61 = .ok (.aload_n 0, 1) := by decide +kernel
theorem dX7_onFuture_62 : decode prog_9_method_24_code 62 = .ok (.getfield 43, 3) := by decide +kernel
theorem dX7_onFuture_65 : decode prog_9_method_24_code 65 = .ok (.iload_n 3, 1) := by decide +kernel
theorem dX7_onFuture_66 : decode prog_9_method_24_code 66 = .ok (.aload_n 0, 1) := by decide +kernel
theorem dX7_onFuture_67 : decode prog_9_method_24_code 67 = .ok (.getfield 22, 3) := by decide +kernel
theorem dX7_onFuture_70 : decode prog_9_method_24_code 70 = .ok (.iload_n 1, 1) := by decide +kernel
theorem dX7_onFuture_71 : decode prog_9_method_24_code 71 = .ok (.iaload, 1) := by decide +kernel
theorem dX7_onFuture_72 : decode prog_9_method_24_code 72 = .ok (.iastore, 1) := by decide +kernel
theorem dX7_onFuture_73 : decode prog_9_method_24_code 73 = .ok (.goto 18, 3) := by decide +kernel
theorem dX7_onFuture_76 : decode prog_9_method_24_code 76 = .ok (.aload_n 0, 1) := by decide +kernel
theorem dX7_onFuture_77 : decode prog_9_method_24_code 77 = .ok (.getfield 22, 3) := by decide +kernel
theorem dX7_onFuture_80 : decode prog_9_method_24_code 80 = .ok (.iload_n 1, 1) := by decide +kernel
theorem dX7_onFuture_81 : decode prog_9_method_24_code 81 = .ok (.dup2, 1) := by decide +kernel
theorem dX7_onFuture_82 : decode prog_9_method_24_code 82 = .ok (.iaload, 1) := by decide +kernel
theorem dX7_onFuture_83 : decode prog_9_method_24_code 83 = .ok (.aload_n 0, 1) := by decide +kernel
theorem dX7_onFuture_84 : decode prog_9_method_24_code 84 = .ok (.getfield 43, 3) := by decide +kernel
theorem dX7_onFuture_87 : decode prog_9_method_24_code 87 = .ok (.iload_n 3, 1) := by decide +kernel
theorem dX7_onFuture_88 : decode prog_9_method_24_code 88 = .ok (.iaload, 1) := by decide +kernel
theorem dX7_onFuture_89 : decode prog_9_method_24_code 89 = .ok (.iadd, 1) := by decide +kernel
theorem dX7_onFuture_90 : decode prog_9_method_24_code 90 = .ok (.iastore, 1) := by decide +kernel
theorem dX7_onFuture_91 : decode prog_9_method_24_code 91 = .ok (.aload_n 0, 1) := by decide +kernel
theorem dX7_onFuture_92 : decode prog_9_method_24_code 92 = .ok (.getfield 56, 3) := by decide +kernel
theorem dX7_onFuture_95 : decode prog_9_method_24_code 95 = .ok (.iload_n 3, 1) := by decide +kernel
theorem dX7_onFuture_96 : decode prog_9_method_24_code 96 = .ok (.iconst 1, 1) := by decide +kernel
theorem dX7_onFuture_97 : decode prog_9_method_24_code 97 = .ok (.bastore, 1) := by decide +kernel
theorem dX7_onFuture_98 : decode prog_9_method_24_code 98 = .ok (.aload_n 0, 1) := by decide +kernel
theorem dX7_onFuture_99 : decode prog_9_method_24_code 99 = .ok (.getfield 25, 3) := by decide +kernel
theorem dX7_onFuture_102 : decode prog_9_method_24_code 102 = .ok (.iload_n 1, 1) := by decide +kernel
theorem dX7_onFuture_103 : decode prog_9_method_24_code 103 = .ok (.dup2, 1) := by decide +kernel
theorem dX7_onFuture_104 : decode prog_9_method_24_code 104 = .ok (.iaload, 1) := by decide +kernel
theorem dX7_onFuture_105 : decode prog_9_method_24_code 105 = .ok (.iconst 1, 1) := by decide +kernel
theorem dX7_onFuture_106 : decode prog_9_method_24_code 106 = .ok (.iadd, 1) := by decide +kernel
theorem dX7_onFuture_107 : decode prog_9_method_24_code 107 = .ok (.iastore, 1) := by decide +kernel
theorem dX7_onFuture_108 : decode prog_9_method_24_code 108 = .ok (.return_, 1) := by decide +kernel
theorem dX7_onScope_0 : decode prog_9_method_25_code 0 = .ok (.iload_n 2, 1) := by decide +kernel
theorem dX7_onScope_1 : decode prog_9_method_25_code 1 = .ok (.iconst 4, 1) := by decide +kernel
theorem dX7_onScope_2 : decode prog_9_method_25_code 2 = .ok (.if_icmp .ne 22, 3) := by decide +kernel
theorem dX7_onScope_5 : decode prog_9_method_25_code 5 = .ok (.aload_n 0, 1) := by decide +kernel
theorem dX7_onScope_6 : decode prog_9_method_25_code 6 = .ok (.getfield 34, 3) := by decide +kernel
theorem dX7_onScope_9 : decode prog_9_method_25_code 9 = .ok (.iload_n 1, 1) := by decide +kernel
theorem dX7_onScope_10 : decode prog_9_method_25_code 10 = .ok (.iaload, 1) := by decide +kernel
theorem dX7_onScope_11 : decode prog_9_method_25_code 11 = .ok (.iconst 3, 1) := by decide +kernel
theorem dX7_onScope_12 : decode prog_9_method_25_code 12 = .ok (.if_icmp .ne 12, 3) := by decide +kernel
theorem dX7_onScope_15 : decode prog_9_method_25_code 15 = .ok (.aload_n 0, 1) := by decide +kernel
theorem dX7_onScope_16 : decode prog_9_method_25_code 16 = .ok (.iload_n 1, 1) := by decide +kernel
theorem dX7_onScope_17 : decode prog_9_method_25_code 17 = .ok (.iconst 1, 1) := by decide +kernel
theorem dX7_onScope_18 : decode prog_9_method_25_code 18 = .ok (.invokevirtual 176, 3) := by decide +kernel
theorem dX7_onScope_21 : decode prog_9_method_25_code 21 = .ok (.goto 88, 3) := by decide +kernel
theorem dX7_onScope_24 : decode prog_9_method_25_code 24 = .ok (.iload_n 2, 1) := by decide +kernel
theorem dX7_onScope_25 : decode prog_9_method_25_code 25 = .ok (.iconst 5, 1) := by decide +kernel
theorem dX7_onScope_26 : decode prog_9_method_25_code 26 = .ok (.if_icmp .ne 21, 3) := by decide +kernel
theorem dX7_onScope_29 : decode prog_9_method_25_code 29 = .ok (.aload_n 0, 1) := by decide +kernel
theorem dX7_onScope_30 : decode prog_9_method_25_code 30 = .ok (.getfield 34, 3) := by decide +kernel
theorem dX7_onScope_33 : decode prog_9_method_25_code 33 = .ok (.iload_n 1, 1) := by decide +kernel
theorem dX7_onScope_34 : decode prog_9_method_25_code 34 = .ok (.iaload, 1) := by decide +kernel
theorem dX7_onScope_35 : decode prog_9_method_25_code 35 = .ok (.ifCond .ne 12, 3) := by decide +kernel
theorem dX7_onScope_38 : decode prog_9_method_25_code 38 = .ok (.aload_n 0, 1) := by decide +kernel
theorem dX7_onScope_39 : decode prog_9_method_25_code 39 = .ok (.iload_n 1, 1) := by decide +kernel
theorem dX7_onScope_40 : decode prog_9_method_25_code 40 = .ok (.iconst 4, 1) := by decide +kernel
theorem dX7_onScope_41 : decode prog_9_method_25_code 41 = .ok (.invokevirtual 176, 3) := by decide +kernel
theorem dX7_onScope_44 : decode prog_9_method_25_code 44 = .ok (.goto 65, 3) := by decide +kernel
theorem dX7_onScope_47 : decode prog_9_method_25_code 47 = .ok (.iload_n 2, 1) := by decide +kernel
theorem dX7_onScope_48 : decode prog_9_method_25_code 48 = .ok (.iconst 5, 1) := by decide +kernel
theorem dX7_onScope_49 : decode prog_9_method_25_code 49 = .ok (.if_icmp .ne 20, 3) := by decide +kernel
theorem dX7_onScope_52 : decode prog_9_method_25_code 52 = .ok (.aload_n 0, 1) := by decide +kernel
theorem dX7_onScope_53 : decode prog_9_method_25_code 53 = .ok (.getfield 46, 3) := by decide +kernel
theorem dX7_onScope_56 : decode prog_9_method_25_code 56 = .ok (.iload_n 1, 1) := by decide +kernel
theorem dX7_onScope_57 : decode prog_9_method_25_code 57 = .ok (.iconst 1, 1) := by decide +kernel
theorem dX7_onScope_58 : decode prog_9_method_25_code 58 = .ok (.bastore, 1) := by decide +kernel
theorem dX7_onScope_59 : decode prog_9_method_25_code 59 = .ok (.aload_n 0, 1) := by decide +kernel
theorem dX7_onScope_60 : decode prog_9_method_25_code 60 = .ok (.getfield 50, 3) := by decide +kernel
theorem dX7_onScope_63 : decode prog_9_method_25_code 63 = .ok (.iload_n 1, 1) := by decide +kernel
theorem dX7_onScope_64 : decode prog_9_method_25_code 64 = .ok (.iconst 1, 1) := by decide +kernel
theorem dX7_onScope_65 : decode prog_9_method_25_code 65 = .ok (.bastore, 1) := by decide +kernel
theorem dX7_onScope_66 : decode prog_9_method_25_code 66 = .ok (.goto 43, 3) := by decide +kernel
theorem dX7_onScope_69 : decode prog_9_method_25_code 69 = .ok (.aload_n 0, 1) := by decide +kernel
theorem dX7_onScope_70 : decode prog_9_method_25_code 70 = .ok (.iconst 3, 1) := by decide +kernel
theorem dX7_onScope_71 : decode prog_9_method_25_code 71 = .ok (.iload_n 1, 1) := by decide +kernel
theorem dX7_onScope_72 : decode prog_9_method_25_code 72 = .ok (.imul, 1) := by decide +kernel
theorem dX7_onScope_73 : decode prog_9_method_25_code 73 = .ok (.aload_n 0, 1) := by decide +kernel
theorem dX7_onScope_74 : decode prog_9_method_25_code 74 = .ok (.getfield 34, 3) := by decide +kernel
theorem dX7_onScope_77 : decode prog_9_method_25_code 77 = .ok (.iload_n 1, 1) := by decide +kernel
theorem dX7_onScope_78 : decode prog_9_method_25_code 78 = .ok (.iaload, 1) := by decide +kernel
theorem dX7_onScope_79 : decode prog_9_method_25_code 79 = .ok (.iadd, 1) := by decide +kernel
theorem dX7_onScope_80 : decode prog_9_method_25_code 80 = .ok (.iload_n 3, 1) := by decide +kernel
theorem dX7_onScope_81 : decode prog_9_method_25_code 81 = .ok (.iconst 4, 1) := by decide +kernel
theorem dX7_onScope_82 : decode prog_9_method_25_code 82 = .ok (.irem, 1) := by decide +kernel
theorem dX7_onScope_83 : decode prog_9_method_25_code 83 = .ok (.iload_n 3, 1) := by decide +kernel
theorem dX7_onScope_84 : decode prog_9_method_25_code 84 = .ok (.iconst 4, 1) := by decide +kernel
theorem dX7_onScope_85 : decode prog_9_method_25_code 85 = .ok (.idiv, 1) := by decide +kernel
theorem dX7_onScope_86 : decode prog_9_method_25_code 86 = .ok (.invokevirtual 144, 3) := by decide +kernel
theorem dX7_onScope_89 : decode prog_9_method_25_code 89 = .ok (.aload_n 0, 1) := by decide +kernel
theorem dX7_onScope_90 : decode prog_9_method_25_code 90 = .ok (.getfield 34, 3) := by decide +kernel
theorem dX7_onScope_93 : decode prog_9_method_25_code 93 = .ok (.iload_n 1, 1) := by decide +kernel
theorem dX7_onScope_94 : decode prog_9_method_25_code 94 = .ok (.dup2, 1) := by decide +kernel
theorem dX7_onScope_95 : decode prog_9_method_25_code 95 = .ok (.iaload, 1) := by decide +kernel
theorem dX7_onScope_96 : decode prog_9_method_25_code 96 = .ok (.iconst 1, 1) := by decide +kernel
theorem dX7_onScope_97 : decode prog_9_method_25_code 97 = .ok (.iadd, 1) := by decide +kernel
theorem dX7_onScope_98 : decode prog_9_method_25_code 98 = .ok (.iastore, 1) := by decide +kernel
theorem dX7_onScope_99 : decode prog_9_method_25_code 99 = .ok (.aload_n 0, 1) := by decide +kernel
theorem dX7_onScope_100 : decode prog_9_method_25_code 100 = .ok (.getfield 25, 3) := by decide +kernel
theorem dX7_onScope_103 : decode prog_9_method_25_code 103 = .ok (.iload_n 1, 1) := by decide +kernel
theorem dX7_onScope_104 : decode prog_9_method_25_code 104 = .ok (.dup2, 1) := by decide +kernel
theorem dX7_onScope_105 : decode prog_9_method_25_code 105 = .ok (.iaload, 1) := by decide +kernel
theorem dX7_onScope_106 : decode prog_9_method_25_code 106 = .ok (.iconst 1, 1) := by decide +kernel
theorem dX7_onScope_107 : decode prog_9_method_25_code 107 = .ok (.iadd, 1) := by decide +kernel
theorem dX7_onScope_108 : decode prog_9_method_25_code 108 = .ok (.iastore, 1) := by decide +kernel
theorem dX7_onScope_109 : decode prog_9_method_25_code 109 = .ok (.return_, 1) := by decide +kernel
theorem dX7_step_0 : decode prog_9_method_26_code 0 = .ok (.aload_n 0, 1) := by decide +kernel
theorem dX7_step_1 : decode prog_9_method_26_code 1 = .ok (.dup, 1) := by decide +kernel
theorem dX7_step_2 : decode prog_9_method_26_code 2 = .ok (.getfield 129, 3) := by decide +kernel
theorem dX7_step_5 : decode prog_9_method_26_code 5 = .ok (.iconst 1, 1) := by decide +kernel
theorem dX7_step_6 : decode prog_9_method_26_code 6 = .ok (.iadd, 1) := by decide +kernel
theorem dX7_step_7 : decode prog_9_method_26_code 7 = .ok (.putfield 129, 3) := by decide +kernel
theorem dX7_step_10 : decode prog_9_method_26_code 10 = .ok (.aload_n 0, 1) := by decide +kernel
theorem dX7_step_11 : decode prog_9_method_26_code 11 = .ok (.iconst (-1), 1) := by decide +kernel
theorem dX7_step_12 : decode prog_9_method_26_code 12 = .ok (.putfield 179, 3) := by decide +kernel
theorem dX7_step_15 : decode prog_9_method_26_code 15 = .ok (.aload_n 0, 1) := by decide +kernel
theorem dX7_step_16 : decode prog_9_method_26_code 16 = .ok (.getfield 46, 3) := by decide +kernel
theorem dX7_step_19 : decode prog_9_method_26_code 19 = .ok (.iload_n 1, 1) := by decide +kernel
theorem dX7_step_20 : decode prog_9_method_26_code 20 = .ok (.baload, 1) := by decide +kernel
theorem dX7_step_21 : decode prog_9_method_26_code 21 = .ok (.ifCond .eq 9, 3) := by decide +kernel
theorem dX7_step_24 : decode prog_9_method_26_code 24 = .ok (.aload_n 0, 1) := by decide +kernel
theorem dX7_step_25 : decode prog_9_method_26_code 25 = .ok (.iload_n 1, 1) := by decide +kernel
theorem dX7_step_26 : decode prog_9_method_26_code 26 = .ok (.invokevirtual 182, 3) := by decide +kernel
theorem dX7_step_29 : decode prog_9_method_26_code 29 = .ok (.return_, 1) := by decide +kernel
theorem dX7_step_30 : decode prog_9_method_26_code 30 = .ok (.aload_n 0, 1) := by decide +kernel
theorem dX7_step_31 : decode prog_9_method_26_code 31 = .ok (.getfield 28, 3) := by decide +kernel
theorem dX7_step_34 : decode prog_9_method_26_code 34 = .ok (.iload_n 1, 1) := by decide +kernel
theorem dX7_step_35 : decode prog_9_method_26_code 35 = .ok (.iaload, 1) := by decide +kernel
theorem dX7_step_36 : decode prog_9_method_26_code 36 = .ok (.istore_n 2, 1) := by decide +kernel
theorem dX7_step_37 : decode prog_9_method_26_code 37 = .ok (.aload_n 0, 1) := by decide +kernel
theorem dX7_step_38 : decode prog_9_method_26_code 38 = .ok (.getfield 25, 3) := by decide +kernel
theorem dX7_step_41 : decode prog_9_method_26_code 41 = .ok (.iload_n 1, 1) := by decide +kernel
theorem dX7_step_42 : decode prog_9_method_26_code 42 = .ok (.iaload, 1) := by decide +kernel
theorem dX7_step_43 : decode prog_9_method_26_code 43 = .ok (.aload_n 0, 1) := by decide +kernel
theorem dX7_step_44 : decode prog_9_method_26_code 44 = .ok (.getfield 7, 3) := by decide +kernel
theorem dX7_step_47 : decode prog_9_method_26_code 47 = .ok (.iload_n 2, 1) := by decide +kernel
theorem dX7_step_48 : decode prog_9_method_26_code 48 = .ok (.iaload, 1) := by decide +kernel
theorem dX7_step_49 : decode prog_9_method_26_code 49 = .ok (.if_icmp .lt 35, 3) := by decide +kernel
theorem dX7_step_52 : decode prog_9_method_26_code 52 = .ok (.aload_n 0, 1) := by decide +kernel
theorem dX7_step_53 : decode prog_9_method_26_code 53 = .ok (.getfield 34, 3) := by decide +kernel
theorem dX7_step_56 : decode prog_9_method_26_code 56 = .ok (.iload_n 1, 1) := by decide +kernel
theorem dX7_step_57 : decode prog_9_method_26_code 57 = .ok (.iaload, 1) := by decide +kernel
theorem dX7_step_58 : decode prog_9_method_26_code 58 = .ok (.ifCond .ne 11, 3) := by decide +kernel
theorem dX7_step_61 : decode prog_9_method_26_code 61 = .ok (.aload_n 0, 1) := by decide +kernel
theorem dX7_step_62 : decode prog_9_method_26_code 62 = .ok (.iload_n 1, 1) := by decide +kernel
theorem dX7_step_63 : decode prog_9_method_26_code 63 = .ok (.invokevirtual 172, 3) := by decide +kernel
theorem dX7_step_66 : decode prog_9_method_26_code 66 = .ok (.goto 17, 3) := by decide +kernel
theorem dX7_step_69 : decode prog_9_method_26_code 69 = .ok (.aload_n 0, 1) := by decide +kernel
theorem dX7_step_70 : decode prog_9_method_26_code 70 = .ok (.getfield 46, 3) := by decide +kernel
theorem dX7_step_73 : decode prog_9_method_26_code 73 = .ok (.iload_n 1, 1) := by decide +kernel
theorem dX7_step_74 : decode prog_9_method_26_code 74 = .ok (.iconst 1, 1) := by decide +kernel
theorem dX7_step_75 : decode prog_9_method_26_code 75 = .ok (.bastore, 1) := by decide +kernel
theorem dX7_step_76 : decode prog_9_method_26_code 76 = .ok (.aload_n 0, 1) := by decide +kernel
theorem dX7_step_77 : decode prog_9_method_26_code 77 = .ok (.getfield 50, 3) := by decide +kernel
theorem dX7_step_80 : decode prog_9_method_26_code 80 = .ok (.iload_n 1, 1) := by decide +kernel
theorem dX7_step_81 : decode prog_9_method_26_code 81 = .ok (.iconst 0, 1) := by decide +kernel
theorem dX7_step_82 : decode prog_9_method_26_code 82 = .ok (.bastore, 1) := by decide +kernel
theorem dX7_step_83 : decode prog_9_method_26_code 83 = .ok (.return_, 1) := by decide +kernel
theorem dX7_step_84 : decode prog_9_method_26_code 84 = .ok (.aload_n 0, 1) := by decide +kernel
theorem dX7_step_85 : decode prog_9_method_26_code 85 = .ok (.getfield 13, 3) := by decide +kernel
theorem dX7_step_88 : decode prog_9_method_26_code 88 = .ok (.bipush 16, 2) := by decide +kernel
theorem dX7_step_90 : decode prog_9_method_26_code 90 = .ok (.iload_n 2, 1) := by decide +kernel
theorem dX7_step_91 : decode prog_9_method_26_code 91 = .ok (.imul, 1) := by decide +kernel
theorem dX7_step_92 : decode prog_9_method_26_code 92 = .ok (.aload_n 0, 1) := by decide +kernel
theorem dX7_step_93 : decode prog_9_method_26_code 93 = .ok (.getfield 25, 3) := by decide +kernel
theorem dX7_step_96 : decode prog_9_method_26_code 96 = .ok (.iload_n 1, 1) := by decide +kernel
theorem dX7_step_97 : decode prog_9_method_26_code 97 = .ok (.iaload, 1) := by decide +kernel
theorem dX7_step_98 : decode prog_9_method_26_code 98 = .ok (.iadd, 1) := by decide +kernel
theorem dX7_step_99 : decode prog_9_method_26_code 99 = .ok (.iaload, 1) := by decide +kernel
theorem dX7_step_100 : decode prog_9_method_26_code 100 = .ok (.istore_n 3, 1) := by decide +kernel
theorem dX7_step_101 : decode prog_9_method_26_code 101 = .ok (.aload_n 0, 1) := by decide +kernel
theorem dX7_step_102 : decode prog_9_method_26_code 102 = .ok (.getfield 16, 3) := by decide +kernel
theorem dX7_step_105 : decode prog_9_method_26_code 105 = .ok (.bipush 16, 2) := by decide +kernel
theorem dX7_step_107 : decode prog_9_method_26_code 107 = .ok (.iload_n 2, 1) := by decide +kernel
theorem dX7_step_108 : decode prog_9_method_26_code 108 = .ok (.imul, 1) := by decide +kernel
theorem dX7_step_109 : decode prog_9_method_26_code 109 = .ok (.aload_n 0, 1) := by decide +kernel
theorem dX7_step_110 : decode prog_9_method_26_code 110 = .ok (.getfield 25, 3) := by decide +kernel
theorem dX7_step_113 : decode prog_9_method_26_code 113 = .ok (.iload_n 1, 1) := by decide +kernel
theorem dX7_step_114 : decode prog_9_method_26_code 114 = .ok (.iaload, 1) := by decide +kernel
theorem dX7_step_115 : decode prog_9_method_26_code 115 = .ok (.iadd, 1) := by decide +kernel
theorem dX7_step_116 : decode prog_9_method_26_code 116 = .ok (.iaload, 1) := by decide +kernel
theorem dX7_step_117 : decode prog_9_method_26_code 117 = .ok (.istore 4, 2) := by decide +kernel
theorem dX7_step_119 : decode prog_9_method_26_code 119 = .ok (.iload_n 3, 1) := by decide +kernel
theorem dX7_step_120 : decode prog_9_method_26_code 120 = .ok (.tableswitch 208 0 16 #[172, 186, 84, 84, 93, 93, 200, 102, 102, 84, 111, 111, 120, 126, 208, 134, 163], 84) := by decide +kernel
theorem dX7_step_204 : decode prog_9_method_26_code 204 = .ok (.aload_n 0, 1) := by decide +kernel
theorem dX7_step_205 : decode prog_9_method_26_code 205 = .ok (.iload_n 1, 1) := by decide +kernel
theorem dX7_step_206 : decode prog_9_method_26_code 206 = .ok (.iload_n 3, 1) := by decide +kernel
theorem dX7_step_207 : decode prog_9_method_26_code 207 = .ok (.iload 4, 2) := by decide +kernel
theorem dX7_step_209 : decode prog_9_method_26_code 209 = .ok (.invokevirtual 185, 3) := by decide +kernel
theorem dX7_step_212 : decode prog_9_method_26_code 212 = .ok (.return_, 1) := by decide +kernel
theorem dX7_step_213 : decode prog_9_method_26_code 213 = .ok (.aload_n 0, 1) := by decide +kernel
theorem dX7_step_214 : decode prog_9_method_26_code 214 = .ok (.iload_n 1, 1) := by decide +kernel
theorem dX7_step_215 : decode prog_9_method_26_code 215 = .ok (.iload_n 3, 1) := by decide +kernel
theorem dX7_step_216 : decode prog_9_method_26_code 216 = .ok (.iload 4, 2) := by decide +kernel
theorem dX7_step_218 : decode prog_9_method_26_code 218 = .ok (.invokevirtual 188, 3) := by decide +kernel
theorem dX7_step_221 : decode prog_9_method_26_code 221 = .ok (.return_, 1) := by decide +kernel
theorem dX7_step_222 : decode prog_9_method_26_code 222 = .ok (.aload_n 0, 1) := by decide +kernel
theorem dX7_step_223 : decode prog_9_method_26_code 223 = .ok (.iload_n 1, 1) := by decide +kernel
theorem dX7_step_224 : decode prog_9_method_26_code 224 = .ok (.iload_n 3, 1) := by decide +kernel
theorem dX7_step_225 : decode prog_9_method_26_code 225 = .ok (.iload 4, 2) := by decide +kernel
theorem dX7_step_227 : decode prog_9_method_26_code 227 = .ok (.invokevirtual 191, 3) := by decide +kernel
theorem dX7_step_230 : decode prog_9_method_26_code 230 = .ok (.return_, 1) := by decide +kernel
theorem dX7_step_231 : decode prog_9_method_26_code 231 = .ok (.aload_n 0, 1) := by decide +kernel
theorem dX7_step_232 : decode prog_9_method_26_code 232 = .ok (.iload_n 1, 1) := by decide +kernel
theorem dX7_step_233 : decode prog_9_method_26_code 233 = .ok (.iload_n 3, 1) := by decide +kernel
theorem dX7_step_234 : decode prog_9_method_26_code 234 = .ok (.iload 4, 2) := by decide +kernel
theorem dX7_step_236 : decode prog_9_method_26_code 236 = .ok (.invokevirtual 194, 3) := by decide +kernel
theorem dX7_step_239 : decode prog_9_method_26_code 239 = .ok (.return_, 1) := by decide +kernel
theorem dX7_step_240 : decode prog_9_method_26_code 240 = .ok (.aload_n 0, 1) := by decide +kernel
theorem dX7_step_241 : decode prog_9_method_26_code 241 = .ok (.iload_n 1, 1) := by decide +kernel
theorem dX7_step_242 : decode prog_9_method_26_code 242 = .ok (.invokevirtual 197, 3) := by decide +kernel
theorem dX7_step_245 : decode prog_9_method_26_code 245 = .ok (.return_, 1) := by decide +kernel
theorem dX7_step_246 : decode prog_9_method_26_code 246 = .ok (.aload_n 0, 1) := by decide +kernel
theorem dX7_step_247 : decode prog_9_method_26_code 247 = .ok (.iload_n 1, 1) := by decide +kernel
theorem dX7_step_248 : decode prog_9_method_26_code 248 = .ok (.iload 4, 2) := by decide +kernel
theorem dX7_step_250 : decode prog_9_method_26_code 250 = .ok (.invokevirtual 176, 3) := by decide +kernel
theorem dX7_step_253 : decode prog_9_method_26_code 253 = .ok (.return_, 1) := by decide +kernel
theorem dX7_step_254 : decode prog_9_method_26_code 254 = .ok (.aload_n 0, 1) := by decide +kernel
theorem dX7_step_255 : decode prog_9_method_26_code 255 = .ok (.getfield 25, 3) := by decide +kernel
theorem dX7_step_258 : decode prog_9_method_26_code 258 = .ok (.iload_n 1, 1) := by decide +kernel
theorem dX7_step_259 : decode prog_9_method_26_code 259 = .ok (.aload_n 0, 1) := by decide +kernel
theorem dX7_step_260 : decode prog_9_method_26_code 260 = .ok (.getfield 22, 3) := by decide +kernel
theorem dX7_step_263 : decode prog_9_method_26_code 263 = .ok (.iload_n 1, 1) := by decide +kernel
theorem dX7_step_264 : decode prog_9_method_26_code 264 = .ok (.iaload, 1) := by decide +kernel
theorem dX7_step_265 : decode prog_9_method_26_code 265 = .ok (.ifCond .eq 8, 3) := by decide +kernel
theorem dX7_step_268 : decode prog_9_method_26_code 268 = .ok (.iload 4, 2) := by decide +kernel
theorem dX7_step_270 : decode prog_9_method_26_code 270 = .ok (.goto 11, 3) := by decide +kernel
theorem dX7_step_273 : decode prog_9_method_26_code 273 = .ok (.aload_n 0, 1) := by decide +kernel
theorem dX7_step_274 : decode prog_9_method_26_code 274 = .ok (.getfield 25, 3) := by decide +kernel
theorem dX7_step_277 : decode prog_9_method_26_code 277 = .ok (.iload_n 1, 1) := by decide +kernel
theorem dX7_step_278 : decode prog_9_method_26_code 278 = .ok (.iaload, 1) := by decide +kernel
theorem dX7_step_279 : decode prog_9_method_26_code 279 = .ok (.iconst 1, 1) := by decide +kernel
theorem dX7_step_280 : decode prog_9_method_26_code 280 = .ok (.iadd, 1) := by decide +kernel
theorem dX7_step_281 : decode prog_9_method_26_code 281 = .ok (.iastore, 1) := by decide +kernel
theorem dX7_step_282 : decode prog_9_method_26_code 282 = .ok (.return_, 1) := by decide +kernel
theorem dX7_step_283 : decode prog_9_method_26_code 283 = .ok (.aload_n 0, 1) := by decide +kernel
theorem dX7_step_284 : decode prog_9_method_26_code 284 = .ok (.getfield 25, 3) := by decide +kernel
theorem dX7_step_287 : decode prog_9_method_26_code 287 = .ok (.iload_n 1, 1) := by decide +kernel
theorem dX7_step_288 : decode prog_9_method_26_code 288 = .ok (.iload 4, 2) := by decide +kernel
theorem dX7_step_290 : decode prog_9_method_26_code 290 = .ok (.iastore, 1) := by decide +kernel
theorem dX7_step_291 : decode prog_9_method_26_code 291 = .ok (.return_, 1) := by decide +kernel
theorem dX7_step_292 : decode prog_9_method_26_code 292 = .ok (.aload_n 0, 1) := by decide +kernel
theorem dX7_step_293 : decode prog_9_method_26_code 293 = .ok (.getfield 22, 3) := by decide +kernel
theorem dX7_step_296 : decode prog_9_method_26_code 296 = .ok (.iload_n 1, 1) := by decide +kernel
theorem dX7_step_297 : decode prog_9_method_26_code 297 = .ok (.dup2, 1) := by decide +kernel
theorem dX7_step_298 : decode prog_9_method_26_code 298 = .ok (.iaload, 1) := by decide +kernel
theorem dX7_step_299 : decode prog_9_method_26_code 299 = .ok (.iload 4, 2) := by decide +kernel
theorem dX7_step_301 : decode prog_9_method_26_code 301 = .ok (.iadd, 1) := by decide +kernel
theorem dX7_step_302 : decode prog_9_method_26_code 302 = .ok (.iastore, 1) := by decide +kernel
theorem dX7_step_303 : decode prog_9_method_26_code 303 = .ok (.goto 59, 3) := by decide +kernel
theorem dX7_step_306 : decode prog_9_method_26_code 306 = .ok (.aload_n 0, 1) := by decide +kernel
theorem dX7_step_307 : decode prog_9_method_26_code 307 = .ok (.getfield 22, 3) := by decide +kernel
theorem dX7_step_310 : decode prog_9_method_26_code 310 = .ok (.iload_n 1, 1) := by decide +kernel
theorem dX7_step_311 : decode prog_9_method_26_code 311 = .ok (.dup2, 1) := by decide +kernel
theorem dX7_step_312 : decode prog_9_method_26_code 312 = .ok (.iaload, 1) := by decide +kernel
theorem dX7_step_313 : decode prog_9_method_26_code 313 = .ok (.iload 4, 2) := by decide +kernel
theorem dX7_step_315 : decode prog_9_method_26_code 315 = .ok (.imul, 1) := by decide +kernel
theorem dX7_step_316 : decode prog_9_method_26_code 316 = .ok (.iastore, 1) := by decide +kernel
theorem dX7_step_317 : decode prog_9_method_26_code 317 = .ok (.goto 45, 3) := by decide +kernel
theorem dX7_step_320 : decode prog_9_method_26_code 320 = .ok (.aload_n 0, 1) := by decide +kernel
theorem dX7_step_321 : decode prog_9_method_26_code 321 = .ok (.iload_n 1, 1) := by decide +kernel
theorem dX7_step_322 : decode prog_9_method_26_code 322 = .ok (.invokevirtual 200, 3) := by decide +kernel
theorem dX7_step_325 : decode prog_9_method_26_code 325 = .ok (.goto 37, 3) := by decide +kernel
theorem dX7_step_328 : decode prog_9_method_26_code 328 = .ok (.aload_n 0, 1) := by decide +kernel
theorem dX7_step_329 : decode prog_9_method_26_code 329 = .ok (.getfield 135, 3) := by decide +kernel
theorem dX7_step_332 : decode prog_9_method_26_code 332 = .ok (.bipush 40, 2) := by decide +kernel
theorem dX7_step_334 : decode prog_9_method_26_code 334 = .ok (.if_icmp .ge 18, 3) := by decide +kernel
theorem dX7_step_337 : decode prog_9_method_26_code 337 = .ok (.aload_n 0, 1) := by decide +kernel
theorem dX7_step_338 : decode prog_9_method_26_code 338 = .ok (.getfield 98, 3) := by decide +kernel
theorem dX7_step_341 : decode prog_9_method_26_code 341 = .ok (.aload_n 0, 1) := by decide +kernel
theorem dX7_step_342 : decode prog_9_method_26_code 342 = .ok (.getfield 135, 3) := by decide +kernel
theorem dX7_step_345 : decode prog_9_method_26_code 345 = .ok (.aload_n 0, 1) := by decide +kernel
theorem dX7_step_346 : decode prog_9_method_26_code 346 = .ok (.getfield 22, 3) := by decide +kernel
theorem dX7_step_349 : decode prog_9_method_26_code 349 = .ok (.iload_n 1, 1) := by decide +kernel
theorem dX7_step_350 : decode prog_9_method_26_code 350 = .ok (.iaload, 1) := by decide +kernel
theorem dX7_step_351 : decode prog_9_method_26_code 351 = .ok (.iastore, 1) := by decide +kernel
theorem dX7_step_352 : decode prog_9_method_26_code 352 = .ok (.aload_n 0, 1) := by decide +kernel
theorem dX7_step_353 : decode prog_9_method_26_code 353 = .ok (.dup, 1) := by decide +kernel
theorem dX7_step_354 : decode prog_9_method_26_code 354 = .ok (.getfield 135, 3) := by decide +kernel
theorem dX7_step_357 : decode prog_9_method_26_code 357 = .ok (.iconst 1, 1) := by decide +kernel
theorem dX7_step_358 : decode prog_9_method_26_code 358 = .ok (.iadd, 1) := by decide +kernel
theorem dX7_step_359 : decode prog_9_method_26_code 359 = .ok (.putfield 135, 3) := by decide +kernel
theorem dX7_step_362 : decode prog_9_method_26_code 362 = .ok (.aload_n 0, 1) := by decide +kernel
theorem dX7_step_363 : decode prog_9_method_26_code 363 = .ok (.getfield 25, 3) := by decide +kernel
theorem dX7_step_366 : decode prog_9_method_26_code 366 = .ok (.iload_n 1, 1) := by decide +kernel
theorem dX7_step_367 : decode prog_9_method_26_code 367 = .ok (.dup2, 1) := by decide +kernel
theorem dX7_step_368 : decode prog_9_method_26_code 368 = .ok (.iaload, 1) := by decide +kernel
theorem dX7_step_369 : decode prog_9_method_26_code 369 = .ok (.iconst 1, 1) := by decide +kernel
theorem dX7_step_370 : decode prog_9_method_26_code 370 = .ok (.iadd, 1) := by decide +kernel
theorem dX7_step_371 : decode prog_9_method_26_code 371 = .ok (.iastore, 1) := by decide +kernel
theorem dX7_step_372 : decode prog_9_method_26_code 372 = .ok (.return_, 1) := by decide +kernel
theorem dX7_isReady_0 : decode prog_9_method_27_code 0 = .ok (.aload_n 0, 1) := by decide +kernel
theorem dX7_isReady_1 : decode prog_9_method_27_code 1 = .ok (.getfield 37, 3) := by decide +kernel
theorem dX7_isReady_4 : decode prog_9_method_27_code 4 = .ok (.iload_n 1, 1) := by decide +kernel
theorem dX7_isReady_5 : decode prog_9_method_27_code 5 = .ok (.iaload, 1) := by decide +kernel
theorem dX7_isReady_6 : decode prog_9_method_27_code 6 = .ok (.lookupswitch 51 #[(2, 26), (3, 32)], 26) := by decide +kernel
theorem dX7_isReady_32 : decode prog_9_method_27_code 32 = .ok (.aload_n 0, 1) := by decide +kernel
theorem dX7_isReady_33 : decode prog_9_method_27_code 33 = .ok (.iload_n 1, 1) := by decide +kernel
theorem dX7_isReady_34 : decode prog_9_method_27_code 34 = .ok (.invokevirtual 159, 3) := by decide +kernel
theorem dX7_isReady_37 : decode prog_9_method_27_code 37 = .ok (.ireturn, 1) := by decide +kernel
theorem dX7_isReady_38 : decode prog_9_method_27_code 38 = .ok (.aload_n 0, 1) := by decide +kernel
theorem dX7_isReady_39 : decode prog_9_method_27_code 39 = .ok (.getfield 71, 3) := by decide +kernel
theorem dX7_isReady_42 : decode prog_9_method_27_code 42 = .ok (.aload_n 0, 1) := by decide +kernel
theorem dX7_isReady_43 : decode prog_9_method_27_code 43 = .ok (.iload_n 1, 1) := by decide +kernel
theorem dX7_isReady_44 : decode prog_9_method_27_code 44 = .ok (.invokevirtual 166, 3) := by decide +kernel
theorem dX7_isReady_47 : decode prog_9_method_27_code 47 = .ok (.iaload, 1) := by decide +kernel
theorem dX7_isReady_48 : decode prog_9_method_27_code 48 = .ok (.ifCond .ne 7, 3) := by decide +kernel
theorem dX7_isReady_51 : decode prog_9_method_27_code 51 = .ok (.iconst 1, 1) := by decide +kernel
theorem dX7_isReady_52 : decode prog_9_method_27_code 52 = .ok (.goto 4, 3) := by decide +kernel
theorem dX7_isReady_55 : decode prog_9_method_27_code 55 = .ok (.iconst 0, 1) := by decide +kernel
theorem dX7_isReady_56 : decode prog_9_method_27_code 56 = .ok (.ireturn, 1) := by decide +kernel
theorem dX7_isReady_57 : decode prog_9_method_27_code 57 = .ok (.aload_n 0, 1) := by decide +kernel
theorem dX7_isReady_58 : decode prog_9_method_27_code 58 = .ok (.getfield 56, 3) := by decide +kernel
theorem dX7_isReady_61 : decode prog_9_method_27_code 61 = .ok (.aload_n 0, 1) := by decide +kernel
theorem dX7_isReady_62 : decode prog_9_method_27_code 62 = .ok (.getfield 40, 3) := by decide +kernel
theorem dX7_isReady_65 : decode prog_9_method_27_code 65 = .ok (.iload_n 1, 1) := by decide +kernel
theorem dX7_isReady_66 : decode prog_9_method_27_code 66 = .ok (.iaload, 1) := by decide +kernel
theorem dX7_isReady_67 : decode prog_9_method_27_code 67 = .ok (.baload, 1) := by decide +kernel
theorem dX7_isReady_68 : decode prog_9_method_27_code 68 = .ok (.ireturn, 1) := by decide +kernel
theorem dX7_ready_0 : decode prog_9_method_28_code 0 = .ok (.aload_n 0, 1) := by decide +kernel
theorem dX7_ready_1 : decode prog_9_method_28_code 1 = .ok (.getfield 179, 3) := by decide +kernel
theorem dX7_ready_4 : decode prog_9_method_28_code 4 = .ok (.ifCond .lt 40, 3) := by decide +kernel
theorem dX7_ready_7 : decode prog_9_method_28_code 7 = .ok (.aload_n 0, 1) := by decide +kernel
theorem dX7_ready_8 : decode prog_9_method_28_code 8 = .ok (.getfield 141, 3) := by decide +kernel
theorem dX7_ready_11 : decode prog_9_method_28_code 11 = .ok (.iconst 1, 1) := by decide +kernel
theorem dX7_ready_12 : decode prog_9_method_28_code 12 = .ok (.if_icmp .ne 32, 3) := by decide +kernel
theorem dX7_ready_15 : decode prog_9_method_28_code 15 = .ok (.aload_n 0, 1) := by decide +kernel
theorem dX7_ready_16 : decode prog_9_method_28_code 16 = .ok (.iload_n 1, 1) := by decide +kernel
theorem dX7_ready_17 : decode prog_9_method_28_code 17 = .ok (.iload_n 2, 1) := by decide +kernel
theorem dX7_ready_18 : decode prog_9_method_28_code 18 = .ok (.invokevirtual 152, 3) := by decide +kernel
theorem dX7_ready_21 : decode prog_9_method_28_code 21 = .ok (.aload_n 0, 1) := by decide +kernel
theorem dX7_ready_22 : decode prog_9_method_28_code 22 = .ok (.getfield 89, 3) := by decide +kernel
theorem dX7_ready_25 : decode prog_9_method_28_code 25 = .ok (.iload_n 1, 1) := by decide +kernel
theorem dX7_ready_26 : decode prog_9_method_28_code 26 = .ok (.aload_n 0, 1) := by decide +kernel
theorem dX7_ready_27 : decode prog_9_method_28_code 27 = .ok (.getfield 179, 3) := by decide +kernel
theorem dX7_ready_30 : decode prog_9_method_28_code 30 = .ok (.iastore, 1) := by decide +kernel
theorem dX7_ready_31 : decode prog_9_method_28_code 31 = .ok (.aload_n 0, 1) := by decide +kernel
theorem dX7_ready_32 : decode prog_9_method_28_code 32 = .ok (.getfield 19, 3) := by decide +kernel
theorem dX7_ready_35 : decode prog_9_method_28_code 35 = .ok (.aload_n 0, 1) := by decide +kernel
theorem dX7_ready_36 : decode prog_9_method_28_code 36 = .ok (.getfield 179, 3) := by decide +kernel
theorem dX7_ready_39 : decode prog_9_method_28_code 39 = .ok (.iconst 1, 1) := by decide +kernel
theorem dX7_ready_40 : decode prog_9_method_28_code 40 = .ok (.iastore, 1) := by decide +kernel
theorem dX7_ready_41 : decode prog_9_method_28_code 41 = .ok (.goto 19, 3) := by decide +kernel
theorem dX7_ready_44 : decode prog_9_method_28_code 44 = .ok (.aload_n 0, 1) := by decide +kernel
theorem dX7_ready_45 : decode prog_9_method_28_code 45 = .ok (.getfield 179, 3) := by decide +kernel
theorem dX7_ready_48 : decode prog_9_method_28_code 48 = .ok (.ifCond .lt 12, 3) := by decide +kernel
theorem dX7_ready_51 : decode prog_9_method_28_code 51 = .ok (.aload_n 0, 1) := by decide +kernel
theorem dX7_ready_52 : decode prog_9_method_28_code 52 = .ok (.iload_n 1, 1) := by decide +kernel
theorem dX7_ready_53 : decode prog_9_method_28_code 53 = .ok (.aload_n 0, 1) := by decide +kernel
theorem dX7_ready_54 : decode prog_9_method_28_code 54 = .ok (.getfield 179, 3) := by decide +kernel
theorem dX7_ready_57 : decode prog_9_method_28_code 57 = .ok (.invokevirtual 152, 3) := by decide +kernel
theorem dX7_ready_60 : decode prog_9_method_28_code 60 = .ok (.iconst 0, 1) := by decide +kernel
theorem dX7_ready_61 : decode prog_9_method_28_code 61 = .ok (.istore_n 3, 1) := by decide +kernel
theorem dX7_ready_62 : decode prog_9_method_28_code 62 = .ok (.iload_n 3, 1) := by decide +kernel
theorem dX7_ready_63 : decode prog_9_method_28_code 63 = .ok (.aload_n 0, 1) := by decide +kernel
theorem dX7_ready_64 : decode prog_9_method_28_code 64 = .ok (.getfield 119, 3) := by decide +kernel
theorem dX7_ready_67 : decode prog_9_method_28_code 67 = .ok (.if_icmp .ge 55, 3) := by decide +kernel
theorem dX7_ready_70 : decode prog_9_method_28_code 70 = .ok (.aload_n 0, 1) := by decide +kernel
theorem dX7_ready_71 : decode prog_9_method_28_code 71 = .ok (.getfield 19, 3) := by decide +kernel
theorem dX7_ready_74 : decode prog_9_method_28_code 74 = .ok (.iload_n 3, 1) := by decide +kernel
theorem dX7_ready_75 : decode prog_9_method_28_code 75 = .ok (.iaload, 1) := by decide +kernel
theorem dX7_ready_76 : decode prog_9_method_28_code 76 = .ok (.iconst 2, 1) := by decide +kernel
theorem dX7_ready_77 : decode prog_9_method_28_code 77 = .ok (.if_icmp .ne 15, 3) := by decide +kernel
theorem dX7_ready_80 : decode prog_9_method_28_code 80 = .ok (.aload_n 0, 1) := by decide +kernel
theorem dX7_ready_81 : decode prog_9_method_28_code 81 = .ok (.iload_n 3, 1) := by decide +kernel
theorem dX7_ready_82 : decode prog_9_method_28_code 82 = .ok (.invokevirtual 203, 3) := by decide +kernel
theorem dX7_ready_85 : decode prog_9_method_28_code 85 = .ok (.ifCond .eq 7, 3) := by decide +kernel
theorem dX7_ready_88 : decode prog_9_method_28_code 88 = .ok (.iconst 1, 1) := by decide +kernel
theorem dX7_ready_89 : decode prog_9_method_28_code 89 = .ok (.goto 4, 3) := by decide +kernel
theorem dX7_ready_92 : decode prog_9_method_28_code 92 = .ok (.iconst 0, 1) := by decide +kernel
theorem dX7_ready_93 : decode prog_9_method_28_code 93 = .ok (.istore 4, 2) := by decide +kernel
theorem dX7_ready_95 : decode prog_9_method_28_code 95 = .ok (.iload 4, 2) := by decide +kernel
theorem dX7_ready_97 : decode prog_9_method_28_code 97 = .ok (.ifCond .ne 6, 3) := by decide +kernel
theorem dX7_ready_100 : decode prog_9_method_28_code 100 = .ok (.goto 16, 3) := by decide +kernel
theorem dX7_ready_103 : decode prog_9_method_28_code 103 = .ok (.aload_n 0, 1) := by decide +kernel
theorem dX7_ready_104 : decode prog_9_method_28_code 104 = .ok (.getfield 37, 3) := by decide +kernel
theorem dX7_ready_107 : decode prog_9_method_28_code 107 = .ok (.iload_n 3, 1) := by decide +kernel
theorem dX7_ready_108 : decode prog_9_method_28_code 108 = .ok (.iconst 0, 1) := by decide +kernel
theorem dX7_ready_109 : decode prog_9_method_28_code 109 = .ok (.iastore, 1) := by decide +kernel
theorem dX7_ready_110 : decode prog_9_method_28_code 110 = .ok (.aload_n 0, 1) := by decide +kernel
theorem dX7_ready_111 : decode prog_9_method_28_code 111 = .ok (.iload_n 1, 1) := by decide +kernel
theorem dX7_ready_112 : decode prog_9_method_28_code 112 = .ok (.iload_n 3, 1) := by decide +kernel
theorem dX7_ready_113 : decode prog_9_method_28_code 113 = .ok (.invokevirtual 152, 3) := by decide +kernel
theorem dX7_ready_116 : decode prog_9_method_28_code 116 = .ok (.iinc 3 1, 3) := by decide +kernel
theorem dX7_ready_119 : decode prog_9_method_28_code 119 = .ok (.goto (-57), 3) := by decide +kernel
theorem dX7_ready_122 : decode prog_9_method_28_code 122 = .ok (.return_, 1) := by decide +kernel
theorem dX7_take_0 : decode prog_9_method_29_code 0 = .ok (.aload_n 0, 1) := by decide +kernel
theorem dX7_take_1 : decode prog_9_method_29_code 1 = .ok (.getfield 92, 3) := by decide +kernel
theorem dX7_take_4 : decode prog_9_method_29_code 4 = .ok (.iload_n 1, 1) := by decide +kernel
theorem dX7_take_5 : decode prog_9_method_29_code 5 = .ok (.iaload, 1) := by decide +kernel
theorem dX7_take_6 : decode prog_9_method_29_code 6 = .ok (.ifCond .le 30, 3) := by decide +kernel
theorem dX7_take_9 : decode prog_9_method_29_code 9 = .ok (.aload_n 0, 1) := by decide +kernel
theorem dX7_take_10 : decode prog_9_method_29_code 10 = .ok (.getfield 92, 3) := by decide +kernel
theorem dX7_take_13 : decode prog_9_method_29_code 13 = .ok (.iload_n 1, 1) := by decide +kernel
theorem dX7_take_14 : decode prog_9_method_29_code 14 = .ok (.dup2, 1) := by decide +kernel
theorem dX7_take_15 : decode prog_9_method_29_code 15 = .ok (.iaload, 1) := by decide +kernel
theorem dX7_take_16 : decode prog_9_method_29_code 16 = .ok (.iconst 1, 1) := by decide +kernel
theorem dX7_take_17 : decode prog_9_method_29_code 17 = .ok (.isub, 1) := by decide +kernel
theorem dX7_take_18 : decode prog_9_method_29_code 18 = .ok (.iastore, 1) := by decide +kernel
theorem dX7_take_19 : decode prog_9_method_29_code 19 = .ok (.aload_n 0, 1) := by decide +kernel
theorem dX7_take_20 : decode prog_9_method_29_code 20 = .ok (.getfield 95, 3) := by decide +kernel
theorem dX7_take_23 : decode prog_9_method_29_code 23 = .ok (.bipush 48, 2) := by decide +kernel
theorem dX7_take_25 : decode prog_9_method_29_code 25 = .ok (.iload_n 1, 1) := by decide +kernel
theorem dX7_take_26 : decode prog_9_method_29_code 26 = .ok (.imul, 1) := by decide +kernel
theorem dX7_take_27 : decode prog_9_method_29_code 27 = .ok (.aload_n 0, 1) := by decide +kernel
theorem dX7_take_28 : decode prog_9_method_29_code 28 = .ok (.getfield 92, 3) := by decide +kernel
theorem dX7_take_31 : decode prog_9_method_29_code 31 = .ok (.iload_n 1, 1) := by decide +kernel
theorem dX7_take_32 : decode prog_9_method_29_code 32 = .ok (.iaload, 1) := by decide +kernel
theorem dX7_take_33 : decode prog_9_method_29_code 33 = .ok (.iadd, 1) := by decide +kernel
theorem dX7_take_34 : decode prog_9_method_29_code 34 = .ok (.iaload, 1) := by decide +kernel
theorem dX7_take_35 : decode prog_9_method_29_code 35 = .ok (.ireturn, 1) := by decide +kernel
theorem dX7_take_36 : decode prog_9_method_29_code 36 = .ok (.iconst 1, 1) := by decide +kernel
theorem dX7_take_37 : decode prog_9_method_29_code 37 = .ok (.istore_n 2, 1) := by decide +kernel
theorem dX7_take_38 : decode prog_9_method_29_code 38 = .ok (.iload_n 2, 1) := by decide +kernel
theorem dX7_take_39 : decode prog_9_method_29_code 39 = .ok (.aload_n 0, 1) := by decide +kernel
theorem dX7_take_40 : decode prog_9_method_29_code 40 = .ok (.getfield 138, 3) := by decide +kernel
theorem dX7_take_43 : decode prog_9_method_29_code 43 = .ok (.if_icmp .ge 110, 3) := by decide +kernel
theorem dX7_take_46 : decode prog_9_method_29_code 46 = .ok (.iload_n 1, 1) := by decide +kernel
theorem dX7_take_47 : decode prog_9_method_29_code 47 = .ok (.iload_n 2, 1) := by decide +kernel
theorem dX7_take_48 : decode prog_9_method_29_code 48 = .ok (.iadd, 1) := by decide +kernel
theorem dX7_take_49 : decode prog_9_method_29_code 49 = .ok (.aload_n 0, 1) := by decide +kernel
theorem dX7_take_50 : decode prog_9_method_29_code 50 = .ok (.getfield 138, 3) := by decide +kernel
theorem dX7_take_53 : decode prog_9_method_29_code 53 = .ok (.irem, 1) := by decide +kernel
theorem dX7_take_54 : decode prog_9_method_29_code 54 = .ok (.istore_n 3, 1) := by decide +kernel
theorem dX7_take_55 : decode prog_9_method_29_code 55 = .ok (.aload_n 0, 1) := by decide +kernel
theorem dX7_take_56 : decode prog_9_method_29_code 56 = .ok (.getfield 92, 3) := by decide +kernel
theorem dX7_take_59 : decode prog_9_method_29_code 59 = .ok (.iload_n 3, 1) := by decide +kernel
theorem dX7_take_60 : decode prog_9_method_29_code 60 = .ok (.iaload, 1) := by decide +kernel
theorem dX7_take_61 : decode prog_9_method_29_code 61 = .ok (.ifCond .ne 6, 3) := by decide +kernel
theorem dX7_take_64 : decode prog_9_method_29_code 64 = .ok (.goto 83, 3) := by decide +kernel
theorem dX7_take_67 : decode prog_9_method_29_code 67 = .ok (.aload_n 0, 1) := by decide +kernel
theorem dX7_take_68 : decode prog_9_method_29_code 68 = .ok (.getfield 95, 3) := by decide +kernel
theorem dX7_take_71 : decode prog_9_method_29_code 71 = .ok (.bipush 48, 2) := by decide +kernel
theorem dX7_take_73 : decode prog_9_method_29_code 73 = .ok (.iload_n 3, 1) := by decide +kernel
theorem dX7_take_74 : decode prog_9_method_29_code 74 = .ok (.imul, 1) := by decide +kernel
theorem dX7_take_75 : decode prog_9_method_29_code 75 = .ok (.iaload, 1) := by decide +kernel
theorem dX7_take_76 : decode prog_9_method_29_code 76 = .ok (.istore 4, 2) := by decide +kernel
theorem dX7_take_78 : decode prog_9_method_29_code 78 = .ok (.aload_n 0, 1) := by decide +kernel
theorem dX7_take_79 : decode prog_9_method_29_code 79 = .ok (.getfield 92, 3) := by decide +kernel
theorem dX7_take_82 : decode prog_9_method_29_code 82 = .ok (.iload_n 3, 1) := by decide +kernel
theorem dX7_take_83 : decode prog_9_method_29_code 83 = .ok (.dup2, 1) := by decide +kernel
theorem dX7_take_84 : decode prog_9_method_29_code 84 = .ok (.iaload, 1) := by decide +kernel
theorem dX7_take_85 : decode prog_9_method_29_code 85 = .ok (.iconst 1, 1) := by decide +kernel
theorem dX7_take_86 : decode prog_9_method_29_code 86 = .ok (.isub, 1) := by decide +kernel
theorem dX7_take_87 : decode prog_9_method_29_code 87 = .ok (.iastore, 1) := by decide +kernel
theorem dX7_take_88 : decode prog_9_method_29_code 88 = .ok (.iconst 0, 1) := by decide +kernel
theorem dX7_take_89 : decode prog_9_method_29_code 89 = .ok (.istore 5, 2) := by decide +kernel
theorem dX7_take_91 : decode prog_9_method_29_code 91 = .ok (.iload 5, 2) := by decide +kernel
theorem dX7_take_93 : decode prog_9_method_29_code 93 = .ok (.aload_n 0, 1) := by decide +kernel
theorem dX7_take_94 : decode prog_9_method_29_code 94 = .ok (.getfield 92, 3) := by decide +kernel
theorem dX7_take_97 : decode prog_9_method_29_code 97 = .ok (.iload_n 3, 1) := by decide +kernel
theorem dX7_take_98 : decode prog_9_method_29_code 98 = .ok (.iaload, 1) := by decide +kernel
theorem dX7_take_99 : decode prog_9_method_29_code 99 = .ok (.if_icmp .ge 35, 3) := by decide +kernel
theorem dX7_take_102 : decode prog_9_method_29_code 102 = .ok (.aload_n 0, 1) := by decide +kernel
theorem dX7_take_103 : decode prog_9_method_29_code 103 = .ok (.getfield 95, 3) := by decide +kernel
theorem dX7_take_106 : decode prog_9_method_29_code 106 = .ok (.bipush 48, 2) := by decide +kernel
theorem dX7_take_108 : decode prog_9_method_29_code 108 = .ok (.iload_n 3, 1) := by decide +kernel
theorem dX7_take_109 : decode prog_9_method_29_code 109 = .ok (.imul, 1) := by decide +kernel
theorem dX7_take_110 : decode prog_9_method_29_code 110 = .ok (.iload 5, 2) := by decide +kernel
theorem dX7_take_112 : decode prog_9_method_29_code 112 = .ok (.iadd, 1) := by decide +kernel
theorem dX7_take_113 : decode prog_9_method_29_code 113 = .ok (.aload_n 0, 1) := by decide +kernel
theorem dX7_take_114 : decode prog_9_method_29_code 114 = .ok (.getfield 95, 3) := by decide +kernel
theorem dX7_take_117 : decode prog_9_method_29_code 117 = .ok (.bipush 48, 2) := by decide +kernel
theorem dX7_take_119 : decode prog_9_method_29_code 119 = .ok (.iload_n 3, 1) := by decide +kernel
theorem dX7_take_120 : decode prog_9_method_29_code 120 = .ok (.imul, 1) := by decide +kernel
theorem dX7_take_121 : decode prog_9_method_29_code 121 = .ok (.iload 5, 2) := by decide +kernel
theorem dX7_take_123 : decode prog_9_method_29_code 123 = .ok (.iadd, 1) := by decide +kernel
theorem dX7_take_124 : decode prog_9_method_29_code 124 = .ok (.iconst 1, 1) := by decide +kernel
theorem dX7_take_125 : decode prog_9_method_29_code 125 = .ok (.iadd, 1) := by decide +kernel
theorem dX7_take_126 : decode prog_9_method_29_code 126 = .ok (.iaload, 1) := by decide +kernel
theorem dX7_take_127 : decode prog_9_method_29_code 127 = .ok (.iastore, 1) := by decide +kernel
theorem dX7_take_128 : decode prog_9_method_29_code 128 = .ok (.iinc 5 1, 3) := by decide +kernel
theorem dX7_take_131 : decode prog_9_method_29_code 131 = .ok (.goto (-40), 3) := by decide +kernel
theorem dX7_take_134 : decode prog_9_method_29_code 134 = .ok (.aload_n 0, 1) := by decide +kernel
theorem dX7_take_135 : decode prog_9_method_29_code 135 = .ok (.dup, 1) := by decide +kernel
theorem dX7_take_136 : decode prog_9_method_29_code 136 = .ok (.getfield 132, 3) := by decide +kernel
theorem dX7_take_139 : decode prog_9_method_29_code 139 = .ok (.iconst 1, 1) := by decide +kernel
theorem dX7_take_140 : decode prog_9_method_29_code 140 = .ok (.iadd, 1) := by decide +kernel
theorem dX7_take_141 : decode prog_9_method_29_code 141 = .ok (.putfield 132, 3) := by decide +kernel
theorem dX7_take_144 : decode prog_9_method_29_code 144 = .ok (.iload 4, 2) := by decide +kernel
theorem dX7_take_146 : decode prog_9_method_29_code 146 = .ok (.ireturn, 1) := by decide +kernel
theorem dX7_take_147 : decode prog_9_method_29_code 147 = .ok (.iinc 2 1, 3) := by decide +kernel
theorem dX7_take_150 : decode prog_9_method_29_code 150 = .ok (.goto (-112), 3) := by decide +kernel
theorem dX7_take_153 : decode prog_9_method_29_code 153 = .ok (.iconst (-1), 1) := by decide +kernel
theorem dX7_take_154 : decode prog_9_method_29_code 154 = .ok (.ireturn, 1) := by decide +kernel
theorem dX7_work_0 : decode prog_9_method_30_code 0 = .ok (.aload_n 0, 1) := by decide +kernel
theorem dX7_work_1 : decode prog_9_method_30_code 1 = .ok (.getfield 89, 3) := by decide +kernel
theorem dX7_work_4 : decode prog_9_method_30_code 4 = .ok (.iload_n 1, 1) := by decide +kernel
theorem dX7_work_5 : decode prog_9_method_30_code 5 = .ok (.iaload, 1) := by decide +kernel
theorem dX7_work_6 : decode prog_9_method_30_code 6 = .ok (.istore_n 2, 1) := by decide +kernel
theorem dX7_work_7 : decode prog_9_method_30_code 7 = .ok (.iload_n 2, 1) := by decide +kernel
theorem dX7_work_8 : decode prog_9_method_30_code 8 = .ok (.ifCond .ge 28, 3) := by decide +kernel
theorem dX7_work_11 : decode prog_9_method_30_code 11 = .ok (.aload_n 0, 1) := by decide +kernel
theorem dX7_work_12 : decode prog_9_method_30_code 12 = .ok (.iload_n 1, 1) := by decide +kernel
theorem dX7_work_13 : decode prog_9_method_30_code 13 = .ok (.invokevirtual 206, 3) := by decide +kernel
theorem dX7_work_16 : decode prog_9_method_30_code 16 = .ok (.istore_n 2, 1) := by decide +kernel
theorem dX7_work_17 : decode prog_9_method_30_code 17 = .ok (.aload_n 0, 1) := by decide +kernel
theorem dX7_work_18 : decode prog_9_method_30_code 18 = .ok (.getfield 89, 3) := by decide +kernel
theorem dX7_work_21 : decode prog_9_method_30_code 21 = .ok (.iload_n 1, 1) := by decide +kernel
theorem dX7_work_22 : decode prog_9_method_30_code 22 = .ok (.iload_n 2, 1) := by decide +kernel
theorem dX7_work_23 : decode prog_9_method_30_code 23 = .ok (.iastore, 1) := by decide +kernel
theorem dX7_work_24 : decode prog_9_method_30_code 24 = .ok (.iload_n 2, 1) := by decide +kernel
theorem dX7_work_25 : decode prog_9_method_30_code 25 = .ok (.ifCond .lt 10, 3) := by decide +kernel
theorem dX7_work_28 : decode prog_9_method_30_code 28 = .ok (.aload_n 0, 1) := by decide +kernel
theorem dX7_work_29 : decode prog_9_method_30_code 29 = .ok (.getfield 19, 3) := by decide +kernel
theorem dX7_work_32 : decode prog_9_method_30_code 32 = .ok (.iload_n 2, 1) := by decide +kernel
theorem dX7_work_33 : decode prog_9_method_30_code 33 = .ok (.iconst 1, 1) := by decide +kernel
theorem dX7_work_34 : decode prog_9_method_30_code 34 = .ok (.iastore, 1) := by decide +kernel
theorem dX7_work_35 : decode prog_9_method_30_code 35 = .ok (.return_, 1) := by decide +kernel
theorem dX7_work_36 : decode prog_9_method_30_code 36 = .ok (.aload_n 0, 1) := by decide +kernel
theorem dX7_work_37 : decode prog_9_method_30_code 37 = .ok (.iload_n 2, 1) := by decide +kernel
theorem dX7_work_38 : decode prog_9_method_30_code 38 = .ok (.invokevirtual 209, 3) := by decide +kernel
theorem dX7_work_41 : decode prog_9_method_30_code 41 = .ok (.aload_n 0, 1) := by decide +kernel
theorem dX7_work_42 : decode prog_9_method_30_code 42 = .ok (.getfield 19, 3) := by decide +kernel
theorem dX7_work_45 : decode prog_9_method_30_code 45 = .ok (.iload_n 2, 1) := by decide +kernel
theorem dX7_work_46 : decode prog_9_method_30_code 46 = .ok (.iaload, 1) := by decide +kernel
theorem dX7_work_47 : decode prog_9_method_30_code 47 = .ok (.iconst 1, 1) := by decide +kernel
theorem dX7_work_48 : decode prog_9_method_30_code 48 = .ok (.if_icmp .eq 10, 3) := by decide +kernel
theorem dX7_work_51 : decode prog_9_method_30_code 51 = .ok (.aload_n 0, 1) := by decide +kernel
theorem dX7_work_52 : decode prog_9_method_30_code 52 = .ok (.getfield 89, 3) := by decide +kernel
theorem dX7_work_55 : decode prog_9_method_30_code 55 = .ok (.iload_n 1, 1) := by decide +kernel
theorem dX7_work_56 : decode prog_9_method_30_code 56 = .ok (.iconst (-1), 1) := by decide +kernel
theorem dX7_work_57 : decode prog_9_method_30_code 57 = .ok (.iastore, 1) := by decide +kernel
theorem dX7_work_58 : decode prog_9_method_30_code 58 = .ok (.aload_n 0, 1) := by decide +kernel
theorem dX7_work_59 : decode prog_9_method_30_code 59 = .ok (.iload_n 1, 1) := by decide +kernel
theorem dX7_work_60 : decode prog_9_method_30_code 60 = .ok (.iload_n 2, 1) := by decide +kernel
theorem dX7_work_61 : decode prog_9_method_30_code 61 = .ok (.invokevirtual 212, 3) := by decide +kernel
theorem dX7_work_64 : decode prog_9_method_30_code 64 = .ok (.return_, 1) := by decide +kernel
theorem dX7_isOver_0 : decode prog_9_method_31_code 0 = .ok (.aload_n 0, 1) := by decide +kernel
theorem dX7_isOver_1 : decode prog_9_method_31_code 1 = .ok (.getfield 122, 3) := by decide +kernel
theorem dX7_isOver_4 : decode prog_9_method_31_code 4 = .ok (.ifCond .eq 18, 3) := by decide +kernel
theorem dX7_isOver_7 : decode prog_9_method_31_code 7 = .ok (.aload_n 0, 1) := by decide +kernel
theorem dX7_isOver_8 : decode prog_9_method_31_code 8 = .ok (.getfield 71, 3) := by decide +kernel
theorem dX7_isOver_11 : decode prog_9_method_31_code 11 = .ok (.sipush 144, 3) := by decide +kernel
theorem dX7_isOver_14 : decode prog_9_method_31_code 14 = .ok (.iaload, 1) := by decide +kernel
theorem dX7_isOver_15 : decode prog_9_method_31_code 15 = .ok (.ifCond .ne 7, 3) := by decide +kernel
theorem dX7_isOver_18 : decode prog_9_method_31_code 18 = .ok (.iconst 1, 1) := by decide +kernel
theorem dX7_isOver_19 : decode prog_9_method_31_code 19 = .ok (.goto 4, 3) := by decide +kernel
theorem dX7_isOver_22 : decode prog_9_method_31_code 22 = .ok (.iconst 0, 1) := by decide +kernel
theorem dX7_isOver_23 : decode prog_9_method_31_code 23 = .ok (.ireturn, 1) := by decide +kernel
theorem dX7_isStuck_0 : decode prog_9_method_32_code 0 = .ok (.iconst 0, 1) := by decide +kernel
theorem dX7_isStuck_1 : decode prog_9_method_32_code 1 = .ok (.istore_n 1, 1) := by decide +kernel
theorem dX7_isStuck_2 : decode prog_9_method_32_code 2 = .ok (.iload_n 1, 1) := by decide +kernel
theorem dX7_isStuck_3 : decode prog_9_method_32_code 3 = .ok (.aload_n 0, 1) := by decide +kernel
theorem dX7_isStuck_4 : decode prog_9_method_32_code 4 = .ok (.getfield 138, 3) := by decide +kernel
theorem dX7_isStuck_7 : decode prog_9_method_32_code 7 = .ok (.if_icmp .ge 29, 3) := by decide +kernel
theorem dX7_isStuck_10 : decode prog_9_method_32_code 10 = .ok (.aload_n 0, 1) := by decide +kernel
theorem dX7_isStuck_11 : decode prog_9_method_32_code 11 = .ok (.getfield 89, 3) := by decide +kernel
theorem dX7_isStuck_14 : decode prog_9_method_32_code 14 = .ok (.iload_n 1, 1) := by decide +kernel
theorem dX7_isStuck_15 : decode prog_9_method_32_code 15 = .ok (.iaload, 1) := by decide +kernel
theorem dX7_isStuck_16 : decode prog_9_method_32_code 16 = .ok (.ifCond .ge 12, 3) := by decide +kernel
theorem dX7_isStuck_19 : decode prog_9_method_32_code 19 = .ok (.aload_n 0, 1) := by decide +kernel
theorem dX7_isStuck_20 : decode prog_9_method_32_code 20 = .ok (.getfield 92, 3) := by decide +kernel
theorem dX7_isStuck_23 : decode prog_9_method_32_code 23 = .ok (.iload_n 1, 1) := by decide +kernel
theorem dX7_isStuck_24 : decode prog_9_method_32_code 24 = .ok (.iaload, 1) := by decide +kernel
theorem dX7_isStuck_25 : decode prog_9_method_32_code 25 = .ok (.ifCond .le 5, 3) := by decide +kernel
theorem dX7_isStuck_28 : decode prog_9_method_32_code 28 = .ok (.iconst 0, 1) := by decide +kernel
theorem dX7_isStuck_29 : decode prog_9_method_32_code 29 = .ok (.ireturn, 1) := by decide +kernel
theorem dX7_isStuck_30 : decode prog_9_method_32_code 30 = .ok (.iinc 1 1, 3) := by decide +kernel
theorem dX7_isStuck_33 : decode prog_9_method_32_code 33 = .ok (.goto (-31), 3) := by decide +kernel
theorem dX7_isStuck_36 : decode prog_9_method_32_code 36 = .ok (.aload_n 0, 1) := by decide +kernel
theorem dX7_isStuck_37 : decode prog_9_method_32_code 37 = .ok (.getfield 71, 3) := by decide +kernel
theorem dX7_isStuck_40 : decode prog_9_method_32_code 40 = .ok (.sipush 144, 3) := by decide +kernel
theorem dX7_isStuck_43 : decode prog_9_method_32_code 43 = .ok (.iaload, 1) := by decide +kernel
theorem dX7_isStuck_44 : decode prog_9_method_32_code 44 = .ok (.ifCond .le 7, 3) := by decide +kernel
theorem dX7_isStuck_47 : decode prog_9_method_32_code 47 = .ok (.iconst 1, 1) := by decide +kernel
theorem dX7_isStuck_48 : decode prog_9_method_32_code 48 = .ok (.goto 4, 3) := by decide +kernel
theorem dX7_isStuck_51 : decode prog_9_method_32_code 51 = .ok (.iconst 0, 1) := by decide +kernel
theorem dX7_isStuck_52 : decode prog_9_method_32_code 52 = .ok (.ireturn, 1) := by decide +kernel
theorem dX7_run_0 : decode prog_9_method_33_code 0 = .ok (.iload_n 1, 1) := by decide +kernel
theorem dX7_run_1 : decode prog_9_method_33_code 1 = .ok (.iconst 0, 1) := by decide +kernel
theorem dX7_run_2 : decode prog_9_method_33_code 2 = .ok (.sipush 200, 3) := by decide +kernel
theorem dX7_run_5 : decode prog_9_method_33_code 5 = .ok (.invokestatic 105, 3) := by decide +kernel
theorem dX7_run_8 : decode prog_9_method_33_code 8 = .ok (.ifCond .ne 9, 3) := by decide +kernel
theorem dX7_run_11 : decode prog_9_method_33_code 11 = .ok (.aload_n 0, 1) := by decide +kernel
theorem dX7_run_12 : decode prog_9_method_33_code 12 = .ok (.iconst 1, 1) := by decide +kernel
theorem dX7_run_13 : decode prog_9_method_33_code 13 = .ok (.invokevirtual 109, 3) := by decide +kernel
theorem dX7_run_16 : decode prog_9_method_33_code 16 = .ok (.ireturn, 1) := by decide +kernel
theorem dX7_run_17 : decode prog_9_method_33_code 17 = .ok (.aload_n 0, 1) := by decide +kernel
theorem dX7_run_18 : decode prog_9_method_33_code 18 = .ok (.getfield 122, 3) := by decide +kernel
theorem dX7_run_21 : decode prog_9_method_33_code 21 = .ok (.ifCond .ne 9, 3) := by decide +kernel
theorem dX7_run_24 : decode prog_9_method_33_code 24 = .ok (.aload_n 0, 1) := by decide +kernel
theorem dX7_run_25 : decode prog_9_method_33_code 25 = .ok (.iconst 2, 1) := by decide +kernel
theorem dX7_run_26 : decode prog_9_method_33_code 26 = .ok (.invokevirtual 109, 3) := by decide +kernel
theorem dX7_run_29 : decode prog_9_method_33_code 29 = .ok (.ireturn, 1) := by decide +kernel
theorem dX7_run_30 : decode prog_9_method_33_code 30 = .ok (.aload_n 0, 1) := by decide +kernel
theorem dX7_run_31 : decode prog_9_method_33_code 31 = .ok (.iconst 0, 1) := by decide +kernel
theorem dX7_run_32 : decode prog_9_method_33_code 32 = .ok (.putfield 101, 3) := by decide +kernel
theorem dX7_run_35 : decode prog_9_method_33_code 35 = .ok (.iconst 0, 1) := by decide +kernel
theorem dX7_run_36 : decode prog_9_method_33_code 36 = .ok (.istore_n 2, 1) := by decide +kernel
theorem dX7_run_37 : decode prog_9_method_33_code 37 = .ok (.iload_n 2, 1) := by decide +kernel
theorem dX7_run_38 : decode prog_9_method_33_code 38 = .ok (.iload_n 1, 1) := by decide +kernel
theorem dX7_run_39 : decode prog_9_method_33_code 39 = .ok (.if_icmp .ge 66, 3) := by decide +kernel
theorem dX7_run_42 : decode prog_9_method_33_code 42 = .ok (.aload_n 0, 1) := by decide +kernel
theorem dX7_run_43 : decode prog_9_method_33_code 43 = .ok (.invokevirtual 215, 3) := by decide +kernel
theorem dX7_run_46 : decode prog_9_method_33_code 46 = .ok (.istore_n 3, 1) := by decide +kernel
theorem dX7_run_47 : decode prog_9_method_33_code 47 = .ok (.aload_n 0, 1) := by decide +kernel
theorem dX7_run_48 : decode prog_9_method_33_code 48 = .ok (.invokevirtual 219, 3) := by decide +kernel
theorem dX7_run_51 : decode prog_9_method_33_code 51 = .ok (.istore 4, 2) := by decide +kernel
theorem dX7_run_53 : decode prog_9_method_33_code 53 = .ok (.iload_n 3, 1) := by decide +kernel
theorem dX7_run_54 : decode prog_9_method_33_code 54 = .ok (.ifCond .ne 51, 3) := by decide +kernel
theorem dX7_run_57 : decode prog_9_method_33_code 57 = .ok (.iload 4, 2) := by decide +kernel
theorem dX7_run_59 : decode prog_9_method_33_code 59 = .ok (.ifCond .eq 6, 3) := by decide +kernel
theorem dX7_run_62 : decode prog_9_method_33_code 62 = .ok (.goto 43, 3) := by decide +kernel
theorem dX7_run_65 : decode prog_9_method_33_code 65 = .ok (.iconst 0, 1) := by decide +kernel
theorem dX7_run_66 : decode prog_9_method_33_code 66 = .ok (.istore 5, 2) := by decide +kernel
theorem dX7_run_68 : decode prog_9_method_33_code 68 = .ok (.iload 5, 2) := by decide +kernel
theorem dX7_run_70 : decode prog_9_method_33_code 70 = .ok (.aload_n 0, 1) := by decide +kernel
theorem dX7_run_71 : decode prog_9_method_33_code 71 = .ok (.getfield 138, 3) := by decide +kernel
theorem dX7_run_74 : decode prog_9_method_33_code 74 = .ok (.if_icmp .ge 15, 3) := by decide +kernel
theorem dX7_run_77 : decode prog_9_method_33_code 77 = .ok (.aload_n 0, 1) := by decide +kernel
theorem dX7_run_78 : decode prog_9_method_33_code 78 = .ok (.iload 5, 2) := by decide +kernel
theorem dX7_run_80 : decode prog_9_method_33_code 80 = .ok (.invokevirtual 222, 3) := by decide +kernel
theorem dX7_run_83 : decode prog_9_method_33_code 83 = .ok (.iinc 5 1, 3) := by decide +kernel
theorem dX7_run_86 : decode prog_9_method_33_code 86 = .ok (.goto (-18), 3) := by decide +kernel
theorem dX7_run_89 : decode prog_9_method_33_code 89 = .ok (.aload_n 0, 1) := by decide +kernel
theorem dX7_run_90 : decode prog_9_method_33_code 90 = .ok (.dup, 1) := by decide +kernel
theorem dX7_run_91 : decode prog_9_method_33_code 91 = .ok (.getfield 126, 3) := by decide +kernel
theorem dX7_run_94 : decode prog_9_method_33_code 94 = .ok (.iconst 1, 1) := by decide +kernel
theorem dX7_run_95 : decode prog_9_method_33_code 95 = .ok (.iadd, 1) := by decide +kernel
theorem dX7_run_96 : decode prog_9_method_33_code 96 = .ok (.putfield 126, 3) := by decide +kernel
theorem dX7_run_99 : decode prog_9_method_33_code 99 = .ok (.iinc 2 1, 3) := by decide +kernel
theorem dX7_run_102 : decode prog_9_method_33_code 102 = .ok (.goto (-65), 3) := by decide +kernel
theorem dX7_run_105 : decode prog_9_method_33_code 105 = .ok (.aload_n 0, 1) := by decide +kernel
theorem dX7_run_106 : decode prog_9_method_33_code 106 = .ok (.invokevirtual 219, 3) := by decide +kernel
theorem dX7_run_109 : decode prog_9_method_33_code 109 = .ok (.istore_n 2, 1) := by decide +kernel
theorem dX7_run_110 : decode prog_9_method_33_code 110 = .ok (.iload_n 2, 1) := by decide +kernel
theorem dX7_run_111 : decode prog_9_method_33_code 111 = .ok (.ifCond .eq 9, 3) := by decide +kernel
theorem dX7_run_114 : decode prog_9_method_33_code 114 = .ok (.aload_n 0, 1) := by decide +kernel
theorem dX7_run_115 : decode prog_9_method_33_code 115 = .ok (.iconst 3, 1) := by decide +kernel
theorem dX7_run_116 : decode prog_9_method_33_code 116 = .ok (.invokevirtual 109, 3) := by decide +kernel
theorem dX7_run_119 : decode prog_9_method_33_code 119 = .ok (.ireturn, 1) := by decide +kernel
theorem dX7_run_120 : decode prog_9_method_33_code 120 = .ok (.aload_n 0, 1) := by decide +kernel
theorem dX7_run_121 : decode prog_9_method_33_code 121 = .ok (.getfield 71, 3) := by decide +kernel
theorem dX7_run_124 : decode prog_9_method_33_code 124 = .ok (.sipush 144, 3) := by decide +kernel
theorem dX7_run_127 : decode prog_9_method_33_code 127 = .ok (.iaload, 1) := by decide +kernel
theorem dX7_run_128 : decode prog_9_method_33_code 128 = .ok (.ifCond .ne 7, 3) := by decide +kernel
theorem dX7_run_131 : decode prog_9_method_33_code 131 = .ok (.iconst 1, 1) := by decide +kernel
theorem dX7_run_132 : decode prog_9_method_33_code 132 = .ok (.goto 4, 3) := by decide +kernel
theorem dX7_run_135 : decode prog_9_method_33_code 135 = .ok (.iconst 0, 1) := by decide +kernel
theorem dX7_run_136 : decode prog_9_method_33_code 136 = .ok (.ireturn, 1) := by decide +kernel
theorem dX7_result_0 : decode prog_9_method_34_code 0 = .ok (.aload_n 0, 1) := by decide +kernel
theorem dX7_result_1 : decode prog_9_method_34_code 1 = .ok (.invokevirtual 215, 3) := by decide +kernel
theorem dX7_result_4 : decode prog_9_method_34_code 4 = .ok (.istore_n 1, 1) := by decide +kernel
theorem dX7_result_5 : decode prog_9_method_34_code 5 = .ok (.iload_n 1, 1) := by decide +kernel
theorem dX7_result_6 : decode prog_9_method_34_code 6 = .ok (.ifCond .ne 9, 3) := by decide +kernel
theorem dX7_result_9 : decode prog_9_method_34_code 9 = .ok (.aload_n 0, 1) := by decide +kernel
theorem dX7_result_10 : decode prog_9_method_34_code 10 = .ok (.iconst 1, 1) := by decide +kernel
theorem dX7_result_11 : decode prog_9_method_34_code 11 = .ok (.invokevirtual 109, 3) := by decide +kernel
theorem dX7_result_14 : decode prog_9_method_34_code 14 = .ok (.ireturn, 1) := by decide +kernel
theorem dX7_result_15 : decode prog_9_method_34_code 15 = .ok (.aload_n 0, 1) := by decide +kernel
theorem dX7_result_16 : decode prog_9_method_34_code 16 = .ok (.getfield 83, 3) := by decide +kernel
theorem dX7_result_19 : decode prog_9_method_34_code 19 = .ok (.sipush 144, 3) := by decide +kernel
theorem dX7_result_22 : decode prog_9_method_34_code 22 = .ok (.iaload, 1) := by decide +kernel
theorem dX7_result_23 : decode prog_9_method_34_code 23 = .ok (.ifCond .le 9, 3) := by decide +kernel
theorem dX7_result_26 : decode prog_9_method_34_code 26 = .ok (.aload_n 0, 1) := by decide +kernel
theorem dX7_result_27 : decode prog_9_method_34_code 27 = .ok (.iconst 2, 1) := by decide +kernel
theorem dX7_result_28 : decode prog_9_method_34_code 28 = .ok (.invokevirtual 109, 3) := by decide +kernel
theorem dX7_result_31 : decode prog_9_method_34_code 31 = .ok (.ireturn, 1) := by decide +kernel
theorem dX7_result_32 : decode prog_9_method_34_code 32 = .ok (.aload_n 0, 1) := by decide +kernel
theorem dX7_result_33 : decode prog_9_method_34_code 33 = .ok (.iconst 0, 1) := by decide +kernel
theorem dX7_result_34 : decode prog_9_method_34_code 34 = .ok (.putfield 101, 3) := by decide +kernel
theorem dX7_result_37 : decode prog_9_method_34_code 37 = .ok (.aload_n 0, 1) := by decide +kernel
theorem dX7_result_38 : decode prog_9_method_34_code 38 = .ok (.getfield 22, 3) := by decide +kernel
theorem dX7_result_41 : decode prog_9_method_34_code 41 = .ok (.iconst 0, 1) := by decide +kernel
theorem dX7_result_42 : decode prog_9_method_34_code 42 = .ok (.iaload, 1) := by decide +kernel
theorem dX7_result_43 : decode prog_9_method_34_code 43 = .ok (.aload_n 0, 1) := by decide +kernel
theorem dX7_result_44 : decode prog_9_method_34_code 44 = .ok (.getfield 74, 3) := by decide +kernel
theorem dX7_result_47 : decode prog_9_method_34_code 47 = .ok (.sipush 144, 3) := by decide +kernel
theorem dX7_result_50 : decode prog_9_method_34_code 50 = .ok (.iaload, 1) := by decide +kernel
theorem dX7_result_51 : decode prog_9_method_34_code 51 = .ok (.iadd, 1) := by decide +kernel
theorem dX7_result_52 : decode prog_9_method_34_code 52 = .ok (.ireturn, 1) := by decide +kernel
theorem dX7_said_0 : decode prog_9_method_35_code 0 = .ok (.aload_n 0, 1) := by decide +kernel
theorem dX7_said_1 : decode prog_9_method_35_code 1 = .ok (.iload_n 1, 1) := by decide +kernel
theorem dX7_said_2 : decode prog_9_method_35_code 2 = .ok (.iconst 0, 1) := by decide +kernel
theorem dX7_said_3 : decode prog_9_method_35_code 3 = .ok (.aload_n 0, 1) := by decide +kernel
theorem dX7_said_4 : decode prog_9_method_35_code 4 = .ok (.getfield 135, 3) := by decide +kernel
theorem dX7_said_7 : decode prog_9_method_35_code 7 = .ok (.bipush 40, 2) := by decide +kernel
theorem dX7_said_9 : decode prog_9_method_35_code 9 = .ok (.if_icmp .ge 10, 3) := by decide +kernel
theorem dX7_said_12 : decode prog_9_method_35_code 12 = .ok (.aload_n 0, 1) := by decide +kernel
theorem dX7_said_13 : decode prog_9_method_35_code 13 = .ok (.getfield 135, 3) := by decide +kernel
theorem dX7_said_16 : decode prog_9_method_35_code 16 = .ok (.goto 5, 3) := by decide +kernel
theorem dX7_said_19 : decode prog_9_method_35_code 19 = .ok (.bipush 40, 2) := by decide +kernel
theorem dX7_said_21 : decode prog_9_method_35_code 21 = .ok (.iconst 1, 1) := by decide +kernel
theorem dX7_said_22 : decode prog_9_method_35_code 22 = .ok (.isub, 1) := by decide +kernel
theorem dX7_said_23 : decode prog_9_method_35_code 23 = .ok (.invokestatic 105, 3) := by decide +kernel
theorem dX7_said_26 : decode prog_9_method_35_code 26 = .ok (.ifCond .eq 7, 3) := by decide +kernel
theorem dX7_said_29 : decode prog_9_method_35_code 29 = .ok (.iconst 0, 1) := by decide +kernel
theorem dX7_said_30 : decode prog_9_method_35_code 30 = .ok (.goto 4, 3) := by decide +kernel
theorem dX7_said_33 : decode prog_9_method_35_code 33 = .ok (.iconst 1, 1) := by decide +kernel
theorem dX7_said_34 : decode prog_9_method_35_code 34 = .ok (.putfield 101, 3) := by decide +kernel
theorem dX7_said_37 : decode prog_9_method_35_code 37 = .ok (.aload_n 0, 1) := by decide +kernel
theorem dX7_said_38 : decode prog_9_method_35_code 38 = .ok (.getfield 101, 3) := by decide +kernel
theorem dX7_said_41 : decode prog_9_method_35_code 41 = .ok (.ifCond .le 7, 3) := by decide +kernel
theorem dX7_said_44 : decode prog_9_method_35_code 44 = .ok (.iconst 0, 1) := by decide +kernel
theorem dX7_said_45 : decode prog_9_method_35_code 45 = .ok (.goto 9, 3) := by decide +kernel
theorem dX7_said_48 : decode prog_9_method_35_code 48 = .ok (.aload_n 0, 1) := by decide +kernel
theorem dX7_said_49 : decode prog_9_method_35_code 49 = .ok (.getfield 98, 3) := by decide +kernel
theorem dX7_said_52 : decode prog_9_method_35_code 52 = .ok (.iload_n 1, 1) := by decide +kernel
theorem dX7_said_53 : decode prog_9_method_35_code 53 = .ok (.iaload, 1) := by decide +kernel
theorem dX7_said_54 : decode prog_9_method_35_code 54 = .ok (.ireturn, 1) := by decide +kernel
theorem dX7_task_0 : decode prog_9_method_36_code 0 = .ok (.iload_n 2, 1) := by decide +kernel
theorem dX7_task_1 : decode prog_9_method_36_code 1 = .ok (.iconst 0, 1) := by decide +kernel
theorem dX7_task_2 : decode prog_9_method_36_code 2 = .ok (.bipush 6, 2) := by decide +kernel
theorem dX7_task_4 : decode prog_9_method_36_code 4 = .ok (.invokestatic 105, 3) := by decide +kernel
theorem dX7_task_7 : decode prog_9_method_36_code 7 = .ok (.ifCond .ne 9, 3) := by decide +kernel
theorem dX7_task_10 : decode prog_9_method_36_code 10 = .ok (.aload_n 0, 1) := by decide +kernel
theorem dX7_task_11 : decode prog_9_method_36_code 11 = .ok (.iconst 1, 1) := by decide +kernel
theorem dX7_task_12 : decode prog_9_method_36_code 12 = .ok (.invokevirtual 109, 3) := by decide +kernel
theorem dX7_task_15 : decode prog_9_method_36_code 15 = .ok (.ireturn, 1) := by decide +kernel
theorem dX7_task_16 : decode prog_9_method_36_code 16 = .ok (.aload_n 0, 1) := by decide +kernel
theorem dX7_task_17 : decode prog_9_method_36_code 17 = .ok (.getfield 122, 3) := by decide +kernel
theorem dX7_task_20 : decode prog_9_method_36_code 20 = .ok (.ifCond .eq 17, 3) := by decide +kernel
theorem dX7_task_23 : decode prog_9_method_36_code 23 = .ok (.iload_n 1, 1) := by decide +kernel
theorem dX7_task_24 : decode prog_9_method_36_code 24 = .ok (.iconst 0, 1) := by decide +kernel
theorem dX7_task_25 : decode prog_9_method_36_code 25 = .ok (.aload_n 0, 1) := by decide +kernel
theorem dX7_task_26 : decode prog_9_method_36_code 26 = .ok (.getfield 119, 3) := by decide +kernel
theorem dX7_task_29 : decode prog_9_method_36_code 29 = .ok (.iconst 1, 1) := by decide +kernel
theorem dX7_task_30 : decode prog_9_method_36_code 30 = .ok (.isub, 1) := by decide +kernel
theorem dX7_task_31 : decode prog_9_method_36_code 31 = .ok (.invokestatic 105, 3) := by decide +kernel
theorem dX7_task_34 : decode prog_9_method_36_code 34 = .ok (.ifCond .ne 9, 3) := by decide +kernel
theorem dX7_task_37 : decode prog_9_method_36_code 37 = .ok (.aload_n 0, 1) := by decide +kernel
theorem dX7_task_38 : decode prog_9_method_36_code 38 = .ok (.iconst 2, 1) := by decide +kernel
theorem dX7_task_39 : decode prog_9_method_36_code 39 = .ok (.invokevirtual 109, 3) := by decide +kernel
theorem dX7_task_42 : decode prog_9_method_36_code 42 = .ok (.ireturn, 1) := by decide +kernel
theorem dX7_task_43 : decode prog_9_method_36_code 43 = .ok (.aload_n 0, 1) := by decide +kernel
theorem dX7_task_44 : decode prog_9_method_36_code 44 = .ok (.iconst 0, 1) := by decide +kernel
theorem dX7_task_45 : decode prog_9_method_36_code 45 = .ok (.putfield 101, 3) := by decide +kernel
theorem dX7_task_48 : decode prog_9_method_36_code 48 = .ok (.iload_n 2, 1) := by decide +kernel
theorem dX7_task_49 : decode prog_9_method_36_code 49 = .ok (.tableswitch 70 0 4 #[35, 42, 49, 56, 63], 35) := by decide +kernel
theorem dX7_task_84 : decode prog_9_method_36_code 84 = .ok (.aload_n 0, 1) := by decide +kernel
theorem dX7_task_85 : decode prog_9_method_36_code 85 = .ok (.getfield 19, 3) := by decide +kernel
theorem dX7_task_88 : decode prog_9_method_36_code 88 = .ok (.iload_n 1, 1) := by decide +kernel
theorem dX7_task_89 : decode prog_9_method_36_code 89 = .ok (.iaload, 1) := by decide +kernel
theorem dX7_task_90 : decode prog_9_method_36_code 90 = .ok (.ireturn, 1) := by decide +kernel
theorem dX7_task_91 : decode prog_9_method_36_code 91 = .ok (.aload_n 0, 1) := by decide +kernel
theorem dX7_task_92 : decode prog_9_method_36_code 92 = .ok (.getfield 22, 3) := by decide +kernel
theorem dX7_task_95 : decode prog_9_method_36_code 95 = .ok (.iload_n 1, 1) := by decide +kernel
theorem dX7_task_96 : decode prog_9_method_36_code 96 = .ok (.iaload, 1) := by decide +kernel
theorem dX7_task_97 : decode prog_9_method_36_code 97 = .ok (.ireturn, 1) := by decide +kernel
theorem dX7_task_98 : decode prog_9_method_36_code 98 = .ok (.aload_n 0, 1) := by decide +kernel
theorem dX7_task_99 : decode prog_9_method_36_code 99 = .ok (.getfield 25, 3) := by decide +kernel
theorem dX7_task_102 : decode prog_9_method_36_code 102 = .ok (.iload_n 1, 1) := by decide +kernel
theorem dX7_task_103 : decode prog_9_method_36_code 103 = .ok (.iaload, 1) := by decide +kernel
theorem dX7_task_104 : decode prog_9_method_36_code 104 = .ok (.ireturn, 1) := by decide +kernel
theorem dX7_task_105 : decode prog_9_method_36_code 105 = .ok (.aload_n 0, 1) := by decide +kernel
theorem dX7_task_106 : decode prog_9_method_36_code 106 = .ok (.getfield 28, 3) := by decide +kernel
theorem dX7_task_109 : decode prog_9_method_36_code 109 = .ok (.iload_n 1, 1) := by decide +kernel
theorem dX7_task_110 : decode prog_9_method_36_code 110 = .ok (.iaload, 1) := by decide +kernel
theorem dX7_task_111 : decode prog_9_method_36_code 111 = .ok (.ireturn, 1) := by decide +kernel
theorem dX7_task_112 : decode prog_9_method_36_code 112 = .ok (.aload_n 0, 1) := by decide +kernel
theorem dX7_task_113 : decode prog_9_method_36_code 113 = .ok (.getfield 34, 3) := by decide +kernel
theorem dX7_task_116 : decode prog_9_method_36_code 116 = .ok (.iload_n 1, 1) := by decide +kernel
theorem dX7_task_117 : decode prog_9_method_36_code 117 = .ok (.iaload, 1) := by decide +kernel
theorem dX7_task_118 : decode prog_9_method_36_code 118 = .ok (.ireturn, 1) := by decide +kernel
theorem dX7_task_119 : decode prog_9_method_36_code 119 = .ok (.aload_n 0, 1) := by decide +kernel
theorem dX7_task_120 : decode prog_9_method_36_code 120 = .ok (.getfield 59, 3) := by decide +kernel
theorem dX7_task_123 : decode prog_9_method_36_code 123 = .ok (.iconst 2, 1) := by decide +kernel
theorem dX7_task_124 : decode prog_9_method_36_code 124 = .ok (.iload_n 1, 1) := by decide +kernel
theorem dX7_task_125 : decode prog_9_method_36_code 125 = .ok (.imul, 1) := by decide +kernel
theorem dX7_task_126 : decode prog_9_method_36_code 126 = .ok (.iload_n 2, 1) := by decide +kernel
theorem dX7_task_127 : decode prog_9_method_36_code 127 = .ok (.iadd, 1) := by decide +kernel
theorem dX7_task_128 : decode prog_9_method_36_code 128 = .ok (.iconst 5, 1) := by decide +kernel
theorem dX7_task_129 : decode prog_9_method_36_code 129 = .ok (.isub, 1) := by decide +kernel
theorem dX7_task_130 : decode prog_9_method_36_code 130 = .ok (.iaload, 1) := by decide +kernel
theorem dX7_task_131 : decode prog_9_method_36_code 131 = .ok (.ireturn, 1) := by decide +kernel
theorem dX7_future_0 : decode prog_9_method_37_code 0 = .ok (.aload_n 0, 1) := by decide +kernel
theorem dX7_future_1 : decode prog_9_method_37_code 1 = .ok (.iload_n 1, 1) := by decide +kernel
theorem dX7_future_2 : decode prog_9_method_37_code 2 = .ok (.iconst 0, 1) := by decide +kernel
theorem dX7_future_3 : decode prog_9_method_37_code 3 = .ok (.iconst 3, 1) := by decide +kernel
theorem dX7_future_4 : decode prog_9_method_37_code 4 = .ok (.invokestatic 105, 3) := by decide +kernel
theorem dX7_future_7 : decode prog_9_method_37_code 7 = .ok (.ifCond .ne 7, 3) := by decide +kernel
theorem dX7_future_10 : decode prog_9_method_37_code 10 = .ok (.iconst 1, 1) := by decide +kernel
theorem dX7_future_11 : decode prog_9_method_37_code 11 = .ok (.goto 17, 3) := by decide +kernel
theorem dX7_future_14 : decode prog_9_method_37_code 14 = .ok (.aload_n 0, 1) := by decide +kernel
theorem dX7_future_15 : decode prog_9_method_37_code 15 = .ok (.getfield 56, 3) := by decide +kernel
theorem dX7_future_18 : decode prog_9_method_37_code 18 = .ok (.iload_n 1, 1) := by decide +kernel
theorem dX7_future_19 : decode prog_9_method_37_code 19 = .ok (.baload, 1) := by decide +kernel
theorem dX7_future_20 : decode prog_9_method_37_code 20 = .ok (.ifCond .ne 7, 3) := by decide +kernel
theorem dX7_future_23 : decode prog_9_method_37_code 23 = .ok (.iconst 2, 1) := by decide +kernel
theorem dX7_future_24 : decode prog_9_method_37_code 24 = .ok (.goto 4, 3) := by decide +kernel
theorem dX7_future_27 : decode prog_9_method_37_code 27 = .ok (.iconst 0, 1) := by decide +kernel
theorem dX7_future_28 : decode prog_9_method_37_code 28 = .ok (.putfield 101, 3) := by decide +kernel
theorem dX7_future_31 : decode prog_9_method_37_code 31 = .ok (.aload_n 0, 1) := by decide +kernel
theorem dX7_future_32 : decode prog_9_method_37_code 32 = .ok (.getfield 101, 3) := by decide +kernel
theorem dX7_future_35 : decode prog_9_method_37_code 35 = .ok (.ifCond .le 7, 3) := by decide +kernel
theorem dX7_future_38 : decode prog_9_method_37_code 38 = .ok (.iconst 0, 1) := by decide +kernel
theorem dX7_future_39 : decode prog_9_method_37_code 39 = .ok (.goto 9, 3) := by decide +kernel
theorem dX7_future_42 : decode prog_9_method_37_code 42 = .ok (.aload_n 0, 1) := by decide +kernel
theorem dX7_future_43 : decode prog_9_method_37_code 43 = .ok (.getfield 43, 3) := by decide +kernel
theorem dX7_future_46 : decode prog_9_method_37_code 46 = .ok (.iload_n 1, 1) := by decide +kernel
theorem dX7_future_47 : decode prog_9_method_37_code 47 = .ok (.iaload, 1) := by decide +kernel
theorem dX7_future_48 : decode prog_9_method_37_code 48 = .ok (.ireturn, 1) := by decide +kernel
theorem dX7_queuedAt_0 : decode prog_9_method_38_code 0 = .ok (.aload_n 0, 1) := by decide +kernel
theorem dX7_queuedAt_1 : decode prog_9_method_38_code 1 = .ok (.getfield 122, 3) := by decide +kernel
theorem dX7_queuedAt_4 : decode prog_9_method_38_code 4 = .ok (.ifCond .eq 35, 3) := by decide +kernel
theorem dX7_queuedAt_7 : decode prog_9_method_38_code 7 = .ok (.iload_n 1, 1) := by decide +kernel
theorem dX7_queuedAt_8 : decode prog_9_method_38_code 8 = .ok (.aload_n 0, 1) := by decide +kernel
theorem dX7_queuedAt_9 : decode prog_9_method_38_code 9 = .ok (.getfield 138, 3) := by decide +kernel
theorem dX7_queuedAt_12 : decode prog_9_method_38_code 12 = .ok (.if_icmp .ge 27, 3) := by decide +kernel
theorem dX7_queuedAt_15 : decode prog_9_method_38_code 15 = .ok (.iload_n 2, 1) := by decide +kernel
theorem dX7_queuedAt_16 : decode prog_9_method_38_code 16 = .ok (.aload_n 0, 1) := by decide +kernel
theorem dX7_queuedAt_17 : decode prog_9_method_38_code 17 = .ok (.getfield 92, 3) := by decide +kernel
theorem dX7_queuedAt_20 : decode prog_9_method_38_code 20 = .ok (.iload_n 1, 1) := by decide +kernel
theorem dX7_queuedAt_21 : decode prog_9_method_38_code 21 = .ok (.iaload, 1) := by decide +kernel
theorem dX7_queuedAt_22 : decode prog_9_method_38_code 22 = .ok (.if_icmp .ge 17, 3) := by decide +kernel
theorem dX7_queuedAt_25 : decode prog_9_method_38_code 25 = .ok (.aload_n 0, 1) := by decide +kernel
theorem dX7_queuedAt_26 : decode prog_9_method_38_code 26 = .ok (.getfield 95, 3) := by decide +kernel
theorem dX7_queuedAt_29 : decode prog_9_method_38_code 29 = .ok (.bipush 48, 2) := by decide +kernel
theorem dX7_queuedAt_31 : decode prog_9_method_38_code 31 = .ok (.iload_n 1, 1) := by decide +kernel
theorem dX7_queuedAt_32 : decode prog_9_method_38_code 32 = .ok (.imul, 1) := by decide +kernel
theorem dX7_queuedAt_33 : decode prog_9_method_38_code 33 = .ok (.iload_n 2, 1) := by decide +kernel
theorem dX7_queuedAt_34 : decode prog_9_method_38_code 34 = .ok (.iadd, 1) := by decide +kernel
theorem dX7_queuedAt_35 : decode prog_9_method_38_code 35 = .ok (.iaload, 1) := by decide +kernel
theorem dX7_queuedAt_36 : decode prog_9_method_38_code 36 = .ok (.goto 4, 3) := by decide +kernel
theorem dX7_queuedAt_39 : decode prog_9_method_38_code 39 = .ok (.iconst (-1), 1) := by decide +kernel
theorem dX7_queuedAt_40 : decode prog_9_method_38_code 40 = .ok (.ireturn, 1) := by decide +kernel
theorem dX7_count_0 : decode prog_9_method_39_code 0 = .ok (.iload_n 1, 1) := by decide +kernel
theorem dX7_count_1 : decode prog_9_method_39_code 1 = .ok (.bipush 20, 2) := by decide +kernel
theorem dX7_count_3 : decode prog_9_method_39_code 3 = .ok (.bipush 22, 2) := by decide +kernel
theorem dX7_count_5 : decode prog_9_method_39_code 5 = .ok (.invokestatic 105, 3) := by decide +kernel
theorem dX7_count_8 : decode prog_9_method_39_code 8 = .ok (.ifCond .ne 37, 3) := by decide +kernel
theorem dX7_count_11 : decode prog_9_method_39_code 11 = .ok (.iload_n 1, 1) := by decide +kernel
theorem dX7_count_12 : decode prog_9_method_39_code 12 = .ok (.bipush 30, 2) := by decide +kernel
theorem dX7_count_14 : decode prog_9_method_39_code 14 = .ok (.bipush 32, 2) := by decide +kernel
theorem dX7_count_16 : decode prog_9_method_39_code 16 = .ok (.invokestatic 105, 3) := by decide +kernel
theorem dX7_count_19 : decode prog_9_method_39_code 19 = .ok (.ifCond .ne 26, 3) := by decide +kernel
theorem dX7_count_22 : decode prog_9_method_39_code 22 = .ok (.iload_n 1, 1) := by decide +kernel
theorem dX7_count_23 : decode prog_9_method_39_code 23 = .ok (.bipush 40, 2) := by decide +kernel
theorem dX7_count_25 : decode prog_9_method_39_code 25 = .ok (.bipush 87, 2) := by decide +kernel
theorem dX7_count_27 : decode prog_9_method_39_code 27 = .ok (.invokestatic 105, 3) := by decide +kernel
theorem dX7_count_30 : decode prog_9_method_39_code 30 = .ok (.ifCond .ne 15, 3) := by decide +kernel
theorem dX7_count_33 : decode prog_9_method_39_code 33 = .ok (.iload_n 1, 1) := by decide +kernel
theorem dX7_count_34 : decode prog_9_method_39_code 34 = .ok (.bipush 100, 2) := by decide +kernel
theorem dX7_count_36 : decode prog_9_method_39_code 36 = .ok (.sipush 147, 3) := by decide +kernel
theorem dX7_count_39 : decode prog_9_method_39_code 39 = .ok (.invokestatic 105, 3) := by decide +kernel
theorem dX7_count_42 : decode prog_9_method_39_code 42 = .ok (.ifCond .eq 7, 3) := by decide +kernel
theorem dX7_count_45 : decode prog_9_method_39_code 45 = .ok (.iconst 1, 1) := by decide +kernel
theorem dX7_count_46 : decode prog_9_method_39_code 46 = .ok (.goto 4, 3) := by decide +kernel
theorem dX7_count_49 : decode prog_9_method_39_code 49 = .ok (.iconst 0, 1) := by decide +kernel
theorem dX7_count_50 : decode prog_9_method_39_code 50 = .ok (.istore_n 2, 1) := by decide +kernel
theorem dX7_count_51 : decode prog_9_method_39_code 51 = .ok (.iload_n 1, 1) := by decide +kernel
theorem dX7_count_52 : decode prog_9_method_39_code 52 = .ok (.iconst 0, 1) := by decide +kernel
theorem dX7_count_53 : decode prog_9_method_39_code 53 = .ok (.bipush 10, 2) := by decide +kernel
theorem dX7_count_55 : decode prog_9_method_39_code 55 = .ok (.invokestatic 105, 3) := by decide +kernel
theorem dX7_count_58 : decode prog_9_method_39_code 58 = .ok (.ifCond .ne 13, 3) := by decide +kernel
theorem dX7_count_61 : decode prog_9_method_39_code 61 = .ok (.iload_n 2, 1) := by decide +kernel
theorem dX7_count_62 : decode prog_9_method_39_code 62 = .ok (.ifCond .ne 9, 3) := by decide +kernel
theorem dX7_count_65 : decode prog_9_method_39_code 65 = .ok (.aload_n 0, 1) := by decide +kernel
theorem dX7_count_66 : decode prog_9_method_39_code 66 = .ok (.iconst 1, 1) := by decide +kernel
theorem dX7_count_67 : decode prog_9_method_39_code 67 = .ok (.invokevirtual 109, 3) := by decide +kernel
theorem dX7_count_70 : decode prog_9_method_39_code 70 = .ok (.ireturn, 1) := by decide +kernel
theorem dX7_count_71 : decode prog_9_method_39_code 71 = .ok (.aload_n 0, 1) := by decide +kernel
theorem dX7_count_72 : decode prog_9_method_39_code 72 = .ok (.iconst 0, 1) := by decide +kernel
theorem dX7_count_73 : decode prog_9_method_39_code 73 = .ok (.putfield 101, 3) := by decide +kernel
theorem dX7_count_76 : decode prog_9_method_39_code 76 = .ok (.iload_n 1, 1) := by decide +kernel
theorem dX7_count_77 : decode prog_9_method_39_code 77 = .ok (.bipush 99, 2) := by decide +kernel
theorem dX7_count_79 : decode prog_9_method_39_code 79 = .ok (.if_icmp .le 13, 3) := by decide +kernel
theorem dX7_count_82 : decode prog_9_method_39_code 82 = .ok (.aload_n 0, 1) := by decide +kernel
theorem dX7_count_83 : decode prog_9_method_39_code 83 = .ok (.iconst 1, 1) := by decide +kernel
theorem dX7_count_84 : decode prog_9_method_39_code 84 = .ok (.iload_n 1, 1) := by decide +kernel
theorem dX7_count_85 : decode prog_9_method_39_code 85 = .ok (.bipush 100, 2) := by decide +kernel
theorem dX7_count_87 : decode prog_9_method_39_code 87 = .ok (.isub, 1) := by decide +kernel
theorem dX7_count_88 : decode prog_9_method_39_code 88 = .ok (.invokevirtual 225, 3) := by decide +kernel
theorem dX7_count_91 : decode prog_9_method_39_code 91 = .ok (.ireturn, 1) := by decide +kernel
theorem dX7_count_92 : decode prog_9_method_39_code 92 = .ok (.iload_n 1, 1) := by decide +kernel
theorem dX7_count_93 : decode prog_9_method_39_code 93 = .ok (.bipush 39, 2) := by decide +kernel
theorem dX7_count_95 : decode prog_9_method_39_code 95 = .ok (.if_icmp .le 13, 3) := by decide +kernel
theorem dX7_count_98 : decode prog_9_method_39_code 98 = .ok (.aload_n 0, 1) := by decide +kernel
theorem dX7_count_99 : decode prog_9_method_39_code 99 = .ok (.iconst 0, 1) := by decide +kernel
theorem dX7_count_100 : decode prog_9_method_39_code 100 = .ok (.iload_n 1, 1) := by decide +kernel
theorem dX7_count_101 : decode prog_9_method_39_code 101 = .ok (.bipush 40, 2) := by decide +kernel
theorem dX7_count_103 : decode prog_9_method_39_code 103 = .ok (.isub, 1) := by decide +kernel
theorem dX7_count_104 : decode prog_9_method_39_code 104 = .ok (.invokevirtual 225, 3) := by decide +kernel
theorem dX7_count_107 : decode prog_9_method_39_code 107 = .ok (.ireturn, 1) := by decide +kernel
theorem dX7_count_108 : decode prog_9_method_39_code 108 = .ok (.iload_n 1, 1) := by decide +kernel
theorem dX7_count_109 : decode prog_9_method_39_code 109 = .ok (.bipush 29, 2) := by decide +kernel
theorem dX7_count_111 : decode prog_9_method_39_code 111 = .ok (.if_icmp .le 35, 3) := by decide +kernel
theorem dX7_count_114 : decode prog_9_method_39_code 114 = .ok (.aload_n 0, 1) := by decide +kernel
theorem dX7_count_115 : decode prog_9_method_39_code 115 = .ok (.getfield 122, 3) := by decide +kernel
theorem dX7_count_118 : decode prog_9_method_39_code 118 = .ok (.ifCond .eq 26, 3) := by decide +kernel
theorem dX7_count_121 : decode prog_9_method_39_code 121 = .ok (.iload_n 1, 1) := by decide +kernel
theorem dX7_count_122 : decode prog_9_method_39_code 122 = .ok (.bipush 30, 2) := by decide +kernel
theorem dX7_count_124 : decode prog_9_method_39_code 124 = .ok (.isub, 1) := by decide +kernel
theorem dX7_count_125 : decode prog_9_method_39_code 125 = .ok (.aload_n 0, 1) := by decide +kernel
theorem dX7_count_126 : decode prog_9_method_39_code 126 = .ok (.getfield 138, 3) := by decide +kernel
theorem dX7_count_129 : decode prog_9_method_39_code 129 = .ok (.if_icmp .ge 15, 3) := by decide +kernel
theorem dX7_count_132 : decode prog_9_method_39_code 132 = .ok (.aload_n 0, 1) := by decide +kernel
theorem dX7_count_133 : decode prog_9_method_39_code 133 = .ok (.getfield 92, 3) := by decide +kernel
theorem dX7_count_136 : decode prog_9_method_39_code 136 = .ok (.iload_n 1, 1) := by decide +kernel
theorem dX7_count_137 : decode prog_9_method_39_code 137 = .ok (.bipush 30, 2) := by decide +kernel
theorem dX7_count_139 : decode prog_9_method_39_code 139 = .ok (.isub, 1) := by decide +kernel
theorem dX7_count_140 : decode prog_9_method_39_code 140 = .ok (.iaload, 1) := by decide +kernel
theorem dX7_count_141 : decode prog_9_method_39_code 141 = .ok (.goto 4, 3) := by decide +kernel
theorem dX7_count_144 : decode prog_9_method_39_code 144 = .ok (.iconst 0, 1) := by decide +kernel
theorem dX7_count_145 : decode prog_9_method_39_code 145 = .ok (.ireturn, 1) := by decide +kernel
theorem dX7_count_146 : decode prog_9_method_39_code 146 = .ok (.iload_n 1, 1) := by decide +kernel
theorem dX7_count_147 : decode prog_9_method_39_code 147 = .ok (.bipush 19, 2) := by decide +kernel
theorem dX7_count_149 : decode prog_9_method_39_code 149 = .ok (.if_icmp .le 35, 3) := by decide +kernel
theorem dX7_count_152 : decode prog_9_method_39_code 152 = .ok (.aload_n 0, 1) := by decide +kernel
theorem dX7_count_153 : decode prog_9_method_39_code 153 = .ok (.getfield 122, 3) := by decide +kernel
theorem dX7_count_156 : decode prog_9_method_39_code 156 = .ok (.ifCond .eq 26, 3) := by decide +kernel
theorem dX7_count_159 : decode prog_9_method_39_code 159 = .ok (.iload_n 1, 1) := by decide +kernel
theorem dX7_count_160 : decode prog_9_method_39_code 160 = .ok (.bipush 20, 2) := by decide +kernel
theorem dX7_count_162 : decode prog_9_method_39_code 162 = .ok (.isub, 1) := by decide +kernel
theorem dX7_count_163 : decode prog_9_method_39_code 163 = .ok (.aload_n 0, 1) := by decide +kernel
theorem dX7_count_164 : decode prog_9_method_39_code 164 = .ok (.getfield 138, 3) := by decide +kernel
theorem dX7_count_167 : decode prog_9_method_39_code 167 = .ok (.if_icmp .ge 15, 3) := by decide +kernel
theorem dX7_count_170 : decode prog_9_method_39_code 170 = .ok (.aload_n 0, 1) := by decide +kernel
theorem dX7_count_171 : decode prog_9_method_39_code 171 = .ok (.getfield 89, 3) := by decide +kernel
theorem dX7_count_174 : decode prog_9_method_39_code 174 = .ok (.iload_n 1, 1) := by decide +kernel
theorem dX7_count_175 : decode prog_9_method_39_code 175 = .ok (.bipush 20, 2) := by decide +kernel
theorem dX7_count_177 : decode prog_9_method_39_code 177 = .ok (.isub, 1) := by decide +kernel
theorem dX7_count_178 : decode prog_9_method_39_code 178 = .ok (.iaload, 1) := by decide +kernel
theorem dX7_count_179 : decode prog_9_method_39_code 179 = .ok (.goto 4, 3) := by decide +kernel
theorem dX7_count_182 : decode prog_9_method_39_code 182 = .ok (.iconst (-1), 1) := by decide +kernel
theorem dX7_count_183 : decode prog_9_method_39_code 183 = .ok (.ireturn, 1) := by decide +kernel
theorem dX7_count_184 : decode prog_9_method_39_code 184 = .ok (.aload_n 0, 1) := by decide +kernel
theorem dX7_count_185 : decode prog_9_method_39_code 185 = .ok (.getfield 122, 3) := by decide +kernel
theorem dX7_count_188 : decode prog_9_method_39_code 188 = .ok (.ifCond .ne 5, 3) := by decide +kernel
theorem dX7_count_191 : decode prog_9_method_39_code 191 = .ok (.iconst 0, 1) := by decide +kernel
theorem dX7_count_192 : decode prog_9_method_39_code 192 = .ok (.ireturn, 1) := by decide +kernel
theorem dX7_count_193 : decode prog_9_method_39_code 193 = .ok (.iconst 0, 1) := by decide +kernel
theorem dX7_count_194 : decode prog_9_method_39_code 194 = .ok (.istore_n 3, 1) := by decide +kernel
theorem dX7_count_195 : decode prog_9_method_39_code 195 = .ok (.iconst 0, 1) := by decide +kernel
theorem dX7_count_196 : decode prog_9_method_39_code 196 = .ok (.istore 4, 2) := by decide +kernel
theorem dX7_count_198 : decode prog_9_method_39_code 198 = .ok (.iload 4, 2) := by decide +kernel
theorem dX7_count_200 : decode prog_9_method_39_code 200 = .ok (.aload_n 0, 1) := by decide +kernel
theorem dX7_count_201 : decode prog_9_method_39_code 201 = .ok (.getfield 119, 3) := by decide +kernel
theorem dX7_count_204 : decode prog_9_method_39_code 204 = .ok (.if_icmp .ge 23, 3) := by decide +kernel
theorem dX7_count_207 : decode prog_9_method_39_code 207 = .ok (.aload_n 0, 1) := by decide +kernel
theorem dX7_count_208 : decode prog_9_method_39_code 208 = .ok (.getfield 19, 3) := by decide +kernel
theorem dX7_count_211 : decode prog_9_method_39_code 211 = .ok (.iload 4, 2) := by decide +kernel
theorem dX7_count_213 : decode prog_9_method_39_code 213 = .ok (.iaload, 1) := by decide +kernel
theorem dX7_count_214 : decode prog_9_method_39_code 214 = .ok (.iconst 3, 1) := by decide +kernel
theorem dX7_count_215 : decode prog_9_method_39_code 215 = .ok (.if_icmp .eq 6, 3) := by decide +kernel
theorem dX7_count_218 : decode prog_9_method_39_code 218 = .ok (.iinc 3 1, 3) := by decide +kernel
theorem dX7_count_221 : decode prog_9_method_39_code 221 = .ok (.iinc 4 1, 3) := by decide +kernel
theorem dX7_count_224 : decode prog_9_method_39_code 224 = .ok (.goto (-26), 3) := by decide +kernel
theorem dX7_count_227 : decode prog_9_method_39_code 227 = .ok (.iload_n 1, 1) := by decide +kernel
theorem dX7_count_228 : decode prog_9_method_39_code 228 = .ok (.tableswitch 115 0 9 #[56, 61, 63, 68, 73, 78, 83, 92, 101, 108], 56) := by decide +kernel
theorem dX7_count_284 : decode prog_9_method_39_code 284 = .ok (.aload_n 0, 1) := by decide +kernel
theorem dX7_count_285 : decode prog_9_method_39_code 285 = .ok (.getfield 119, 3) := by decide +kernel
theorem dX7_count_288 : decode prog_9_method_39_code 288 = .ok (.ireturn, 1) := by decide +kernel
theorem dX7_count_289 : decode prog_9_method_39_code 289 = .ok (.iload_n 3, 1) := by decide +kernel
theorem dX7_count_290 : decode prog_9_method_39_code 290 = .ok (.ireturn, 1) := by decide +kernel
theorem dX7_count_291 : decode prog_9_method_39_code 291 = .ok (.aload_n 0, 1) := by decide +kernel
theorem dX7_count_292 : decode prog_9_method_39_code 292 = .ok (.getfield 126, 3) := by decide +kernel
theorem dX7_count_295 : decode prog_9_method_39_code 295 = .ok (.ireturn, 1) := by decide +kernel
theorem dX7_count_296 : decode prog_9_method_39_code 296 = .ok (.aload_n 0, 1) := by decide +kernel
theorem dX7_count_297 : decode prog_9_method_39_code 297 = .ok (.getfield 129, 3) := by decide +kernel
theorem dX7_count_300 : decode prog_9_method_39_code 300 = .ok (.ireturn, 1) := by decide +kernel
theorem dX7_count_301 : decode prog_9_method_39_code 301 = .ok (.aload_n 0, 1) := by decide +kernel
theorem dX7_count_302 : decode prog_9_method_39_code 302 = .ok (.getfield 132, 3) := by decide +kernel
theorem dX7_count_305 : decode prog_9_method_39_code 305 = .ok (.ireturn, 1) := by decide +kernel
theorem dX7_count_306 : decode prog_9_method_39_code 306 = .ok (.aload_n 0, 1) := by decide +kernel
theorem dX7_count_307 : decode prog_9_method_39_code 307 = .ok (.getfield 135, 3) := by decide +kernel
theorem dX7_count_310 : decode prog_9_method_39_code 310 = .ok (.ireturn, 1) := by decide +kernel
theorem dX7_count_311 : decode prog_9_method_39_code 311 = .ok (.aload_n 0, 1) := by decide +kernel
theorem dX7_count_312 : decode prog_9_method_39_code 312 = .ok (.getfield 83, 3) := by decide +kernel
theorem dX7_count_315 : decode prog_9_method_39_code 315 = .ok (.sipush 144, 3) := by decide +kernel
theorem dX7_count_318 : decode prog_9_method_39_code 318 = .ok (.iaload, 1) := by decide +kernel
theorem dX7_count_319 : decode prog_9_method_39_code 319 = .ok (.ireturn, 1) := by decide +kernel
theorem dX7_count_320 : decode prog_9_method_39_code 320 = .ok (.aload_n 0, 1) := by decide +kernel
theorem dX7_count_321 : decode prog_9_method_39_code 321 = .ok (.getfield 86, 3) := by decide +kernel
theorem dX7_count_324 : decode prog_9_method_39_code 324 = .ok (.sipush 144, 3) := by decide +kernel
theorem dX7_count_327 : decode prog_9_method_39_code 327 = .ok (.iaload, 1) := by decide +kernel
theorem dX7_count_328 : decode prog_9_method_39_code 328 = .ok (.ireturn, 1) := by decide +kernel
theorem dX7_count_329 : decode prog_9_method_39_code 329 = .ok (.aload_n 0, 1) := by decide +kernel
theorem dX7_count_330 : decode prog_9_method_39_code 330 = .ok (.getfield 68, 3) := by decide +kernel
theorem dX7_count_333 : decode prog_9_method_39_code 333 = .ok (.iconst 0, 1) := by decide +kernel
theorem dX7_count_334 : decode prog_9_method_39_code 334 = .ok (.iaload, 1) := by decide +kernel
theorem dX7_count_335 : decode prog_9_method_39_code 335 = .ok (.ireturn, 1) := by decide +kernel
theorem dX7_count_336 : decode prog_9_method_39_code 336 = .ok (.aload_n 0, 1) := by decide +kernel
theorem dX7_count_337 : decode prog_9_method_39_code 337 = .ok (.getfield 68, 3) := by decide +kernel
theorem dX7_count_340 : decode prog_9_method_39_code 340 = .ok (.iconst 1, 1) := by decide +kernel
theorem dX7_count_341 : decode prog_9_method_39_code 341 = .ok (.iaload, 1) := by decide +kernel
theorem dX7_count_342 : decode prog_9_method_39_code 342 = .ok (.ireturn, 1) := by decide +kernel
theorem dX7_count_343 : decode prog_9_method_39_code 343 = .ok (.aload_n 0, 1) := by decide +kernel
theorem dX7_count_344 : decode prog_9_method_39_code 344 = .ok (.getfield 71, 3) := by decide +kernel
theorem dX7_count_347 : decode prog_9_method_39_code 347 = .ok (.sipush 144, 3) := by decide +kernel
theorem dX7_count_350 : decode prog_9_method_39_code 350 = .ok (.iaload, 1) := by decide +kernel
theorem dX7_count_351 : decode prog_9_method_39_code 351 = .ok (.ifCond .ne 7, 3) := by decide +kernel
theorem dX7_count_354 : decode prog_9_method_39_code 354 = .ok (.iconst 1, 1) := by decide +kernel
theorem dX7_count_355 : decode prog_9_method_39_code 355 = .ok (.goto 4, 3) := by decide +kernel
theorem dX7_count_358 : decode prog_9_method_39_code 358 = .ok (.iconst 0, 1) := by decide +kernel
theorem dX7_count_359 : decode prog_9_method_39_code 359 = .ok (.ireturn, 1) := by decide +kernel
end
section
/-! Small rules for am_E: a value or a heap by an equal one. -/
section AMQ
variable {ox : List (Nat × (Nat → Int32))} {d : Nat} {M : am_M} {pc : Nat} {lv : List (Nat × Value)} {st : List Value} {H : am_H} {P : Option Value ⊕ String → am_H → Prop}
theorem ae_eqi {x y : Int32} (h : x = y) (k : am_E ox d M pc lv (.int y :: st) H P) : am_E ox d M pc lv (.int x :: st) H P := by rw [h]; exact k
theorem ae_eql {x y : Int64} (h : x = y) (k : am_E ox d M pc lv (.long y :: st) H P) : am_E ox d M pc lv (.long x :: st) H P := by rw [h]; exact k
theorem ae_eqH {H1 H2 : am_H} (h : H1 = H2) (k : am_E ox d M pc lv st H2 P) : am_E ox d M pc lv st H1 P := by rw [h]; exact k
theorem ae_topi {x : Int32} (k : ∀ y : Int32, y = x → am_E ox d M pc lv (.int y :: st) H P) : am_E ox d M pc lv (.int x :: st) H P := k x rfl
theorem am_gi_si {H : am_H} {a k x y : Nat} {v : Int32} : am_gi (am_si H a k v) x y = if x = a ∧ y = k then v else am_gi H x y := rfl
theorem am_gr_sr {H : am_H} {a k x y : Nat} {v : Option Nat} : am_gr (am_sr H a k v) x y = if x = a ∧ y = k then v else am_gr H x y := rfl
theorem am_gl_sl {H : am_H} {a k x y : Nat} {v : Int64} : am_gl (am_sl H a k v) x y = if x = a ∧ y = k then v else am_gl H x y := rfl
end AMQ
set_option maxRecDepth 100000 in
set_option maxHeartbeats 4000000 in
theorem e_X6_isWithin {ox : List (Nat × (Nat → Int32))} {d : Nat} {H : am_H} {x l g : Int32} : am_D ox d yX6_isWithin mX6_isWithin [.int x, .int l, .int g] H (fun o H1 => o = .inl (some (.int (if l ≤ x ∧ x ≤ g then 1 else 0))) ∧ H1 = H) := by
  refine ae_enter rfl rfl rfl rfl (Nat.le_of_ble_eq_true rfl) ?_
  show am_E ox d mX6_isWithin 0 [(0, .int x), (1, .int l), (2, .int g)] [] H _
  refine ae_iload_n (q := 1) dX6_isWithin_0 rfl rfl rfl ?_
  refine ae_iload_n (q := 2) dX6_isWithin_1 rfl rfl rfl ?_
  refine ae_icmp_lt (t := 14) (q := 5) dX6_isWithin_2 (by decide) rfl (fun c1 => ?_) (fun c1 => ?_)
  · refine ae_iconst (v := 0) (q := 15) dX6_isWithin_14 (by decide) rfl ?_
    refine ae_iret dX6_isWithin_15 rfl (by decide) ?_
    refine ⟨?_, rfl⟩
    congr 3
    first | (rw [if_pos ⟨by first | assumption | (rw [← Int32.not_lt]; assumption) | exact Int32.not_lt.mp (by assumption), by first | assumption | exact Int32.not_lt.mp (by assumption)⟩]) | (rw [if_neg (fun h => absurd h.1 (Int32.not_le.mpr (by assumption)))]) | (rw [if_neg (fun h => absurd h.2 (Int32.not_le.mpr (by assumption)))])
  · refine ae_iload_n (q := 6) dX6_isWithin_5 rfl rfl rfl ?_
    refine ae_iload_n (q := 7) dX6_isWithin_6 rfl rfl rfl ?_
    refine ae_icmp_gt (t := 14) (q := 10) dX6_isWithin_7 (by decide) rfl (fun c2 => ?_) (fun c2 => ?_)
    · refine ae_iconst (v := 0) (q := 15) dX6_isWithin_14 (by decide) rfl ?_
      refine ae_iret dX6_isWithin_15 rfl (by decide) ?_
      refine ⟨?_, rfl⟩
      congr 3
      first | (rw [if_pos ⟨by first | assumption | (rw [← Int32.not_lt]; assumption) | exact Int32.not_lt.mp (by assumption), by first | assumption | exact Int32.not_lt.mp (by assumption)⟩]) | (rw [if_neg (fun h => absurd h.1 (Int32.not_le.mpr (by assumption)))]) | (rw [if_neg (fun h => absurd h.2 (Int32.not_le.mpr (by assumption)))])
    · refine ae_iconst (v := 1) (q := 11) dX6_isWithin_10 (by decide) rfl ?_
      refine ae_goto (q := 15) dX6_isWithin_11 (by decide) ?_
      refine ae_iret dX6_isWithin_15 rfl (by decide) ?_
      refine ⟨?_, rfl⟩
      congr 3
      first | (rw [if_pos ⟨by first | assumption | (rw [← Int32.not_lt]; assumption) | exact Int32.not_lt.mp (by assumption), by first | assumption | exact Int32.not_lt.mp (by assumption)⟩]) | (rw [if_neg (fun h => absurd h.1 (Int32.not_le.mpr (by assumption)))]) | (rw [if_neg (fun h => absurd h.2 (Int32.not_le.mpr (by assumption)))])
set_option maxRecDepth 100000 in
set_option maxHeartbeats 4000000 in
theorem e_X7_in {ox : List (Nat × (Nat → Int32))} {d : Nat} {H : am_H} {x l g : Int32} : am_D ox d yX7_in mX7_in [.int x, .int l, .int g] H (fun o H1 => o = .inl (some (.int (if l ≤ x ∧ x ≤ g then 1 else 0))) ∧ H1 = H) := by
  refine ae_enter rfl rfl rfl rfl (Nat.le_of_ble_eq_true rfl) ?_
  show am_E ox d mX7_in 0 [(0, .int x), (1, .int l), (2, .int g)] [] H _
  refine ae_iload_n (q := 1) dX7_in_0 rfl rfl rfl ?_
  refine ae_iload_n (q := 2) dX7_in_1 rfl rfl rfl ?_
  refine ae_icmp_lt (t := 14) (q := 5) dX7_in_2 (by decide) rfl (fun c1 => ?_) (fun c1 => ?_)
  · refine ae_iconst (v := 0) (q := 15) dX7_in_14 (by decide) rfl ?_
    refine ae_iret dX7_in_15 rfl (by decide) ?_
    refine ⟨?_, rfl⟩
    congr 3
    first | (rw [if_pos ⟨by first | assumption | (rw [← Int32.not_lt]; assumption) | exact Int32.not_lt.mp (by assumption), by first | assumption | exact Int32.not_lt.mp (by assumption)⟩]) | (rw [if_neg (fun h => absurd h.1 (Int32.not_le.mpr (by assumption)))]) | (rw [if_neg (fun h => absurd h.2 (Int32.not_le.mpr (by assumption)))])
  · refine ae_iload_n (q := 6) dX7_in_5 rfl rfl rfl ?_
    refine ae_iload_n (q := 7) dX7_in_6 rfl rfl rfl ?_
    refine ae_icmp_gt (t := 14) (q := 10) dX7_in_7 (by decide) rfl (fun c2 => ?_) (fun c2 => ?_)
    · refine ae_iconst (v := 0) (q := 15) dX7_in_14 (by decide) rfl ?_
      refine ae_iret dX7_in_15 rfl (by decide) ?_
      refine ⟨?_, rfl⟩
      congr 3
      first | (rw [if_pos ⟨by first | assumption | (rw [← Int32.not_lt]; assumption) | exact Int32.not_lt.mp (by assumption), by first | assumption | exact Int32.not_lt.mp (by assumption)⟩]) | (rw [if_neg (fun h => absurd h.1 (Int32.not_le.mpr (by assumption)))]) | (rw [if_neg (fun h => absurd h.2 (Int32.not_le.mpr (by assumption)))])
    · refine ae_iconst (v := 1) (q := 11) dX7_in_10 (by decide) rfl ?_
      refine ae_goto (q := 15) dX7_in_11 (by decide) ?_
      refine ae_iret dX7_in_15 rfl (by decide) ?_
      refine ⟨?_, rfl⟩
      congr 3
      first | (rw [if_pos ⟨by first | assumption | (rw [← Int32.not_lt]; assumption) | exact Int32.not_lt.mp (by assumption), by first | assumption | exact Int32.not_lt.mp (by assumption)⟩]) | (rw [if_neg (fun h => absurd h.1 (Int32.not_le.mpr (by assumption)))]) | (rw [if_neg (fun h => absurd h.2 (Int32.not_le.mpr (by assumption)))])
set_option maxRecDepth 100000 in
set_option maxHeartbeats 4000000 in
theorem e_X7_thrown {ox : List (Nat × (Nat → Int32))} {d : Nat} {H : am_H} {a : Nat} (hs : am_sh H a = (7, am_Nf 7)) (hb : a < am_nx H) : am_D ox d yX7_thrown mX7_thrown [.ref a] H (fun o H1 => o = .inl (some (.int (am_gi H a 37))) ∧ H1 = H) := by
  refine ae_enter rfl rfl rfl rfl (Nat.le_of_ble_eq_true rfl) ?_
  show am_E ox d mX7_thrown 0 [(0, .ref a)] [] H _
  refine ae_aload_n (q := 1) dX7_thrown_0 rfl rfl rfl ?_
  refine ae_getI (q := 4) dX7_thrown_1 fl_X7_101 rfl hs hb rfl ?_
  refine ae_iret dX7_thrown_4 rfl rfl ?_
  exact ⟨rfl, rfl⟩
set_option maxRecDepth 100000 in
set_option maxHeartbeats 4000000 in
theorem e_X7_fail {ox : List (Nat × (Nat → Int32))} {d : Nat} {H : am_H} {a : Nat} {x : Int32} (hs : am_sh H a = (7, am_Nf 7)) (hb : a < am_nx H) : am_D ox d yX7_fail mX7_fail [.ref a, .int x] H (fun o H1 => o = .inl (some (.int 0)) ∧ H1 = am_si H a 37 x) := by
  refine ae_enter rfl rfl rfl rfl (Nat.le_of_ble_eq_true rfl) ?_
  show am_E ox d mX7_fail 0 [(0, .ref a), (1, .int x)] [] H _
  refine ae_aload_n (q := 1) dX7_fail_0 rfl rfl rfl ?_
  refine ae_iload_n (q := 2) dX7_fail_1 rfl rfl rfl ?_
  refine ae_putI (q := 5) dX7_fail_2 fl_X7_101 rfl rfl rfl hs hb rfl ?_
  refine ae_iconst (v := 0) (q := 6) dX7_fail_5 (by decide) rfl ?_
  refine ae_iret dX7_fail_6 rfl rfl ?_
  exact ⟨rfl, rfl⟩
end
section
/-! EXCEPTIONS over the abstract machine: 'throw new E("text")' ends a method; a call that throws, caught where it stands by a handler that answers a number. -/
section AMX
variable {p : Program} {l : Launch} {e : Env} {R : Room} {s : State} {m : MethodId} {args : Array Value} {below : List Frame} {meth : Method} {c : Code} {T : State} {locs : List Loc} {cells slots : Nat}
/-- a walk begun anew where it stands: nothing written yet, k cells and n slots left of its room -/
theorem am_anew (X : Stand p l e R s m args below meth c T locs cells slots) (k n : Nat) (hk : cells + k ≤ R.cells) (hn : slots + n ≤ R.slots) :
    Stand p l e { frames := R.frames, cells := k, slots := n, locals := R.locals } ((T.setVm s.vm).setFrames (.invoking m args :: below)) m args below meth c T [] 0 0 := by
  obtain ⟨g₀, hg0⟩ := Option.isSome_iff_exists.mp (show (T.setVm s.vm).topJava?.isSome from X.here.top)
  obtain ⟨r, hr⟩ := State.topJava?_eq_some.mp hg0
  obtain ⟨th, hth, -⟩ := State.frames_cons hr
  have hF : ((T.setVm s.vm).setFrames (.invoking m args :: below)).frames = .invoking m args :: below := State.frames_setFrames _ (State.cur_lt_of_top (show (T.setVm s.vm).topJava?.isSome from X.here.top))
  have hlim : e.platform.stackLimits ((T.setVm s.vm).setFrames (.invoking m args :: below)).me = e.platform.stackLimits s.me := by
    rw [State.stackLimits_setFrames]; exact X.limits
  have hbyt : ((T.setVm s.vm).setFrames (.invoking m args :: below)).me.stackBytes = s.me.stackBytes := by
    rw [State.stackBytes_setFrames]; exact X.bytes
  have huse : ((T.setVm s.vm).setFrames (.invoking m args :: below)).localsInUse = s.localsInUse := by
    rw [State.localsInUse_invoking hF (meth := meth) (c := c) X.method X.code, State.localsInUse_invoking X.frames X.method X.code]
  have hnil : (T.heap.toList.drop T.heap.size).map (·.slots.size) = [] := by
    rw [List.drop_eq_nil_of_le (Nat.le_of_eq Array.length_toList)]; rfl
  have z1 := X.heapSize
  have z2 := X.used
  have hroom := X.room
  simp only [State.hasRoom, Bool.and_eq_true, decide_eq_true_eq] at hroom
  obtain ⟨⟨⟨⟨h1, h2, h3, h4, h5, h6⟩, h7⟩, h8⟩, h9⟩ := hroom
  rw [X.frames, List.length_cons] at h2 h3
  constructor
  case admits => exact X.admits
  case cas => exact X.cas
  case clock => exact X.clock
  case frames => exact hF
  case hears => exact X.hears
  case method => exact X.method
  case code => exact X.code
  case here => exact X.here
  case tail => exact X.tail
  case warmed => exact X.warmed
  case limits => rw [State.stackLimits_setFrames]; rfl
  case bytes => rw [State.stackBytes_setFrames]; rfl
  case room =>
    simp only [State.hasRoom, Bool.and_eq_true, decide_eq_true_eq, hF, huse, List.length_cons, hlim, hbyt]
    refine ⟨⟨⟨⟨by omega, by omega, by omega, by omega, by omega, h6⟩, ?_⟩, ?_⟩, X.book⟩
    · show T.heap.size + k ≤ e.platform.maxCells
      omega
    · show T.slotsUsed + n ≤ e.platform.maxSlots
      omega
  case same =>
    refine ⟨?_, Nat.le_refl _, Nat.le_refl _, ?_, ?_, fun a c9 h9 => ⟨c9, h9, rfl, rfl, fun _ _ => rfl⟩⟩
    · show T.setVm s.vm = { ((T.setVm s.vm).setFrames (.invoking m args :: below)).setFrames (T.setVm s.vm).frames with heap := T.heap, slotsUsed := T.slotsUsed }
      rw [State.setFrames_setFrames, State.setFrames_self hth]
      rfl
    · show T.slotsUsed = T.slotsUsed + ((T.heap.toList.drop T.heap.size).map (·.slots.size)).sum
      rw [hnil]; rfl
    · show ((T.heap.toList.drop T.heap.size).map (·.slots.size)).sum ≤ 0
      rw [hnil]; exact Nat.le_refl _
/-- cells that were there and are in no row of what was written stay -/
theorem am_stay {U : State} {k n : Nat} (h : s.sameButNew ({ U with vm := s.vm } : State) [] k n) : s.heap.size ≤ U.heap.size ∧ ∀ q : Nat, q < s.heap.size → U.heap[q]? = s.heap[q]? :=
  ⟨h.2.1, fun q hq => by rw [Array.getElem?_eq_getElem hq]; exact State.sameButNew.old_cell h (Array.getElem?_eq_getElem hq)⟩
end AMX
section AMY
variable {ox : List (Nat × (Nat → Int32))} {d : Nat} {M : am_M} {pc q : Nat} {lv : List (Nat × Value)} {st stk : List Value} {H H1 H' : am_H} {o : Option Value ⊕ String}
theorem am_P.old {dC : Nat → ClassId} {dI : Nat → Nat → Nat} {τ : Nat → ClassId} {B0 : Nat} {ρ : Nat → Nat} {hp hp1 : Heap} (h : am_P dC dI τ B0 ρ H hp) (hsz : hp.size ≤ hp1.size) (hk : ∀ a : Nat, a < hp.size → hp1[a]? = hp[a]?) : am_P dC dI τ B0 ρ H hp1 :=
  ⟨h.1.kept (fun k x hx => hk x.1 ((h.1 k x hx).lt)), h.2.1, h.2.2.1, h.2.2.2.1, Nat.le_trans h.2.2.2.2 hsz⟩
/-- which words a throw asks for -/
def am_tw (w : Cond) : Bool := decide (w ∈ am_words) || decide (w ∈ am_nst) || am_tsq.any (fun z => decide (w = .laysStatic z.1 z.2.1 z.2.2) || decide (w = .isRef (.static z.1 z.2.1 z.2.2)))
theorem am_tw_at {w : Cond} (hw : am_tw w = true) {B0 : Nat} {ρ : Nat → Nat} {s U : State} {args a' : Array Value} (hts : ∀ w ∈ am_words, w.before args s = true) (hW : s.WarmedH U.vm) (hO : am_O ox B0 ρ U) : w.before a' U = true := by
  simp only [am_tw, Bool.or_eq_true, decide_eq_true_eq, List.any_eq_true] at hw
  rcases hw with (hw | hw) | ⟨z, hz, hw | hw⟩
  · exact word_at hW (am_good w hw) (hts w hw)
  · exact va_Nw.use (am_nst_tab w hw) (hO.2.2.2.2.1 w hw)
  · rw [hw]; exact (hO.2.2.2.2.2.1 z hz).lays
  · rw [hw]; exact (hO.2.2.2.2.2.1 z hz).isRef
set_option maxHeartbeats 4000000 in
/-- throw new cls("text") ends the method -/
theorem am_throw {ik is ic : Nat} {cls text : String} {names : List String} (d0 : decode M.2.1 pc = .ok (.new ik, 3)) (d3 : decode M.2.1 (pc + 3) = .ok (.dup, 1)) (d4 : decode M.2.1 (pc + 4) = .ok (.ldc is, 2)) (d6 : decode M.2.1 (pc + 6) = .ok (.invokespecial ic, 3)) (d9 : decode M.2.1 (pc + 9) = .ok (.athrow, 1))
    (hcls : Bundle.fit cls = true) (hnames : ∀ n ∈ names, Bundle.fit n = true) (hk : Cond.classLink M.1 ik cls ∈ am_words) (hini : Cond.initialized cls ∈ am_words) (htx : (M.1, is, text) ∈ am_txs) (hat : (Bundle.ownAtoms M.1 ic cls names).all am_tw = true) (hnn : M.2.2.2.2.1 ≠ "") (htab : M.2.2.2.2.2 = []) (hnl : names.length + 4 ≤ d) (hc8 : (st.map fun v => v.category).sum ≤ 8) : am_V ox d M pc lv st H (.inr cls) (am_ga H 1 6) := by
  intro l p e R s m args below meth c dC dI τ B0 ρ0 nx0 n0 z0 C ρ hp locs cells slots ls S T hT X
  have hcc := S.2.2.2.1
  have hzz := S.2.2.2.2.1
  have hRc : am_nc H + 1 ≤ n0 + R.cells := C.2.2.2.2.2.2.2.2.2.2.2.2.1
  have hRz : am_nz H + 6 ≤ z0 + R.slots := C.2.2.2.2.2.2.2.2.2.2.2.2.2.1
  have hRf := C.2.2.2.2.2.2.2.2.2.2.1
  have hRl := C.2.2.2.2.2.2.2.2.2.2.2.1
  have htr : e.platform.stackTraces = false := (show e.platform.stackTraces = l.stackTraces by rw [X.admits.platform]).trans C.2.2.2.2.2.2.2.2.1
  have Y := am_anew X 1 6 (by omega) (by omega)
  obtain ⟨s', hs'⟩ : ∃ z, z = (T.setVm s.vm).setFrames (.invoking m args :: below) := ⟨_, rfl⟩
  rw [← hs'] at Y
  have hvm : s'.vm = s.vm := by rw [hs']; rfl
  have hhp : s'.heap = hp := by rw [hs']; exact hT
  have hW0 : s.WarmedH s'.vm := by rw [hvm]; exact State.WarmedH.refl s
  have hO : am_O ox B0 ρ s' := am_O.to (am_O.ext C.2.2.2.2.2.2.2.2.2.2.2.2.2.2.2.2 S.1.2.2) hW0 (fun x hx => by rw [hhp]; exact S.2.2.1.2.1 x (Nat.lt_of_lt_of_le hx C.2.2.2.2.2.2.2.2.2.1) (Nat.not_le.mpr hx))
  have hown' : s'.vm.findClass M.1 = some m.cls := by rw [hvm]; exact C.2.2.2.2.1
  have hwd : ∀ w ∈ am_words, w.before args s' = true := fun w hw => word_at hW0 (am_good w hw) (C.2.2.2.2.2.1 w hw)
  have hat' : ∀ w ∈ Bundle.ownAtoms M.1 ic cls names, w.before args s' = true := fun w hw => am_tw_at (List.all_eq_true.mp hat w hw) C.2.2.2.2.2.1 hW0 hO
  obtain ⟨sa, hsa1, hsa2⟩ := hO.2.2.1 _ htx
  have hs1 : (Cond.stringRef M.1 is text).before args s' = true := hsa1
  have hs2 : (Term.string M.1 is).eval args s' none [] s' = some (.ref sa) := hsa2
  have hb := C.2.1
  obtain ⟨vm₁, cX, kX, hfX, hkX, -, -, X₁, st1⟩ := Y.newCold C.1 (own := M.1) (C := cls) (index := ik) (n := 6) hown' (hwd _ hk) (hat' _ (by simp [Bundle.ownAtoms])) (hwd _ hini) (g := F0 m pc ls (st.map (am_cv ρ))) rfl (by rw [hb]; exact d0) (Nat.le_refl _) (Nat.le_refl _)
  generalize hT1 : (T.setVm vm₁).pushCell { cls := cX, slots := kX.instanceTypes.map defaultValue, vm := .none } = T1 at X₁ st1
  have hcA : T1.heap[T.heap.size]? = some (freshCell cX kX) := by rw [← hT1]; exact State.heap_pushCell_size _ _
  obtain ⟨U, hsteps, hrun, hend, hW, hsame, ce, hce, hO9⟩ := X₁.ctorThrowS C.1 htr (own := M.1) (cls := cls) (names := names) (ic := ic) hown' hcls hnames hat' (fun x hx => by cases hx) hfX hkX hcA (by rw [hhp, hT]; exact Nat.le_refl _) (msg := .ref sa) rfl
    (g := { method := m, pc := pc + 6, locals := ls, stack := .ref sa :: .ref T.heap.size :: .ref T.heap.size :: st.map (am_cv ρ), locked := none }) rfl (by rw [C.2.2.1]; exact S.2.2.2.2.2.1) rfl rfl (rest := st.map (am_cv ρ)) rfl (by rw [hb]; exact d6) (by rw [hb]; exact d9)
    (fun x hx => by rw [C.2.2.2.2.2.2.2.2.2.2.2.2.2.2.2.1 hnn, htab] at hx; cases hx) (show names.length + 3 < R.frames by omega) (by
      show 2 * 0 + (1 + ((st.map (am_cv ρ)).map fun v => v.category).sum) + (13 * (names.length + 1) + 42) ≤ R.locals
      rw [am_cat]; omega) C.2.2.2.2.2.2.1
  obtain ⟨f1, f2⟩ := am_stay hsame
  rw [hhp] at f1 f2
  refine ⟨U, ?_, .threw T.heap.size, hrun, hend, Or.inr ⟨T.heap.size, rfl, cls, ce, ⟨⟨⟨ρ, rfl, S.1, (am_P.old S.2.1 f1 f2 : am_P dC dI τ B0 ρ H U.heap)⟩, Nat.le_trans S.2.2.1.1 f1, fun x hx hA => (f2 x (Nat.lt_of_lt_of_le hx S.2.2.1.1)).trans (S.2.2.1.2.1 x hx hA)⟩, hce, hO9.vm, by have h9 := hO9.cls; rw [hvm] at h9; exact h9⟩, locs, State.WarmedH.trans hW0 hW, ?_, S.2.2.1.2.2⟩⟩
  · refine st1 _ ?_
    show Steps p.tables e below (T1.setTop { method := m, pc := pc + 3, locals := ls, stack := .ref T.heap.size :: st.map (am_cv ρ), locked := none }) _
    have d3' : decode c.code (pc + 3) = .ok (.dup, 1) := by rw [hb]; exact d3
    jvm_step X₁.here [X₁.here.top, C.1, d3', Value.category]
    exact X₁.ldcString C.1 (own := M.1) (text := text) (index := is) (a := sa) hown' hs1 hs2 (g := { method := m, pc := pc + 4, locals := ls, stack := .ref T.heap.size :: .ref T.heap.size :: st.map (am_cv ρ), locked := none }) rfl (by rw [hb]; exact d4) _ hsteps
  · subst hs'
    obtain ⟨e1, e2⟩ := hsame
    rw [State.setFrames_setFrames] at e1
    have h2 : (T.setVm s.vm).sameButNew ({ U with vm := s.vm } : State) [] (0 + 1) (0 + 6) := ⟨e1, e2⟩
    have h3 := X.same.trans h2
    rw [List.append_nil] at h3
    refine h3.mono ?_ ?_
    · show cells + (0 + 1) ≤ am_nc H + 1 - n0; omega
    · show slots + (0 + 6) ≤ am_nz H + 6 - z0; omega
end AMY
end
section
/-! CATCHES over the abstract machine: methods with handlers; a call that throws, caught by a handler that answers a number. -/
section AMZ
variable {p : Program} {l : Launch} {e : Env} {R : Room} {s : State} {m : MethodId} {args : Array Value} {below : List Frame} {meth : Method} {c : Code} {U : State} {locs : List Loc} {cells slots : Nat}
set_option maxHeartbeats 4000000 in
/-- a callee that throws, run from a frame with its arguments taken off -/
theorem am_thrownBy {y : MethodName} {mk : MethodId} {methY : Method} {cY : Code} {ws : List Cond} {rm : Room} {Pc : Array Value → State → Prop} {Qc : Array Value → State → Outcome → State → Prop} {XC : String → State → State → Prop} {mc ms maxL : Nat} {free : Addr → Prop} {g : JFrame} {ig : Instr} {a : Array Value}
    (X : Stand p l e R s m args below meth c U locs cells slots) (hM : am_Met l y ws rm Pc Qc XC mc ms free) (hno : ∀ st v t, ¬ Qc a st (.returned v) t) (hno2 : ∀ st q t, ¬ Qc a st (.threw q) t)
    (hrm : rm.cells = mc ∧ rm.slots = ms ∧ rm.frames + 1 ≤ R.frames ∧ 8 + (maxL + 11) + rm.locals ≤ R.locals) (hroom : cells + mc ≤ R.cells ∧ slots + ms ≤ R.slots)
    (hws : ∀ w ∈ ws, w.before a U = true) (hn : U.methodNamed? y = some mk) (hmY : U.vm.method? mk = some methY) (hcY : methY.code = some cY) (hlY : cY.maxLocals = maxL) (hini : (Cond.initialized y.cls).before a U = true)
    (hg : g.method = m) (hsize : g.locals.size = c.maxLocals) (hdg : decode c.code g.pc = .ok (ig, 3)) (hW8 : 2 * g.monitorRoom + (g.stack.map fun v => v.category).sum ≤ 8) (hPc : Pc a (U.calling g mk a)) :
    ∃ (q : Addr) (t T' : State) (E : String) (ce : Cell) (L : List Loc), XC E (U.calling g mk a) t ∧ t.heap[q]? = some ce ∧ ce.vm = .none ∧ U.vm.findClass E = some ce.cls ∧ T'.heap = t.heap ∧ (∀ z ∈ L, free z.base) ∧ Stand p l e R s m args below meth c T' (locs ++ L) (cells + mc) (slots + ms) ∧
      Steps p.tables e below (doInvoke e (U.setTop g) [] mk a).1 ((T'.setTop g).pushFrame (.throwing q)) := by
  subst hg
  obtain ⟨hrc, hrs, hrf, hrl⟩ := hrm
  obtain ⟨kY, hkY, -⟩ := className_of_methodNamed hn
  have hiY : kY.init = .initialized := Cond.initialized_spec (findClass_of_methodNamed hn) hkY hini
  have happ : (headSpec ws rm).appliesLoose y e.platform (U.calling g mk a) = true :=
    Spec.appliesLoose_calling (g := g) X.here hdg hn hkY hiY (X.room_calling (g := g) (R' := (headSpec ws rm).room) hsize hmY hcY hrf (by rw [hlY]; show _ + (maxL + 11) + rm.locals ≤ _; omega) (by show cells + rm.cells ≤ _; rw [hrc]; exact hroom.1) (by show slots + rm.slots ≤ _; rw [hrs]; exact hroom.2)) (atoms_intro hws)
  obtain ⟨mid, hmid⟩ := X.here.above
  have hfr : (U.setTop g).frames = (.java g :: mid) ++ below := by rw [State.frames_setTop' g X.here.top, hmid]; rfl
  obtain ⟨o, s₂, hsteps, -, hend, hq⟩ := Steps.callFree hM p X.admits X.cas X.clock (acts := []) hfr happ hPc trivial
  rw [State.frames_setTop' g X.here.top] at hend
  obtain ⟨g₀, hg0⟩ := Option.isSome_iff_exists.mp X.here.top
  obtain ⟨r, hr⟩ := State.topJava?_eq_some.mp hg0
  obtain ⟨th, hth, -⟩ := State.frames_cons hr
  have hq' : am_QQ Qc XC mc ms free a (U.calling g mk a) o s₂ := hq
  rcases hq' with ⟨hqc, -⟩ | ⟨q, rfl, E, ce, ⟨hx, hce, hcv, hcl⟩, L, hW₂, hsm, hL⟩
  · cases o with
    | returned v => exact absurd hqc (hno _ _ _)
    | threw q => exact absurd hqc (hno2 _ _ _)
  · have hWU : U.WarmedH s₂.vm := hW₂
    obtain ⟨U2, hU2⟩ : ∃ z : State, z = ({ U with heap := s₂.heap, slotsUsed := s₂.slotsUsed } : State) := ⟨_, rfl⟩
    have hr2 : (U2.setVm s₂.vm).frames = .java g₀ :: r := by rw [hU2]; exact hr
    have hf2 : s₂.frames = .throwing q :: .java g :: U.frames.tail := hend
    obtain ⟨e1, e2⟩ := hsm
    have es : s₂ = ({ (U.calling g mk a).setFrames s₂.frames with heap := s₂.heap, slotsUsed := s₂.slotsUsed } : State).setVm s₂.vm := by
      have h9 : s₂ = ({ s₂ with vm := (U.calling g mk a).vm } : State).setVm s₂.vm := rfl
      rw [e1] at h9
      exact h9
    have hs₂ : s₂ = ((U2.setVm s₂.vm).setTop g).pushFrame (.throwing q) := by
      refine es.trans ?_
      rw [hf2, State.calling_eq X.here.top, State.setFrames_setFrames, State.pushFrame, State.frames_setTop _ hr2, State.setTop_of_frames _ hr2, State.setFrames_setFrames, hU2, hr]
      rfl
    have hsame : U.sameButNew U2 L mc ms := by
      rw [hU2]
      refine ⟨?_, e2⟩
      show ({ U with heap := s₂.heap, slotsUsed := s₂.slotsUsed } : State) = { U.setFrames U.frames with heap := s₂.heap, slotsUsed := s₂.slotsUsed }
      rw [State.setFrames_self hth]
    have hhere : At (U2.setVm s₂.vm) g.method c below := by rw [hU2]; exact (X.here.setHeapUsed s₂.heap s₂.slotsUsed).setVm hWU.alike
    refine ⟨q, s₂, U2.setVm s₂.vm, E, ce, L, hx, hce, hcv, hcl, by rw [hU2]; rfl, hL, ?_, by rw [← hs₂]; exact hsteps⟩
    refine ⟨X.admits, X.cas, X.clock, X.frames, X.room, X.hears, X.method, X.code, hhere, ?_, State.WarmedH.trans X.warmed hWU, ?_, ?_, ?_⟩
    · rw [hU2]; exact X.tail
    · rw [hU2]; exact X.limits
    · rw [hU2]; exact X.bytes
    · have h5 := X.same.trans (hsame.setVm s.vm)
      rw [hU2] at h5 ⊢
      exact h5
end AMZ
section AMV
variable {ox : List (Nat × (Nat → Int32))} {d : Nat} {M : am_M} {pc q : Nat} {lv : List (Nat × Value)} {st stk : List Value} {H H1 H' : am_H} {o : Option Value ⊕ String}
/-- a method with handlers: its table by its word -/
def am_tb (hh : List (Nat × Nat × Nat × Nat)) : List ExceptionTableEntry := hh.map (fun z => { startPc := z.1, endPc := z.2.1, handlerPc := z.2.2.1, catchType := z.2.2.2 })
theorem am_tb_eq {t : List ExceptionTableEntry} {hh : List (Nat × Nat × Nat × Nat)} (h : t.map (fun h => (h.startPc, h.endPc, h.handlerPc, h.catchType)) = hh) : t = am_tb hh := by
  subst h
  unfold am_tb
  rw [List.map_map]
  exact (List.map_id t).symm
def am_CW (ox : List (Nat × (Nat → Int32))) (d : Nat) (y : MethodName) (M : am_M) (hh : List (Nat × Nat × Nat × Nat)) (as : List Value) (H : am_H) (o : Option Value ⊕ String) (H' : am_H) : Prop :=
  ∀ (l : Launch), l.stackTraces = false → ∀ (dC : Nat → ClassId) (dI : Nat → Nat → Nat) (τ : Nat → ClassId) (B0 : Nat) (ρ : Nat → Nat),
    am_Met l y (Cond.codeWith y M.2.1 M.2.2.1 M.2.2.2.1 hh :: am_words) (am_rm d (am_nc H' - am_nc H) (am_nz H' - am_nz H)) (va_Pc (as.map (am_cv ρ)) (am_B ox dC dI τ B0 ρ H)) (am_Q dC dI τ B0 ρ (am_nx H) o H') (am_X dC dI τ B0 ρ (am_nx H) o H') (am_nc H' - am_nc H) (am_nz H' - am_nz H) (am_A B0)
set_option maxHeartbeats 4000000 in
theorem am_enterW {y : MethodName} {hh : List (Nat × Nat × Nat × Nat)} {as : List Value} (hy : plainName y.cls = true) (hc : M.1 = y.cls) (hnm : M.2.2.2.2.1 = y.name) (htb : M.2.2.2.2.2 = am_tb hh) (hls : (lg_sl as).length ≤ M.2.2.1) (h1 : am_nc H ≤ am_nc H') (h2 : am_nz H ≤ am_nz H') (h : am_V ox d M 0 (lv_args 0 as) [] H o H') : am_CW ox d y M hh as H o H' := by
  intro l hl dC dI τ B0 ρ
  refine MetFree.of_bodyS (code := M.2.1) (maxLocals := M.2.2.1) (ret := M.2.2.2.1) hy (fun args s m hp hn => ?_) (fun p e s m args below meth c s₁ B hml hv _ => ?_)
  · obtain ⟨m9, meth9, c9, hn9, q1, q2, q3, q4, -, q6, q7, -⟩ := Cond.codeWith_spec (atoms_spec (ws := Cond.codeWith y M.2.1 M.2.2.1 M.2.2.2.1 hh :: am_words) hp _ List.mem_cons_self)
    cases Option.some.inj (hn9.symm.trans hn)
    exact ⟨meth9, c9, q1, q2, q3, q4, q6, q7⟩
  · obtain ⟨rfl, hP, hK, hO⟩ := hv
    have hts := atoms_spec (ws := Cond.codeWith y M.2.1 M.2.2.1 M.2.2.2.1 hh :: am_words) B.pre
    obtain ⟨m9, meth9, c9, hn9, q1, q2, -, -, q5, -⟩ := Cond.codeWith_spec (hts _ List.mem_cons_self)
    cases Option.some.inj (hn9.symm.trans B.named)
    cases Option.some.inj (q1.symm.trans B.method)
    cases Option.some.inj (q2.symm.trans (Stand.of_body B).code)
    have hle := lv_entry (as.map (am_cv ρ)) (n := M.2.2.1) (by rw [am_sll]; exact hls)
    have hh0 : s₁.heap = s.heap := by rw [B.state]; rfl
    have K : W p l e (am_rm d (am_nc H' - am_nc H) (am_nz H' - am_nz H)) s m (as.map (am_cv ρ)).toArray below meth c s.heap [] 0 0 (am_MQ below (am_Q dC dI τ B0 ρ (am_nx H) o H') (am_X dC dI τ B0 ρ (am_nx H) o H') (as.map (am_cv ρ)).toArray s (am_nc H' - am_nc H) (am_nz H' - am_nz H) (am_A B0)) (entryFrame m (as.map (am_cv ρ)).toArray M.2.2.1) := by
      rw [lg_entry_eq]
      generalize (lg_sl (as.map (am_cv ρ)) ++ List.replicate (M.2.2.1 - (lg_sl (as.map (am_cv ρ))).length) Slot.unset).toArray = ls at hle ⊢
      rw [am_args] at hle
      refine h l p e (am_rm d (am_nc H' - am_nc H) (am_nz H' - am_nz H)) s m _ below meth c dC dI τ B0 ρ (am_nx H) (am_nc H) (am_nz H) ⟨B.exec, B.bytes, hml, B.returns, by rw [hc]; exact findClass_of_methodNamed B.named, fun w hw => hts w (List.mem_cons_of_mem _ hw), B.notSynchronized, hK, hl, hP.2.2.2.2, Nat.le_refl _, Nat.le_refl _, ?_, ?_, ?_, ?_, hO⟩ ρ s.heap [] 0 0 ls ⟨⟨Nat.le_refl _, fun _ => rfl, am_ext.rf⟩, hP, va_S.rf, Nat.zero_add _, Nat.zero_add _, hle⟩
      · show am_nc H' ≤ am_nc H + (am_nc H' - am_nc H); omega
      · show am_nz H' ≤ am_nz H + (am_nz H' - am_nz H); omega
      · intro _; rw [hnm]; exact (name_of_methodNamed B.named B.method).1
      · intro _; rw [htb]; exact am_tb_eq q5
    obtain ⟨t, a1, o1, b1, b2, b3⟩ := K s₁ hh0 (Stand.of_body B)
    exact ⟨t, o1, a1, b1, b2, b3⟩
theorem am_CW.met {y : MethodName} {hh : List (Nat × Nat × Nat × Nat)} {as : List Value} {v : Option Value} (h : am_CW ox d y M hh as H (.inl v) H1) (l : Launch) (hl : l.stackTraces = false) (dC : Nat → ClassId) (dI : Nat → Nat → Nat) (τ : Nat → ClassId) (B0 : Nat) (ρ : Nat → Nat) :
    Met l y (Cond.codeWith y M.2.1 M.2.2.1 M.2.2.2.1 hh :: am_words) (am_rm d (am_nc H1 - am_nc H) (am_nz H1 - am_nz H)) (va_Pc (as.map (am_cv ρ)) (am_B ox dC dI τ B0 ρ H)) (am_Q dC dI τ B0 ρ (am_nx H) (.inl v) H1) (am_nc H1 - am_nc H) (am_nz H1 - am_nz H) (am_A B0) := by
  refine MetFree.mono (h l hl dC dI τ B0 ρ) (fun _ _ h => h) (fun _ _ _ _ _ h => h) (fun a s o t _ hq => ?_)
  rcases hq with hq | ⟨q, -, E, ce, ⟨⟨⟨ρ', ho, -⟩, -⟩, -⟩, -⟩
  · exact hq
  · cases ho
set_option maxHeartbeats 4000000 in
/-- a static call of a method with handlers -/
theorem am_callSW {y : MethodName} {Mc : am_M} {hh : List (Nat × Nat × Nat × Nat)} {as : List Value} {v : Option Value} {idx n : Nat} (hd : decode M.2.1 pc = .ok (.invokestatic idx, 3)) (hC : am_CW ox d y Mc hh as H (.inl v) H1) (hcd : Cond.codeWith y Mc.2.1 Mc.2.2.1 Mc.2.2.2.1 hh ∈ am_words) (hini : Cond.initialized y.cls ∈ am_words) (hyd : y.cls ≠ "java/lang/invoke/MethodHandle" ∧ y.cls ≠ "java/lang/invoke/VarHandle" ∧ (parseMethodDescriptor y.desc).map (fun d => d.parameters.length) = some n) (h7 : Mc.2.2.1 ≤ 7) (hlk : Cond.methodLink M.1 idx y ∈ am_words) (hs : Cond.static y ∈ am_words) (hn : as.length = n) (hst : stk = as.reverse ++ st) (hc8 : (st.map fun v => v.category).sum ≤ 8) (hf : am_fine H H1 lv st) (hc : am_nc H ≤ am_nc H1) (hz : am_nz H ≤ am_nz H1) (hc2 : am_nc H1 ≤ am_nc H') (hz2 : am_nz H1 ≤ am_nz H') (hq : pc + 3 = q) (kk : am_V ox (d + 1) M q lv (v.toList ++ st) H1 o H') : am_V ox (d + 1) M pc lv stk H o H' := by
  subst hq
  subst hst
  intro l p e R s m args below meth c dC dI τ B0 ρ0 nx0 n0 z0 C ρ hp locs cells slots ls S
  have hRf := C.2.2.2.2.2.2.2.2.2.2.1
  have hRl := C.2.2.2.2.2.2.2.2.2.2.2.1
  have hp9 := am_pre (y := y) (Mc := Mc) (as := as) C S
  have hM := hC.met l C.2.2.2.2.2.2.2.2.1 dC dI τ B0 ρ
  have hws : ∀ w ∈ Cond.codeWith y Mc.2.1 Mc.2.2.1 Mc.2.2.2.1 hh :: am_words, ∀ (a' : Array Value) (U : State), s.WarmedH U.vm → w.before a' U = true := fun w hw a' U hW => by
    have hw' : w ∈ am_words := (List.mem_cons.mp hw).elim (fun h => by rw [h]; exact hcd) id
    exact word_at hW (am_good w hw') (C.2.2.2.2.2.1 w hw')
  have hK : Back l R p e below s args y 3 8 (PreOf R (am_nc H1 - am_nc H) (am_nz H1 - am_nz H) (va_Pc (as.map (am_cv ρ)) (am_B ox dC dI τ B0 ρ H))) (PostOf (am_Q dC dI τ B0 ρ (am_nx H) (.inl v) H1) (am_nc H1 - am_nc H) (am_nz H1 - am_nz H) (am_A B0)) :=
    va_backW (hh := hh) (bytes := Mc.2.1) (maxL := Mc.2.2.1) (ret := Mc.2.2.2.1) hM hp9.1 rfl rfl (show d + 1 ≤ R.frames by omega) (show 8 + (Mc.2.2.1 + 11) + (116 + 26 * d) ≤ R.locals by omega) hws List.mem_cons_self (fun a' U hW => word_at hW (am_good _ hini) (C.2.2.2.2.2.1 _ hini))
  have hroom := am_room (y := y) C S hc hz hc2 hz2
  refine am_cont C S hf hc hz (a := (as.map (am_cv ρ)).toArray) (fun T hT X => ?_) kk
  obtain ⟨mk, methM, cM, hnamed, hmethM, -, -, -, -, -, -, hsigM⟩ := Cond.codeWith_spec (C.2.2.2.2.2.1 _ hcd)
  have hstatic : methM.isStatic = true := Cond.static_spec hnamed hmethM (C.2.2.2.2.2.1 _ hs)
  obtain ⟨kP, hkP, -⟩ := className_of_methodNamed hnamed
  have hinitP : kP.init = .initialized := Cond.initialized_spec (findClass_of_methodNamed hnamed) hkP (C.2.2.2.2.2.1 _ hini)
  have hlen : (as.map (am_cv ρ)).length = methM.sig.parameters.length := by
    have h2 := hyd.2.2
    rw [hsigM] at h2
    rw [List.length_map, hn]
    exact (Option.some.inj h2).symm
  obtain ⟨vm₁, X₁, hstep₁⟩ := X.invokestatic C.1 C.2.2.2.2.1 (C.2.2.2.2.2.1 _ hlk) hnamed hmethM hstatic hkP hinitP ⟨hyd.1, hyd.2.1⟩ (g := F0 m pc ls ((as.reverse ++ st).map (am_cv ρ))) rfl (argsL := as.map (am_cv ρ)) (rest := st.map (am_cv ρ)) hlen (by simp) (by rw [C.2.1]; exact hd)
  obtain ⟨w, ⟨U', l2, c2, s2⟩, X', ⟨g', mk', t, L, e1, e2, hq, h1, hL, h2, h3⟩, hsteps⟩ := hK m meth c ⟨T.setVm vm₁, locs, cells, slots⟩ (F0 m pc ls (st.map (am_cv ρ))) (.invokestatic idx) mk (as.map (am_cv ρ)).toArray X₁ rfl (by rw [C.2.2.1]; exact S.2.2.2.2.2.1) (by rw [C.2.1]; exact hd) (by rw [am_cat]; show 2 * 0 + _ ≤ 8; omega) (X₁.named hnamed) ⟨hroom.1, hroom.2, hp9.2 (T.setVm vm₁) hT X₁.warmed⟩
  dsimp only [Pt.U, Pt.locs, Pt.cells, Pt.slots] at X' e1 e2 h1 h2 h3 hsteps
  subst h1; subst h2; subst h3
  exact ⟨w, (T.setVm vm₁).calling g' mk' (as.map (am_cv ρ)).toArray, t, U', L, hT, X', hL, e1, e2, hq, fun target h => hstep₁ _ fun acts => by rw [doInvoke_state]; exact hsteps.trans h⟩
set_option maxHeartbeats 4000000 in
/-- a call that throws, caught by a handler that stores the exception and answers a number -/
theorem am_callX {y : MethodName} {Mc : am_M} {as : List Value} {idx n b ci N : Nat} {r : vw_C} {E nm : String} {x : ExceptionTableEntry} {pre suf : List ExceptionTableEntry} {i hl : Nat} {kn : Int} {v : Int32} (hd : decode M.2.1 pc = .ok (.invokevirtual idx, 3)) (hC : am_C ox d y Mc (.ref b :: as) H (.inr E) H1) (hy : am_My y Mc n) (hlk : Cond.methodLink M.1 idx y ∈ am_words) (hi : Cond.instanceMethod y ∈ am_words) (hse : Cond.selects r.1 y y ∈ am_words) (hr : vwCl[ci]? = some r) (h100 : ci < 100) (hs : am_sh H b = (ci, N)) (hb : b < am_nx H) (hn : as.length = n) (hst : stk = as.reverse ++ .ref b :: st) (hc8 : (st.map fun v => v.category).sum ≤ 8) (hf : am_fine H H1 lv st) (hc : am_nc H ≤ am_nc H1) (hz : am_nz H ≤ am_nz H1)
    (hnn : M.2.2.2.2.1 ≠ "") (htab : M.2.2.2.2.2 = pre ++ x :: suf) (hx : covers x pc = true) (h0 : x.catchType ≠ 0) (hcl : Cond.classLink M.1 x.catchType nm ∈ am_words) (hca : Cond.castable E nm ∈ am_nst) (hps : ∀ z ∈ pre, z.catchType ≠ 0 ∧ ∃ nm' : String, Cond.classLink M.1 z.catchType nm' ∈ am_words ∧ (E, nm') ∈ am_ncs)
    (d1 : (∃ w : Fin 4, decode M.2.1 x.handlerPc = .ok (.astore_n w, 1) ∧ (w : Nat) = i ∧ hl = 1) ∨ (decode M.2.1 x.handlerPc = .ok (.astore i, 2) ∧ hl = 2)) (hi7 : i < M.2.2.1) (d2 : decode M.2.1 (x.handlerPc + hl) = .ok (.iconst kn, 1)) (hv : Int32.ofInt kn = v) (d3 : decode M.2.1 (x.handlerPc + hl + 1) = .ok (.ireturn, 1)) (hrt : M.2.2.2.1 = some .int) : am_V ox (d + 1) M pc lv stk H (.inl (some (.int v))) H1 := by
  subst hst
  intro l p e R s m args below meth c dC dI τ B0 ρ0 nx0 n0 z0 C ρ hp locs cells slots ls S T hT X
  obtain ⟨hcd, hini, hyd, h7⟩ := hy
  have hRf := C.2.2.2.2.2.2.2.2.2.2.1
  have hRl := C.2.2.2.2.2.2.2.2.2.2.2.1
  have hp9 := am_pre (y := y) (Mc := Mc) (as := .ref b :: as) C S
  have hcell := am_ws_at (τ := τ) (ρ := ρ) hb
  rw [am_cell_o hs h100] at hcell
  obtain ⟨cellB, hcB, hoB, hclB⟩ := va_recv C.2.2.2.2.2.2.2.1 S.2.1.1 hr hcell
  have hroom := am_room (y := y) C S hc hz (Nat.le_refl _) (Nat.le_refl _)
  obtain ⟨mk, methM, hnamed, hmethM, hstM, habM⟩ := Cond.instanceMethod_spec (C.2.2.2.2.2.1 _ hi)
  obtain ⟨methM', cM, hmethM', hcM, -, hlM, -, -, -, hsigM⟩ := Cond.code_spec hnamed (C.2.2.2.2.2.1 _ hcd)
  cases Option.some.inj (hmethM.symm.trans hmethM')
  obtain ⟨c2, r2, m2, q1, q2, q3, q4, kP, hkP, hkPi⟩ := Cond.selects_spec (C.2.2.2.2.2.1 _ hse)
  cases Option.some.inj (hclB.symm.trans q1)
  cases Option.some.inj ((State.methodFound?_of_named hnamed ⟨hyd.1, hyd.2.1⟩).symm.trans q2)
  cases Option.some.inj (hnamed.symm.trans q3)
  have hselP : selectMethod e.platform s.vm cellB.cls mk = .method mk := by rw [Launch.admits_selectMethod X.admits]; exact q4
  have hlen : (as.map (am_cv ρ)).length = methM.sig.parameters.length := by
    have h2 := hyd.2.2
    rw [hsigM] at h2
    rw [List.length_map, hn]
    exact (Option.some.inj h2).symm
  obtain ⟨vm₁, X₁, hstep₁⟩ := X.invokevirtual C.1 C.2.2.2.2.1 (C.2.2.2.2.2.1 _ hlk) hnamed hmethM hstM hkP hkPi ⟨hyd.1, hyd.2.1⟩ (a := ρ b) (cell := cellB) (by rw [hT]; exact hcB) (fun z h => by rw [h] at hoB; cases hoB) hselP hmethM habM hkP hkPi (g := F0 m pc ls ((as.reverse ++ .ref b :: st).map (am_cv ρ))) rfl (argsL := as.map (am_cv ρ)) (rest := st.map (am_cv ρ)) hlen (by simp [am_cv]) (by rw [C.2.1]; exact hd)
  have hWv : s.WarmedH vm₁ := X₁.warmed
  obtain ⟨methV, hmV⟩ : ∃ z, (T.setVm vm₁).vm.method? mk = some z := ⟨methM, (hWv.alike.method? mk).trans hmethM⟩
  have hmV' : methV = methM := Option.some.inj (hmV.symm.trans ((hWv.alike.method? mk).trans hmethM))
  subst hmV'
  obtain ⟨q, t, T', E', ce, L, ⟨⟨ρ', ho, hJ, hP⟩, hF⟩, hce, hcv, hcE, eh, hL, X', hgo⟩ := am_thrownBy (maxL := Mc.2.2.1) (ig := .invokevirtual idx) X₁ (hC l C.2.2.2.2.2.2.2.2.1 dC dI τ B0 ρ) (fun st v t h => by obtain ⟨⟨_, _, ho, -⟩, -⟩ := h; cases ho) (fun st q t h => by obtain ⟨⟨_, _, ho, -⟩, -⟩ := h; cases ho)
    ⟨rfl, rfl, show d + 1 ≤ R.frames by omega, show 8 + (Mc.2.2.1 + 11) + (116 + 26 * d) ≤ R.locals by omega⟩ hroom (a := (Value.ref (ρ b) :: as.map (am_cv ρ)).toArray) (fun w hw => by
      have hw' : w ∈ am_words := (List.mem_cons.mp hw).elim (fun h => by rw [h]; exact hcd) id
      exact word_at hWv (am_good w hw') (C.2.2.2.2.2.1 w hw')) (X₁.named hnamed) hmV hcM hlM (word_at hWv (am_good _ hini) (C.2.2.2.2.2.1 _ hini)) (g := F0 m pc ls (st.map (am_cv ρ))) rfl (by rw [C.2.2.1]; exact S.2.2.2.2.2.1) (by rw [C.2.1]; exact hd) (by rw [am_cat]; show 2 * 0 + _ ≤ 8; omega) (hp9.1 _ _ _ _ (hp9.2 (T.setVm vm₁) hT hWv))
  cases ho
  have hS1 := am_keep (st₀ := (T.setVm vm₁).calling (F0 m pc ls (st.map (am_cv ρ))) mk (Value.ref (ρ b) :: as.map (am_cv ρ)).toArray) hT eh S.2.2.1 hL hF
  obtain ⟨S', est⟩ := am_after S hf hc hz hJ (by rw [eh]; exact hP) hS1
  have hpl : e.platform.magicAccessors = ({} : Platform).magicAccessors := by rw [X.admits.platform]
  have hO := C.2.2.2.2.2.2.2.2.2.2.2.2.2.2.2.2
  have hcls : s.vm.findClass E = some ce.cls := by
    have h9 : vm₁.findClass E = some ce.cls := hcE
    rw [hWv.alike.findClass] at h9
    exact h9
  obtain ⟨c3, c4, hc3, hc4, hasg⟩ := Cond.castable_spec (va_Nw.use (A := args) (am_nst_tab _ hca) (hO.2.2.2.2.1 _ hca))
  cases Option.some.inj (hc3.symm.trans hcls)
  obtain ⟨c5, hc5, hcl5⟩ := Cond.classLink_spec C.2.2.2.2.1 (C.2.2.2.2.2.1 _ hcl) e.platform hpl
  cases Option.some.inj (hc4.symm.trans hc5)
  obtain ⟨vm', X2, st2⟩ := X'.thenCaughtThrough q (g := F0 m pc ls (st.map (am_cv ρ))) rfl hgo (cell := ce) (by rw [eh]; exact hce) (by rw [hcv]; rfl) (by obtain ⟨k9, h9, -⟩ := Vm.findClass_spec hcls; exact ⟨k9, h9⟩) pre x suf ((C.2.2.2.2.2.2.2.2.2.2.2.2.2.2.2.1 hnn).trans htab)
    (fun z hz => by
      obtain ⟨hz0, nm', hl1, hn1⟩ := hps z hz
      obtain ⟨c6, hc6, hcl6⟩ := Cond.classLink_spec C.2.2.2.2.1 (C.2.2.2.2.2.1 _ hl1) e.platform hpl
      obtain ⟨a8, b8, g1, g2, g3⟩ := hO.2.2.2.2.2.2 _ hn1
      cases Option.some.inj (g1.symm.trans hcls)
      cases Option.some.inj (g2.symm.trans hc6)
      exact Or.inr ⟨hz0, _, hcl6, g3⟩) hx (Or.inr ⟨h0, c4, hcl5, hasg⟩)
  have hcc := S.2.2.2.1
  have hzz := S.2.2.2.2.1
  have e1 : am_nc H1 - n0 = cells + (am_nc H1 - am_nc H) := by omega
  have e2 : am_nz H1 - z0 = slots + (am_nz H1 - am_nz H) := by omega
  have hend : ∀ ls' : Array Slot, W p l e R s m args below meth c T'.heap (locs ++ L) (cells + (am_nc H1 - am_nc H)) (slots + (am_nz H1 - am_nz H)) (am_MQ below (am_Q dC dI τ B0 ρ0 nx0 (.inl (some (.int v))) H1) (am_X dC dI τ B0 ρ0 nx0 (.inl (some (.int v))) H1) args s (am_nc H1 - n0) (am_nz H1 - z0) (am_A B0)) (F0 m (x.handlerPc + hl) ls' []) := fun ls' => by
    rw [e1, e2]
    exact lv_iconst C.1 C.2.1 d2 hv (am_ret (W.iret C.1 C.2.1 (C.2.2.2.1.trans hrt) (fun t9 ht9 hW9 => ⟨⟨some (.int v), ρ', rfl, rfl, S'.1, by rw [ht9]; exact S'.2.1⟩, S'.2.2.1.F ht9⟩) S'.2.2.1.2.2 d3 (hlocks := C.2.2.2.2.2.2.1)))
  have hfin : W p l e R s m args below meth c T'.heap (locs ++ L) (cells + (am_nc H1 - am_nc H)) (slots + (am_nz H1 - am_nz H)) (am_MQ below (am_Q dC dI τ B0 ρ0 nx0 (.inl (some (.int v))) H1) (am_X dC dI τ B0 ρ0 nx0 (.inl (some (.int v))) H1) args s (am_nc H1 - n0) (am_nz H1 - z0) (am_A B0)) (F0 m x.handlerPc ls [.ref q]) := by
    rcases d1 with ⟨w, d1, hwi, rfl⟩ | ⟨d1, rfl⟩
    · exact lv_astore_n C.1 C.2.1 d1 hwi S'.2.2.2.2.2 hi7 rfl (fun ls' _ => hend ls')
    · exact lv_astore C.1 C.2.1 d1 S'.2.2.2.2.2 hi7 rfl (fun ls' _ => hend ls')
  obtain ⟨t9, a9, b9⟩ := hfin (T'.setVm vm') rfl X2
  exact ⟨t9, hstep₁ _ fun acts => by rw [doInvoke_state]; exact st2.trans a9, b9⟩
end AMV
section AMF
variable {ox : List (Nat × (Nat → Int32))} {d : Nat} {M : am_M} {pc q : Nat} {lv : List (Nat × Value)} {st stk : List Value} {H : am_H} {P P1 : Option Value ⊕ String → am_H → Prop}
theorem ae_throw {ik is ic : Nat} {cls text : String} {names : List String} (d0 : decode M.2.1 pc = .ok (.new ik, 3)) (d3 : decode M.2.1 (pc + 3) = .ok (.dup, 1)) (d4 : decode M.2.1 (pc + 4) = .ok (.ldc is, 2)) (d6 : decode M.2.1 (pc + 6) = .ok (.invokespecial ic, 3)) (d9 : decode M.2.1 (pc + 9) = .ok (.athrow, 1))
    (hcls : Bundle.fit cls = true) (hnames : ∀ n ∈ names, Bundle.fit n = true) (hk : Cond.classLink M.1 ik cls ∈ am_words) (hini : Cond.initialized cls ∈ am_words) (htx : (M.1, is, text) ∈ am_txs) (hat : (Bundle.ownAtoms M.1 ic cls names).all am_tw = true) (hnn : M.2.2.2.2.1 ≠ "") (htab : M.2.2.2.2.2 = []) (hnl : names.length + 4 ≤ d) (hc8 : (st.map fun v => v.category).sum ≤ 8) (hP : P (.inr cls) (am_ga H 1 6)) : am_E ox d M pc lv st H P :=
  ⟨_, _, am_throw d0 d3 d4 d6 d9 hcls hnames hk hini htx hat hnn htab hnl hc8, Nat.le_add_right _ _, Nat.le_add_right _ _, hP⟩
def am_DW (ox : List (Nat × (Nat → Int32))) (d : Nat) (y : MethodName) (M : am_M) (hh : List (Nat × Nat × Nat × Nat)) (as : List Value) (H : am_H) (P : Option Value ⊕ String → am_H → Prop) : Prop :=
  ∃ (o : Option Value ⊕ String) (H' : am_H), am_CW ox d y M hh as H o H' ∧ am_nc H ≤ am_nc H' ∧ am_nz H ≤ am_nz H' ∧ P o H'
theorem ae_enterW {y : MethodName} {hh : List (Nat × Nat × Nat × Nat)} {as : List Value} (hy : plainName y.cls = true) (hc : M.1 = y.cls) (hnm : M.2.2.2.2.1 = y.name) (htb : M.2.2.2.2.2 = am_tb hh) (hls : (lg_sl as).length ≤ M.2.2.1) (h : am_E ox d M 0 (lv_args 0 as) [] H P) : am_DW ox d y M hh as H P := by
  obtain ⟨o, H', hV, h1, h2, h3⟩ := h
  exact ⟨o, H', am_enterW hy hc hnm htb hls h1 h2 hV, h1, h2, h3⟩
def am_Mw (y : MethodName) (Mc : am_M) (hh : List (Nat × Nat × Nat × Nat)) (n : Nat) : Prop := Cond.codeWith y Mc.2.1 Mc.2.2.1 Mc.2.2.2.1 hh ∈ am_words ∧ Cond.initialized y.cls ∈ am_words ∧ (y.cls ≠ "java/lang/invoke/MethodHandle" ∧ y.cls ≠ "java/lang/invoke/VarHandle" ∧ (parseMethodDescriptor y.desc).map (fun d => d.parameters.length) = some n) ∧ Mc.2.2.1 ≤ 7
theorem ae_callSW {y : MethodName} {Mc : am_M} {hh : List (Nat × Nat × Nat × Nat)} {as : List Value} {idx n : Nat} (hd : decode M.2.1 pc = .ok (.invokestatic idx, 3)) (hC : am_DW ox d y Mc hh as H P1) (hy : am_Mw y Mc hh n) (hlk : Cond.methodLink M.1 idx y ∈ am_words) (hs : Cond.static y ∈ am_words) (hn : as.length = n) (hst : stk = as.reverse ++ st) (hc8 : (st.map fun v => v.category).sum ≤ 8) (hq : pc + 3 = q) (hx : ∀ o H1, P1 o H1 → ∃ v, o = .inl v) (kk : ∀ v H1, P1 (.inl v) H1 → am_fine H H1 lv st ∧ am_E ox (d + 1) M q lv (v.toList ++ st) H1 P) : am_E ox (d + 1) M pc lv stk H P := by
  obtain ⟨o1, H1, hc, c1, c2, hp⟩ := hC
  obtain ⟨v, rfl⟩ := hx o1 H1 hp
  obtain ⟨hf, o, H', hV, h1, h2, h3⟩ := kk v H1 hp
  exact ⟨o, H', am_callSW hd hc hy.1 hy.2.1 hy.2.2.1 hy.2.2.2 hlk hs hn hst hc8 hf c1 c2 h1 h2 hq hV, Nat.le_trans c1 h1, Nat.le_trans c2 h2, h3⟩
/-- E, thrown at pc of M, comes to a handler that answers v -/
def am_Hd (M : am_M) (pc : Nat) (E : String) (v : Int32) : Prop := ∃ (nm : String) (x : ExceptionTableEntry) (pre suf : List ExceptionTableEntry) (i hl : Nat) (kn : Int), M.2.2.2.2.1 ≠ "" ∧ M.2.2.2.2.2 = pre ++ x :: suf ∧ covers x pc = true ∧ x.catchType ≠ 0 ∧ Cond.classLink M.1 x.catchType nm ∈ am_words ∧ Cond.castable E nm ∈ am_nst ∧ (∀ z ∈ pre, z.catchType ≠ 0 ∧ ∃ nm' : String, Cond.classLink M.1 z.catchType nm' ∈ am_words ∧ (E, nm') ∈ am_ncs) ∧
  ((∃ w : Fin 4, decode M.2.1 x.handlerPc = .ok (.astore_n w, 1) ∧ (w : Nat) = i ∧ hl = 1) ∨ (decode M.2.1 x.handlerPc = .ok (.astore i, 2) ∧ hl = 2)) ∧ i < M.2.2.1 ∧ decode M.2.1 (x.handlerPc + hl) = .ok (.iconst kn, 1) ∧ Int32.ofInt kn = v ∧ decode M.2.1 (x.handlerPc + hl + 1) = .ok (.ireturn, 1) ∧ M.2.2.2.1 = some .int
/-- a call that returns, or throws and is caught -/
theorem ae_callVX {y : MethodName} {Mc : am_M} {as : List Value} {idx n b ci N : Nat} {r : vw_C} (hd : decode M.2.1 pc = .ok (.invokevirtual idx, 3)) (hC : am_D ox d y Mc (.ref b :: as) H P1) (hy : am_My y Mc n) (hlk : Cond.methodLink M.1 idx y ∈ am_words) (hi : Cond.instanceMethod y ∈ am_words) (hse : Cond.selects r.1 y y ∈ am_words) (hr : vwCl[ci]? = some r) (h100 : ci < 100) (hs : am_sh H b = (ci, N)) (hb : b < am_nx H) (hn : as.length = n) (hst : stk = as.reverse ++ .ref b :: st) (hc8 : (st.map fun v => v.category).sum ≤ 8) (hq : pc + 3 = q) (kk : ∀ v H1, P1 (.inl v) H1 → am_fine H H1 lv st ∧ am_E ox (d + 1) M q lv (v.toList ++ st) H1 P) (kx : ∀ E H1, P1 (.inr E) H1 → am_fine H H1 lv st ∧ ∃ v, am_Hd M pc E v ∧ P (.inl (some (.int v))) H1) : am_E ox (d + 1) M pc lv stk H P := by
  obtain ⟨o1, H1, hc, c1, c2, hp⟩ := hC
  cases o1 with
  | inl v =>
    obtain ⟨hf, o, H', hV, h1, h2, h3⟩ := kk v H1 hp
    exact ⟨o, H', am_callV hd hc hy hlk hi hse hr h100 hs hb hn hst hc8 hf c1 c2 h1 h2 hq hV, Nat.le_trans c1 h1, Nat.le_trans c2 h2, h3⟩
  | inr E =>
    obtain ⟨hf, v, ⟨nm, x, pre, suf, i, hl, kn, g1, g2, g3, g4, g5, g6, g7, g8, g9, g10, g11, g12, g13⟩, hPv⟩ := kx E H1 hp
    exact ⟨_, _, am_callX hd hc hy hlk hi hse hr h100 hs hb hn hst hc8 hf c1 c2 g1 g2 g3 g4 g5 g6 g7 g8 g9 g10 g11 g12 g13, c1, c2, hPv⟩
end AMF
end
section
/-! NEST MATES: a constructor of a nest mate, a static table of the nest's host. -/
section AMNE
variable {ox : List (Nat × (Nat → Int32))} {d : Nat} {M : am_M} {pc q : Nat} {lv : List (Nat × Value)} {st stk : List Value} {H H1 H' : am_H} {o : Option Value ⊕ String} {P P1 : Option Value ⊕ String → am_H → Prop}
theorem am_callIN {y : MethodName} {Mc : am_M} {as : List Value} {host : String} {idx n b : Nat} (hd : decode M.2.1 pc = .ok (.invokespecial idx, 3)) (hC : am_C ox d y Mc (.ref b :: as) H (.inl none) H1) (hy : am_My y Mc n) (hret : Mc.2.2.2.1 = none) (hy1 : y.name = "<init>") (hlk : Cond.methodLinkNest M.1 idx y host ∈ am_nst) (hi : Cond.instanceMethod y ∈ am_words) (hn : as.length = n) (hst : stk = as.reverse ++ .ref b :: st) (hc8 : (st.map fun v => v.category).sum ≤ 8) (hf : am_fine H H1 lv st) (hc : am_nc H ≤ am_nc H1) (hz : am_nz H ≤ am_nz H1) (hc2 : am_nc H1 ≤ am_nc H') (hz2 : am_nz H1 ≤ am_nz H') (hq : pc + 3 = q) (kk : am_V ox (d + 1) M q lv st H1 o H') : am_V ox (d + 1) M pc lv stk H o H' := by
  subst hq
  subst hst
  intro l p e R s m args below meth c dC dI τ B0 ρ0 nx0 n0 z0 C ρ hp locs cells slots ls S
  have hRf := C.2.2.2.2.2.2.2.2.2.2.1
  have hRl := C.2.2.2.2.2.2.2.2.2.2.2.1
  obtain ⟨hcd, hini, hyd, h7⟩ := hy
  have hp9 := am_pre (y := y) (Mc := Mc) (as := .ref b :: as) C S
  have hM := hC.met l C.2.2.2.2.2.2.2.2.1 dC dI τ B0 ρ
  have hcb : va_CN R s args M.1 idx y host Mc.2.1 Mc.2.2.1 Mc.2.2.2.1 (Cond.code y Mc.2.1 Mc.2.2.1 Mc.2.2.2.1 :: am_words) (am_rm d (am_nc H1 - am_nc H) (am_nz H1 - am_nz H)) (am_nc H1 - am_nc H) (am_nz H1 - am_nz H) n :=
    va_cnB (Ts := am_words) n C.2.2.2.2.2.1 (fun w hw => by
      have hw' : w ∈ am_words := (List.mem_cons.mp hw).elim (fun h => by rw [h]; exact hcd) id
      exact ⟨hw', am_good w hw'⟩) rfl rfl rfl (C.2.2.2.2.2.2.2.2.2.2.2.2.2.2.2.2.2.2.2.2.1 _ hlk) (C.2.2.2.2.2.1 _ hini) hyd ⟨show d + 1 ≤ R.frames by omega, show 8 + (Mc.2.2.1 + 11) + (116 + 26 * d) ≤ R.locals by omega⟩
  rw [hret] at hcb hM
  refine am_cont (v := none) C S hf hc hz (va_runIN (b := ρ b) (As := as.map (am_cv ρ)) (rest := st.map (am_cv ρ)) ⟨C.1, C.2.1, C.2.2.1, C.2.2.2.2.1, C.2.2.2.2.2.1⟩ hM ⟨hcb, hy1, C.2.2.2.2.2.1 _ hi⟩ hp9 rfl (by rw [List.length_map]; exact hn) S.2.2.2.2.2.1 (by simp [am_cv]) ?_ hd (am_room (y := y) C S hc hz hc2 hz2)) kk
  rw [am_cat]
  show 2 * 0 + _ ≤ 8
  omega
theorem ae_callIN {y : MethodName} {Mc : am_M} {as : List Value} {host : String} {idx n b : Nat} (hd : decode M.2.1 pc = .ok (.invokespecial idx, 3)) (hC : am_D ox d y Mc (.ref b :: as) H P1) (hy : am_My y Mc n) (hret : Mc.2.2.2.1 = none) (hy1 : y.name = "<init>") (hlk : Cond.methodLinkNest M.1 idx y host ∈ am_nst) (hi : Cond.instanceMethod y ∈ am_words) (hn : as.length = n) (hst : stk = as.reverse ++ .ref b :: st) (hc8 : (st.map fun v => v.category).sum ≤ 8) (hq : pc + 3 = q) (hx : ∀ o H1, P1 o H1 → o = .inl none) (kk : ∀ H1, P1 (.inl none) H1 → am_fine H H1 lv st ∧ am_E ox (d + 1) M q lv st H1 P) : am_E ox (d + 1) M pc lv stk H P := by
  obtain ⟨o1, H1, hc, c1, c2, hp⟩ := hC
  obtain rfl := hx o1 H1 hp
  obtain ⟨hf, o, H', hV, hm1, hm2, hm3⟩ := kk H1 hp
  exact ⟨o, H', am_callIN hd hc hy hret hy1 hlk hi hn hst hc8 hf c1 c2 hm1 hm2 hq hV, Nat.le_trans c1 hm1, Nat.le_trans c2 hm2, hm3⟩
theorem am_getsN {Cn n ds host : String} {i idx : Nat} (hd : decode M.2.1 pc = .ok (.getstatic idx, 3)) (hz : (Cn, n, ds, i) ∈ am_sts) (hlk : Cond.fieldLinkNest M.1 idx Cn n ds host ∈ am_nst) (hq : pc + 3 = q) (kk : am_V ox d M q lv (.ref (1000000 + i) :: st) H o H') : am_V ox d M pc lv st H o H' := by
  subst hq
  intro l p e R s m args below meth c dC dI τ B0 ρ0 nx0 n0 z0 C ρ hp locs cells slots ls S
  have hO9 := C.2.2.2.2.2.2.2.2.2.2.2.2.2.2.2.2
  have hO := (am_O.ext hO9 S.1.2.2).2.1 _ hz
  exact va_getsN C.1 C.2.1 hO S.2.2.1 C.2.2.2.2.1 (va_Nw.use (am_nst_tab _ hlk) (hO9.2.2.2.2.1 _ hlk)) (fun _ h => h) hd (kk l p e R s m args below meth c dC dI τ B0 ρ0 nx0 n0 z0 C ρ hp locs cells slots ls S)
theorem ae_getsN {Cn n ds host : String} {i idx : Nat} (hd : decode M.2.1 pc = .ok (.getstatic idx, 3)) (hz : (Cn, n, ds, i) ∈ am_sts) (hlk : Cond.fieldLinkNest M.1 idx Cn n ds host ∈ am_nst) (hq : pc + 3 = q) (kk : am_E ox d M q lv (.ref (1000000 + i) :: st) H P) : am_E ox d M pc lv st H P := by
  obtain ⟨o, H', hV, h1, h2, h3⟩ := kk
  exact ⟨o, H', am_getsN hd hz hlk hq hV, h1, h2, h3⟩
end AMNE
end
section
/-! The heap behind a change, by name. -/
section AMG
variable {ox : List (Nat × (Nat → Int32))} {d : Nat} {M : am_M} {pc : Nat} {lv : List (Nat × Value)} {st : List Value} {H : am_H} {P : Option Value ⊕ String → am_H → Prop}
theorem ae_gen {H1 : am_H} (k : ∀ H2 : am_H, H2 = H1 → am_E ox d M pc lv st H2 P) : am_E ox d M pc lv st H1 P := k H1 rfl
theorem sh_nw {k n a : Nat} {z : Nat × Nat} (h : am_sh H a = z) (ha : a < am_nx H) : am_sh (am_nw H k n) a = z := (va_up_ne _ _ (Nat.ne_of_lt ha)).trans h
theorem gr_nw {k n a i : Nat} {z : Option Nat} (h : am_gr H a i = z) (ha : a < am_nx H) : am_gr (am_nw H k n) a i = z := (if_neg (Nat.ne_of_lt ha)).trans h
theorem gi_nw {k n a i : Nat} {z : Int32} (h : am_gi H a i = z) (ha : a < am_nx H) : am_gi (am_nw H k n) a i = z := (if_neg (Nat.ne_of_lt ha)).trans h
theorem gr_fresh {k n i : Nat} : am_gr (am_nw H k n) (am_nx H) i = none := if_pos rfl
theorem gi_fresh {k n i : Nat} : am_gi (am_nw H k n) (am_nx H) i = 0 := if_pos rfl
theorem gr_sr {a k x y : Nat} {v z : Option Nat} (h : am_gr H x y = z) (hn : ¬ (x = a ∧ y = k)) : am_gr (am_sr H a k v) x y = z := (if_neg hn).trans h
theorem gr_set {a k : Nat} {v : Option Nat} : am_gr (am_sr H a k v) a k = v := if_pos ⟨rfl, rfl⟩
theorem gi_si {a k x y : Nat} {v z : Int32} (h : am_gi H x y = z) (hn : ¬ (x = a ∧ y = k)) : am_gi (am_si H a k v) x y = z := (if_neg hn).trans h
theorem gi_set {a k : Nat} {v : Int32} : am_gi (am_si H a k v) a k = v := if_pos ⟨rfl, rfl⟩
/-- all that stood below n stands as it stood, but for the object a -/
def am_Same (a n : Nat) (H H1 : am_H) : Prop := ∀ x, x < n → x ≠ a → am_sh H1 x = am_sh H x ∧ am_gr H1 x = am_gr H x ∧ am_gi H1 x = am_gi H x ∧ am_gl H1 x = am_gl H x
theorem am_Same.rf {a n : Nat} : am_Same a n H H := fun _ _ _ => ⟨rfl, rfl, rfl, rfl⟩
theorem am_Same.nw {a n k m : Nat} {H0 : am_H} (h : am_Same a n H0 H) (hn : n ≤ am_nx H) : am_Same a n H0 (am_nw H k m) := fun x hx hne => by
  obtain ⟨h1, h2, h3, h4⟩ := h x hx hne
  have hx' : x ≠ am_nx H := by omega
  exact ⟨(va_up_ne _ _ hx').trans h1, (funext fun y => if_neg hx' : am_gr (am_nw H k m) x = am_gr H x).trans h2, (funext fun y => if_neg hx' : am_gi (am_nw H k m) x = am_gi H x).trans h3, (funext fun y => if_neg hx' : am_gl (am_nw H k m) x = am_gl H x).trans h4⟩
theorem am_Same.sr {a n b k : Nat} {v : Option Nat} {H0 : am_H} (h : am_Same a n H0 H) (hb : b = a ∨ n ≤ b) : am_Same a n H0 (am_sr H b k v) := fun x hx hne => by
  obtain ⟨h1, h2, h3, h4⟩ := h x hx hne
  exact ⟨h1, (funext fun y => if_neg (fun q => by have := q.1; omega) : am_gr (am_sr H b k v) x = am_gr H x).trans h2, h3, h4⟩
theorem am_Same.si {a n b k : Nat} {v : Int32} {H0 : am_H} (h : am_Same a n H0 H) (hb : b = a ∨ n ≤ b) : am_Same a n H0 (am_si H b k v) := fun x hx hne => by
  obtain ⟨h1, h2, h3, h4⟩ := h x hx hne
  exact ⟨h1, h2, (funext fun y => if_neg (fun q => by have := q.1; omega) : am_gi (am_si H b k v) x = am_gi H x).trans h3, h4⟩
theorem am_Same.trans {a n b m : Nat} {H0 H1 : am_H} (h : am_Same a n H0 H) (h2 : am_Same b m H H1) (hb : b = a ∨ n ≤ b) (hm : n ≤ m) : am_Same a n H0 H1 := fun x hx hne => by
  obtain ⟨p1, p2, p3, p4⟩ := h x hx hne
  obtain ⟨q1, q2, q3, q4⟩ := h2 x (by omega) (by omega)
  exact ⟨q1.trans p1, q2.trans p2, q3.trans p3, q4.trans p4⟩
theorem am_okr {b n : Nat} (h : b < n) : am_ok n (.ref b) := Or.inl h
end AMG
set_option maxRecDepth 100000 in
set_option maxHeartbeats 4000000 in
theorem e_X3_init {ox : List (Nat × (Nat → Int32))} {d a : Nat} {H : am_H} : am_D ox (d + 1) yX3_init mX3_init [.ref a] H (fun o H1 => o = .inl none ∧ H1 = H) := by
  refine ae_enter rfl rfl rfl rfl (Nat.le_of_ble_eq_true rfl) ?_
  show am_E ox (d + 1) mX3_init 0 [(0, .ref a)] [] H _
  refine ae_aload_n (q := 1) dX3_init_0 rfl rfl rfl ?_
  refine ae_objInit (q := 4) dX3_init_1 (Nat.succ_le_succ (Nat.zero_le _)) lk_X3_3 im_obj cd_obj (by decide) rfl ?_
  refine ae_vret dX3_init_4 rfl ?_
  exact ⟨rfl, rfl⟩
set_option maxRecDepth 100000 in
set_option maxHeartbeats 4000000 in
theorem e_X0_init {ox : List (Nat × (Nat → Int32))} {d n a : Nat} {H : am_H} (hn0 : am_nx H = n) (hN : n ≤ 900000) (ha : a < n) (hs0_a : am_sh H a = (0, am_Nf 0)) (hg0_a_2 : am_gi H a 2 = 0) : am_D ox (d + 1) yX0_init mX0_init [.ref a] H (fun o H1 => o = .inl none ∧ am_nx H1 = n + 2 ∧ am_Same a n H H1 ∧ am_sh H1 a = (0, am_Nf 0) ∧ am_gr H1 a 0 = some n ∧ am_gr H1 a 1 = some (n + 1) ∧ am_gi H1 a 2 = 0 ∧ am_sh H1 n = (100, 16) ∧ am_sh H1 (n + 1) = (100, 16) ∧ ((∀ i, am_gr H1 (n) i = none) ∧ ∀ i, am_gi H1 (n) i = 0) ∧ ((∀ i, am_gr H1 (n + 1) i = none) ∧ ∀ i, am_gi H1 (n + 1) i = 0)) := by
  have hm0 : am_Same a n H H := am_Same.rf
  refine ae_enter rfl rfl rfl rfl (Nat.le_of_ble_eq_true rfl) ?_
  show am_E ox (d + 1) mX0_init 0 [(0, .ref a)] [] H _
  refine ae_aload_n (q := 1) dX0_init_0 rfl rfl rfl ?_
  refine ae_objInit (q := 4) dX0_init_1 (Nat.succ_le_succ (Nat.zero_le _)) lk_X0_3 im_obj cd_obj (by decide) rfl ?_
  refine ae_aload_n (q := 5) dX0_init_4 rfl rfl rfl ?_
  refine ae_bipush (v := 16) (q := 7) dX0_init_5 (by decide) rfl ?_
  refine ae_newI (N := 16) (q := 9) dX0_init_7 ac_int (by decide) (by decide) (by decide) (by intro x hx; simp only [List.mem_cons, List.not_mem_nil, or_false] at hx; rcases hx with rfl <;> first | trivial | exact am_okr (by omega)) (by intro x hx; simp only [List.mem_cons, List.not_mem_nil, or_false] at hx; rcases hx with rfl <;> first | trivial | exact am_okr (by omega)) (by rw [hn0]; omega) rfl ?_
  rw [hn0]
  refine ae_gen (fun H1 e1 => ?_)
  have hn1 : am_nx H1 = n + 1 := by rw [e1]; show am_nx H + 1 = _; rw [hn0]
  have hm1 : am_Same a n H H1 := by rw [e1]; exact hm0.nw (by rw [hn0]; omega)
  have hs1_a : am_sh H1 a = (0, am_Nf 0) := by rw [e1]; exact sh_nw hs0_a (by rw [hn0]; omega)
  have hg1_a_2 : am_gi H1 a 2 = 0 := by rw [e1]; exact gi_nw hg0_a_2 (by rw [hn0]; omega)
  have hs1_n : am_sh H1 n = (100, 16) := by rw [e1, ← hn0]; exact am_sh_nw
  have hz1 : (∀ i, am_gr H1 n i = none) ∧ ∀ i, am_gi H1 n i = 0 := by rw [e1, ← hn0]; exact ⟨fun _ => gr_fresh, fun _ => gi_fresh⟩
  have hz1_n := hz1
  refine ae_putF (q := 12) dX0_init_9 fl_X0_9 rfl rfl (fun r h => by cases h; rfl) (fun _ => rfl) (fun _ => rfl) hs1_a (by rw [hn1]; omega) (by rw [hn1]; omega) rfl ?_
  refine ae_gen (fun H2 e2 => ?_)
  have hn2 : am_nx H2 = n + 1 := by rw [e2]; exact hn1
  have hm2 : am_Same a n H H2 := by rw [e2]; exact hm1.sr (by omega)
  have hs2_a : am_sh H2 a = (0, am_Nf 0) := by rw [e2]; exact hs1_a
  have hg2_a_2 : am_gi H2 a 2 = 0 := by rw [e2]; exact hg1_a_2
  have hs2_n : am_sh H2 n = (100, 16) := by rw [e2]; exact hs1_n
  have hf2_a_0 : am_gr H2 a 0 = some n := by rw [e2]; exact gr_set
  have hz2_n : (∀ i, am_gr H2 n i = none) ∧ ∀ i, am_gi H2 n i = 0 := by rw [e2]; exact ⟨fun i => gr_sr (hz1_n.1 i) (by omega), hz1_n.2⟩
  refine ae_aload_n (q := 13) dX0_init_12 rfl rfl rfl ?_
  refine ae_bipush (v := 16) (q := 15) dX0_init_13 (by decide) rfl ?_
  refine ae_newI (N := 16) (q := 17) dX0_init_15 ac_int (by decide) (by decide) (by decide) (by intro x hx; simp only [List.mem_cons, List.not_mem_nil, or_false] at hx; rcases hx with rfl <;> first | trivial | exact am_okr (by omega)) (by intro x hx; simp only [List.mem_cons, List.not_mem_nil, or_false] at hx; rcases hx with rfl <;> first | trivial | exact am_okr (by omega)) (by rw [hn2]; omega) rfl ?_
  rw [hn2]
  refine ae_gen (fun H3 e3 => ?_)
  have hn3 : am_nx H3 = n + 2 := by rw [e3]; show am_nx H2 + 1 = _; rw [hn2]
  have hm3 : am_Same a n H H3 := by rw [e3]; exact hm2.nw (by rw [hn2]; omega)
  have hs3_a : am_sh H3 a = (0, am_Nf 0) := by rw [e3]; exact sh_nw hs2_a (by rw [hn2]; omega)
  have hf3_a_0 : am_gr H3 a 0 = some n := by rw [e3]; exact gr_nw hf2_a_0 (by rw [hn2]; omega)
  have hg3_a_2 : am_gi H3 a 2 = 0 := by rw [e3]; exact gi_nw hg2_a_2 (by rw [hn2]; omega)
  have hs3_n : am_sh H3 n = (100, 16) := by rw [e3]; exact sh_nw hs2_n (by rw [hn2]; omega)
  have hs3_n1 : am_sh H3 (n + 1) = (100, 16) := by rw [e3, ← hn2]; exact am_sh_nw
  have hz3 : (∀ i, am_gr H3 (n + 1) i = none) ∧ ∀ i, am_gi H3 (n + 1) i = 0 := by rw [e3, ← hn2]; exact ⟨fun _ => gr_fresh, fun _ => gi_fresh⟩
  have hz3_n : (∀ i, am_gr H3 n i = none) ∧ ∀ i, am_gi H3 n i = 0 := by rw [e3]; exact ⟨fun i => gr_nw (hz2_n.1 i) (by rw [hn2]; omega), fun i => gi_nw (hz2_n.2 i) (by rw [hn2]; omega)⟩
  have hz3_n1 := hz3
  refine ae_putF (q := 20) dX0_init_17 fl_X0_15 rfl rfl (fun r h => by cases h; rfl) (fun _ => rfl) (fun _ => rfl) hs3_a (by rw [hn3]; omega) (by rw [hn3]; omega) rfl ?_
  refine ae_gen (fun H4 e4 => ?_)
  have hn4 : am_nx H4 = n + 2 := by rw [e4]; exact hn3
  have hm4 : am_Same a n H H4 := by rw [e4]; exact hm3.sr (by omega)
  have hs4_a : am_sh H4 a = (0, am_Nf 0) := by rw [e4]; exact hs3_a
  have hf4_a_0 : am_gr H4 a 0 = some n := by rw [e4]; exact gr_sr hf3_a_0 (by omega)
  have hg4_a_2 : am_gi H4 a 2 = 0 := by rw [e4]; exact hg3_a_2
  have hs4_n : am_sh H4 n = (100, 16) := by rw [e4]; exact hs3_n
  have hs4_n1 : am_sh H4 (n + 1) = (100, 16) := by rw [e4]; exact hs3_n1
  have hf4_a_1 : am_gr H4 a 1 = some (n + 1) := by rw [e4]; exact gr_set
  have hz4_n : (∀ i, am_gr H4 n i = none) ∧ ∀ i, am_gi H4 n i = 0 := by rw [e4]; exact ⟨fun i => gr_sr (hz3_n.1 i) (by omega), hz3_n.2⟩
  have hz4_n1 : (∀ i, am_gr H4 (n + 1) i = none) ∧ ∀ i, am_gi H4 (n + 1) i = 0 := by rw [e4]; exact ⟨fun i => gr_sr (hz3_n1.1 i) (by omega), hz3_n1.2⟩
  refine ae_vret dX0_init_20 rfl ?_
  exact ⟨rfl, hn4, hm4, hs4_a, hf4_a_0, hf4_a_1, hg4_a_2, hs4_n, hs4_n1, hz4_n, hz4_n1⟩
set_option maxRecDepth 100000 in
set_option maxHeartbeats 4000000 in
theorem e_X1_init {ox : List (Nat × (Nat → Int32))} {d n a : Nat} {H : am_H} (hn0 : am_nx H = n) (hN : n ≤ 900000) (ha : a < n) (hs0_a : am_sh H a = (1, am_Nf 1)) (hg0_a_0 : am_gi H a 0 = 0) : am_D ox (d + 1) yX1_init mX1_init [.ref a] H (fun o H1 => o = .inl none ∧ am_nx H1 = n + 3 ∧ am_Same a n H H1 ∧ am_sh H1 a = (1, am_Nf 1) ∧ am_gi H1 a 0 = 0 ∧ am_gr H1 a 1 = some n ∧ am_gr H1 a 2 = some (n + 1) ∧ am_gr H1 a 3 = some (n + 2) ∧ am_sh H1 n = (100, 48) ∧ am_sh H1 (n + 1) = (100, 48) ∧ am_sh H1 (n + 2) = (100, 48) ∧ ((∀ i, am_gr H1 (n) i = none) ∧ ∀ i, am_gi H1 (n) i = 0) ∧ ((∀ i, am_gr H1 (n + 1) i = none) ∧ ∀ i, am_gi H1 (n + 1) i = 0) ∧ ((∀ i, am_gr H1 (n + 2) i = none) ∧ ∀ i, am_gi H1 (n + 2) i = 0)) := by
  have hm0 : am_Same a n H H := am_Same.rf
  refine ae_enter rfl rfl rfl rfl (Nat.le_of_ble_eq_true rfl) ?_
  show am_E ox (d + 1) mX1_init 0 [(0, .ref a)] [] H _
  refine ae_aload_n (q := 1) dX1_init_0 rfl rfl rfl ?_
  refine ae_objInit (q := 4) dX1_init_1 (Nat.succ_le_succ (Nat.zero_le _)) lk_X1_3 im_obj cd_obj (by decide) rfl ?_
  refine ae_aload_n (q := 5) dX1_init_4 rfl rfl rfl ?_
  refine ae_bipush (v := 48) (q := 7) dX1_init_5 (by decide) rfl ?_
  refine ae_newI (N := 48) (q := 9) dX1_init_7 ac_int (by decide) (by decide) (by decide) (by intro x hx; simp only [List.mem_cons, List.not_mem_nil, or_false] at hx; rcases hx with rfl <;> first | trivial | exact am_okr (by omega)) (by intro x hx; simp only [List.mem_cons, List.not_mem_nil, or_false] at hx; rcases hx with rfl <;> first | trivial | exact am_okr (by omega)) (by rw [hn0]; omega) rfl ?_
  rw [hn0]
  refine ae_gen (fun H1 e1 => ?_)
  have hn1 : am_nx H1 = n + 1 := by rw [e1]; show am_nx H + 1 = _; rw [hn0]
  have hm1 : am_Same a n H H1 := by rw [e1]; exact hm0.nw (by rw [hn0]; omega)
  have hs1_a : am_sh H1 a = (1, am_Nf 1) := by rw [e1]; exact sh_nw hs0_a (by rw [hn0]; omega)
  have hg1_a_0 : am_gi H1 a 0 = 0 := by rw [e1]; exact gi_nw hg0_a_0 (by rw [hn0]; omega)
  have hs1_n : am_sh H1 n = (100, 48) := by rw [e1, ← hn0]; exact am_sh_nw
  have hz1 : (∀ i, am_gr H1 n i = none) ∧ ∀ i, am_gi H1 n i = 0 := by rw [e1, ← hn0]; exact ⟨fun _ => gr_fresh, fun _ => gi_fresh⟩
  have hz1_n := hz1
  refine ae_putF (q := 12) dX1_init_9 fl_X1_9 rfl rfl (fun r h => by cases h; rfl) (fun _ => rfl) (fun _ => rfl) hs1_a (by rw [hn1]; omega) (by rw [hn1]; omega) rfl ?_
  refine ae_gen (fun H2 e2 => ?_)
  have hn2 : am_nx H2 = n + 1 := by rw [e2]; exact hn1
  have hm2 : am_Same a n H H2 := by rw [e2]; exact hm1.sr (by omega)
  have hs2_a : am_sh H2 a = (1, am_Nf 1) := by rw [e2]; exact hs1_a
  have hg2_a_0 : am_gi H2 a 0 = 0 := by rw [e2]; exact hg1_a_0
  have hs2_n : am_sh H2 n = (100, 48) := by rw [e2]; exact hs1_n
  have hf2_a_1 : am_gr H2 a 1 = some n := by rw [e2]; exact gr_set
  have hz2_n : (∀ i, am_gr H2 n i = none) ∧ ∀ i, am_gi H2 n i = 0 := by rw [e2]; exact ⟨fun i => gr_sr (hz1_n.1 i) (by omega), hz1_n.2⟩
  refine ae_aload_n (q := 13) dX1_init_12 rfl rfl rfl ?_
  refine ae_bipush (v := 48) (q := 15) dX1_init_13 (by decide) rfl ?_
  refine ae_newI (N := 48) (q := 17) dX1_init_15 ac_int (by decide) (by decide) (by decide) (by intro x hx; simp only [List.mem_cons, List.not_mem_nil, or_false] at hx; rcases hx with rfl <;> first | trivial | exact am_okr (by omega)) (by intro x hx; simp only [List.mem_cons, List.not_mem_nil, or_false] at hx; rcases hx with rfl <;> first | trivial | exact am_okr (by omega)) (by rw [hn2]; omega) rfl ?_
  rw [hn2]
  refine ae_gen (fun H3 e3 => ?_)
  have hn3 : am_nx H3 = n + 2 := by rw [e3]; show am_nx H2 + 1 = _; rw [hn2]
  have hm3 : am_Same a n H H3 := by rw [e3]; exact hm2.nw (by rw [hn2]; omega)
  have hs3_a : am_sh H3 a = (1, am_Nf 1) := by rw [e3]; exact sh_nw hs2_a (by rw [hn2]; omega)
  have hf3_a_1 : am_gr H3 a 1 = some n := by rw [e3]; exact gr_nw hf2_a_1 (by rw [hn2]; omega)
  have hg3_a_0 : am_gi H3 a 0 = 0 := by rw [e3]; exact gi_nw hg2_a_0 (by rw [hn2]; omega)
  have hs3_n : am_sh H3 n = (100, 48) := by rw [e3]; exact sh_nw hs2_n (by rw [hn2]; omega)
  have hs3_n1 : am_sh H3 (n + 1) = (100, 48) := by rw [e3, ← hn2]; exact am_sh_nw
  have hz3 : (∀ i, am_gr H3 (n + 1) i = none) ∧ ∀ i, am_gi H3 (n + 1) i = 0 := by rw [e3, ← hn2]; exact ⟨fun _ => gr_fresh, fun _ => gi_fresh⟩
  have hz3_n : (∀ i, am_gr H3 n i = none) ∧ ∀ i, am_gi H3 n i = 0 := by rw [e3]; exact ⟨fun i => gr_nw (hz2_n.1 i) (by rw [hn2]; omega), fun i => gi_nw (hz2_n.2 i) (by rw [hn2]; omega)⟩
  have hz3_n1 := hz3
  refine ae_putF (q := 20) dX1_init_17 fl_X1_15 rfl rfl (fun r h => by cases h; rfl) (fun _ => rfl) (fun _ => rfl) hs3_a (by rw [hn3]; omega) (by rw [hn3]; omega) rfl ?_
  refine ae_gen (fun H4 e4 => ?_)
  have hn4 : am_nx H4 = n + 2 := by rw [e4]; exact hn3
  have hm4 : am_Same a n H H4 := by rw [e4]; exact hm3.sr (by omega)
  have hs4_a : am_sh H4 a = (1, am_Nf 1) := by rw [e4]; exact hs3_a
  have hf4_a_1 : am_gr H4 a 1 = some n := by rw [e4]; exact gr_sr hf3_a_1 (by omega)
  have hg4_a_0 : am_gi H4 a 0 = 0 := by rw [e4]; exact hg3_a_0
  have hs4_n : am_sh H4 n = (100, 48) := by rw [e4]; exact hs3_n
  have hs4_n1 : am_sh H4 (n + 1) = (100, 48) := by rw [e4]; exact hs3_n1
  have hf4_a_2 : am_gr H4 a 2 = some (n + 1) := by rw [e4]; exact gr_set
  have hz4_n : (∀ i, am_gr H4 n i = none) ∧ ∀ i, am_gi H4 n i = 0 := by rw [e4]; exact ⟨fun i => gr_sr (hz3_n.1 i) (by omega), hz3_n.2⟩
  have hz4_n1 : (∀ i, am_gr H4 (n + 1) i = none) ∧ ∀ i, am_gi H4 (n + 1) i = 0 := by rw [e4]; exact ⟨fun i => gr_sr (hz3_n1.1 i) (by omega), hz3_n1.2⟩
  refine ae_aload_n (q := 21) dX1_init_20 rfl rfl rfl ?_
  refine ae_bipush (v := 48) (q := 23) dX1_init_21 (by decide) rfl ?_
  refine ae_newI (N := 48) (q := 25) dX1_init_23 ac_int (by decide) (by decide) (by decide) (by intro x hx; simp only [List.mem_cons, List.not_mem_nil, or_false] at hx; rcases hx with rfl <;> first | trivial | exact am_okr (by omega)) (by intro x hx; simp only [List.mem_cons, List.not_mem_nil, or_false] at hx; rcases hx with rfl <;> first | trivial | exact am_okr (by omega)) (by rw [hn4]; omega) rfl ?_
  rw [hn4]
  refine ae_gen (fun H5 e5 => ?_)
  have hn5 : am_nx H5 = n + 3 := by rw [e5]; show am_nx H4 + 1 = _; rw [hn4]
  have hm5 : am_Same a n H H5 := by rw [e5]; exact hm4.nw (by rw [hn4]; omega)
  have hs5_a : am_sh H5 a = (1, am_Nf 1) := by rw [e5]; exact sh_nw hs4_a (by rw [hn4]; omega)
  have hf5_a_1 : am_gr H5 a 1 = some n := by rw [e5]; exact gr_nw hf4_a_1 (by rw [hn4]; omega)
  have hf5_a_2 : am_gr H5 a 2 = some (n + 1) := by rw [e5]; exact gr_nw hf4_a_2 (by rw [hn4]; omega)
  have hg5_a_0 : am_gi H5 a 0 = 0 := by rw [e5]; exact gi_nw hg4_a_0 (by rw [hn4]; omega)
  have hs5_n : am_sh H5 n = (100, 48) := by rw [e5]; exact sh_nw hs4_n (by rw [hn4]; omega)
  have hs5_n1 : am_sh H5 (n + 1) = (100, 48) := by rw [e5]; exact sh_nw hs4_n1 (by rw [hn4]; omega)
  have hs5_n2 : am_sh H5 (n + 2) = (100, 48) := by rw [e5, ← hn4]; exact am_sh_nw
  have hz5 : (∀ i, am_gr H5 (n + 2) i = none) ∧ ∀ i, am_gi H5 (n + 2) i = 0 := by rw [e5, ← hn4]; exact ⟨fun _ => gr_fresh, fun _ => gi_fresh⟩
  have hz5_n : (∀ i, am_gr H5 n i = none) ∧ ∀ i, am_gi H5 n i = 0 := by rw [e5]; exact ⟨fun i => gr_nw (hz4_n.1 i) (by rw [hn4]; omega), fun i => gi_nw (hz4_n.2 i) (by rw [hn4]; omega)⟩
  have hz5_n1 : (∀ i, am_gr H5 (n + 1) i = none) ∧ ∀ i, am_gi H5 (n + 1) i = 0 := by rw [e5]; exact ⟨fun i => gr_nw (hz4_n1.1 i) (by rw [hn4]; omega), fun i => gi_nw (hz4_n1.2 i) (by rw [hn4]; omega)⟩
  have hz5_n2 := hz5
  refine ae_putF (q := 28) dX1_init_25 fl_X1_18 rfl rfl (fun r h => by cases h; rfl) (fun _ => rfl) (fun _ => rfl) hs5_a (by rw [hn5]; omega) (by rw [hn5]; omega) rfl ?_
  refine ae_gen (fun H6 e6 => ?_)
  have hn6 : am_nx H6 = n + 3 := by rw [e6]; exact hn5
  have hm6 : am_Same a n H H6 := by rw [e6]; exact hm5.sr (by omega)
  have hs6_a : am_sh H6 a = (1, am_Nf 1) := by rw [e6]; exact hs5_a
  have hf6_a_1 : am_gr H6 a 1 = some n := by rw [e6]; exact gr_sr hf5_a_1 (by omega)
  have hf6_a_2 : am_gr H6 a 2 = some (n + 1) := by rw [e6]; exact gr_sr hf5_a_2 (by omega)
  have hg6_a_0 : am_gi H6 a 0 = 0 := by rw [e6]; exact hg5_a_0
  have hs6_n : am_sh H6 n = (100, 48) := by rw [e6]; exact hs5_n
  have hs6_n1 : am_sh H6 (n + 1) = (100, 48) := by rw [e6]; exact hs5_n1
  have hs6_n2 : am_sh H6 (n + 2) = (100, 48) := by rw [e6]; exact hs5_n2
  have hf6_a_3 : am_gr H6 a 3 = some (n + 2) := by rw [e6]; exact gr_set
  have hz6_n : (∀ i, am_gr H6 n i = none) ∧ ∀ i, am_gi H6 n i = 0 := by rw [e6]; exact ⟨fun i => gr_sr (hz5_n.1 i) (by omega), hz5_n.2⟩
  have hz6_n1 : (∀ i, am_gr H6 (n + 1) i = none) ∧ ∀ i, am_gi H6 (n + 1) i = 0 := by rw [e6]; exact ⟨fun i => gr_sr (hz5_n1.1 i) (by omega), hz5_n1.2⟩
  have hz6_n2 : (∀ i, am_gr H6 (n + 2) i = none) ∧ ∀ i, am_gi H6 (n + 2) i = 0 := by rw [e6]; exact ⟨fun i => gr_sr (hz5_n2.1 i) (by omega), hz5_n2.2⟩
  refine ae_vret dX1_init_28 rfl ?_
  exact ⟨rfl, hn6, hm6, hs6_a, hg6_a_0, hf6_a_1, hf6_a_2, hf6_a_3, hs6_n, hs6_n1, hs6_n2, hz6_n, hz6_n1, hz6_n2⟩
set_option maxRecDepth 100000 in
set_option maxHeartbeats 4000000 in
theorem e_X5_init {ox : List (Nat × (Nat → Int32))} {d n a : Nat} {H : am_H} (hn0 : am_nx H = n) (hN : n ≤ 900000) (ha : a < n) (hs0_a : am_sh H a = (5, am_Nf 5)) (hg0_a_1 : am_gi H a 1 = 0) : am_D ox (d + 1) yX5_init mX5_init [.ref a] H (fun o H1 => o = .inl none ∧ am_nx H1 = n + 1 ∧ am_Same a n H H1 ∧ am_sh H1 a = (5, am_Nf 5) ∧ am_gr H1 a 0 = some n ∧ am_gi H1 a 1 = 0 ∧ am_gi H1 a 2 = (-1) ∧ am_sh H1 n = (100, 48) ∧ ((∀ i, am_gr H1 (n) i = none) ∧ ∀ i, am_gi H1 (n) i = 0)) := by
  have hm0 : am_Same a n H H := am_Same.rf
  refine ae_enter rfl rfl rfl rfl (Nat.le_of_ble_eq_true rfl) ?_
  show am_E ox (d + 1) mX5_init 0 [(0, .ref a)] [] H _
  refine ae_aload_n (q := 1) dX5_init_0 rfl rfl rfl ?_
  refine ae_objInit (q := 4) dX5_init_1 (Nat.succ_le_succ (Nat.zero_le _)) lk_X5_3 im_obj cd_obj (by decide) rfl ?_
  refine ae_aload_n (q := 5) dX5_init_4 rfl rfl rfl ?_
  refine ae_bipush (v := 48) (q := 7) dX5_init_5 (by decide) rfl ?_
  refine ae_newI (N := 48) (q := 9) dX5_init_7 ac_int (by decide) (by decide) (by decide) (by intro x hx; simp only [List.mem_cons, List.not_mem_nil, or_false] at hx; rcases hx with rfl <;> first | trivial | exact am_okr (by omega)) (by intro x hx; simp only [List.mem_cons, List.not_mem_nil, or_false] at hx; rcases hx with rfl <;> first | trivial | exact am_okr (by omega)) (by rw [hn0]; omega) rfl ?_
  rw [hn0]
  refine ae_gen (fun H1 e1 => ?_)
  have hn1 : am_nx H1 = n + 1 := by rw [e1]; show am_nx H + 1 = _; rw [hn0]
  have hm1 : am_Same a n H H1 := by rw [e1]; exact hm0.nw (by rw [hn0]; omega)
  have hs1_a : am_sh H1 a = (5, am_Nf 5) := by rw [e1]; exact sh_nw hs0_a (by rw [hn0]; omega)
  have hg1_a_1 : am_gi H1 a 1 = 0 := by rw [e1]; exact gi_nw hg0_a_1 (by rw [hn0]; omega)
  have hs1_n : am_sh H1 n = (100, 48) := by rw [e1, ← hn0]; exact am_sh_nw
  have hz1 : (∀ i, am_gr H1 n i = none) ∧ ∀ i, am_gi H1 n i = 0 := by rw [e1, ← hn0]; exact ⟨fun _ => gr_fresh, fun _ => gi_fresh⟩
  have hz1_n := hz1
  refine ae_putF (q := 12) dX5_init_9 fl_X5_9 rfl rfl (fun r h => by cases h; rfl) (fun _ => rfl) (fun _ => rfl) hs1_a (by rw [hn1]; omega) (by rw [hn1]; omega) rfl ?_
  refine ae_gen (fun H2 e2 => ?_)
  have hn2 : am_nx H2 = n + 1 := by rw [e2]; exact hn1
  have hm2 : am_Same a n H H2 := by rw [e2]; exact hm1.sr (by omega)
  have hs2_a : am_sh H2 a = (5, am_Nf 5) := by rw [e2]; exact hs1_a
  have hg2_a_1 : am_gi H2 a 1 = 0 := by rw [e2]; exact hg1_a_1
  have hs2_n : am_sh H2 n = (100, 48) := by rw [e2]; exact hs1_n
  have hf2_a_0 : am_gr H2 a 0 = some n := by rw [e2]; exact gr_set
  have hz2_n : (∀ i, am_gr H2 n i = none) ∧ ∀ i, am_gi H2 n i = 0 := by rw [e2]; exact ⟨fun i => gr_sr (hz1_n.1 i) (by omega), hz1_n.2⟩
  refine ae_aload_n (q := 13) dX5_init_12 rfl rfl rfl ?_
  refine ae_iconst (v := (-1)) (q := 14) dX5_init_13 (by decide) rfl ?_
  refine ae_putI (q := 17) dX5_init_14 fl_X5_15 rfl rfl rfl hs2_a (by rw [hn2]; omega) rfl ?_
  refine ae_gen (fun H3 e3 => ?_)
  have hn3 : am_nx H3 = n + 1 := by rw [e3]; exact hn2
  have hm3 : am_Same a n H H3 := by rw [e3]; exact hm2.si (by omega)
  have hs3_a : am_sh H3 a = (5, am_Nf 5) := by rw [e3]; exact hs2_a
  have hf3_a_0 : am_gr H3 a 0 = some n := by rw [e3]; exact hf2_a_0
  have hg3_a_1 : am_gi H3 a 1 = 0 := by rw [e3]; exact gi_si hg2_a_1 (by omega)
  have hs3_n : am_sh H3 n = (100, 48) := by rw [e3]; exact hs2_n
  have hg3_a_2 : am_gi H3 a 2 = (-1) := by rw [e3]; exact gi_set
  have hz3_n : (∀ i, am_gr H3 n i = none) ∧ ∀ i, am_gi H3 n i = 0 := by rw [e3]; exact ⟨hz2_n.1, fun i => gi_si (hz2_n.2 i) (by omega)⟩
  refine ae_vret dX5_init_17 rfl ?_
  exact ⟨rfl, hn3, hm3, hs3_a, hf3_a_0, hg3_a_1, hg3_a_2, hs3_n, hz3_n⟩
set_option maxRecDepth 100000 in
set_option maxHeartbeats 4000000 in
theorem e_X4_init {ox : List (Nat × (Nat → Int32))} {d n a : Nat} {H : am_H} (hn0 : am_nx H = n) (hN : n ≤ 900000) (ha : a < n) {k : Int32} {b : Nat} (hb : b < n) (hs0_a : am_sh H a = (4, am_Nf 4)) (hg0_a_2 : am_gi H a 2 = 0) (hg0_a_4 : am_gi H a 4 = 0) (hg0_a_5 : am_gi H a 5 = 0) (hg0_a_6 : am_gi H a 6 = 0) (hg0_a_7 : am_gi H a 7 = 0) (hg0_a_8 : am_gi H a 8 = 0) (hg0_a_9 : am_gi H a 9 = 0) : am_D ox (d + 2) yX4_init mX4_init [.ref a, .int k, .ref b] H (fun o H1 => o = .inl none ∧ am_nx H1 = n + 4 ∧ am_Same a n H H1 ∧ am_sh H1 a = (4, am_Nf 4) ∧ am_gi H1 a 0 = k ∧ am_gr H1 a 1 = some n ∧ am_gr H1 a 3 = some b ∧ am_gi H1 a 2 = 0 ∧ am_gi H1 a 4 = 0 ∧ am_gi H1 a 5 = 0 ∧ am_gi H1 a 6 = 0 ∧ am_gi H1 a 7 = 0 ∧ am_gi H1 a 8 = 0 ∧ am_gi H1 a 9 = 0 ∧ am_sh H1 n = (103 + 3, 3) ∧ am_gr H1 n 0 = some (n + 1) ∧ am_gr H1 n 1 = some (n + 2) ∧ am_gr H1 n 2 = some (n + 3) ∧ am_sh H1 (n + 1) = (3, am_Nf 3) ∧ am_sh H1 (n + 2) = (3, am_Nf 3) ∧ am_sh H1 (n + 3) = (3, am_Nf 3) ∧ ((∀ i, am_gr H1 (n + 1) i = none) ∧ ∀ i, am_gi H1 (n + 1) i = 0) ∧ ((∀ i, am_gr H1 (n + 2) i = none) ∧ ∀ i, am_gi H1 (n + 2) i = 0) ∧ ((∀ i, am_gr H1 (n + 3) i = none) ∧ ∀ i, am_gi H1 (n + 3) i = 0)) := by
  have hm0 : am_Same a n H H := am_Same.rf
  refine ae_enter rfl rfl rfl rfl (Nat.le_of_ble_eq_true rfl) ?_
  show am_E ox (d + 2) mX4_init 0 [(0, .ref a), (1, .int k), (2, .ref b)] [] H _
  refine ae_aload_n (q := 1) dX4_init_0 rfl rfl rfl ?_
  refine ae_objInit (q := 4) dX4_init_1 (Nat.succ_le_succ (Nat.zero_le _)) lk_X4_3 im_obj cd_obj (by decide) rfl ?_
  refine ae_aload_n (q := 5) dX4_init_4 rfl rfl rfl ?_
  refine ae_iload_n (q := 6) dX4_init_5 rfl rfl rfl ?_
  refine ae_putFI (q := 9) dX4_init_6 fl_X4_9 rfl rfl (fun r h => by cases h; rfl) rfl rfl hs0_a (by rw [hn0]; omega) rfl ?_
  refine ae_gen (fun H1 e1 => ?_)
  have hn1 : am_nx H1 = n := by rw [e1]; exact hn0
  have hm1 : am_Same a n H H1 := by rw [e1]; exact hm0.si (by omega)
  have hs1_a : am_sh H1 a = (4, am_Nf 4) := by rw [e1]; exact hs0_a
  have hg1_a_2 : am_gi H1 a 2 = 0 := by rw [e1]; exact gi_si hg0_a_2 (by omega)
  have hg1_a_4 : am_gi H1 a 4 = 0 := by rw [e1]; exact gi_si hg0_a_4 (by omega)
  have hg1_a_5 : am_gi H1 a 5 = 0 := by rw [e1]; exact gi_si hg0_a_5 (by omega)
  have hg1_a_6 : am_gi H1 a 6 = 0 := by rw [e1]; exact gi_si hg0_a_6 (by omega)
  have hg1_a_7 : am_gi H1 a 7 = 0 := by rw [e1]; exact gi_si hg0_a_7 (by omega)
  have hg1_a_8 : am_gi H1 a 8 = 0 := by rw [e1]; exact gi_si hg0_a_8 (by omega)
  have hg1_a_9 : am_gi H1 a 9 = 0 := by rw [e1]; exact gi_si hg0_a_9 (by omega)
  have hg1_a_0 : am_gi H1 a 0 = k := by rw [e1]; exact gi_set
  refine ae_aload_n (q := 10) dX4_init_9 rfl rfl rfl ?_
  refine ae_aload_n (q := 11) dX4_init_10 rfl rfl rfl ?_
  refine ae_putR (q := 14) dX4_init_11 fl_X4_15 rfl (fun _ => rfl) (fun _ => rfl) hs1_a (by rw [hn1]; omega) (by rw [hn1]; omega) rfl ?_
  refine ae_gen (fun H2 e2 => ?_)
  have hn2 : am_nx H2 = n := by rw [e2]; exact hn1
  have hm2 : am_Same a n H H2 := by rw [e2]; exact hm1.sr (by omega)
  have hs2_a : am_sh H2 a = (4, am_Nf 4) := by rw [e2]; exact hs1_a
  have hg2_a_2 : am_gi H2 a 2 = 0 := by rw [e2]; exact hg1_a_2
  have hg2_a_4 : am_gi H2 a 4 = 0 := by rw [e2]; exact hg1_a_4
  have hg2_a_5 : am_gi H2 a 5 = 0 := by rw [e2]; exact hg1_a_5
  have hg2_a_6 : am_gi H2 a 6 = 0 := by rw [e2]; exact hg1_a_6
  have hg2_a_7 : am_gi H2 a 7 = 0 := by rw [e2]; exact hg1_a_7
  have hg2_a_8 : am_gi H2 a 8 = 0 := by rw [e2]; exact hg1_a_8
  have hg2_a_9 : am_gi H2 a 9 = 0 := by rw [e2]; exact hg1_a_9
  have hg2_a_0 : am_gi H2 a 0 = k := by rw [e2]; exact hg1_a_0
  have hf2_a_3 : am_gr H2 a 3 = some b := by rw [e2]; exact gr_set
  refine ae_aload_n (q := 15) dX4_init_14 rfl rfl rfl ?_
  refine ae_iconst (v := 3) (q := 16) dX4_init_15 (by decide) rfl ?_
  refine ae_newQ (k := 3) (t := 5) (N := 3) (q := 19) dX4_init_16 cw_X4_19 (fun B0 ρ s h => h.2.2.2.1 RX3 (by decide +kernel)) rfl (by decide) (by decide) (by decide) (by intro x hx; simp only [List.mem_cons, List.not_mem_nil, or_false] at hx; rcases hx with rfl <;> first | trivial | exact am_okr (by omega)) (by intro x hx; simp only [List.mem_cons, List.not_mem_nil, or_false] at hx; rcases hx with rfl | rfl | rfl <;> first | trivial | exact am_okr (by omega)) (by rw [hn2]; omega) rfl ?_
  rw [hn2]
  refine ae_gen (fun H3 e3 => ?_)
  have hn3 : am_nx H3 = n + 1 := by rw [e3]; show am_nx H2 + 1 = _; rw [hn2]
  have hm3 : am_Same a n H H3 := by rw [e3]; exact hm2.nw (by rw [hn2]; omega)
  have hs3_a : am_sh H3 a = (4, am_Nf 4) := by rw [e3]; exact sh_nw hs2_a (by rw [hn2]; omega)
  have hf3_a_3 : am_gr H3 a 3 = some b := by rw [e3]; exact gr_nw hf2_a_3 (by rw [hn2]; omega)
  have hg3_a_2 : am_gi H3 a 2 = 0 := by rw [e3]; exact gi_nw hg2_a_2 (by rw [hn2]; omega)
  have hg3_a_4 : am_gi H3 a 4 = 0 := by rw [e3]; exact gi_nw hg2_a_4 (by rw [hn2]; omega)
  have hg3_a_5 : am_gi H3 a 5 = 0 := by rw [e3]; exact gi_nw hg2_a_5 (by rw [hn2]; omega)
  have hg3_a_6 : am_gi H3 a 6 = 0 := by rw [e3]; exact gi_nw hg2_a_6 (by rw [hn2]; omega)
  have hg3_a_7 : am_gi H3 a 7 = 0 := by rw [e3]; exact gi_nw hg2_a_7 (by rw [hn2]; omega)
  have hg3_a_8 : am_gi H3 a 8 = 0 := by rw [e3]; exact gi_nw hg2_a_8 (by rw [hn2]; omega)
  have hg3_a_9 : am_gi H3 a 9 = 0 := by rw [e3]; exact gi_nw hg2_a_9 (by rw [hn2]; omega)
  have hg3_a_0 : am_gi H3 a 0 = k := by rw [e3]; exact gi_nw hg2_a_0 (by rw [hn2]; omega)
  have hs3_n : am_sh H3 n = (103 + 3, 3) := by rw [e3, ← hn2]; exact am_sh_nw
  have hz3 : (∀ i, am_gr H3 n i = none) ∧ ∀ i, am_gi H3 n i = 0 := by rw [e3, ← hn2]; exact ⟨fun _ => gr_fresh, fun _ => gi_fresh⟩
  have hz3_n := hz3
  refine ae_putF (q := 22) dX4_init_19 fl_X4_21 rfl rfl (fun r h => by cases h; rfl) (fun _ => rfl) (fun _ => rfl) hs3_a (by rw [hn3]; omega) (by rw [hn3]; omega) rfl ?_
  refine ae_gen (fun H4 e4 => ?_)
  have hn4 : am_nx H4 = n + 1 := by rw [e4]; exact hn3
  have hm4 : am_Same a n H H4 := by rw [e4]; exact hm3.sr (by omega)
  have hs4_a : am_sh H4 a = (4, am_Nf 4) := by rw [e4]; exact hs3_a
  have hf4_a_3 : am_gr H4 a 3 = some b := by rw [e4]; exact gr_sr hf3_a_3 (by omega)
  have hg4_a_2 : am_gi H4 a 2 = 0 := by rw [e4]; exact hg3_a_2
  have hg4_a_4 : am_gi H4 a 4 = 0 := by rw [e4]; exact hg3_a_4
  have hg4_a_5 : am_gi H4 a 5 = 0 := by rw [e4]; exact hg3_a_5
  have hg4_a_6 : am_gi H4 a 6 = 0 := by rw [e4]; exact hg3_a_6
  have hg4_a_7 : am_gi H4 a 7 = 0 := by rw [e4]; exact hg3_a_7
  have hg4_a_8 : am_gi H4 a 8 = 0 := by rw [e4]; exact hg3_a_8
  have hg4_a_9 : am_gi H4 a 9 = 0 := by rw [e4]; exact hg3_a_9
  have hg4_a_0 : am_gi H4 a 0 = k := by rw [e4]; exact hg3_a_0
  have hs4_n : am_sh H4 n = (103 + 3, 3) := by rw [e4]; exact hs3_n
  have hf4_a_1 : am_gr H4 a 1 = some n := by rw [e4]; exact gr_set
  have hz4_n : (∀ i, am_gr H4 n i = none) ∧ ∀ i, am_gi H4 n i = 0 := by rw [e4]; exact ⟨fun i => gr_sr (hz3_n.1 i) (by omega), hz3_n.2⟩
  refine ae_iconst (v := 0) (q := 23) dX4_init_22 (by decide) rfl ?_
  refine ae_istore_n (lv' := [(3, .int 0), (0, .ref a), (1, .int k), (2, .ref b)]) (q := 24) dX4_init_23 rfl (by decide) rfl rfl ?_
  refine ae_iload_n (q := 25) dX4_init_24 rfl rfl rfl ?_
  refine ae_iconst (v := 3) (q := 26) dX4_init_25 (by decide) rfl ?_
  refine ae_icmp_ge (t := 48) (q := 29) dX4_init_26 (by decide) rfl (fun h => absurd h (by decide)) (fun _ => ?_)
  refine ae_aload_n (q := 30) dX4_init_29 rfl rfl rfl ?_
  refine ae_getR (q := 33) dX4_init_30 fl_X4_21 rfl hs4_a (by rw [hn4]; omega) hf4_a_1 rfl ?_
  refine ae_iload_n (q := 34) dX4_init_33 rfl rfl rfl ?_
  refine ae_new (q := 37) dX4_init_34 cn_X4_19 (by intro x hx; simp only [List.mem_cons, List.not_mem_nil, or_false] at hx; rcases hx with rfl | rfl <;> first | trivial | exact am_okr (by omega)) (by intro x hx; simp only [List.mem_cons, List.not_mem_nil, or_false] at hx; rcases hx with rfl | rfl | rfl | rfl <;> first | trivial | exact am_okr (by omega)) (by rw [hn4]; omega) rfl ?_
  rw [hn4]
  refine ae_gen (fun H5 e5 => ?_)
  have hn5 : am_nx H5 = n + 2 := by rw [e5]; show am_nx H4 + 1 = _; rw [hn4]
  have hm5 : am_Same a n H H5 := by rw [e5]; exact hm4.nw (by rw [hn4]; omega)
  have hs5_a : am_sh H5 a = (4, am_Nf 4) := by rw [e5]; exact sh_nw hs4_a (by rw [hn4]; omega)
  have hf5_a_3 : am_gr H5 a 3 = some b := by rw [e5]; exact gr_nw hf4_a_3 (by rw [hn4]; omega)
  have hf5_a_1 : am_gr H5 a 1 = some n := by rw [e5]; exact gr_nw hf4_a_1 (by rw [hn4]; omega)
  have hg5_a_2 : am_gi H5 a 2 = 0 := by rw [e5]; exact gi_nw hg4_a_2 (by rw [hn4]; omega)
  have hg5_a_4 : am_gi H5 a 4 = 0 := by rw [e5]; exact gi_nw hg4_a_4 (by rw [hn4]; omega)
  have hg5_a_5 : am_gi H5 a 5 = 0 := by rw [e5]; exact gi_nw hg4_a_5 (by rw [hn4]; omega)
  have hg5_a_6 : am_gi H5 a 6 = 0 := by rw [e5]; exact gi_nw hg4_a_6 (by rw [hn4]; omega)
  have hg5_a_7 : am_gi H5 a 7 = 0 := by rw [e5]; exact gi_nw hg4_a_7 (by rw [hn4]; omega)
  have hg5_a_8 : am_gi H5 a 8 = 0 := by rw [e5]; exact gi_nw hg4_a_8 (by rw [hn4]; omega)
  have hg5_a_9 : am_gi H5 a 9 = 0 := by rw [e5]; exact gi_nw hg4_a_9 (by rw [hn4]; omega)
  have hg5_a_0 : am_gi H5 a 0 = k := by rw [e5]; exact gi_nw hg4_a_0 (by rw [hn4]; omega)
  have hs5_n : am_sh H5 n = (103 + 3, 3) := by rw [e5]; exact sh_nw hs4_n (by rw [hn4]; omega)
  have hs5_n1 : am_sh H5 (n + 1) = (3, am_Nf 3) := by rw [e5, ← hn4]; exact am_sh_nw
  have hz5 : (∀ i, am_gr H5 (n + 1) i = none) ∧ ∀ i, am_gi H5 (n + 1) i = 0 := by rw [e5, ← hn4]; exact ⟨fun _ => gr_fresh, fun _ => gi_fresh⟩
  have hz5_n : (∀ i, am_gr H5 n i = none) ∧ ∀ i, am_gi H5 n i = 0 := by rw [e5]; exact ⟨fun i => gr_nw (hz4_n.1 i) (by rw [hn4]; omega), fun i => gi_nw (hz4_n.2 i) (by rw [hn4]; omega)⟩
  have hz5_n1 := hz5
  refine ae_dup (q := 38) dX4_init_37 rfl rfl ?_
  refine ae_callIN (as := []) (b := (n + 1)) (st := [.ref (n + 1), .int 0, .ref n]) (q := 41) dX4_init_38 e_X3_init myX3_init rfl rfl (show Cond.methodLinkNest RX4 25 yX3_init "PhaserYard" ∈ am_nst from by decide +kernel) im_X3_init rfl rfl (Nat.le_of_ble_eq_true rfl) rfl (fun o H1 h => h.1) (fun G h => ?_)
  obtain ⟨-, rfl⟩ := h
  refine ⟨Or.inl rfl, ?_⟩
  refine ae_aast (t := 5) (q := 42) dX4_init_41 hs5_n rfl (by decide) rfl (by rw [hn5]; omega) hs5_n1 (by rw [hn5]; omega) (by unfold vp_in; decide) rfl ?_
  rw [show (0 : Int32).toNatClampNeg = 0 from by decide]
  refine ae_gen (fun H6 e6 => ?_)
  have hn6 : am_nx H6 = n + 2 := by rw [e6]; exact hn5
  have hm6 : am_Same a n H H6 := by rw [e6]; exact hm5.sr (by omega)
  have hs6_a : am_sh H6 a = (4, am_Nf 4) := by rw [e6]; exact hs5_a
  have hf6_a_3 : am_gr H6 a 3 = some b := by rw [e6]; exact gr_sr hf5_a_3 (by omega)
  have hf6_a_1 : am_gr H6 a 1 = some n := by rw [e6]; exact gr_sr hf5_a_1 (by omega)
  have hg6_a_2 : am_gi H6 a 2 = 0 := by rw [e6]; exact hg5_a_2
  have hg6_a_4 : am_gi H6 a 4 = 0 := by rw [e6]; exact hg5_a_4
  have hg6_a_5 : am_gi H6 a 5 = 0 := by rw [e6]; exact hg5_a_5
  have hg6_a_6 : am_gi H6 a 6 = 0 := by rw [e6]; exact hg5_a_6
  have hg6_a_7 : am_gi H6 a 7 = 0 := by rw [e6]; exact hg5_a_7
  have hg6_a_8 : am_gi H6 a 8 = 0 := by rw [e6]; exact hg5_a_8
  have hg6_a_9 : am_gi H6 a 9 = 0 := by rw [e6]; exact hg5_a_9
  have hg6_a_0 : am_gi H6 a 0 = k := by rw [e6]; exact hg5_a_0
  have hs6_n : am_sh H6 n = (103 + 3, 3) := by rw [e6]; exact hs5_n
  have hs6_n1 : am_sh H6 (n + 1) = (3, am_Nf 3) := by rw [e6]; exact hs5_n1
  have hf6_n_0 : am_gr H6 n 0 = some (n + 1) := by rw [e6]; exact gr_set
  have hz6_n1 : (∀ i, am_gr H6 (n + 1) i = none) ∧ ∀ i, am_gi H6 (n + 1) i = 0 := by rw [e6]; exact ⟨fun i => gr_sr (hz5_n1.1 i) (by omega), hz5_n1.2⟩
  refine ae_iinc (v := 1) (lv' := [(3, .int 1), (0, .ref a), (1, .int k), (2, .ref b)]) (q := 45) dX4_init_42 rfl (by decide) (by decide) rfl rfl ?_
  refine ae_goto (q := 24) dX4_init_45 (by decide) ?_
  refine ae_iload_n (q := 25) dX4_init_24 rfl rfl rfl ?_
  refine ae_iconst (v := 3) (q := 26) dX4_init_25 (by decide) rfl ?_
  refine ae_icmp_ge (t := 48) (q := 29) dX4_init_26 (by decide) rfl (fun h => absurd h (by decide)) (fun _ => ?_)
  refine ae_aload_n (q := 30) dX4_init_29 rfl rfl rfl ?_
  refine ae_getR (q := 33) dX4_init_30 fl_X4_21 rfl hs6_a (by rw [hn6]; omega) hf6_a_1 rfl ?_
  refine ae_iload_n (q := 34) dX4_init_33 rfl rfl rfl ?_
  refine ae_new (q := 37) dX4_init_34 cn_X4_19 (by intro x hx; simp only [List.mem_cons, List.not_mem_nil, or_false] at hx; rcases hx with rfl | rfl <;> first | trivial | exact am_okr (by omega)) (by intro x hx; simp only [List.mem_cons, List.not_mem_nil, or_false] at hx; rcases hx with rfl | rfl | rfl | rfl <;> first | trivial | exact am_okr (by omega)) (by rw [hn6]; omega) rfl ?_
  rw [hn6]
  refine ae_gen (fun H7 e7 => ?_)
  have hn7 : am_nx H7 = n + 3 := by rw [e7]; show am_nx H6 + 1 = _; rw [hn6]
  have hm7 : am_Same a n H H7 := by rw [e7]; exact hm6.nw (by rw [hn6]; omega)
  have hs7_a : am_sh H7 a = (4, am_Nf 4) := by rw [e7]; exact sh_nw hs6_a (by rw [hn6]; omega)
  have hf7_a_3 : am_gr H7 a 3 = some b := by rw [e7]; exact gr_nw hf6_a_3 (by rw [hn6]; omega)
  have hf7_a_1 : am_gr H7 a 1 = some n := by rw [e7]; exact gr_nw hf6_a_1 (by rw [hn6]; omega)
  have hg7_a_2 : am_gi H7 a 2 = 0 := by rw [e7]; exact gi_nw hg6_a_2 (by rw [hn6]; omega)
  have hg7_a_4 : am_gi H7 a 4 = 0 := by rw [e7]; exact gi_nw hg6_a_4 (by rw [hn6]; omega)
  have hg7_a_5 : am_gi H7 a 5 = 0 := by rw [e7]; exact gi_nw hg6_a_5 (by rw [hn6]; omega)
  have hg7_a_6 : am_gi H7 a 6 = 0 := by rw [e7]; exact gi_nw hg6_a_6 (by rw [hn6]; omega)
  have hg7_a_7 : am_gi H7 a 7 = 0 := by rw [e7]; exact gi_nw hg6_a_7 (by rw [hn6]; omega)
  have hg7_a_8 : am_gi H7 a 8 = 0 := by rw [e7]; exact gi_nw hg6_a_8 (by rw [hn6]; omega)
  have hg7_a_9 : am_gi H7 a 9 = 0 := by rw [e7]; exact gi_nw hg6_a_9 (by rw [hn6]; omega)
  have hg7_a_0 : am_gi H7 a 0 = k := by rw [e7]; exact gi_nw hg6_a_0 (by rw [hn6]; omega)
  have hs7_n : am_sh H7 n = (103 + 3, 3) := by rw [e7]; exact sh_nw hs6_n (by rw [hn6]; omega)
  have hf7_n_0 : am_gr H7 n 0 = some (n + 1) := by rw [e7]; exact gr_nw hf6_n_0 (by rw [hn6]; omega)
  have hs7_n1 : am_sh H7 (n + 1) = (3, am_Nf 3) := by rw [e7]; exact sh_nw hs6_n1 (by rw [hn6]; omega)
  have hs7_n2 : am_sh H7 (n + 2) = (3, am_Nf 3) := by rw [e7, ← hn6]; exact am_sh_nw
  have hz7 : (∀ i, am_gr H7 (n + 2) i = none) ∧ ∀ i, am_gi H7 (n + 2) i = 0 := by rw [e7, ← hn6]; exact ⟨fun _ => gr_fresh, fun _ => gi_fresh⟩
  have hz7_n1 : (∀ i, am_gr H7 (n + 1) i = none) ∧ ∀ i, am_gi H7 (n + 1) i = 0 := by rw [e7]; exact ⟨fun i => gr_nw (hz6_n1.1 i) (by rw [hn6]; omega), fun i => gi_nw (hz6_n1.2 i) (by rw [hn6]; omega)⟩
  have hz7_n2 := hz7
  refine ae_dup (q := 38) dX4_init_37 rfl rfl ?_
  refine ae_callIN (as := []) (b := (n + 2)) (st := [.ref (n + 2), .int 1, .ref n]) (q := 41) dX4_init_38 e_X3_init myX3_init rfl rfl (show Cond.methodLinkNest RX4 25 yX3_init "PhaserYard" ∈ am_nst from by decide +kernel) im_X3_init rfl rfl (Nat.le_of_ble_eq_true rfl) rfl (fun o H1 h => h.1) (fun G h => ?_)
  obtain ⟨-, rfl⟩ := h
  refine ⟨Or.inl rfl, ?_⟩
  refine ae_aast (t := 5) (q := 42) dX4_init_41 hs7_n rfl (by decide) rfl (by rw [hn7]; omega) hs7_n2 (by rw [hn7]; omega) (by unfold vp_in; decide) rfl ?_
  rw [show (1 : Int32).toNatClampNeg = 1 from by decide]
  refine ae_gen (fun H8 e8 => ?_)
  have hn8 : am_nx H8 = n + 3 := by rw [e8]; exact hn7
  have hm8 : am_Same a n H H8 := by rw [e8]; exact hm7.sr (by omega)
  have hs8_a : am_sh H8 a = (4, am_Nf 4) := by rw [e8]; exact hs7_a
  have hf8_a_3 : am_gr H8 a 3 = some b := by rw [e8]; exact gr_sr hf7_a_3 (by omega)
  have hf8_a_1 : am_gr H8 a 1 = some n := by rw [e8]; exact gr_sr hf7_a_1 (by omega)
  have hg8_a_2 : am_gi H8 a 2 = 0 := by rw [e8]; exact hg7_a_2
  have hg8_a_4 : am_gi H8 a 4 = 0 := by rw [e8]; exact hg7_a_4
  have hg8_a_5 : am_gi H8 a 5 = 0 := by rw [e8]; exact hg7_a_5
  have hg8_a_6 : am_gi H8 a 6 = 0 := by rw [e8]; exact hg7_a_6
  have hg8_a_7 : am_gi H8 a 7 = 0 := by rw [e8]; exact hg7_a_7
  have hg8_a_8 : am_gi H8 a 8 = 0 := by rw [e8]; exact hg7_a_8
  have hg8_a_9 : am_gi H8 a 9 = 0 := by rw [e8]; exact hg7_a_9
  have hg8_a_0 : am_gi H8 a 0 = k := by rw [e8]; exact hg7_a_0
  have hs8_n : am_sh H8 n = (103 + 3, 3) := by rw [e8]; exact hs7_n
  have hf8_n_0 : am_gr H8 n 0 = some (n + 1) := by rw [e8]; exact gr_sr hf7_n_0 (by omega)
  have hs8_n1 : am_sh H8 (n + 1) = (3, am_Nf 3) := by rw [e8]; exact hs7_n1
  have hs8_n2 : am_sh H8 (n + 2) = (3, am_Nf 3) := by rw [e8]; exact hs7_n2
  have hf8_n_1 : am_gr H8 n 1 = some (n + 2) := by rw [e8]; exact gr_set
  have hz8_n1 : (∀ i, am_gr H8 (n + 1) i = none) ∧ ∀ i, am_gi H8 (n + 1) i = 0 := by rw [e8]; exact ⟨fun i => gr_sr (hz7_n1.1 i) (by omega), hz7_n1.2⟩
  have hz8_n2 : (∀ i, am_gr H8 (n + 2) i = none) ∧ ∀ i, am_gi H8 (n + 2) i = 0 := by rw [e8]; exact ⟨fun i => gr_sr (hz7_n2.1 i) (by omega), hz7_n2.2⟩
  refine ae_iinc (v := 2) (lv' := [(3, .int 2), (0, .ref a), (1, .int k), (2, .ref b)]) (q := 45) dX4_init_42 rfl (by decide) (by decide) rfl rfl ?_
  refine ae_goto (q := 24) dX4_init_45 (by decide) ?_
  refine ae_iload_n (q := 25) dX4_init_24 rfl rfl rfl ?_
  refine ae_iconst (v := 3) (q := 26) dX4_init_25 (by decide) rfl ?_
  refine ae_icmp_ge (t := 48) (q := 29) dX4_init_26 (by decide) rfl (fun h => absurd h (by decide)) (fun _ => ?_)
  refine ae_aload_n (q := 30) dX4_init_29 rfl rfl rfl ?_
  refine ae_getR (q := 33) dX4_init_30 fl_X4_21 rfl hs8_a (by rw [hn8]; omega) hf8_a_1 rfl ?_
  refine ae_iload_n (q := 34) dX4_init_33 rfl rfl rfl ?_
  refine ae_new (q := 37) dX4_init_34 cn_X4_19 (by intro x hx; simp only [List.mem_cons, List.not_mem_nil, or_false] at hx; rcases hx with rfl | rfl <;> first | trivial | exact am_okr (by omega)) (by intro x hx; simp only [List.mem_cons, List.not_mem_nil, or_false] at hx; rcases hx with rfl | rfl | rfl | rfl <;> first | trivial | exact am_okr (by omega)) (by rw [hn8]; omega) rfl ?_
  rw [hn8]
  refine ae_gen (fun H9 e9 => ?_)
  have hn9 : am_nx H9 = n + 4 := by rw [e9]; show am_nx H8 + 1 = _; rw [hn8]
  have hm9 : am_Same a n H H9 := by rw [e9]; exact hm8.nw (by rw [hn8]; omega)
  have hs9_a : am_sh H9 a = (4, am_Nf 4) := by rw [e9]; exact sh_nw hs8_a (by rw [hn8]; omega)
  have hf9_a_3 : am_gr H9 a 3 = some b := by rw [e9]; exact gr_nw hf8_a_3 (by rw [hn8]; omega)
  have hf9_a_1 : am_gr H9 a 1 = some n := by rw [e9]; exact gr_nw hf8_a_1 (by rw [hn8]; omega)
  have hg9_a_2 : am_gi H9 a 2 = 0 := by rw [e9]; exact gi_nw hg8_a_2 (by rw [hn8]; omega)
  have hg9_a_4 : am_gi H9 a 4 = 0 := by rw [e9]; exact gi_nw hg8_a_4 (by rw [hn8]; omega)
  have hg9_a_5 : am_gi H9 a 5 = 0 := by rw [e9]; exact gi_nw hg8_a_5 (by rw [hn8]; omega)
  have hg9_a_6 : am_gi H9 a 6 = 0 := by rw [e9]; exact gi_nw hg8_a_6 (by rw [hn8]; omega)
  have hg9_a_7 : am_gi H9 a 7 = 0 := by rw [e9]; exact gi_nw hg8_a_7 (by rw [hn8]; omega)
  have hg9_a_8 : am_gi H9 a 8 = 0 := by rw [e9]; exact gi_nw hg8_a_8 (by rw [hn8]; omega)
  have hg9_a_9 : am_gi H9 a 9 = 0 := by rw [e9]; exact gi_nw hg8_a_9 (by rw [hn8]; omega)
  have hg9_a_0 : am_gi H9 a 0 = k := by rw [e9]; exact gi_nw hg8_a_0 (by rw [hn8]; omega)
  have hs9_n : am_sh H9 n = (103 + 3, 3) := by rw [e9]; exact sh_nw hs8_n (by rw [hn8]; omega)
  have hf9_n_0 : am_gr H9 n 0 = some (n + 1) := by rw [e9]; exact gr_nw hf8_n_0 (by rw [hn8]; omega)
  have hf9_n_1 : am_gr H9 n 1 = some (n + 2) := by rw [e9]; exact gr_nw hf8_n_1 (by rw [hn8]; omega)
  have hs9_n1 : am_sh H9 (n + 1) = (3, am_Nf 3) := by rw [e9]; exact sh_nw hs8_n1 (by rw [hn8]; omega)
  have hs9_n2 : am_sh H9 (n + 2) = (3, am_Nf 3) := by rw [e9]; exact sh_nw hs8_n2 (by rw [hn8]; omega)
  have hs9_n3 : am_sh H9 (n + 3) = (3, am_Nf 3) := by rw [e9, ← hn8]; exact am_sh_nw
  have hz9 : (∀ i, am_gr H9 (n + 3) i = none) ∧ ∀ i, am_gi H9 (n + 3) i = 0 := by rw [e9, ← hn8]; exact ⟨fun _ => gr_fresh, fun _ => gi_fresh⟩
  have hz9_n1 : (∀ i, am_gr H9 (n + 1) i = none) ∧ ∀ i, am_gi H9 (n + 1) i = 0 := by rw [e9]; exact ⟨fun i => gr_nw (hz8_n1.1 i) (by rw [hn8]; omega), fun i => gi_nw (hz8_n1.2 i) (by rw [hn8]; omega)⟩
  have hz9_n2 : (∀ i, am_gr H9 (n + 2) i = none) ∧ ∀ i, am_gi H9 (n + 2) i = 0 := by rw [e9]; exact ⟨fun i => gr_nw (hz8_n2.1 i) (by rw [hn8]; omega), fun i => gi_nw (hz8_n2.2 i) (by rw [hn8]; omega)⟩
  have hz9_n3 := hz9
  refine ae_dup (q := 38) dX4_init_37 rfl rfl ?_
  refine ae_callIN (as := []) (b := (n + 3)) (st := [.ref (n + 3), .int 2, .ref n]) (q := 41) dX4_init_38 e_X3_init myX3_init rfl rfl (show Cond.methodLinkNest RX4 25 yX3_init "PhaserYard" ∈ am_nst from by decide +kernel) im_X3_init rfl rfl (Nat.le_of_ble_eq_true rfl) rfl (fun o H1 h => h.1) (fun G h => ?_)
  obtain ⟨-, rfl⟩ := h
  refine ⟨Or.inl rfl, ?_⟩
  refine ae_aast (t := 5) (q := 42) dX4_init_41 hs9_n rfl (by decide) rfl (by rw [hn9]; omega) hs9_n3 (by rw [hn9]; omega) (by unfold vp_in; decide) rfl ?_
  rw [show (2 : Int32).toNatClampNeg = 2 from by decide]
  refine ae_gen (fun H10 e10 => ?_)
  have hn10 : am_nx H10 = n + 4 := by rw [e10]; exact hn9
  have hm10 : am_Same a n H H10 := by rw [e10]; exact hm9.sr (by omega)
  have hs10_a : am_sh H10 a = (4, am_Nf 4) := by rw [e10]; exact hs9_a
  have hf10_a_3 : am_gr H10 a 3 = some b := by rw [e10]; exact gr_sr hf9_a_3 (by omega)
  have hf10_a_1 : am_gr H10 a 1 = some n := by rw [e10]; exact gr_sr hf9_a_1 (by omega)
  have hg10_a_2 : am_gi H10 a 2 = 0 := by rw [e10]; exact hg9_a_2
  have hg10_a_4 : am_gi H10 a 4 = 0 := by rw [e10]; exact hg9_a_4
  have hg10_a_5 : am_gi H10 a 5 = 0 := by rw [e10]; exact hg9_a_5
  have hg10_a_6 : am_gi H10 a 6 = 0 := by rw [e10]; exact hg9_a_6
  have hg10_a_7 : am_gi H10 a 7 = 0 := by rw [e10]; exact hg9_a_7
  have hg10_a_8 : am_gi H10 a 8 = 0 := by rw [e10]; exact hg9_a_8
  have hg10_a_9 : am_gi H10 a 9 = 0 := by rw [e10]; exact hg9_a_9
  have hg10_a_0 : am_gi H10 a 0 = k := by rw [e10]; exact hg9_a_0
  have hs10_n : am_sh H10 n = (103 + 3, 3) := by rw [e10]; exact hs9_n
  have hf10_n_0 : am_gr H10 n 0 = some (n + 1) := by rw [e10]; exact gr_sr hf9_n_0 (by omega)
  have hf10_n_1 : am_gr H10 n 1 = some (n + 2) := by rw [e10]; exact gr_sr hf9_n_1 (by omega)
  have hs10_n1 : am_sh H10 (n + 1) = (3, am_Nf 3) := by rw [e10]; exact hs9_n1
  have hs10_n2 : am_sh H10 (n + 2) = (3, am_Nf 3) := by rw [e10]; exact hs9_n2
  have hs10_n3 : am_sh H10 (n + 3) = (3, am_Nf 3) := by rw [e10]; exact hs9_n3
  have hf10_n_2 : am_gr H10 n 2 = some (n + 3) := by rw [e10]; exact gr_set
  have hz10_n1 : (∀ i, am_gr H10 (n + 1) i = none) ∧ ∀ i, am_gi H10 (n + 1) i = 0 := by rw [e10]; exact ⟨fun i => gr_sr (hz9_n1.1 i) (by omega), hz9_n1.2⟩
  have hz10_n2 : (∀ i, am_gr H10 (n + 2) i = none) ∧ ∀ i, am_gi H10 (n + 2) i = 0 := by rw [e10]; exact ⟨fun i => gr_sr (hz9_n2.1 i) (by omega), hz9_n2.2⟩
  have hz10_n3 : (∀ i, am_gr H10 (n + 3) i = none) ∧ ∀ i, am_gi H10 (n + 3) i = 0 := by rw [e10]; exact ⟨fun i => gr_sr (hz9_n3.1 i) (by omega), hz9_n3.2⟩
  refine ae_iinc (v := 3) (lv' := [(3, .int 3), (0, .ref a), (1, .int k), (2, .ref b)]) (q := 45) dX4_init_42 rfl (by decide) (by decide) rfl rfl ?_
  refine ae_goto (q := 24) dX4_init_45 (by decide) ?_
  refine ae_iload_n (q := 25) dX4_init_24 rfl rfl rfl ?_
  refine ae_iconst (v := 3) (q := 26) dX4_init_25 (by decide) rfl ?_
  refine ae_icmp_ge (t := 48) (q := 29) dX4_init_26 (by decide) rfl (fun _ => ?_) (fun h => absurd h (by decide))
  refine ae_vret dX4_init_48 rfl ?_
  exact ⟨rfl, hn10, hm10, hs10_a, hg10_a_0, hf10_a_1, hf10_a_3, hg10_a_2, hg10_a_4, hg10_a_5, hg10_a_6, hg10_a_7, hg10_a_8, hg10_a_9, hs10_n, hf10_n_0, hf10_n_1, hf10_n_2, hs10_n1, hs10_n2, hs10_n3, hz10_n1, hz10_n2, hz10_n3⟩
end
section
/-! The reference's constructor: thirty arrays, one behind the other. -/
def mk_Inv (tb : List (Nat × Nat)) (ci a n : Nat) (H0 : am_H) (j : Nat) (H : am_H) : Prop :=
  am_nx H = n + j ∧ am_Same a n H0 H ∧ am_sh H a = (ci, am_Nf ci) ∧ (∀ i, i < j → am_gr H a i = some (n + i) ∧ am_sh H (n + i) = tb.getD i (0, 0) ∧ (∀ y, am_gr H (n + i) y = none) ∧ ∀ y, am_gi H (n + i) y = 0) ∧ am_gi H a = am_gi H0 a
theorem mk_step {tb : List (Nat × Nat)} {ci a n j k m : Nat} {H0 H H1 : am_H} (h : mk_Inv tb ci a n H0 j H) (ha : a < n) (ht : tb.getD j (0, 0) = (k, m)) (e : H1 = am_sr (am_nw H k m) a j (some (n + j))) : mk_Inv tb ci a n H0 (j + 1) H1 := by
  obtain ⟨h1, h2, h3, h4, h5⟩ := h
  subst e
  have hne : a ≠ am_nx H := by omega
  refine ⟨by show am_nx H + 1 = n + (j + 1); omega, (h2.nw (by omega)).sr (Or.inl rfl), sh_nw h3 (by omega), fun i hi => ?_, ?_⟩
  · by_cases hij : i = j
    · subst hij
      have hx : n + i ≠ a := by omega
      refine ⟨gr_set, ?_, fun y => ?_, fun y => ?_⟩
      · rw [ht, ← h1]; exact am_sh_nw
      · refine gr_sr ?_ (fun q => hx q.1); rw [← h1]; exact gr_fresh
      · show am_gi (am_nw H k m) (n + i) y = 0; rw [← h1]; exact gi_fresh
    · obtain ⟨g1, g2, g3, g4⟩ := h4 i (by omega)
      refine ⟨gr_sr (gr_nw g1 (by omega)) (fun q => hij q.2), sh_nw g2 (by omega), fun y => gr_sr (gr_nw (g3 y) (by omega)) (fun q => by have := q.1; omega), fun y => gi_nw (k := k) (n := m) (g4 y) (by omega)⟩
  · rw [← h5]
    funext y
    exact gi_nw (k := k) (n := m) rfl (by omega)
def mk_tb7 : List (Nat × Nat) := [(100, 8), (100, 128), (100, 128), (100, 48), (100, 48), (100, 48), (100, 48), (100, 48), (100, 48), (100, 48), (100, 48), (100, 4), (101, 48), (101, 48), (101, 48), (101, 4), (100, 96), (100, 96), (100, 96), (100, 2), (100, 145), (100, 145), (100, 145), (100, 145), (100, 145), (100, 145), (100, 3), (100, 3), (100, 144), (100, 40)]
set_option maxRecDepth 100000 in
set_option maxHeartbeats 4000000 in
theorem e_X7_init {ox : List (Nat × (Nat → Int32))} {d n a : Nat} {H : am_H} (hn : am_nx H = n) (hN : n ≤ 900000) (ha : a < n) (hs : am_sh H a = (7, am_Nf 7)) : am_D ox (d + 1) yX7_init mX7_init [.ref a] H (fun o H1 => o = .inl none ∧ mk_Inv mk_tb7 7 a n H 30 H1) := by
  have h0 : mk_Inv mk_tb7 7 a n H 0 H := ⟨hn, am_Same.rf, hs, fun i h => absurd h (Nat.not_lt_zero i), rfl⟩
  refine ae_enter rfl rfl rfl rfl (Nat.le_of_ble_eq_true rfl) ?_
  show am_E ox (d + 1) mX7_init 0 [(0, .ref a)] [] H _
  refine ae_aload_n (q := 1) dX7_init_0 rfl rfl rfl ?_
  refine ae_objInit (q := 4) dX7_init_1 (Nat.succ_le_succ (Nat.zero_le _)) lk_X7_1 im_obj cd_obj (by decide) rfl ?_
  refine ae_aload_n (q := 5) dX7_init_4 rfl rfl rfl ?_
  refine ae_bipush (v := 8) (q := 7) dX7_init_5 (by decide) rfl ?_
  refine ae_newI (N := 8) (q := 9) dX7_init_7 ac_int (by decide) (by decide) (by decide) (by intro x hx; rcases List.mem_singleton.mp hx with rfl; exact am_okr (by have := h0.1; omega)) (by intro x hx; rcases List.mem_singleton.mp hx with rfl; exact am_okr (by have := h0.1; omega)) (by have := h0.1; omega) rfl ?_
  rw [h0.1]
  refine ae_putF (q := 12) dX7_init_9 fl_X7_7 rfl rfl (fun r h => by cases h; rfl) (fun _ => rfl) (fun _ => rfl) (sh_nw h0.2.2.1 (by have := h0.1; omega)) (by show a < am_nx H + 1; have := h0.1; omega) (by show n + 0 < am_nx H + 1; have := h0.1; omega) rfl ?_
  refine ae_gen (fun G1 e1 => ?_)
  have h1 := mk_step h0 ha rfl e1
  refine ae_aload_n (q := 13) dX7_init_12 rfl rfl rfl ?_
  refine ae_sipush (v := 128) (q := 16) dX7_init_13 (by decide) rfl ?_
  refine ae_newI (N := 128) (q := 18) dX7_init_16 ac_int (by decide) (by decide) (by decide) (by intro x hx; rcases List.mem_singleton.mp hx with rfl; exact am_okr (by have := h1.1; omega)) (by intro x hx; rcases List.mem_singleton.mp hx with rfl; exact am_okr (by have := h1.1; omega)) (by have := h1.1; omega) rfl ?_
  rw [h1.1]
  refine ae_putF (q := 21) dX7_init_18 fl_X7_13 rfl rfl (fun r h => by cases h; rfl) (fun _ => rfl) (fun _ => rfl) (sh_nw h1.2.2.1 (by have := h1.1; omega)) (by show a < am_nx G1 + 1; have := h1.1; omega) (by show n + 1 < am_nx G1 + 1; have := h1.1; omega) rfl ?_
  refine ae_gen (fun G2 e2 => ?_)
  have h2 := mk_step h1 ha rfl e2
  refine ae_aload_n (q := 22) dX7_init_21 rfl rfl rfl ?_
  refine ae_sipush (v := 128) (q := 25) dX7_init_22 (by decide) rfl ?_
  refine ae_newI (N := 128) (q := 27) dX7_init_25 ac_int (by decide) (by decide) (by decide) (by intro x hx; rcases List.mem_singleton.mp hx with rfl; exact am_okr (by have := h2.1; omega)) (by intro x hx; rcases List.mem_singleton.mp hx with rfl; exact am_okr (by have := h2.1; omega)) (by have := h2.1; omega) rfl ?_
  rw [h2.1]
  refine ae_putF (q := 30) dX7_init_27 fl_X7_16 rfl rfl (fun r h => by cases h; rfl) (fun _ => rfl) (fun _ => rfl) (sh_nw h2.2.2.1 (by have := h2.1; omega)) (by show a < am_nx G2 + 1; have := h2.1; omega) (by show n + 2 < am_nx G2 + 1; have := h2.1; omega) rfl ?_
  refine ae_gen (fun G3 e3 => ?_)
  have h3 := mk_step h2 ha rfl e3
  refine ae_aload_n (q := 31) dX7_init_30 rfl rfl rfl ?_
  refine ae_bipush (v := 48) (q := 33) dX7_init_31 (by decide) rfl ?_
  refine ae_newI (N := 48) (q := 35) dX7_init_33 ac_int (by decide) (by decide) (by decide) (by intro x hx; rcases List.mem_singleton.mp hx with rfl; exact am_okr (by have := h3.1; omega)) (by intro x hx; rcases List.mem_singleton.mp hx with rfl; exact am_okr (by have := h3.1; omega)) (by have := h3.1; omega) rfl ?_
  rw [h3.1]
  refine ae_putF (q := 38) dX7_init_35 fl_X7_19 rfl rfl (fun r h => by cases h; rfl) (fun _ => rfl) (fun _ => rfl) (sh_nw h3.2.2.1 (by have := h3.1; omega)) (by show a < am_nx G3 + 1; have := h3.1; omega) (by show n + 3 < am_nx G3 + 1; have := h3.1; omega) rfl ?_
  refine ae_gen (fun G4 e4 => ?_)
  have h4 := mk_step h3 ha rfl e4
  refine ae_aload_n (q := 39) dX7_init_38 rfl rfl rfl ?_
  refine ae_bipush (v := 48) (q := 41) dX7_init_39 (by decide) rfl ?_
  refine ae_newI (N := 48) (q := 43) dX7_init_41 ac_int (by decide) (by decide) (by decide) (by intro x hx; rcases List.mem_singleton.mp hx with rfl; exact am_okr (by have := h4.1; omega)) (by intro x hx; rcases List.mem_singleton.mp hx with rfl; exact am_okr (by have := h4.1; omega)) (by have := h4.1; omega) rfl ?_
  rw [h4.1]
  refine ae_putF (q := 46) dX7_init_43 fl_X7_22 rfl rfl (fun r h => by cases h; rfl) (fun _ => rfl) (fun _ => rfl) (sh_nw h4.2.2.1 (by have := h4.1; omega)) (by show a < am_nx G4 + 1; have := h4.1; omega) (by show n + 4 < am_nx G4 + 1; have := h4.1; omega) rfl ?_
  refine ae_gen (fun G5 e5 => ?_)
  have h5 := mk_step h4 ha rfl e5
  refine ae_aload_n (q := 47) dX7_init_46 rfl rfl rfl ?_
  refine ae_bipush (v := 48) (q := 49) dX7_init_47 (by decide) rfl ?_
  refine ae_newI (N := 48) (q := 51) dX7_init_49 ac_int (by decide) (by decide) (by decide) (by intro x hx; rcases List.mem_singleton.mp hx with rfl; exact am_okr (by have := h5.1; omega)) (by intro x hx; rcases List.mem_singleton.mp hx with rfl; exact am_okr (by have := h5.1; omega)) (by have := h5.1; omega) rfl ?_
  rw [h5.1]
  refine ae_putF (q := 54) dX7_init_51 fl_X7_25 rfl rfl (fun r h => by cases h; rfl) (fun _ => rfl) (fun _ => rfl) (sh_nw h5.2.2.1 (by have := h5.1; omega)) (by show a < am_nx G5 + 1; have := h5.1; omega) (by show n + 5 < am_nx G5 + 1; have := h5.1; omega) rfl ?_
  refine ae_gen (fun G6 e6 => ?_)
  have h6 := mk_step h5 ha rfl e6
  refine ae_aload_n (q := 55) dX7_init_54 rfl rfl rfl ?_
  refine ae_bipush (v := 48) (q := 57) dX7_init_55 (by decide) rfl ?_
  refine ae_newI (N := 48) (q := 59) dX7_init_57 ac_int (by decide) (by decide) (by decide) (by intro x hx; rcases List.mem_singleton.mp hx with rfl; exact am_okr (by have := h6.1; omega)) (by intro x hx; rcases List.mem_singleton.mp hx with rfl; exact am_okr (by have := h6.1; omega)) (by have := h6.1; omega) rfl ?_
  rw [h6.1]
  refine ae_putF (q := 62) dX7_init_59 fl_X7_28 rfl rfl (fun r h => by cases h; rfl) (fun _ => rfl) (fun _ => rfl) (sh_nw h6.2.2.1 (by have := h6.1; omega)) (by show a < am_nx G6 + 1; have := h6.1; omega) (by show n + 6 < am_nx G6 + 1; have := h6.1; omega) rfl ?_
  refine ae_gen (fun G7 e7 => ?_)
  have h7 := mk_step h6 ha rfl e7
  refine ae_aload_n (q := 63) dX7_init_62 rfl rfl rfl ?_
  refine ae_bipush (v := 48) (q := 65) dX7_init_63 (by decide) rfl ?_
  refine ae_newI (N := 48) (q := 67) dX7_init_65 ac_int (by decide) (by decide) (by decide) (by intro x hx; rcases List.mem_singleton.mp hx with rfl; exact am_okr (by have := h7.1; omega)) (by intro x hx; rcases List.mem_singleton.mp hx with rfl; exact am_okr (by have := h7.1; omega)) (by have := h7.1; omega) rfl ?_
  rw [h7.1]
  refine ae_putF (q := 70) dX7_init_67 fl_X7_31 rfl rfl (fun r h => by cases h; rfl) (fun _ => rfl) (fun _ => rfl) (sh_nw h7.2.2.1 (by have := h7.1; omega)) (by show a < am_nx G7 + 1; have := h7.1; omega) (by show n + 7 < am_nx G7 + 1; have := h7.1; omega) rfl ?_
  refine ae_gen (fun G8 e8 => ?_)
  have h8 := mk_step h7 ha rfl e8
  refine ae_aload_n (q := 71) dX7_init_70 rfl rfl rfl ?_
  refine ae_bipush (v := 48) (q := 73) dX7_init_71 (by decide) rfl ?_
  refine ae_newI (N := 48) (q := 75) dX7_init_73 ac_int (by decide) (by decide) (by decide) (by intro x hx; rcases List.mem_singleton.mp hx with rfl; exact am_okr (by have := h8.1; omega)) (by intro x hx; rcases List.mem_singleton.mp hx with rfl; exact am_okr (by have := h8.1; omega)) (by have := h8.1; omega) rfl ?_
  rw [h8.1]
  refine ae_putF (q := 78) dX7_init_75 fl_X7_34 rfl rfl (fun r h => by cases h; rfl) (fun _ => rfl) (fun _ => rfl) (sh_nw h8.2.2.1 (by have := h8.1; omega)) (by show a < am_nx G8 + 1; have := h8.1; omega) (by show n + 8 < am_nx G8 + 1; have := h8.1; omega) rfl ?_
  refine ae_gen (fun G9 e9 => ?_)
  have h9 := mk_step h8 ha rfl e9
  refine ae_aload_n (q := 79) dX7_init_78 rfl rfl rfl ?_
  refine ae_bipush (v := 48) (q := 81) dX7_init_79 (by decide) rfl ?_
  refine ae_newI (N := 48) (q := 83) dX7_init_81 ac_int (by decide) (by decide) (by decide) (by intro x hx; rcases List.mem_singleton.mp hx with rfl; exact am_okr (by have := h9.1; omega)) (by intro x hx; rcases List.mem_singleton.mp hx with rfl; exact am_okr (by have := h9.1; omega)) (by have := h9.1; omega) rfl ?_
  rw [h9.1]
  refine ae_putF (q := 86) dX7_init_83 fl_X7_37 rfl rfl (fun r h => by cases h; rfl) (fun _ => rfl) (fun _ => rfl) (sh_nw h9.2.2.1 (by have := h9.1; omega)) (by show a < am_nx G9 + 1; have := h9.1; omega) (by show n + 9 < am_nx G9 + 1; have := h9.1; omega) rfl ?_
  refine ae_gen (fun G10 e10 => ?_)
  have h10 := mk_step h9 ha rfl e10
  refine ae_aload_n (q := 87) dX7_init_86 rfl rfl rfl ?_
  refine ae_bipush (v := 48) (q := 89) dX7_init_87 (by decide) rfl ?_
  refine ae_newI (N := 48) (q := 91) dX7_init_89 ac_int (by decide) (by decide) (by decide) (by intro x hx; rcases List.mem_singleton.mp hx with rfl; exact am_okr (by have := h10.1; omega)) (by intro x hx; rcases List.mem_singleton.mp hx with rfl; exact am_okr (by have := h10.1; omega)) (by have := h10.1; omega) rfl ?_
  rw [h10.1]
  refine ae_putF (q := 94) dX7_init_91 fl_X7_40 rfl rfl (fun r h => by cases h; rfl) (fun _ => rfl) (fun _ => rfl) (sh_nw h10.2.2.1 (by have := h10.1; omega)) (by show a < am_nx G10 + 1; have := h10.1; omega) (by show n + 10 < am_nx G10 + 1; have := h10.1; omega) rfl ?_
  refine ae_gen (fun G11 e11 => ?_)
  have h11 := mk_step h10 ha rfl e11
  refine ae_aload_n (q := 95) dX7_init_94 rfl rfl rfl ?_
  refine ae_iconst (v := 4) (q := 96) dX7_init_95 (by decide) rfl ?_
  refine ae_newI (N := 4) (q := 98) dX7_init_96 ac_int (by decide) (by decide) (by decide) (by intro x hx; rcases List.mem_singleton.mp hx with rfl; exact am_okr (by have := h11.1; omega)) (by intro x hx; rcases List.mem_singleton.mp hx with rfl; exact am_okr (by have := h11.1; omega)) (by have := h11.1; omega) rfl ?_
  rw [h11.1]
  refine ae_putF (q := 101) dX7_init_98 fl_X7_43 rfl rfl (fun r h => by cases h; rfl) (fun _ => rfl) (fun _ => rfl) (sh_nw h11.2.2.1 (by have := h11.1; omega)) (by show a < am_nx G11 + 1; have := h11.1; omega) (by show n + 11 < am_nx G11 + 1; have := h11.1; omega) rfl ?_
  refine ae_gen (fun G12 e12 => ?_)
  have h12 := mk_step h11 ha rfl e12
  refine ae_aload_n (q := 102) dX7_init_101 rfl rfl rfl ?_
  refine ae_bipush (v := 48) (q := 104) dX7_init_102 (by decide) rfl ?_
  refine ae_newZ (N := 48) (q := 106) dX7_init_104 ac_boolean (by decide) (by decide) (by decide) (by intro x hx; rcases List.mem_singleton.mp hx with rfl; exact am_okr (by have := h12.1; omega)) (by intro x hx; rcases List.mem_singleton.mp hx with rfl; exact am_okr (by have := h12.1; omega)) (by have := h12.1; omega) rfl ?_
  rw [h12.1]
  refine ae_putF (q := 109) dX7_init_106 fl_X7_46 rfl rfl (fun r h => by cases h; rfl) (fun _ => rfl) (fun _ => rfl) (sh_nw h12.2.2.1 (by have := h12.1; omega)) (by show a < am_nx G12 + 1; have := h12.1; omega) (by show n + 12 < am_nx G12 + 1; have := h12.1; omega) rfl ?_
  refine ae_gen (fun G13 e13 => ?_)
  have h13 := mk_step h12 ha rfl e13
  refine ae_aload_n (q := 110) dX7_init_109 rfl rfl rfl ?_
  refine ae_bipush (v := 48) (q := 112) dX7_init_110 (by decide) rfl ?_
  refine ae_newZ (N := 48) (q := 114) dX7_init_112 ac_boolean (by decide) (by decide) (by decide) (by intro x hx; rcases List.mem_singleton.mp hx with rfl; exact am_okr (by have := h13.1; omega)) (by intro x hx; rcases List.mem_singleton.mp hx with rfl; exact am_okr (by have := h13.1; omega)) (by have := h13.1; omega) rfl ?_
  rw [h13.1]
  refine ae_putF (q := 117) dX7_init_114 fl_X7_50 rfl rfl (fun r h => by cases h; rfl) (fun _ => rfl) (fun _ => rfl) (sh_nw h13.2.2.1 (by have := h13.1; omega)) (by show a < am_nx G13 + 1; have := h13.1; omega) (by show n + 13 < am_nx G13 + 1; have := h13.1; omega) rfl ?_
  refine ae_gen (fun G14 e14 => ?_)
  have h14 := mk_step h13 ha rfl e14
  refine ae_aload_n (q := 118) dX7_init_117 rfl rfl rfl ?_
  refine ae_bipush (v := 48) (q := 120) dX7_init_118 (by decide) rfl ?_
  refine ae_newZ (N := 48) (q := 122) dX7_init_120 ac_boolean (by decide) (by decide) (by decide) (by intro x hx; rcases List.mem_singleton.mp hx with rfl; exact am_okr (by have := h14.1; omega)) (by intro x hx; rcases List.mem_singleton.mp hx with rfl; exact am_okr (by have := h14.1; omega)) (by have := h14.1; omega) rfl ?_
  rw [h14.1]
  refine ae_putF (q := 125) dX7_init_122 fl_X7_53 rfl rfl (fun r h => by cases h; rfl) (fun _ => rfl) (fun _ => rfl) (sh_nw h14.2.2.1 (by have := h14.1; omega)) (by show a < am_nx G14 + 1; have := h14.1; omega) (by show n + 14 < am_nx G14 + 1; have := h14.1; omega) rfl ?_
  refine ae_gen (fun G15 e15 => ?_)
  have h15 := mk_step h14 ha rfl e15
  refine ae_aload_n (q := 126) dX7_init_125 rfl rfl rfl ?_
  refine ae_iconst (v := 4) (q := 127) dX7_init_126 (by decide) rfl ?_
  refine ae_newZ (N := 4) (q := 129) dX7_init_127 ac_boolean (by decide) (by decide) (by decide) (by intro x hx; rcases List.mem_singleton.mp hx with rfl; exact am_okr (by have := h15.1; omega)) (by intro x hx; rcases List.mem_singleton.mp hx with rfl; exact am_okr (by have := h15.1; omega)) (by have := h15.1; omega) rfl ?_
  rw [h15.1]
  refine ae_putF (q := 132) dX7_init_129 fl_X7_56 rfl rfl (fun r h => by cases h; rfl) (fun _ => rfl) (fun _ => rfl) (sh_nw h15.2.2.1 (by have := h15.1; omega)) (by show a < am_nx G15 + 1; have := h15.1; omega) (by show n + 15 < am_nx G15 + 1; have := h15.1; omega) rfl ?_
  refine ae_gen (fun G16 e16 => ?_)
  have h16 := mk_step h15 ha rfl e16
  refine ae_aload_n (q := 133) dX7_init_132 rfl rfl rfl ?_
  refine ae_bipush (v := 96) (q := 135) dX7_init_133 (by decide) rfl ?_
  refine ae_newI (N := 96) (q := 137) dX7_init_135 ac_int (by decide) (by decide) (by decide) (by intro x hx; rcases List.mem_singleton.mp hx with rfl; exact am_okr (by have := h16.1; omega)) (by intro x hx; rcases List.mem_singleton.mp hx with rfl; exact am_okr (by have := h16.1; omega)) (by have := h16.1; omega) rfl ?_
  rw [h16.1]
  refine ae_putF (q := 140) dX7_init_137 fl_X7_59 rfl rfl (fun r h => by cases h; rfl) (fun _ => rfl) (fun _ => rfl) (sh_nw h16.2.2.1 (by have := h16.1; omega)) (by show a < am_nx G16 + 1; have := h16.1; omega) (by show n + 16 < am_nx G16 + 1; have := h16.1; omega) rfl ?_
  refine ae_gen (fun G17 e17 => ?_)
  have h17 := mk_step h16 ha rfl e17
  refine ae_aload_n (q := 141) dX7_init_140 rfl rfl rfl ?_
  refine ae_bipush (v := 96) (q := 143) dX7_init_141 (by decide) rfl ?_
  refine ae_newI (N := 96) (q := 145) dX7_init_143 ac_int (by decide) (by decide) (by decide) (by intro x hx; rcases List.mem_singleton.mp hx with rfl; exact am_okr (by have := h17.1; omega)) (by intro x hx; rcases List.mem_singleton.mp hx with rfl; exact am_okr (by have := h17.1; omega)) (by have := h17.1; omega) rfl ?_
  rw [h17.1]
  refine ae_putF (q := 148) dX7_init_145 fl_X7_62 rfl rfl (fun r h => by cases h; rfl) (fun _ => rfl) (fun _ => rfl) (sh_nw h17.2.2.1 (by have := h17.1; omega)) (by show a < am_nx G17 + 1; have := h17.1; omega) (by show n + 17 < am_nx G17 + 1; have := h17.1; omega) rfl ?_
  refine ae_gen (fun G18 e18 => ?_)
  have h18 := mk_step h17 ha rfl e18
  refine ae_aload_n (q := 149) dX7_init_148 rfl rfl rfl ?_
  refine ae_bipush (v := 96) (q := 151) dX7_init_149 (by decide) rfl ?_
  refine ae_newI (N := 96) (q := 153) dX7_init_151 ac_int (by decide) (by decide) (by decide) (by intro x hx; rcases List.mem_singleton.mp hx with rfl; exact am_okr (by have := h18.1; omega)) (by intro x hx; rcases List.mem_singleton.mp hx with rfl; exact am_okr (by have := h18.1; omega)) (by have := h18.1; omega) rfl ?_
  rw [h18.1]
  refine ae_putF (q := 156) dX7_init_153 fl_X7_65 rfl rfl (fun r h => by cases h; rfl) (fun _ => rfl) (fun _ => rfl) (sh_nw h18.2.2.1 (by have := h18.1; omega)) (by show a < am_nx G18 + 1; have := h18.1; omega) (by show n + 18 < am_nx G18 + 1; have := h18.1; omega) rfl ?_
  refine ae_gen (fun G19 e19 => ?_)
  have h19 := mk_step h18 ha rfl e19
  refine ae_aload_n (q := 157) dX7_init_156 rfl rfl rfl ?_
  refine ae_iconst (v := 2) (q := 158) dX7_init_157 (by decide) rfl ?_
  refine ae_newI (N := 2) (q := 160) dX7_init_158 ac_int (by decide) (by decide) (by decide) (by intro x hx; rcases List.mem_singleton.mp hx with rfl; exact am_okr (by have := h19.1; omega)) (by intro x hx; rcases List.mem_singleton.mp hx with rfl; exact am_okr (by have := h19.1; omega)) (by have := h19.1; omega) rfl ?_
  rw [h19.1]
  refine ae_putF (q := 163) dX7_init_160 fl_X7_68 rfl rfl (fun r h => by cases h; rfl) (fun _ => rfl) (fun _ => rfl) (sh_nw h19.2.2.1 (by have := h19.1; omega)) (by show a < am_nx G19 + 1; have := h19.1; omega) (by show n + 19 < am_nx G19 + 1; have := h19.1; omega) rfl ?_
  refine ae_gen (fun G20 e20 => ?_)
  have h20 := mk_step h19 ha rfl e20
  refine ae_aload_n (q := 164) dX7_init_163 rfl rfl rfl ?_
  refine ae_sipush (v := 145) (q := 167) dX7_init_164 (by decide) rfl ?_
  refine ae_newI (N := 145) (q := 169) dX7_init_167 ac_int (by decide) (by decide) (by decide) (by intro x hx; rcases List.mem_singleton.mp hx with rfl; exact am_okr (by have := h20.1; omega)) (by intro x hx; rcases List.mem_singleton.mp hx with rfl; exact am_okr (by have := h20.1; omega)) (by have := h20.1; omega) rfl ?_
  rw [h20.1]
  refine ae_putF (q := 172) dX7_init_169 fl_X7_71 rfl rfl (fun r h => by cases h; rfl) (fun _ => rfl) (fun _ => rfl) (sh_nw h20.2.2.1 (by have := h20.1; omega)) (by show a < am_nx G20 + 1; have := h20.1; omega) (by show n + 20 < am_nx G20 + 1; have := h20.1; omega) rfl ?_
  refine ae_gen (fun G21 e21 => ?_)
  have h21 := mk_step h20 ha rfl e21
  refine ae_aload_n (q := 173) dX7_init_172 rfl rfl rfl ?_
  refine ae_sipush (v := 145) (q := 176) dX7_init_173 (by decide) rfl ?_
  refine ae_newI (N := 145) (q := 178) dX7_init_176 ac_int (by decide) (by decide) (by decide) (by intro x hx; rcases List.mem_singleton.mp hx with rfl; exact am_okr (by have := h21.1; omega)) (by intro x hx; rcases List.mem_singleton.mp hx with rfl; exact am_okr (by have := h21.1; omega)) (by have := h21.1; omega) rfl ?_
  rw [h21.1]
  refine ae_putF (q := 181) dX7_init_178 fl_X7_74 rfl rfl (fun r h => by cases h; rfl) (fun _ => rfl) (fun _ => rfl) (sh_nw h21.2.2.1 (by have := h21.1; omega)) (by show a < am_nx G21 + 1; have := h21.1; omega) (by show n + 21 < am_nx G21 + 1; have := h21.1; omega) rfl ?_
  refine ae_gen (fun G22 e22 => ?_)
  have h22 := mk_step h21 ha rfl e22
  refine ae_aload_n (q := 182) dX7_init_181 rfl rfl rfl ?_
  refine ae_sipush (v := 145) (q := 185) dX7_init_182 (by decide) rfl ?_
  refine ae_newI (N := 145) (q := 187) dX7_init_185 ac_int (by decide) (by decide) (by decide) (by intro x hx; rcases List.mem_singleton.mp hx with rfl; exact am_okr (by have := h22.1; omega)) (by intro x hx; rcases List.mem_singleton.mp hx with rfl; exact am_okr (by have := h22.1; omega)) (by have := h22.1; omega) rfl ?_
  rw [h22.1]
  refine ae_putF (q := 190) dX7_init_187 fl_X7_77 rfl rfl (fun r h => by cases h; rfl) (fun _ => rfl) (fun _ => rfl) (sh_nw h22.2.2.1 (by have := h22.1; omega)) (by show a < am_nx G22 + 1; have := h22.1; omega) (by show n + 22 < am_nx G22 + 1; have := h22.1; omega) rfl ?_
  refine ae_gen (fun G23 e23 => ?_)
  have h23 := mk_step h22 ha rfl e23
  refine ae_aload_n (q := 191) dX7_init_190 rfl rfl rfl ?_
  refine ae_sipush (v := 145) (q := 194) dX7_init_191 (by decide) rfl ?_
  refine ae_newI (N := 145) (q := 196) dX7_init_194 ac_int (by decide) (by decide) (by decide) (by intro x hx; rcases List.mem_singleton.mp hx with rfl; exact am_okr (by have := h23.1; omega)) (by intro x hx; rcases List.mem_singleton.mp hx with rfl; exact am_okr (by have := h23.1; omega)) (by have := h23.1; omega) rfl ?_
  rw [h23.1]
  refine ae_putF (q := 199) dX7_init_196 fl_X7_80 rfl rfl (fun r h => by cases h; rfl) (fun _ => rfl) (fun _ => rfl) (sh_nw h23.2.2.1 (by have := h23.1; omega)) (by show a < am_nx G23 + 1; have := h23.1; omega) (by show n + 23 < am_nx G23 + 1; have := h23.1; omega) rfl ?_
  refine ae_gen (fun G24 e24 => ?_)
  have h24 := mk_step h23 ha rfl e24
  refine ae_aload_n (q := 200) dX7_init_199 rfl rfl rfl ?_
  refine ae_sipush (v := 145) (q := 203) dX7_init_200 (by decide) rfl ?_
  refine ae_newI (N := 145) (q := 205) dX7_init_203 ac_int (by decide) (by decide) (by decide) (by intro x hx; rcases List.mem_singleton.mp hx with rfl; exact am_okr (by have := h24.1; omega)) (by intro x hx; rcases List.mem_singleton.mp hx with rfl; exact am_okr (by have := h24.1; omega)) (by have := h24.1; omega) rfl ?_
  rw [h24.1]
  refine ae_putF (q := 208) dX7_init_205 fl_X7_83 rfl rfl (fun r h => by cases h; rfl) (fun _ => rfl) (fun _ => rfl) (sh_nw h24.2.2.1 (by have := h24.1; omega)) (by show a < am_nx G24 + 1; have := h24.1; omega) (by show n + 24 < am_nx G24 + 1; have := h24.1; omega) rfl ?_
  refine ae_gen (fun G25 e25 => ?_)
  have h25 := mk_step h24 ha rfl e25
  refine ae_aload_n (q := 209) dX7_init_208 rfl rfl rfl ?_
  refine ae_sipush (v := 145) (q := 212) dX7_init_209 (by decide) rfl ?_
  refine ae_newI (N := 145) (q := 214) dX7_init_212 ac_int (by decide) (by decide) (by decide) (by intro x hx; rcases List.mem_singleton.mp hx with rfl; exact am_okr (by have := h25.1; omega)) (by intro x hx; rcases List.mem_singleton.mp hx with rfl; exact am_okr (by have := h25.1; omega)) (by have := h25.1; omega) rfl ?_
  rw [h25.1]
  refine ae_putF (q := 217) dX7_init_214 fl_X7_86 rfl rfl (fun r h => by cases h; rfl) (fun _ => rfl) (fun _ => rfl) (sh_nw h25.2.2.1 (by have := h25.1; omega)) (by show a < am_nx G25 + 1; have := h25.1; omega) (by show n + 25 < am_nx G25 + 1; have := h25.1; omega) rfl ?_
  refine ae_gen (fun G26 e26 => ?_)
  have h26 := mk_step h25 ha rfl e26
  refine ae_aload_n (q := 218) dX7_init_217 rfl rfl rfl ?_
  refine ae_iconst (v := 3) (q := 219) dX7_init_218 (by decide) rfl ?_
  refine ae_newI (N := 3) (q := 221) dX7_init_219 ac_int (by decide) (by decide) (by decide) (by intro x hx; rcases List.mem_singleton.mp hx with rfl; exact am_okr (by have := h26.1; omega)) (by intro x hx; rcases List.mem_singleton.mp hx with rfl; exact am_okr (by have := h26.1; omega)) (by have := h26.1; omega) rfl ?_
  rw [h26.1]
  refine ae_putF (q := 224) dX7_init_221 fl_X7_89 rfl rfl (fun r h => by cases h; rfl) (fun _ => rfl) (fun _ => rfl) (sh_nw h26.2.2.1 (by have := h26.1; omega)) (by show a < am_nx G26 + 1; have := h26.1; omega) (by show n + 26 < am_nx G26 + 1; have := h26.1; omega) rfl ?_
  refine ae_gen (fun G27 e27 => ?_)
  have h27 := mk_step h26 ha rfl e27
  refine ae_aload_n (q := 225) dX7_init_224 rfl rfl rfl ?_
  refine ae_iconst (v := 3) (q := 226) dX7_init_225 (by decide) rfl ?_
  refine ae_newI (N := 3) (q := 228) dX7_init_226 ac_int (by decide) (by decide) (by decide) (by intro x hx; rcases List.mem_singleton.mp hx with rfl; exact am_okr (by have := h27.1; omega)) (by intro x hx; rcases List.mem_singleton.mp hx with rfl; exact am_okr (by have := h27.1; omega)) (by have := h27.1; omega) rfl ?_
  rw [h27.1]
  refine ae_putF (q := 231) dX7_init_228 fl_X7_92 rfl rfl (fun r h => by cases h; rfl) (fun _ => rfl) (fun _ => rfl) (sh_nw h27.2.2.1 (by have := h27.1; omega)) (by show a < am_nx G27 + 1; have := h27.1; omega) (by show n + 27 < am_nx G27 + 1; have := h27.1; omega) rfl ?_
  refine ae_gen (fun G28 e28 => ?_)
  have h28 := mk_step h27 ha rfl e28
  refine ae_aload_n (q := 232) dX7_init_231 rfl rfl rfl ?_
  refine ae_sipush (v := 144) (q := 235) dX7_init_232 (by decide) rfl ?_
  refine ae_newI (N := 144) (q := 237) dX7_init_235 ac_int (by decide) (by decide) (by decide) (by intro x hx; rcases List.mem_singleton.mp hx with rfl; exact am_okr (by have := h28.1; omega)) (by intro x hx; rcases List.mem_singleton.mp hx with rfl; exact am_okr (by have := h28.1; omega)) (by have := h28.1; omega) rfl ?_
  rw [h28.1]
  refine ae_putF (q := 240) dX7_init_237 fl_X7_95 rfl rfl (fun r h => by cases h; rfl) (fun _ => rfl) (fun _ => rfl) (sh_nw h28.2.2.1 (by have := h28.1; omega)) (by show a < am_nx G28 + 1; have := h28.1; omega) (by show n + 28 < am_nx G28 + 1; have := h28.1; omega) rfl ?_
  refine ae_gen (fun G29 e29 => ?_)
  have h29 := mk_step h28 ha rfl e29
  refine ae_aload_n (q := 241) dX7_init_240 rfl rfl rfl ?_
  refine ae_bipush (v := 40) (q := 243) dX7_init_241 (by decide) rfl ?_
  refine ae_newI (N := 40) (q := 245) dX7_init_243 ac_int (by decide) (by decide) (by decide) (by intro x hx; rcases List.mem_singleton.mp hx with rfl; exact am_okr (by have := h29.1; omega)) (by intro x hx; rcases List.mem_singleton.mp hx with rfl; exact am_okr (by have := h29.1; omega)) (by have := h29.1; omega) rfl ?_
  rw [h29.1]
  refine ae_putF (q := 248) dX7_init_245 fl_X7_98 rfl rfl (fun r h => by cases h; rfl) (fun _ => rfl) (fun _ => rfl) (sh_nw h29.2.2.1 (by have := h29.1; omega)) (by show a < am_nx G29 + 1; have := h29.1; omega) (by show n + 29 < am_nx G29 + 1; have := h29.1; omega) rfl ?_
  refine ae_gen (fun G30 e30 => ?_)
  have h30 := mk_step h29 ha rfl e30
  refine ae_vret dX7_init_248 rfl ?_
  exact ⟨rfl, h30⟩
end
section
/-! The class's own constructors: rows of Bodies, Tasks, Phasers, Workers, at the places where the law's first object lays them. -/
/-- nothing of the rows from lo to hi has changed -/
def am_Kp (lo hi : Nat) (H H1 : am_H) : Prop := ∀ x, lo ≤ x → x < hi → am_sh H1 x = am_sh H x ∧ am_gr H1 x = am_gr H x ∧ am_gi H1 x = am_gi H x
theorem am_Kp.trans {lo hi : Nat} {H H1 H2 : am_H} (h : am_Kp lo hi H H1) (h2 : am_Kp lo hi H1 H2) : am_Kp lo hi H H2 := fun x a b => by
  obtain ⟨p1, p2, p3⟩ := h x a b
  obtain ⟨q1, q2, q3⟩ := h2 x a b
  exact ⟨q1.trans p1, q2.trans p2, q3.trans p3⟩
theorem am_Kp.sub {lo hi l h : Nat} {H H1 : am_H} (k : am_Kp lo hi H H1) (h1 : lo ≤ l) (h2 : h ≤ hi) : am_Kp l h H H1 := fun x a b => k x (by omega) (by omega)
theorem am_Kp.nw {lo hi k m : Nat} {H : am_H} (h : hi ≤ am_nx H) : am_Kp lo hi H (am_nw H k m) := fun x _ b => by
  have hx : x ≠ am_nx H := by omega
  exact ⟨va_up_ne _ _ hx, funext fun y => if_neg hx, funext fun y => if_neg hx⟩
theorem am_Kp.sr {lo hi a k : Nat} {v : Option Nat} {H : am_H} (h : a < lo ∨ hi ≤ a) : am_Kp lo hi H (am_sr H a k v) := fun x h1 h2 => ⟨rfl, funext fun y => if_neg (fun q => by have := q.1; omega), rfl⟩
theorem am_Kp.si {lo hi a k : Nat} {v : Int32} {H : am_H} (h : a < lo ∨ hi ≤ a) : am_Kp lo hi H (am_si H a k v) := fun x h1 h2 => ⟨rfl, rfl, funext fun y => if_neg (fun q => by have := q.1; omega)⟩
theorem am_Same.kp {a n lo hi : Nat} {H H1 : am_H} (h : am_Same a n H H1) (h1 : hi ≤ n) (h2 : a < lo ∨ hi ≤ a) : am_Kp lo hi H H1 := fun x p q => by
  obtain ⟨g1, g2, g3, -⟩ := h x (by omega) (by omega)
  exact ⟨g1, g2, g3⟩
def am_zr (x : Nat) (H : am_H) : Prop := (∀ i, am_gr H x i = none) ∧ ∀ i, am_gi H x i = 0
theorem am_zr.kp {x lo hi : Nat} {H H1 : am_H} (h : am_zr x H) (k : am_Kp lo hi H H1) (h1 : lo ≤ x) (h2 : x < hi) : am_zr x H1 := by
  obtain ⟨-, k2, k3⟩ := k x h1 h2
  exact ⟨fun i => by rw [k2]; exact h.1 i, fun i => by rw [k3]; exact h.2 i⟩
def ly_B (b : Nat) (H : am_H) : Prop := am_sh H (2 + 3 * b) = (0, am_Nf 0) ∧ am_gr H (2 + 3 * b) 0 = some (3 + 3 * b) ∧ am_gr H (2 + 3 * b) 1 = some (4 + 3 * b) ∧ am_gi H (2 + 3 * b) 2 = 0 ∧ am_sh H (3 + 3 * b) = (100, 16) ∧ am_sh H (4 + 3 * b) = (100, 16) ∧ am_zr (3 + 3 * b) H ∧ am_zr (4 + 3 * b) H
theorem ly_B.kp {b : Nat} {H H1 : am_H} (h : ly_B b H) (k : am_Kp (2 + 3 * b) (5 + 3 * b) H H1) : ly_B b H1 := by
  obtain ⟨h1, h2, h3, h4, h5, h6, h7, h8⟩ := h
  obtain ⟨a1, a2, a3⟩ := k (2 + 3 * b) (by omega) (by omega)
  obtain ⟨b1, -, -⟩ := k (3 + 3 * b) (by omega) (by omega)
  obtain ⟨c1, -, -⟩ := k (4 + 3 * b) (by omega) (by omega)
  exact ⟨a1.trans h1, by rw [a2]; exact h2, by rw [a2]; exact h3, by rw [a3]; exact h4, b1.trans h5, c1.trans h6, h7.kp k (by omega) (by omega), h8.kp k (by omega) (by omega)⟩
def iv_6 (b : Nat) (H : am_H) : Prop := am_nx H = 2 + 3 * b ∧ am_sh H 0 = (6, am_Nf 6) ∧ am_gr H 0 0 = some 1 ∧ am_sh H 1 = (103 + 0, 8) ∧ (∀ i, i < b → am_gr H 1 i = some (2 + 3 * i)) ∧ ∀ i, i < b → ly_B i H
set_option maxRecDepth 100000 in
set_option maxHeartbeats 4000000 in
theorem lp_6 {ox : List (Nat × (Nat → Int32))} {d : Nat} {P : Option Value ⊕ String → am_H → Prop} (kx : ∀ H8, iv_6 8 H8 → am_E ox (d + 2) mX6_init 40 [(1, .int 8), (0, .ref 0)] [] H8 P) : ∀ (k b : Nat) (H : am_H), b + k = 8 → iv_6 b H → am_E ox (d + 2) mX6_init 15 [(1, .int (nI b)), (0, .ref 0)] [] H P := by
  intro k
  induction k with
  | zero =>
    intro b H hb h
    obtain rfl : b = 8 := by omega
    refine ae_iload_n (q := 16) dX6_init_15 rfl rfl rfl ?_
    refine ae_bipush (v := 8) (q := 18) dX6_init_16 (by decide) rfl ?_
    refine ae_icmp_ge (t := 40) (q := 21) dX6_init_18 (by decide) rfl (fun _ => ?_) (fun c => absurd (nI_le (a := 8) (b := 8) (Nat.le_refl _) (by decide)) c)
    exact kx H h
  | succ k ih =>
    intro b H hb h
    have hb8 : b < 8 := by omega
    obtain ⟨h1, h2, h3, h4, h5, h6⟩ := h
    refine ae_iload_n (q := 16) dX6_init_15 rfl rfl rfl ?_
    refine ae_bipush (v := 8) (q := 18) dX6_init_16 (by decide) rfl ?_
    refine ae_icmp_ge (t := 40) (q := 21) dX6_init_18 (by decide) rfl (fun c => absurd c (nI_ge (a := b) (b := 8) hb8 (by decide))) (fun _ => ?_)
    refine ae_aload_n (q := 22) dX6_init_21 rfl rfl rfl ?_
    refine ae_getR (q := 25) dX6_init_22 fl_X6_11 rfl h2 (by omega) h3 rfl ?_
    refine ae_iload_n (q := 26) dX6_init_25 rfl rfl rfl ?_
    refine ae_new (q := 29) dX6_init_26 cn_X6_9 (by intro x hx; simp only [List.mem_cons, List.not_mem_nil, or_false] at hx; rcases hx with rfl | rfl <;> first | trivial | exact am_okr (by omega)) (by intro x hx; simp only [List.mem_cons, List.not_mem_nil, or_false] at hx; rcases hx with rfl | rfl <;> first | trivial | exact am_okr (by omega)) (by omega) rfl ?_
    rw [h1]
    refine ae_gen (fun G eG => ?_)
    have g1 : am_nx G = 3 + 3 * b := by rw [eG]; show am_nx H + 1 = _; omega
    have gk : am_Kp 0 (2 + 3 * b) H G := by rw [eG]; exact am_Kp.nw (by omega)
    have gs : am_sh G (2 + 3 * b) = (0, am_Nf 0) := by rw [eG, ← h1]; exact am_sh_nw
    have gz : am_gi G (2 + 3 * b) 2 = 0 := by rw [eG, ← h1]; exact gi_fresh
    refine ae_dup (q := 30) dX6_init_29 rfl rfl ?_
    refine ae_callI (as := []) (b := 2 + 3 * b) (st := [.ref (2 + 3 * b), .int (nI b), .ref 1]) (q := 33) dX6_init_30 (e_X0_init (d := d) g1 (by omega) (by omega) gs gz) myX0_init rfl rfl lk_X6_15 im_X0_init rfl rfl (Nat.le_of_ble_eq_true rfl) rfl (fun o H1 h => h.1) (fun G1 hG => ?_)
    obtain ⟨-, e1, e2, e3, e4, e5, e6, e7, e8, e9, e10⟩ := hG
    refine ⟨Or.inr ⟨by omega, by intro x hx; simp only [List.mem_cons, List.not_mem_nil, or_false] at hx; rcases hx with rfl | rfl | rfl <;> first | trivial | exact am_okr (by omega), by intro x hx; simp only [List.mem_cons, List.not_mem_nil, or_false] at hx; rcases hx with rfl | rfl <;> first | trivial | exact am_okr (by omega)⟩, ?_⟩
    have kk : am_Kp 0 (2 + 3 * b) H G1 := gk.trans (e2.kp (by omega) (by omega))
    have s1 : am_sh G1 1 = (103 + 0, 8) := (kk 1 (by omega) (by omega)).1.trans h4
    refine ae_aast (t := 3) (q := 34) dX6_init_33 s1 rfl (by decide) rfl (by omega) e3 (by omega) (vp_in_nI hb8 (by decide)) rfl ?_
    rw [nI_clamp (show b < 2 ^ 31 by omega)]
    refine ae_iinc (v := nI (b + 1)) (lv' := [(1, .int (nI (b + 1))), (0, .ref 0)]) (q := 37) dX6_init_34 rfl (nI_1 b) (by decide) rfl rfl ?_
    refine ae_goto (q := 15) dX6_init_37 (by decide) ?_
    refine ih (b + 1) _ (by omega) ⟨?_, ?_, ?_, ?_, fun i hi => ?_, fun i hi => ?_⟩
    · show am_nx G1 = _; omega
    · exact (kk 0 (by omega) (by omega)).1.trans h2
    · refine gr_sr ?_ (by omega); rw [(kk 0 (by omega) (by omega)).2.1]; exact h3
    · exact s1
    · by_cases hib : i = b
      · subst hib; exact gr_set
      · refine gr_sr ?_ (fun q => hib q.2); rw [(kk 1 (by omega) (by omega)).2.1]; exact h5 i (by omega)
    · by_cases hib : i = b
      · subst hib
        have q9 : ly_B i G1 := ⟨e3, by rw [e4], by rw [e5, show 3 + 3 * i + 1 = 4 + 3 * i by omega], e6, e7, by rw [show 4 + 3 * i = 3 + 3 * i + 1 by omega]; exact e8, e9, by rw [show 4 + 3 * i = 3 + 3 * i + 1 by omega]; exact e10⟩
        exact q9.kp (am_Kp.sr (by omega))
      · exact ((h6 i (by omega)).kp (kk.sub (by omega) (by omega))).kp (am_Kp.sr (by omega))
end
section
/-! The class's run: its constructor's loops. -/
def am_Kx (lim A : Nat) (H H1 : am_H) : Prop := ∀ x, x < lim → x ≠ A → am_sh H1 x = am_sh H x ∧ am_gr H1 x = am_gr H x ∧ am_gi H1 x = am_gi H x
theorem am_Kx.of {lim A a k : Nat} {v : Option Nat} {H G H1 : am_H} (h : am_Kp 0 lim H G) (e : H1 = am_sr G A k v) : am_Kx lim A H H1 := fun x h1 h2 => by
  subst e
  obtain ⟨p1, p2, p3⟩ := h x (Nat.zero_le _) h1
  exact ⟨p1, (funext fun y => if_neg (fun q => h2 q.1) : am_gr (am_sr G A k v) x = am_gr G x).trans p2, p3⟩
def ly_T (t : Nat) (H : am_H) : Prop := am_sh H (29 + 5 * t) = (4, am_Nf 4) ∧ am_gi H (29 + 5 * t) 0 = nI t ∧ am_gr H (29 + 5 * t) 1 = some (30 + 5 * t) ∧ am_gr H (29 + 5 * t) 3 = some 27 ∧ (am_gi H (29 + 5 * t) 2 = 0 ∧ am_gi H (29 + 5 * t) 4 = 0 ∧ am_gi H (29 + 5 * t) 5 = 0 ∧ am_gi H (29 + 5 * t) 6 = 0 ∧ am_gi H (29 + 5 * t) 7 = 0 ∧ am_gi H (29 + 5 * t) 8 = 0 ∧ am_gi H (29 + 5 * t) 9 = 0) ∧ am_sh H (30 + 5 * t) = (103 + 3, 3) ∧ (∀ i, i < 3 → am_gr H (30 + 5 * t) i = some (31 + 5 * t + i) ∧ am_sh H (31 + 5 * t + i) = (3, am_Nf 3) ∧ am_zr (31 + 5 * t + i) H)
theorem ly_T.kp {t : Nat} {H H1 : am_H} (h : ly_T t H) (k : am_Kp (29 + 5 * t) (34 + 5 * t) H H1) : ly_T t H1 := by
  obtain ⟨h1, h2, h3, h4, ⟨g2, g4, g5, g6, g7, g8, g9⟩, h5, h6⟩ := h
  obtain ⟨a1, a2, a3⟩ := k (29 + 5 * t) (by omega) (by omega)
  obtain ⟨b1, b2, -⟩ := k (30 + 5 * t) (by omega) (by omega)
  refine ⟨a1.trans h1, by rw [a3]; exact h2, by rw [a2]; exact h3, by rw [a2]; exact h4, by rw [a3]; exact ⟨g2, g4, g5, g6, g7, g8, g9⟩, b1.trans h5, fun i hi => ?_⟩
  obtain ⟨c1, c2, c3⟩ := h6 i hi
  exact ⟨by rw [b2]; exact c1, (k (31 + 5 * t + i) (by omega) (by omega)).1.trans c2, c3.kp k (by omega) (by omega)⟩
def ly_P (p : Nat) (H : am_H) : Prop := am_sh H (270 + 4 * p) = (1, am_Nf 1) ∧ am_gi H (270 + 4 * p) 0 = 0 ∧ ∀ i, i < 3 → am_gr H (270 + 4 * p) (1 + i) = some (271 + 4 * p + i) ∧ am_sh H (271 + 4 * p + i) = (100, 48) ∧ am_zr (271 + 4 * p + i) H
theorem ly_P.kp {p : Nat} {H H1 : am_H} (h : ly_P p H) (k : am_Kp (270 + 4 * p) (274 + 4 * p) H H1) : ly_P p H1 := by
  obtain ⟨h1, h2, h3⟩ := h
  obtain ⟨a1, a2, a3⟩ := k (270 + 4 * p) (by omega) (by omega)
  refine ⟨a1.trans h1, by rw [a3]; exact h2, fun i hi => ?_⟩
  obtain ⟨c1, c2, c3⟩ := h3 i hi
  exact ⟨by rw [a2]; exact c1, (k (271 + 4 * p + i) (by omega) (by omega)).1.trans c2, c3.kp k (by omega) (by omega)⟩
def ly_W (w : Nat) (H : am_H) : Prop := am_sh H (279 + 2 * w) = (5, am_Nf 5) ∧ am_gr H (279 + 2 * w) 0 = some (280 + 2 * w) ∧ am_gi H (279 + 2 * w) 1 = 0 ∧ am_gi H (279 + 2 * w) 2 = (-1) ∧ am_sh H (280 + 2 * w) = (100, 48) ∧ am_zr (280 + 2 * w) H
theorem ly_W.kp {w : Nat} {H H1 : am_H} (h : ly_W w H) (k : am_Kp (279 + 2 * w) (281 + 2 * w) H H1) : ly_W w H1 := by
  obtain ⟨h1, h2, h3, h4, h5, h6⟩ := h
  obtain ⟨a1, a2, a3⟩ := k (279 + 2 * w) (by omega) (by omega)
  exact ⟨a1.trans h1, by rw [a2]; exact h2, by rw [a3]; exact h3, by rw [a3]; exact h4, (k (280 + 2 * w) (by omega) (by omega)).1.trans h5, h6.kp k (by omega) (by omega)⟩
def iv_T (Z : am_H → Prop) (b : Nat) (H : am_H) : Prop := am_nx H = 29 + 5 * b ∧ Z H ∧ am_sh H 28 = (103 + 4, 48) ∧ (∀ i, i < b → am_gr H 28 i = some (29 + 5 * i)) ∧ ∀ i, i < b → ly_T i H
set_option maxRecDepth 100000 in
set_option maxHeartbeats 4000000 in
theorem lp_T {ox : List (Nat × (Nat → Int32))} {d : Nat} {P : Option Value ⊕ String → am_H → Prop} {Z : am_H → Prop} (hZ : ∀ H H1, am_Kx 29 28 H H1 → Z H → Z H1) (hz : ∀ H, Z H → am_sh H 26 = (2, am_Nf 2) ∧ am_gr H 26 1 = some 28 ∧ am_gr H 26 3 = some 27) (kx : ∀ H8, iv_T Z 48 H8 → am_E ox (d + 3) mX2_init 61 [(2, .int 48), (0, .ref 26), (1, .ref 1)] [] H8 P) : ∀ (k b : Nat) (H : am_H), b + k = 48 → iv_T Z b H → am_E ox (d + 3) mX2_init 31 [(2, .int (nI b)), (0, .ref 26), (1, .ref 1)] [] H P := by
  intro k
  induction k with
  | zero =>
    intro b H hb h
    obtain rfl : b = 48 := by omega
    refine ae_iload_n (q := 32) dX2_init_31 rfl rfl rfl ?_
    refine ae_bipush (v := 48) (q := 34) dX2_init_32 (by decide) rfl ?_
    refine ae_icmp_ge (t := 61) (q := 37) dX2_init_34 (by decide) rfl (fun _ => ?_) (fun c => absurd (nI_le (a := 48) (b := 48) (Nat.le_refl _) (by decide)) c)
    exact kx H h
  | succ k ih =>
    intro b H hb h
    have hbN : b < 48 := by omega
    obtain ⟨h1, h2, h4, h5, h6⟩ := h
    obtain ⟨z1, z2, z3⟩ := hz H h2
    refine ae_iload_n (q := 32) dX2_init_31 rfl rfl rfl ?_
    refine ae_bipush (v := 48) (q := 34) dX2_init_32 (by decide) rfl ?_
    refine ae_icmp_ge (t := 61) (q := 37) dX2_init_34 (by decide) rfl (fun c => absurd c (nI_ge (a := b) (b := 48) hbN (by decide))) (fun _ => ?_)
    refine ae_aload_n (q := 38) dX2_init_37 rfl rfl rfl ?_
    refine ae_getR (q := 41) dX2_init_38 fl_X2_24 rfl z1 (by omega) z2 rfl ?_
    refine ae_iload_n (q := 42) dX2_init_41 rfl rfl rfl ?_
    refine ae_new (q := 45) dX2_init_42 cn_X2_22 (by intro x hx; simp only [List.mem_cons, List.not_mem_nil, or_false] at hx; rcases hx with rfl | rfl <;> first | trivial | exact am_okr (by omega)) (by intro x hx; simp only [List.mem_cons, List.not_mem_nil, or_false] at hx; rcases hx with rfl | rfl | rfl <;> first | trivial | exact am_okr (by omega)) (by omega) rfl ?_
    rw [h1]
    refine ae_gen (fun G eG => ?_)
    have g1 : am_nx G = 30 + 5 * b := by rw [eG]; show am_nx H + 1 = _; omega
    have gk : am_Kp 0 (29 + 5 * b) H G := by rw [eG]; exact am_Kp.nw (by omega)
    have gs : am_sh G (29 + 5 * b) = (4, am_Nf 4) := by rw [eG, ← h1]; exact am_sh_nw
    have gz : ∀ y, am_gi G (29 + 5 * b) y = 0 := by rw [eG, ← h1]; exact fun _ => gi_fresh
    refine ae_dup (q := 46) dX2_init_45 rfl rfl ?_
    refine ae_iload_n (q := 47) dX2_init_46 rfl rfl rfl ?_
    refine ae_aload_n (q := 48) dX2_init_47 rfl rfl rfl ?_
    refine ae_getR (q := 51) dX2_init_48 fl_X2_18 rfl ((gk 26 (by omega) (by omega)).1.trans z1) (by omega) (show am_gr G 26 3 = some 27 by rw [(gk 26 (by omega) (by omega)).2.1]; exact z3) rfl ?_
    refine ae_callI (as := [.int (nI b), .ref 27]) (b := 29 + 5 * b) (st := [.ref (29 + 5 * b), .int (nI b), .ref 28]) (q := 54) dX2_init_51 (e_X4_init (d := d) g1 (by omega) (by omega) (by omega) gs (gz 2) (gz 4) (gz 5) (gz 6) (gz 7) (gz 8) (gz 9)) myX4_init rfl rfl lk_X2_28 im_X4_init rfl rfl (Nat.le_of_ble_eq_true rfl) rfl (fun o H1 h => h.1) (fun G1 hG => ?_)
    obtain ⟨-, e1, e2, e3, e4, e5, e6, f2, f4, f5, f6, f7, f8, f9, e7, e8, e9, e10, e11, e12, e13, e14, e15, e16⟩ := hG
    refine ⟨Or.inr ⟨by omega, by intro x hx; simp only [List.mem_cons, List.not_mem_nil, or_false] at hx; rcases hx with rfl | rfl | rfl <;> first | trivial | exact am_okr (by omega), by intro x hx; simp only [List.mem_cons, List.not_mem_nil, or_false] at hx; rcases hx with rfl | rfl | rfl <;> first | trivial | exact am_okr (by omega)⟩, ?_⟩
    have kk : am_Kp 0 (29 + 5 * b) H G1 := gk.trans (e2.kp (by omega) (by omega))
    have s1 : am_sh G1 28 = (103 + 4, 48) := (kk 28 (by omega) (by omega)).1.trans h4
    refine ae_aast (t := 6) (q := 55) dX2_init_54 s1 rfl (by decide) rfl (by omega) e3 (by omega) (vp_in_nI hbN (by decide)) rfl ?_
    rw [nI_clamp (show b < 2 ^ 31 by omega)]
    refine ae_iinc (v := nI (b + 1)) (lv' := [(2, .int (nI (b + 1))), (0, .ref 26), (1, .ref 1)]) (q := 58) dX2_init_55 rfl (nI_1 b) (by decide) rfl rfl ?_
    refine ae_goto (q := 31) dX2_init_58 (by decide) ?_
    refine ih (b + 1) _ (by omega) ⟨?_, hZ H _ (am_Kx.of (a := 0) (kk.sub (Nat.le_refl _) (by omega)) rfl) h2, s1, fun i hi => ?_, fun i hi => ?_⟩
    · show am_nx G1 = _; omega
    · by_cases hib : i = b
      · subst hib; exact gr_set
      · refine gr_sr ?_ (fun q => hib q.2); rw [(kk 28 (by omega) (by omega)).2.1]; exact h5 i (by omega)
    · by_cases hib : i = b
      · subst hib
        have q9 : ly_T i G1 := ⟨e3, e4, by rw [e5], e6, ⟨f2, f4, f5, f6, f7, f8, f9⟩, e7, fun j hj => by
          rcases (show j = 0 ∨ j = 1 ∨ j = 2 by omega) with rfl | rfl | rfl
          · exact ⟨by rw [e8, show 30 + 5 * i + 1 = 31 + 5 * i + 0 by omega], by rw [show 31 + 5 * i + 0 = 30 + 5 * i + 1 by omega]; exact e11, by rw [show 31 + 5 * i + 0 = 30 + 5 * i + 1 by omega]; exact e14⟩
          · exact ⟨by rw [e9, show 30 + 5 * i + 2 = 31 + 5 * i + 1 by omega], by rw [show 31 + 5 * i + 1 = 30 + 5 * i + 2 by omega]; exact e12, by rw [show 31 + 5 * i + 1 = 30 + 5 * i + 2 by omega]; exact e15⟩
          · exact ⟨by rw [e10, show 30 + 5 * i + 3 = 31 + 5 * i + 2 by omega], by rw [show 31 + 5 * i + 2 = 30 + 5 * i + 3 by omega]; exact e13, by rw [show 31 + 5 * i + 2 = 30 + 5 * i + 3 by omega]; exact e16⟩⟩
        exact q9.kp (am_Kp.sr (by omega))
      · exact ((h6 i (by omega)).kp (kk.sub (by omega) (by omega))).kp (am_Kp.sr (by omega))
def iv_P (Z : am_H → Prop) (b : Nat) (H : am_H) : Prop := am_nx H = 270 + 4 * b ∧ Z H ∧ am_sh H 269 = (103 + 1, 2) ∧ (∀ i, i < b → am_gr H 269 i = some (270 + 4 * i)) ∧ ∀ i, i < b → ly_P i H
set_option maxRecDepth 100000 in
set_option maxHeartbeats 4000000 in
theorem lp_P {ox : List (Nat × (Nat → Int32))} {d : Nat} {P : Option Value ⊕ String → am_H → Prop} {Z : am_H → Prop} (hZ : ∀ H H1, am_Kx 270 269 H H1 → Z H → Z H1) (hz : ∀ H, Z H → am_sh H 26 = (2, am_Nf 2) ∧ am_gr H 26 4 = some 269 ∧ am_gr H 26 3 = some 27) (kx : ∀ H8, iv_P Z 2 H8 → am_E ox (d + 3) mX2_init 95 [(2, .int 2), (0, .ref 26), (1, .ref 1)] [] H8 P) : ∀ (k b : Nat) (H : am_H), b + k = 2 → iv_P Z b H → am_E ox (d + 3) mX2_init 71 [(2, .int (nI b)), (0, .ref 26), (1, .ref 1)] [] H P := by
  intro k
  induction k with
  | zero =>
    intro b H hb h
    obtain rfl : b = 2 := by omega
    refine ae_iload_n (q := 72) dX2_init_71 rfl rfl rfl ?_
    refine ae_iconst (v := 2) (q := 73) dX2_init_72 (by decide) rfl ?_
    refine ae_icmp_ge (t := 95) (q := 76) dX2_init_73 (by decide) rfl (fun _ => ?_) (fun c => absurd (nI_le (a := 2) (b := 2) (Nat.le_refl _) (by decide)) c)
    exact kx H h
  | succ k ih =>
    intro b H hb h
    have hbN : b < 2 := by omega
    obtain ⟨h1, h2, h4, h5, h6⟩ := h
    obtain ⟨z1, z2, z3⟩ := hz H h2
    refine ae_iload_n (q := 72) dX2_init_71 rfl rfl rfl ?_
    refine ae_iconst (v := 2) (q := 73) dX2_init_72 (by decide) rfl ?_
    refine ae_icmp_ge (t := 95) (q := 76) dX2_init_73 (by decide) rfl (fun c => absurd c (nI_ge (a := b) (b := 2) hbN (by decide))) (fun _ => ?_)
    refine ae_aload_n (q := 77) dX2_init_76 rfl rfl rfl ?_
    refine ae_getR (q := 80) dX2_init_77 fl_X2_33 rfl z1 (by omega) z2 rfl ?_
    refine ae_iload_n (q := 81) dX2_init_80 rfl rfl rfl ?_
    refine ae_new (q := 84) dX2_init_81 cn_X2_31 (by intro x hx; simp only [List.mem_cons, List.not_mem_nil, or_false] at hx; rcases hx with rfl | rfl <;> first | trivial | exact am_okr (by omega)) (by intro x hx; simp only [List.mem_cons, List.not_mem_nil, or_false] at hx; rcases hx with rfl | rfl | rfl <;> first | trivial | exact am_okr (by omega)) (by omega) rfl ?_
    rw [h1]
    refine ae_gen (fun G eG => ?_)
    have g1 : am_nx G = 271 + 4 * b := by rw [eG]; show am_nx H + 1 = _; omega
    have gk : am_Kp 0 (270 + 4 * b) H G := by rw [eG]; exact am_Kp.nw (by omega)
    have gs : am_sh G (270 + 4 * b) = (1, am_Nf 1) := by rw [eG, ← h1]; exact am_sh_nw
    have gz : ∀ y, am_gi G (270 + 4 * b) y = 0 := by rw [eG, ← h1]; exact fun _ => gi_fresh
    refine ae_dup (q := 85) dX2_init_84 rfl rfl ?_
    refine ae_callI (as := []) (b := 270 + 4 * b) (st := [.ref (270 + 4 * b), .int (nI b), .ref 269]) (q := 88) dX2_init_85 (e_X1_init (d := d + 1) g1 (by omega) (by omega) gs (gz 0)) myX1_init rfl rfl lk_X2_37 im_X1_init rfl rfl (Nat.le_of_ble_eq_true rfl) rfl (fun o H1 h => h.1) (fun G1 hG => ?_)
    obtain ⟨-, e1, e2, e3, e4, e5, e6, e7, e8, e9, e10, e11, e12, e13⟩ := hG
    refine ⟨Or.inr ⟨by omega, by intro x hx; simp only [List.mem_cons, List.not_mem_nil, or_false] at hx; rcases hx with rfl | rfl | rfl <;> first | trivial | exact am_okr (by omega), by intro x hx; simp only [List.mem_cons, List.not_mem_nil, or_false] at hx; rcases hx with rfl | rfl | rfl <;> first | trivial | exact am_okr (by omega)⟩, ?_⟩
    have kk : am_Kp 0 (270 + 4 * b) H G1 := gk.trans (e2.kp (by omega) (by omega))
    have s1 : am_sh G1 269 = (103 + 1, 2) := (kk 269 (by omega) (by omega)).1.trans h4
    refine ae_aast (t := 4) (q := 89) dX2_init_88 s1 rfl (by decide) rfl (by omega) e3 (by omega) (vp_in_nI hbN (by decide)) rfl ?_
    rw [nI_clamp (show b < 2 ^ 31 by omega)]
    refine ae_iinc (v := nI (b + 1)) (lv' := [(2, .int (nI (b + 1))), (0, .ref 26), (1, .ref 1)]) (q := 92) dX2_init_89 rfl (nI_1 b) (by decide) rfl rfl ?_
    refine ae_goto (q := 71) dX2_init_92 (by decide) ?_
    refine ih (b + 1) _ (by omega) ⟨?_, hZ H _ (am_Kx.of (a := 0) (kk.sub (Nat.le_refl _) (by omega)) rfl) h2, s1, fun i hi => ?_, fun i hi => ?_⟩
    · show am_nx G1 = _; omega
    · by_cases hib : i = b
      · subst hib; exact gr_set
      · refine gr_sr ?_ (fun q => hib q.2); rw [(kk 269 (by omega) (by omega)).2.1]; exact h5 i (by omega)
    · by_cases hib : i = b
      · subst hib
        have q9 : ly_P i G1 := ⟨e3, e4, fun j hj => by
          rcases (show j = 0 ∨ j = 1 ∨ j = 2 by omega) with rfl | rfl | rfl
          · exact ⟨e5, e8, e11⟩
          · exact ⟨by show am_gr G1 _ 2 = _; rw [e6], e9, e12⟩
          · exact ⟨by show am_gr G1 _ 3 = _; rw [e7], e10, e13⟩⟩
        exact q9.kp (am_Kp.sr (by omega))
      · exact ((h6 i (by omega)).kp (kk.sub (by omega) (by omega))).kp (am_Kp.sr (by omega))
def iv_W (Z : am_H → Prop) (b : Nat) (H : am_H) : Prop := am_nx H = 279 + 2 * b ∧ Z H ∧ am_sh H 278 = (103 + 5, 3) ∧ (∀ i, i < b → am_gr H 278 i = some (279 + 2 * i)) ∧ ∀ i, i < b → ly_W i H
set_option maxRecDepth 100000 in
set_option maxHeartbeats 4000000 in
theorem lp_W {ox : List (Nat × (Nat → Int32))} {d : Nat} {P : Option Value ⊕ String → am_H → Prop} {Z : am_H → Prop} (hZ : ∀ H H1, am_Kx 279 278 H H1 → Z H → Z H1) (hz : ∀ H, Z H → am_sh H 26 = (2, am_Nf 2) ∧ am_gr H 26 5 = some 278 ∧ am_gr H 26 3 = some 27) (kx : ∀ H8, iv_W Z 3 H8 → am_E ox (d + 3) mX2_init 129 [(2, .int 3), (0, .ref 26), (1, .ref 1)] [] H8 P) : ∀ (k b : Nat) (H : am_H), b + k = 3 → iv_W Z b H → am_E ox (d + 3) mX2_init 105 [(2, .int (nI b)), (0, .ref 26), (1, .ref 1)] [] H P := by
  intro k
  induction k with
  | zero =>
    intro b H hb h
    obtain rfl : b = 3 := by omega
    refine ae_iload_n (q := 106) dX2_init_105 rfl rfl rfl ?_
    refine ae_iconst (v := 3) (q := 107) dX2_init_106 (by decide) rfl ?_
    refine ae_icmp_ge (t := 129) (q := 110) dX2_init_107 (by decide) rfl (fun _ => ?_) (fun c => absurd (nI_le (a := 3) (b := 3) (Nat.le_refl _) (by decide)) c)
    exact kx H h
  | succ k ih =>
    intro b H hb h
    have hbN : b < 3 := by omega
    obtain ⟨h1, h2, h4, h5, h6⟩ := h
    obtain ⟨z1, z2, z3⟩ := hz H h2
    refine ae_iload_n (q := 106) dX2_init_105 rfl rfl rfl ?_
    refine ae_iconst (v := 3) (q := 107) dX2_init_106 (by decide) rfl ?_
    refine ae_icmp_ge (t := 129) (q := 110) dX2_init_107 (by decide) rfl (fun c => absurd c (nI_ge (a := b) (b := 3) hbN (by decide))) (fun _ => ?_)
    refine ae_aload_n (q := 111) dX2_init_110 rfl rfl rfl ?_
    refine ae_getR (q := 114) dX2_init_111 fl_X2_40 rfl z1 (by omega) z2 rfl ?_
    refine ae_iload_n (q := 115) dX2_init_114 rfl rfl rfl ?_
    refine ae_new (q := 118) dX2_init_115 cn_X2_38 (by intro x hx; simp only [List.mem_cons, List.not_mem_nil, or_false] at hx; rcases hx with rfl | rfl <;> first | trivial | exact am_okr (by omega)) (by intro x hx; simp only [List.mem_cons, List.not_mem_nil, or_false] at hx; rcases hx with rfl | rfl | rfl <;> first | trivial | exact am_okr (by omega)) (by omega) rfl ?_
    rw [h1]
    refine ae_gen (fun G eG => ?_)
    have g1 : am_nx G = 280 + 2 * b := by rw [eG]; show am_nx H + 1 = _; omega
    have gk : am_Kp 0 (279 + 2 * b) H G := by rw [eG]; exact am_Kp.nw (by omega)
    have gs : am_sh G (279 + 2 * b) = (5, am_Nf 5) := by rw [eG, ← h1]; exact am_sh_nw
    have gz : ∀ y, am_gi G (279 + 2 * b) y = 0 := by rw [eG, ← h1]; exact fun _ => gi_fresh
    refine ae_dup (q := 119) dX2_init_118 rfl rfl ?_
    refine ae_callI (as := []) (b := 279 + 2 * b) (st := [.ref (279 + 2 * b), .int (nI b), .ref 278]) (q := 122) dX2_init_119 (e_X5_init (d := d + 1) g1 (by omega) (by omega) gs (gz 1)) myX5_init rfl rfl lk_X2_44 im_X5_init rfl rfl (Nat.le_of_ble_eq_true rfl) rfl (fun o H1 h => h.1) (fun G1 hG => ?_)
    obtain ⟨-, e1, e2, e3, e4, e5, e6, e7, e8⟩ := hG
    refine ⟨Or.inr ⟨by omega, by intro x hx; simp only [List.mem_cons, List.not_mem_nil, or_false] at hx; rcases hx with rfl | rfl | rfl <;> first | trivial | exact am_okr (by omega), by intro x hx; simp only [List.mem_cons, List.not_mem_nil, or_false] at hx; rcases hx with rfl | rfl | rfl <;> first | trivial | exact am_okr (by omega)⟩, ?_⟩
    have kk : am_Kp 0 (279 + 2 * b) H G1 := gk.trans (e2.kp (by omega) (by omega))
    have s1 : am_sh G1 278 = (103 + 5, 3) := (kk 278 (by omega) (by omega)).1.trans h4
    refine ae_aast (t := 7) (q := 123) dX2_init_122 s1 rfl (by decide) rfl (by omega) e3 (by omega) (vp_in_nI hbN (by decide)) rfl ?_
    rw [nI_clamp (show b < 2 ^ 31 by omega)]
    refine ae_iinc (v := nI (b + 1)) (lv' := [(2, .int (nI (b + 1))), (0, .ref 26), (1, .ref 1)]) (q := 126) dX2_init_123 rfl (nI_1 b) (by decide) rfl rfl ?_
    refine ae_goto (q := 105) dX2_init_126 (by decide) ?_
    refine ih (b + 1) _ (by omega) ⟨?_, hZ H _ (am_Kx.of (a := 0) (kk.sub (Nat.le_refl _) (by omega)) rfl) h2, s1, fun i hi => ?_, fun i hi => ?_⟩
    · show am_nx G1 = _; omega
    · by_cases hib : i = b
      · subst hib; exact gr_set
      · refine gr_sr ?_ (fun q => hib q.2); rw [(kk 278 (by omega) (by omega)).2.1]; exact h5 i (by omega)
    · by_cases hib : i = b
      · subst hib
        have q9 : ly_W i G1 := ⟨e3, e4, e5, e6, e7, e8⟩
        exact q9.kp (am_Kp.sr (by omega))
      · exact ((h6 i (by omega)).kp (kk.sub (by omega) (by omega))).kp (am_Kp.sr (by omega))
end
