-- ===== PART A: goes FIRST, ahead of the names: the tables' words, and 'selects' of the private methods out of them =====
/-- a private method of a class that the tables say can be made, by its rows of tables_1 -/
def lw_okq (q : MethodName × Nat) : Prop := (q.1.cls ≠ "java/lang/invoke/MethodHandle" ∧ q.1.cls ≠ "java/lang/invoke/VarHandle") ∧ Cond.instantiable q.1.cls q.2 ∈ tables_1 ∧ Cond.privateMethod q.1 ∈ tables_1 ∧ Cond.instanceMethod q.1 ∈ tables_1
theorem lw_p0 : lw_okq (⟨"SlotPaxos", "find", "(I)LSlotPaxos$Replica;"⟩, 5) := ⟨⟨by decide +kernel, by decide +kernel⟩, List.mem_of_getElem? (i := 12) (by decide +kernel), List.mem_of_getElem? (i := 208) (by decide +kernel), List.mem_of_getElem? (i := 209) (by decide +kernel)⟩
theorem lw_p1 : lw_okq (⟨"SlotPaxos", "tickLeader", "(LSlotPaxos$Replica;)V"⟩, 5) := ⟨⟨by decide +kernel, by decide +kernel⟩, List.mem_of_getElem? (i := 12) (by decide +kernel), List.mem_of_getElem? (i := 220) (by decide +kernel), List.mem_of_getElem? (i := 221) (by decide +kernel)⟩
theorem lw_p2 : lw_okq (⟨"SlotPaxos", "sendAccept", "(LSlotPaxos$Replica;)V"⟩, 5) := ⟨⟨by decide +kernel, by decide +kernel⟩, List.mem_of_getElem? (i := 12) (by decide +kernel), List.mem_of_getElem? (i := 224) (by decide +kernel), List.mem_of_getElem? (i := 225) (by decide +kernel)⟩
theorem lw_p3 : lw_okq (⟨"SlotPaxos", "sendToAll", "(IIIII)V"⟩, 5) := ⟨⟨by decide +kernel, by decide +kernel⟩, List.mem_of_getElem? (i := 12) (by decide +kernel), List.mem_of_getElem? (i := 228) (by decide +kernel), List.mem_of_getElem? (i := 229) (by decide +kernel)⟩
theorem lw_p4 : lw_okq (⟨"SlotPaxos", "propose", "(LSlotPaxos$Replica;)V"⟩, 5) := ⟨⟨by decide +kernel, by decide +kernel⟩, List.mem_of_getElem? (i := 12) (by decide +kernel), List.mem_of_getElem? (i := 236) (by decide +kernel), List.mem_of_getElem? (i := 237) (by decide +kernel)⟩
theorem lw_p5 : lw_okq (⟨"SlotPaxos", "proposeNumber", "(LSlotPaxos$Replica;I)V"⟩, 5) := ⟨⟨by decide +kernel, by decide +kernel⟩, List.mem_of_getElem? (i := 12) (by decide +kernel), List.mem_of_getElem? (i := 244) (by decide +kernel), List.mem_of_getElem? (i := 245) (by decide +kernel)⟩
theorem lw_p6 : lw_okq (⟨"SlotPaxos", "sendPrepare", "(LSlotPaxos$Replica;)V"⟩, 5) := ⟨⟨by decide +kernel, by decide +kernel⟩, List.mem_of_getElem? (i := 12) (by decide +kernel), List.mem_of_getElem? (i := 256) (by decide +kernel), List.mem_of_getElem? (i := 257) (by decide +kernel)⟩
theorem lw_p7 : lw_okq (⟨"SlotPaxos", "campaign", "(LSlotPaxos$Replica;)V"⟩, 5) := ⟨⟨by decide +kernel, by decide +kernel⟩, List.mem_of_getElem? (i := 12) (by decide +kernel), List.mem_of_getElem? (i := 260) (by decide +kernel), List.mem_of_getElem? (i := 261) (by decide +kernel)⟩
theorem lw_p8 : lw_okq (⟨"SlotPaxos", "nextBallot", "(LSlotPaxos$Replica;)I"⟩, 5) := ⟨⟨by decide +kernel, by decide +kernel⟩, List.mem_of_getElem? (i := 12) (by decide +kernel), List.mem_of_getElem? (i := 264) (by decide +kernel), List.mem_of_getElem? (i := 265) (by decide +kernel)⟩
theorem lw_p9 : lw_okq (⟨"SlotPaxos", "ask", "(LSlotPaxos$Replica;I)V"⟩, 5) := ⟨⟨by decide +kernel, by decide +kernel⟩, List.mem_of_getElem? (i := 12) (by decide +kernel), List.mem_of_getElem? (i := 272) (by decide +kernel), List.mem_of_getElem? (i := 273) (by decide +kernel)⟩
theorem lw_p10 : lw_okq (⟨"SlotPaxos", "arrive", "(LSlotPaxos$Replica;LSlotPaxos$Message;)V"⟩, 5) := ⟨⟨by decide +kernel, by decide +kernel⟩, List.mem_of_getElem? (i := 12) (by decide +kernel), List.mem_of_getElem? (i := 300) (by decide +kernel), List.mem_of_getElem? (i := 301) (by decide +kernel)⟩
theorem lw_p11 : lw_okq (⟨"SlotPaxos", "onPrepare", "(LSlotPaxos$Replica;LSlotPaxos$Message;)V"⟩, 5) := ⟨⟨by decide +kernel, by decide +kernel⟩, List.mem_of_getElem? (i := 12) (by decide +kernel), List.mem_of_getElem? (i := 304) (by decide +kernel), List.mem_of_getElem? (i := 305) (by decide +kernel)⟩
theorem lw_p12 : lw_okq (⟨"SlotPaxos", "help", "(LSlotPaxos$Replica;II)V"⟩, 5) := ⟨⟨by decide +kernel, by decide +kernel⟩, List.mem_of_getElem? (i := 12) (by decide +kernel), List.mem_of_getElem? (i := 308) (by decide +kernel), List.mem_of_getElem? (i := 309) (by decide +kernel)⟩
theorem lw_p13 : lw_okq (⟨"SlotPaxos", "sendPromise", "(LSlotPaxos$Replica;LSlotPaxos$Message;)V"⟩, 5) := ⟨⟨by decide +kernel, by decide +kernel⟩, List.mem_of_getElem? (i := 12) (by decide +kernel), List.mem_of_getElem? (i := 330) (by decide +kernel), List.mem_of_getElem? (i := 331) (by decide +kernel)⟩
theorem lw_p14 : lw_okq (⟨"SlotPaxos", "deny", "(LSlotPaxos$Replica;I)V"⟩, 5) := ⟨⟨by decide +kernel, by decide +kernel⟩, List.mem_of_getElem? (i := 12) (by decide +kernel), List.mem_of_getElem? (i := 342) (by decide +kernel), List.mem_of_getElem? (i := 343) (by decide +kernel)⟩
theorem lw_p15 : lw_okq (⟨"SlotPaxos", "onPromise", "(LSlotPaxos$Replica;LSlotPaxos$Message;)V"⟩, 5) := ⟨⟨by decide +kernel, by decide +kernel⟩, List.mem_of_getElem? (i := 12) (by decide +kernel), List.mem_of_getElem? (i := 346) (by decide +kernel), List.mem_of_getElem? (i := 347) (by decide +kernel)⟩
def lw_privs_1 : List (MethodName × Nat) := [(⟨"SlotPaxos", "find", "(I)LSlotPaxos$Replica;"⟩, 5), (⟨"SlotPaxos", "tickLeader", "(LSlotPaxos$Replica;)V"⟩, 5), (⟨"SlotPaxos", "sendAccept", "(LSlotPaxos$Replica;)V"⟩, 5), (⟨"SlotPaxos", "sendToAll", "(IIIII)V"⟩, 5), (⟨"SlotPaxos", "propose", "(LSlotPaxos$Replica;)V"⟩, 5), (⟨"SlotPaxos", "proposeNumber", "(LSlotPaxos$Replica;I)V"⟩, 5), (⟨"SlotPaxos", "sendPrepare", "(LSlotPaxos$Replica;)V"⟩, 5), (⟨"SlotPaxos", "campaign", "(LSlotPaxos$Replica;)V"⟩, 5), (⟨"SlotPaxos", "nextBallot", "(LSlotPaxos$Replica;)I"⟩, 5), (⟨"SlotPaxos", "ask", "(LSlotPaxos$Replica;I)V"⟩, 5), (⟨"SlotPaxos", "arrive", "(LSlotPaxos$Replica;LSlotPaxos$Message;)V"⟩, 5), (⟨"SlotPaxos", "onPrepare", "(LSlotPaxos$Replica;LSlotPaxos$Message;)V"⟩, 5), (⟨"SlotPaxos", "help", "(LSlotPaxos$Replica;II)V"⟩, 5), (⟨"SlotPaxos", "sendPromise", "(LSlotPaxos$Replica;LSlotPaxos$Message;)V"⟩, 5), (⟨"SlotPaxos", "deny", "(LSlotPaxos$Replica;I)V"⟩, 5), (⟨"SlotPaxos", "onPromise", "(LSlotPaxos$Replica;LSlotPaxos$Message;)V"⟩, 5)]
theorem lw_r1 : ∀ q ∈ lw_privs_1, lw_okq q := List.forall_mem_cons.mpr ⟨lw_p0, List.forall_mem_cons.mpr ⟨lw_p1, List.forall_mem_cons.mpr ⟨lw_p2, List.forall_mem_cons.mpr ⟨lw_p3, List.forall_mem_cons.mpr ⟨lw_p4, List.forall_mem_cons.mpr ⟨lw_p5, List.forall_mem_cons.mpr ⟨lw_p6, List.forall_mem_cons.mpr ⟨lw_p7, List.forall_mem_cons.mpr ⟨lw_p8, List.forall_mem_cons.mpr ⟨lw_p9, List.forall_mem_cons.mpr ⟨lw_p10, List.forall_mem_cons.mpr ⟨lw_p11, List.forall_mem_cons.mpr ⟨lw_p12, List.forall_mem_cons.mpr ⟨lw_p13, List.forall_mem_cons.mpr ⟨lw_p14, List.forall_mem_cons.mpr ⟨lw_p15, fun _ h => absurd h List.not_mem_nil⟩⟩⟩⟩⟩⟩⟩⟩⟩⟩⟩⟩⟩⟩⟩⟩
theorem lw_p16 : lw_okq (⟨"SlotPaxos", "isMajority", "(I)Z"⟩, 5) := ⟨⟨by decide +kernel, by decide +kernel⟩, List.mem_of_getElem? (i := 12) (by decide +kernel), List.mem_of_getElem? (i := 362) (by decide +kernel), List.mem_of_getElem? (i := 363) (by decide +kernel)⟩
theorem lw_p17 : lw_okq (⟨"SlotPaxos", "onAccept", "(LSlotPaxos$Replica;LSlotPaxos$Message;)V"⟩, 5) := ⟨⟨by decide +kernel, by decide +kernel⟩, List.mem_of_getElem? (i := 12) (by decide +kernel), List.mem_of_getElem? (i := 376) (by decide +kernel), List.mem_of_getElem? (i := 377) (by decide +kernel)⟩
theorem lw_p18 : lw_okq (⟨"SlotPaxos", "onAccepted", "(LSlotPaxos$Replica;LSlotPaxos$Message;)V"⟩, 5) := ⟨⟨by decide +kernel, by decide +kernel⟩, List.mem_of_getElem? (i := 12) (by decide +kernel), List.mem_of_getElem? (i := 381) (by decide +kernel), List.mem_of_getElem? (i := 382) (by decide +kernel)⟩
theorem lw_p19 : lw_okq (⟨"SlotPaxos", "onChosen", "(LSlotPaxos$Replica;LSlotPaxos$Message;)V"⟩, 5) := ⟨⟨by decide +kernel, by decide +kernel⟩, List.mem_of_getElem? (i := 12) (by decide +kernel), List.mem_of_getElem? (i := 402) (by decide +kernel), List.mem_of_getElem? (i := 403) (by decide +kernel)⟩
theorem lw_p20 : lw_okq (⟨"SlotPaxos", "onAsk", "(LSlotPaxos$Replica;LSlotPaxos$Message;)V"⟩, 5) := ⟨⟨by decide +kernel, by decide +kernel⟩, List.mem_of_getElem? (i := 12) (by decide +kernel), List.mem_of_getElem? (i := 406) (by decide +kernel), List.mem_of_getElem? (i := 407) (by decide +kernel)⟩
theorem lw_p21 : lw_okq (⟨"SlotPaxos", "onDeny", "(LSlotPaxos$Replica;LSlotPaxos$Message;)V"⟩, 5) := ⟨⟨by decide +kernel, by decide +kernel⟩, List.mem_of_getElem? (i := 12) (by decide +kernel), List.mem_of_getElem? (i := 410) (by decide +kernel), List.mem_of_getElem? (i := 411) (by decide +kernel)⟩
theorem lw_p22 : lw_okq (⟨"SlotPaxos", "onState", "(LSlotPaxos$Replica;LSlotPaxos$Message;)V"⟩, 5) := ⟨⟨by decide +kernel, by decide +kernel⟩, List.mem_of_getElem? (i := 12) (by decide +kernel), List.mem_of_getElem? (i := 414) (by decide +kernel), List.mem_of_getElem? (i := 415) (by decide +kernel)⟩
theorem lw_p23 : lw_okq (⟨"SlotPaxos", "greatestIndex", "()I"⟩, 5) := ⟨⟨by decide +kernel, by decide +kernel⟩, List.mem_of_getElem? (i := 12) (by decide +kernel), List.mem_of_getElem? (i := 469) (by decide +kernel), List.mem_of_getElem? (i := 470) (by decide +kernel)⟩
theorem lw_p24 : lw_okq (⟨"SlotPaxosModel", "isUp", "(I)Z"⟩, 24) := ⟨⟨by decide +kernel, by decide +kernel⟩, List.mem_of_getElem? (i := 476) (by decide +kernel), List.mem_of_getElem? (i := 560) (by decide +kernel), List.mem_of_getElem? (i := 561) (by decide +kernel)⟩
theorem lw_p25 : lw_okq (⟨"SlotPaxosModel", "isReplica", "(I)Z"⟩, 24) := ⟨⟨by decide +kernel, by decide +kernel⟩, List.mem_of_getElem? (i := 476) (by decide +kernel), List.mem_of_getElem? (i := 564) (by decide +kernel), List.mem_of_getElem? (i := 565) (by decide +kernel)⟩
theorem lw_p26 : lw_okq (⟨"SlotPaxosModel", "sendAll", "(IIIII)V"⟩, 24) := ⟨⟨by decide +kernel, by decide +kernel⟩, List.mem_of_getElem? (i := 476) (by decide +kernel), List.mem_of_getElem? (i := 572) (by decide +kernel), List.mem_of_getElem? (i := 573) (by decide +kernel)⟩
theorem lw_p27 : lw_okq (⟨"SlotPaxosModel", "send", "(IIIIIII)V"⟩, 24) := ⟨⟨by decide +kernel, by decide +kernel⟩, List.mem_of_getElem? (i := 476) (by decide +kernel), List.mem_of_getElem? (i := 576) (by decide +kernel), List.mem_of_getElem? (i := 577) (by decide +kernel)⟩
theorem lw_p28 : lw_okq (⟨"SlotPaxosModel", "propose", "(I)V"⟩, 24) := ⟨⟨by decide +kernel, by decide +kernel⟩, List.mem_of_getElem? (i := 476) (by decide +kernel), List.mem_of_getElem? (i := 580) (by decide +kernel), List.mem_of_getElem? (i := 581) (by decide +kernel)⟩
theorem lw_p29 : lw_okq (⟨"SlotPaxosModel", "proposeIt", "(II)V"⟩, 24) := ⟨⟨by decide +kernel, by decide +kernel⟩, List.mem_of_getElem? (i := 476) (by decide +kernel), List.mem_of_getElem? (i := 584) (by decide +kernel), List.mem_of_getElem? (i := 585) (by decide +kernel)⟩
theorem lw_p30 : lw_okq (⟨"SlotPaxosModel", "campaign", "(I)V"⟩, 24) := ⟨⟨by decide +kernel, by decide +kernel⟩, List.mem_of_getElem? (i := 476) (by decide +kernel), List.mem_of_getElem? (i := 588) (by decide +kernel), List.mem_of_getElem? (i := 589) (by decide +kernel)⟩
theorem lw_p31 : lw_okq (⟨"SlotPaxosModel", "follow", "(I)V"⟩, 24) := ⟨⟨by decide +kernel, by decide +kernel⟩, List.mem_of_getElem? (i := 476) (by decide +kernel), List.mem_of_getElem? (i := 592) (by decide +kernel), List.mem_of_getElem? (i := 593) (by decide +kernel)⟩
def lw_privs_2 : List (MethodName × Nat) := [(⟨"SlotPaxos", "isMajority", "(I)Z"⟩, 5), (⟨"SlotPaxos", "onAccept", "(LSlotPaxos$Replica;LSlotPaxos$Message;)V"⟩, 5), (⟨"SlotPaxos", "onAccepted", "(LSlotPaxos$Replica;LSlotPaxos$Message;)V"⟩, 5), (⟨"SlotPaxos", "onChosen", "(LSlotPaxos$Replica;LSlotPaxos$Message;)V"⟩, 5), (⟨"SlotPaxos", "onAsk", "(LSlotPaxos$Replica;LSlotPaxos$Message;)V"⟩, 5), (⟨"SlotPaxos", "onDeny", "(LSlotPaxos$Replica;LSlotPaxos$Message;)V"⟩, 5), (⟨"SlotPaxos", "onState", "(LSlotPaxos$Replica;LSlotPaxos$Message;)V"⟩, 5), (⟨"SlotPaxos", "greatestIndex", "()I"⟩, 5), (⟨"SlotPaxosModel", "isUp", "(I)Z"⟩, 24), (⟨"SlotPaxosModel", "isReplica", "(I)Z"⟩, 24), (⟨"SlotPaxosModel", "sendAll", "(IIIII)V"⟩, 24), (⟨"SlotPaxosModel", "send", "(IIIIIII)V"⟩, 24), (⟨"SlotPaxosModel", "propose", "(I)V"⟩, 24), (⟨"SlotPaxosModel", "proposeIt", "(II)V"⟩, 24), (⟨"SlotPaxosModel", "campaign", "(I)V"⟩, 24), (⟨"SlotPaxosModel", "follow", "(I)V"⟩, 24)]
theorem lw_r2 : ∀ q ∈ lw_privs_2, lw_okq q := List.forall_mem_cons.mpr ⟨lw_p16, List.forall_mem_cons.mpr ⟨lw_p17, List.forall_mem_cons.mpr ⟨lw_p18, List.forall_mem_cons.mpr ⟨lw_p19, List.forall_mem_cons.mpr ⟨lw_p20, List.forall_mem_cons.mpr ⟨lw_p21, List.forall_mem_cons.mpr ⟨lw_p22, List.forall_mem_cons.mpr ⟨lw_p23, List.forall_mem_cons.mpr ⟨lw_p24, List.forall_mem_cons.mpr ⟨lw_p25, List.forall_mem_cons.mpr ⟨lw_p26, List.forall_mem_cons.mpr ⟨lw_p27, List.forall_mem_cons.mpr ⟨lw_p28, List.forall_mem_cons.mpr ⟨lw_p29, List.forall_mem_cons.mpr ⟨lw_p30, List.forall_mem_cons.mpr ⟨lw_p31, fun _ h => absurd h List.not_mem_nil⟩⟩⟩⟩⟩⟩⟩⟩⟩⟩⟩⟩⟩⟩⟩⟩
theorem lw_p32 : lw_okq (⟨"SlotPaxosModel", "remove", "(I)V"⟩, 24) := ⟨⟨by decide +kernel, by decide +kernel⟩, List.mem_of_getElem? (i := 476) (by decide +kernel), List.mem_of_getElem? (i := 600) (by decide +kernel), List.mem_of_getElem? (i := 601) (by decide +kernel)⟩
theorem lw_p33 : lw_okq (⟨"SlotPaxosModel", "comes", "(IIIIIII)V"⟩, 24) := ⟨⟨by decide +kernel, by decide +kernel⟩, List.mem_of_getElem? (i := 476) (by decide +kernel), List.mem_of_getElem? (i := 604) (by decide +kernel), List.mem_of_getElem? (i := 605) (by decide +kernel)⟩
theorem lw_p34 : lw_okq (⟨"SlotPaxosModel", "prepared", "(IIII)V"⟩, 24) := ⟨⟨by decide +kernel, by decide +kernel⟩, List.mem_of_getElem? (i := 476) (by decide +kernel), List.mem_of_getElem? (i := 608) (by decide +kernel), List.mem_of_getElem? (i := 609) (by decide +kernel)⟩
theorem lw_p35 : lw_okq (⟨"SlotPaxosModel", "help", "(III)V"⟩, 24) := ⟨⟨by decide +kernel, by decide +kernel⟩, List.mem_of_getElem? (i := 476) (by decide +kernel), List.mem_of_getElem? (i := 612) (by decide +kernel), List.mem_of_getElem? (i := 613) (by decide +kernel)⟩
theorem lw_p36 : lw_okq (⟨"SlotPaxosModel", "gotPromise", "(IIIIII)V"⟩, 24) := ⟨⟨by decide +kernel, by decide +kernel⟩, List.mem_of_getElem? (i := 476) (by decide +kernel), List.mem_of_getElem? (i := 616) (by decide +kernel), List.mem_of_getElem? (i := 617) (by decide +kernel)⟩
theorem lw_p37 : lw_okq (⟨"SlotPaxosModel", "count", "(I)I"⟩, 24) := ⟨⟨by decide +kernel, by decide +kernel⟩, List.mem_of_getElem? (i := 476) (by decide +kernel), List.mem_of_getElem? (i := 620) (by decide +kernel), List.mem_of_getElem? (i := 621) (by decide +kernel)⟩
theorem lw_p38 : lw_okq (⟨"SlotPaxosModel", "gotAccept", "(IIIII)V"⟩, 24) := ⟨⟨by decide +kernel, by decide +kernel⟩, List.mem_of_getElem? (i := 476) (by decide +kernel), List.mem_of_getElem? (i := 624) (by decide +kernel), List.mem_of_getElem? (i := 625) (by decide +kernel)⟩
theorem lw_p39 : lw_okq (⟨"SlotPaxosModel", "gotAccepted", "(IIII)V"⟩, 24) := ⟨⟨by decide +kernel, by decide +kernel⟩, List.mem_of_getElem? (i := 476) (by decide +kernel), List.mem_of_getElem? (i := 628) (by decide +kernel), List.mem_of_getElem? (i := 629) (by decide +kernel)⟩
theorem lw_p40 : lw_okq (⟨"SlotPaxosModel", "learn", "(II)V"⟩, 24) := ⟨⟨by decide +kernel, by decide +kernel⟩, List.mem_of_getElem? (i := 476) (by decide +kernel), List.mem_of_getElem? (i := 632) (by decide +kernel), List.mem_of_getElem? (i := 633) (by decide +kernel)⟩
theorem lw_p41 : lw_okq (⟨"SlotPaxosModel", "gotState", "(III)V"⟩, 24) := ⟨⟨by decide +kernel, by decide +kernel⟩, List.mem_of_getElem? (i := 476) (by decide +kernel), List.mem_of_getElem? (i := 636) (by decide +kernel), List.mem_of_getElem? (i := 637) (by decide +kernel)⟩
def lw_privs_3 : List (MethodName × Nat) := [(⟨"SlotPaxosModel", "remove", "(I)V"⟩, 24), (⟨"SlotPaxosModel", "comes", "(IIIIIII)V"⟩, 24), (⟨"SlotPaxosModel", "prepared", "(IIII)V"⟩, 24), (⟨"SlotPaxosModel", "help", "(III)V"⟩, 24), (⟨"SlotPaxosModel", "gotPromise", "(IIIIII)V"⟩, 24), (⟨"SlotPaxosModel", "count", "(I)I"⟩, 24), (⟨"SlotPaxosModel", "gotAccept", "(IIIII)V"⟩, 24), (⟨"SlotPaxosModel", "gotAccepted", "(IIII)V"⟩, 24), (⟨"SlotPaxosModel", "learn", "(II)V"⟩, 24), (⟨"SlotPaxosModel", "gotState", "(III)V"⟩, 24)]
theorem lw_r3 : ∀ q ∈ lw_privs_3, lw_okq q := List.forall_mem_cons.mpr ⟨lw_p32, List.forall_mem_cons.mpr ⟨lw_p33, List.forall_mem_cons.mpr ⟨lw_p34, List.forall_mem_cons.mpr ⟨lw_p35, List.forall_mem_cons.mpr ⟨lw_p36, List.forall_mem_cons.mpr ⟨lw_p37, List.forall_mem_cons.mpr ⟨lw_p38, List.forall_mem_cons.mpr ⟨lw_p39, List.forall_mem_cons.mpr ⟨lw_p40, List.forall_mem_cons.mpr ⟨lw_p41, fun _ h => absurd h List.not_mem_nil⟩⟩⟩⟩⟩⟩⟩⟩⟩⟩
def lw_privs : List (MethodName × Nat) := lw_privs_1 ++ (lw_privs_2 ++ (lw_privs_3))
def lw_tbl : List Cond := k2_sels lw_privs ++ tables_1
theorem lw_privs_ok : ∀ q ∈ lw_privs, lw_okq q := by
  show ∀ q ∈ lw_privs_1 ++ (lw_privs_2 ++ (lw_privs_3)), lw_okq q
  exact List.forall_mem_append.mpr ⟨lw_r1, List.forall_mem_append.mpr ⟨lw_r2, lw_r3⟩⟩

/-- the words that hold at every state of the run -/
def mx_tbl : List Cond := lw_tbl.filter goodWord
theorem mx_good : ∀ w ∈ mx_tbl, goodWord w = true := fun _ h => (List.mem_filter.mp h).2
theorem mw (i : Nat) {w : Cond} (h : lw_tbl[i]? = some w) (g : goodWord w = true) : w ∈ mx_tbl := List.mem_filter.mpr ⟨List.mem_of_getElem? h, g⟩
def R_F : String := "SlotPaxos$Flight"
def F_F : u_T := fun k => match k with
  | 0 => ("SlotPaxos$Flight", "cells", "[I", true)
  | 1 => ("SlotPaxos$Flight", "count", "I", false)
  | 2 => ("SlotPaxos$Flight", "sent", "I", false)
  | _ => ("SlotPaxos$Flight", "refused", "I", false)
def tf_F : Nat → FieldType := fun k => match k with
  | 0 => .array .int
  | 1 => .int
  | 2 => .int
  | _ => .int
theorem nm_F : ∀ a, a < 4 → ∀ b, b < 4 → a ≠ b → (F_F a).2.1 ≠ (F_F b).2.1 := by decide +kernel
theorem ty_F : ∀ k, k < 4 → parseFieldDescriptor (F_F k).2.2.1 = some (tf_F k) := by decide +kernel
set_option maxRecDepth 100000 in
theorem in_F : ∀ w ∈ u_ws R_F F_F 4, w ∈ mx_tbl := by
  intro w hw
  obtain ⟨k, hk, rfl⟩ := List.mem_map.mp hw
  have hk := List.mem_range.mp hk
  match k, hk with
  | 0, _ => exact mw 185 rfl rfl
  | 1, _ => exact mw 187 rfl rfl
  | 2, _ => exact mw 189 rfl rfl
  | 3, _ => exact mw 191 rfl rfl
  | k + 4, h => exact absurd h (by omega)
def R_L : String := "SlotPaxos$Line"
def F_L : u_T := fun k => match k with
  | 0 => ("SlotPaxos$Line", "numbers", "[I", true)
  | _ => ("SlotPaxos$Line", "count", "I", false)
def tf_L : Nat → FieldType := fun k => match k with
  | 0 => .array .int
  | _ => .int
theorem nm_L : ∀ a, a < 2 → ∀ b, b < 2 → a ≠ b → (F_L a).2.1 ≠ (F_L b).2.1 := by decide +kernel
theorem ty_L : ∀ k, k < 2 → parseFieldDescriptor (F_L k).2.2.1 = some (tf_L k) := by decide +kernel
set_option maxRecDepth 100000 in
theorem in_L : ∀ w ∈ u_ws R_L F_L 2, w ∈ mx_tbl := by
  intro w hw
  obtain ⟨k, hk, rfl⟩ := List.mem_map.mp hw
  have hk := List.mem_range.mp hk
  match k, hk with
  | 0, _ => exact mw 110 rfl rfl
  | 1, _ => exact mw 112 rfl rfl
  | k + 2, h => exact absurd h (by omega)
def R_G : String := "SlotPaxos$Log"
def F_G : u_T := fun k => match k with
  | 0 => ("SlotPaxos$Log", "limit", "I", true)
  | 1 => ("SlotPaxos$Log", "numbers", "[I", true)
  | 2 => ("SlotPaxos$Log", "index", "I", false)
  | 3 => ("SlotPaxos$Log", "sum", "I", false)
  | _ => ("SlotPaxos$Log", "base", "I", false)
def tf_G : Nat → FieldType := fun k => match k with
  | 0 => .int
  | 1 => .array .int
  | 2 => .int
  | 3 => .int
  | _ => .int
theorem nm_G : ∀ a, a < 5 → ∀ b, b < 5 → a ≠ b → (F_G a).2.1 ≠ (F_G b).2.1 := by decide +kernel
theorem ty_G : ∀ k, k < 5 → parseFieldDescriptor (F_G k).2.2.1 = some (tf_G k) := by decide +kernel
set_option maxRecDepth 100000 in
theorem in_G : ∀ w ∈ u_ws R_G F_G 5, w ∈ mx_tbl := by
  intro w hw
  obtain ⟨k, hk, rfl⟩ := List.mem_map.mp hw
  have hk := List.mem_range.mp hk
  match k, hk with
  | 0, _ => exact mw 88 rfl rfl
  | 1, _ => exact mw 90 rfl rfl
  | 2, _ => exact mw 92 rfl rfl
  | 3, _ => exact mw 94 rfl rfl
  | 4, _ => exact mw 96 rfl rfl
  | k + 5, h => exact absurd h (by omega)
def R_M : String := "SlotPaxos$Message"
def F_M : u_T := fun k => match k with
  | 0 => ("SlotPaxos$Message", "kind", "I", false)
  | 1 => ("SlotPaxos$Message", "sender", "I", false)
  | 2 => ("SlotPaxos$Message", "receiver", "I", false)
  | 3 => ("SlotPaxos$Message", "ballot", "I", false)
  | 4 => ("SlotPaxos$Message", "slot", "I", false)
  | 5 => ("SlotPaxos$Message", "number", "I", false)
  | _ => ("SlotPaxos$Message", "told", "I", false)
def tf_M : Nat → FieldType := fun k => match k with
  | 0 => .int
  | 1 => .int
  | 2 => .int
  | 3 => .int
  | 4 => .int
  | 5 => .int
  | _ => .int
theorem nm_M : ∀ a, a < 7 → ∀ b, b < 7 → a ≠ b → (F_M a).2.1 ≠ (F_M b).2.1 := by decide +kernel
theorem ty_M : ∀ k, k < 7 → parseFieldDescriptor (F_M k).2.2.1 = some (tf_M k) := by decide +kernel
set_option maxRecDepth 100000 in
theorem in_M : ∀ w ∈ u_ws R_M F_M 7, w ∈ mx_tbl := by
  intro w hw
  obtain ⟨k, hk, rfl⟩ := List.mem_map.mp hw
  have hk := List.mem_range.mp hk
  match k, hk with
  | 0, _ => exact mw 214 rfl rfl
  | 1, _ => exact mw 216 rfl rfl
  | 2, _ => exact mw 218 rfl rfl
  | 3, _ => exact mw 220 rfl rfl
  | 4, _ => exact mw 222 rfl rfl
  | 5, _ => exact mw 224 rfl rfl
  | 6, _ => exact mw 226 rfl rfl
  | k + 7, h => exact absurd h (by omega)
def R_R : String := "SlotPaxos$Replica"
def F_R : u_T := fun k => match k with
  | 0 => ("SlotPaxos$Replica", "id", "I", true)
  | 1 => ("SlotPaxos$Replica", "log", "LSlotPaxos$Log;", true)
  | 2 => ("SlotPaxos$Replica", "line", "LSlotPaxos$Line;", true)
  | 3 => ("SlotPaxos$Replica", "up", "Z", false)
  | 4 => ("SlotPaxos$Replica", "promised", "I", false)
  | 5 => ("SlotPaxos$Replica", "acceptedBallot", "I", false)
  | 6 => ("SlotPaxos$Replica", "acceptedNumber", "I", false)
  | 7 => ("SlotPaxos$Replica", "role", "I", false)
  | 8 => ("SlotPaxos$Replica", "ballot", "I", false)
  | 9 => ("SlotPaxos$Replica", "answered", "I", false)
  | 10 => ("SlotPaxos$Replica", "proposed", "I", false)
  | 11 => ("SlotPaxos$Replica", "seen", "I", false)
  | 12 => ("SlotPaxos$Replica", "greatestBallot", "I", false)
  | _ => ("SlotPaxos$Replica", "greatestNumber", "I", false)
def tf_R : Nat → FieldType := fun k => match k with
  | 0 => .int
  | 1 => .object "SlotPaxos$Log"
  | 2 => .object "SlotPaxos$Line"
  | 3 => .boolean
  | 4 => .int
  | 5 => .int
  | 6 => .int
  | 7 => .int
  | 8 => .int
  | 9 => .int
  | 10 => .int
  | 11 => .int
  | 12 => .int
  | _ => .int
theorem nm_R : ∀ a, a < 14 → ∀ b, b < 14 → a ≠ b → (F_R a).2.1 ≠ (F_R b).2.1 := by decide +kernel
theorem ty_R : ∀ k, k < 14 → parseFieldDescriptor (F_R k).2.2.1 = some (tf_R k) := by decide +kernel
set_option maxRecDepth 100000 in
theorem in_R : ∀ w ∈ u_ws R_R F_R 14, w ∈ mx_tbl := by
  intro w hw
  obtain ⟨k, hk, rfl⟩ := List.mem_map.mp hw
  have hk := List.mem_range.mp hk
  match k, hk with
  | 0, _ => exact mw 143 rfl rfl
  | 1, _ => exact mw 145 rfl rfl
  | 2, _ => exact mw 147 rfl rfl
  | 3, _ => exact mw 149 rfl rfl
  | 4, _ => exact mw 151 rfl rfl
  | 5, _ => exact mw 153 rfl rfl
  | 6, _ => exact mw 155 rfl rfl
  | 7, _ => exact mw 157 rfl rfl
  | 8, _ => exact mw 159 rfl rfl
  | 9, _ => exact mw 161 rfl rfl
  | 10, _ => exact mw 163 rfl rfl
  | 11, _ => exact mw 165 rfl rfl
  | 12, _ => exact mw 167 rfl rfl
  | 13, _ => exact mw 169 rfl rfl
  | k + 14, h => exact absurd h (by omega)
def R_P : String := "SlotPaxos"
def F_P : u_T := fun k => match k with
  | 0 => ("SlotPaxos", "size", "I", true)
  | 1 => ("SlotPaxos", "limit", "I", true)
  | 2 => ("SlotPaxos", "members", "[LSlotPaxos$Replica;", true)
  | 3 => ("SlotPaxos", "flight", "LSlotPaxos$Flight;", true)
  | _ => ("SlotPaxos", "arrived", "LSlotPaxos$Message;", true)
def tf_P : Nat → FieldType := fun k => match k with
  | 0 => .int
  | 1 => .int
  | 2 => .array (.object "SlotPaxos$Replica")
  | 3 => .object "SlotPaxos$Flight"
  | _ => .object "SlotPaxos$Message"
theorem nm_P : ∀ a, a < 5 → ∀ b, b < 5 → a ≠ b → (F_P a).2.1 ≠ (F_P b).2.1 := by decide +kernel
theorem ty_P : ∀ k, k < 5 → parseFieldDescriptor (F_P k).2.2.1 = some (tf_P k) := by decide +kernel
set_option maxRecDepth 100000 in
theorem in_P : ∀ w ∈ u_ws R_P F_P 5, w ∈ mx_tbl := by
  intro w hw
  obtain ⟨k, hk, rfl⟩ := List.mem_map.mp hw
  have hk := List.mem_range.mp hk
  match k, hk with
  | 0, _ => exact mw 234 rfl rfl
  | 1, _ => exact mw 236 rfl rfl
  | 2, _ => exact mw 238 rfl rfl
  | 3, _ => exact mw 240 rfl rfl
  | 4, _ => exact mw 242 rfl rfl
  | k + 5, h => exact absurd h (by omega)
def R_T : String := "SlotPaxosModel"
def F_T : u_T := fun k => match k with
  | 0 => ("SlotPaxosModel", "thrown", "I", false)
  | 1 => ("SlotPaxosModel", "n", "I", true)
  | 2 => ("SlotPaxosModel", "kept", "I", true)
  | 3 => ("SlotPaxosModel", "up", "[Z", true)
  | 4 => ("SlotPaxosModel", "index", "[I", true)
  | 5 => ("SlotPaxosModel", "sum", "[I", true)
  | 6 => ("SlotPaxosModel", "base", "[I", true)
  | 7 => ("SlotPaxosModel", "promised", "[I", true)
  | 8 => ("SlotPaxosModel", "acceptedBallot", "[I", true)
  | 9 => ("SlotPaxosModel", "accepted", "[I", true)
  | 10 => ("SlotPaxosModel", "slots", "[I", true)
  | 11 => ("SlotPaxosModel", "role", "[I", true)
  | 12 => ("SlotPaxosModel", "ballot", "[I", true)
  | 13 => ("SlotPaxosModel", "answered", "[I", true)
  | 14 => ("SlotPaxosModel", "proposed", "[I", true)
  | 15 => ("SlotPaxosModel", "told", "[I", true)
  | 16 => ("SlotPaxosModel", "toldBallot", "[I", true)
  | 17 => ("SlotPaxosModel", "seen", "[I", true)
  | 18 => ("SlotPaxosModel", "queue", "[I", true)
  | 19 => ("SlotPaxosModel", "queued", "[I", true)
  | 20 => ("SlotPaxosModel", "messages", "[I", true)
  | 21 => ("SlotPaxosModel", "flight", "I", false)
  | 22 => ("SlotPaxosModel", "sent", "I", false)
  | _ => ("SlotPaxosModel", "lost", "I", false)
def tf_T : Nat → FieldType := fun k => match k with
  | 0 => .int
  | 1 => .int
  | 2 => .int
  | 3 => .array .boolean
  | 4 => .array .int
  | 5 => .array .int
  | 6 => .array .int
  | 7 => .array .int
  | 8 => .array .int
  | 9 => .array .int
  | 10 => .array .int
  | 11 => .array .int
  | 12 => .array .int
  | 13 => .array .int
  | 14 => .array .int
  | 15 => .array .int
  | 16 => .array .int
  | 17 => .array .int
  | 18 => .array .int
  | 19 => .array .int
  | 20 => .array .int
  | 21 => .int
  | 22 => .int
  | _ => .int
theorem nm_T : ∀ a, a < 24 → ∀ b, b < 24 → a ≠ b → (F_T a).2.1 ≠ (F_T b).2.1 := by decide +kernel
theorem ty_T : ∀ k, k < 24 → parseFieldDescriptor (F_T k).2.2.1 = some (tf_T k) := by decide +kernel
set_option maxRecDepth 100000 in
theorem in_T : ∀ w ∈ u_ws R_T F_T 24, w ∈ mx_tbl := by
  intro w hw
  obtain ⟨k, hk, rfl⟩ := List.mem_map.mp hw
  have hk := List.mem_range.mp hk
  match k, hk with
  | 0, _ => exact mw 547 rfl rfl
  | 1, _ => exact mw 549 rfl rfl
  | 2, _ => exact mw 551 rfl rfl
  | 3, _ => exact mw 553 rfl rfl
  | 4, _ => exact mw 555 rfl rfl
  | 5, _ => exact mw 557 rfl rfl
  | 6, _ => exact mw 559 rfl rfl
  | 7, _ => exact mw 561 rfl rfl
  | 8, _ => exact mw 563 rfl rfl
  | 9, _ => exact mw 565 rfl rfl
  | 10, _ => exact mw 567 rfl rfl
  | 11, _ => exact mw 569 rfl rfl
  | 12, _ => exact mw 571 rfl rfl
  | 13, _ => exact mw 573 rfl rfl
  | 14, _ => exact mw 575 rfl rfl
  | 15, _ => exact mw 577 rfl rfl
  | 16, _ => exact mw 579 rfl rfl
  | 17, _ => exact mw 581 rfl rfl
  | 18, _ => exact mw 583 rfl rfl
  | 19, _ => exact mw 585 rfl rfl
  | 20, _ => exact mw 587 rfl rfl
  | 21, _ => exact mw 589 rfl rfl
  | 22, _ => exact mw 591 rfl rfl
  | 23, _ => exact mw 593 rfl rfl
  | k + 24, h => exact absurd h (by omega)
def R_W : String := "SlotPaxosLaw"
def R_J : String := "java/lang/Integer"
abbrev vwCl : List vw_C := [(R_F, F_F, 4), (R_L, F_L, 2), (R_G, F_G, 5), (R_M, F_M, 7), (R_R, F_R, 14), (R_P, F_P, 5), (R_T, F_T, 24)]
abbrev b_P_init : ByteArray := prog_1_method_1_code
def y_P_init : MethodName := ⟨R_P, "<init>", "(II)V"⟩
abbrev b_P_request : ByteArray := prog_1_method_2_code
def y_P_request : MethodName := ⟨R_P, "request", "(II)Z"⟩
abbrev b_P_tick : ByteArray := prog_1_method_3_code
def y_P_tick : MethodName := ⟨R_P, "tick", "(I)I"⟩
abbrev b_P_deliver : ByteArray := prog_1_method_4_code
def y_P_deliver : MethodName := ⟨R_P, "deliver", "(I)I"⟩
abbrev b_P_lose : ByteArray := prog_1_method_5_code
def y_P_lose : MethodName := ⟨R_P, "lose", "(I)Z"⟩
abbrev b_P_twice : ByteArray := prog_1_method_6_code
def y_P_twice : MethodName := ⟨R_P, "twice", "(I)Z"⟩
abbrev b_P_turn : ByteArray := prog_1_method_7_code
def y_P_turn : MethodName := ⟨R_P, "turn", "(IZ)Z"⟩
abbrev b_P_replica : ByteArray := prog_1_method_8_code
def y_P_replica : MethodName := ⟨R_P, "replica", "(II)I"⟩
abbrev b_P_slot : ByteArray := prog_1_method_9_code
def y_P_slot : MethodName := ⟨R_P, "slot", "(II)I"⟩
abbrev b_P_waiting : ByteArray := prog_1_method_10_code
def y_P_waiting : MethodName := ⟨R_P, "waiting", "(II)I"⟩
abbrev b_P_message : ByteArray := prog_1_method_11_code
def y_P_message : MethodName := ⟨R_P, "message", "(II)I"⟩
abbrev b_P_look : ByteArray := prog_1_method_12_code
def y_P_look : MethodName := ⟨R_P, "look", "(I)I"⟩
abbrev b_P_find : ByteArray := prog_1_method_13_code
def y_P_find : MethodName := ⟨R_P, "find", "(I)LSlotPaxos$Replica;"⟩
abbrev b_P_greatestIndex : ByteArray := prog_1_method_14_code
def y_P_greatestIndex : MethodName := ⟨R_P, "greatestIndex", "()I"⟩
abbrev b_P_isMajority : ByteArray := prog_1_method_15_code
def y_P_isMajority : MethodName := ⟨R_P, "isMajority", "(I)Z"⟩
abbrev b_P_tickLeader : ByteArray := prog_1_method_16_code
def y_P_tickLeader : MethodName := ⟨R_P, "tickLeader", "(LSlotPaxos$Replica;)V"⟩
abbrev b_P_campaign : ByteArray := prog_1_method_17_code
def y_P_campaign : MethodName := ⟨R_P, "campaign", "(LSlotPaxos$Replica;)V"⟩
abbrev b_P_nextBallot : ByteArray := prog_1_method_18_code
def y_P_nextBallot : MethodName := ⟨R_P, "nextBallot", "(LSlotPaxos$Replica;)I"⟩
abbrev b_P_propose : ByteArray := prog_1_method_19_code
def y_P_propose : MethodName := ⟨R_P, "propose", "(LSlotPaxos$Replica;)V"⟩
abbrev b_P_proposeNumber : ByteArray := prog_1_method_20_code
def y_P_proposeNumber : MethodName := ⟨R_P, "proposeNumber", "(LSlotPaxos$Replica;I)V"⟩
abbrev b_P_arrive : ByteArray := prog_1_method_21_code
def y_P_arrive : MethodName := ⟨R_P, "arrive", "(LSlotPaxos$Replica;LSlotPaxos$Message;)V"⟩
abbrev b_P_onPrepare : ByteArray := prog_1_method_22_code
def y_P_onPrepare : MethodName := ⟨R_P, "onPrepare", "(LSlotPaxos$Replica;LSlotPaxos$Message;)V"⟩
abbrev b_P_onPromise : ByteArray := prog_1_method_23_code
def y_P_onPromise : MethodName := ⟨R_P, "onPromise", "(LSlotPaxos$Replica;LSlotPaxos$Message;)V"⟩
abbrev b_P_onAccept : ByteArray := prog_1_method_24_code
def y_P_onAccept : MethodName := ⟨R_P, "onAccept", "(LSlotPaxos$Replica;LSlotPaxos$Message;)V"⟩
abbrev b_P_onAccepted : ByteArray := prog_1_method_25_code
def y_P_onAccepted : MethodName := ⟨R_P, "onAccepted", "(LSlotPaxos$Replica;LSlotPaxos$Message;)V"⟩
abbrev b_P_onChosen : ByteArray := prog_1_method_26_code
def y_P_onChosen : MethodName := ⟨R_P, "onChosen", "(LSlotPaxos$Replica;LSlotPaxos$Message;)V"⟩
abbrev b_P_onAsk : ByteArray := prog_1_method_27_code
def y_P_onAsk : MethodName := ⟨R_P, "onAsk", "(LSlotPaxos$Replica;LSlotPaxos$Message;)V"⟩
abbrev b_P_onDeny : ByteArray := prog_1_method_28_code
def y_P_onDeny : MethodName := ⟨R_P, "onDeny", "(LSlotPaxos$Replica;LSlotPaxos$Message;)V"⟩
abbrev b_P_onState : ByteArray := prog_1_method_29_code
def y_P_onState : MethodName := ⟨R_P, "onState", "(LSlotPaxos$Replica;LSlotPaxos$Message;)V"⟩
abbrev b_P_sendPrepare : ByteArray := prog_1_method_30_code
def y_P_sendPrepare : MethodName := ⟨R_P, "sendPrepare", "(LSlotPaxos$Replica;)V"⟩
abbrev b_P_sendAccept : ByteArray := prog_1_method_31_code
def y_P_sendAccept : MethodName := ⟨R_P, "sendAccept", "(LSlotPaxos$Replica;)V"⟩
abbrev b_P_sendPromise : ByteArray := prog_1_method_32_code
def y_P_sendPromise : MethodName := ⟨R_P, "sendPromise", "(LSlotPaxos$Replica;LSlotPaxos$Message;)V"⟩
abbrev b_P_ask : ByteArray := prog_1_method_33_code
def y_P_ask : MethodName := ⟨R_P, "ask", "(LSlotPaxos$Replica;I)V"⟩
abbrev b_P_deny : ByteArray := prog_1_method_34_code
def y_P_deny : MethodName := ⟨R_P, "deny", "(LSlotPaxos$Replica;I)V"⟩
abbrev b_P_help : ByteArray := prog_1_method_35_code
def y_P_help : MethodName := ⟨R_P, "help", "(LSlotPaxos$Replica;II)V"⟩
abbrev b_P_sendToAll : ByteArray := prog_1_method_36_code
def y_P_sendToAll : MethodName := ⟨R_P, "sendToAll", "(IIIII)V"⟩
abbrev b_T_init : ByteArray := prog_8_method_1_code
def y_T_init : MethodName := ⟨R_T, "<init>", "(II)V"⟩
abbrev b_T_isReplica : ByteArray := prog_8_method_3_code
def y_T_isReplica : MethodName := ⟨R_T, "isReplica", "(I)Z"⟩
abbrev b_T_isUp : ByteArray := prog_8_method_4_code
def y_T_isUp : MethodName := ⟨R_T, "isUp", "(I)Z"⟩
abbrev b_T_send : ByteArray := prog_8_method_5_code
def y_T_send : MethodName := ⟨R_T, "send", "(IIIIIII)V"⟩
abbrev b_T_sendAll : ByteArray := prog_8_method_6_code
def y_T_sendAll : MethodName := ⟨R_T, "sendAll", "(IIIII)V"⟩
abbrev b_T_remove : ByteArray := prog_8_method_7_code
def y_T_remove : MethodName := ⟨R_T, "remove", "(I)V"⟩
abbrev b_T_follow : ByteArray := prog_8_method_8_code
def y_T_follow : MethodName := ⟨R_T, "follow", "(I)V"⟩
abbrev b_T_campaign : ByteArray := prog_8_method_9_code
def y_T_campaign : MethodName := ⟨R_T, "campaign", "(I)V"⟩
abbrev b_T_proposeIt : ByteArray := prog_8_method_10_code
def y_T_proposeIt : MethodName := ⟨R_T, "proposeIt", "(II)V"⟩
abbrev b_T_propose : ByteArray := prog_8_method_11_code
def y_T_propose : MethodName := ⟨R_T, "propose", "(I)V"⟩
abbrev b_T_learn : ByteArray := prog_8_method_12_code
def y_T_learn : MethodName := ⟨R_T, "learn", "(II)V"⟩
abbrev b_T_help : ByteArray := prog_8_method_13_code
def y_T_help : MethodName := ⟨R_T, "help", "(III)V"⟩
abbrev b_T_count : ByteArray := prog_8_method_14_code
def y_T_count : MethodName := ⟨R_T, "count", "(I)I"⟩
abbrev b_T_prepared : ByteArray := prog_8_method_15_code
def y_T_prepared : MethodName := ⟨R_T, "prepared", "(IIII)V"⟩
abbrev b_T_gotPromise : ByteArray := prog_8_method_16_code
def y_T_gotPromise : MethodName := ⟨R_T, "gotPromise", "(IIIIII)V"⟩
abbrev b_T_gotAccept : ByteArray := prog_8_method_17_code
def y_T_gotAccept : MethodName := ⟨R_T, "gotAccept", "(IIIII)V"⟩
abbrev b_T_gotAccepted : ByteArray := prog_8_method_18_code
def y_T_gotAccepted : MethodName := ⟨R_T, "gotAccepted", "(IIII)V"⟩
abbrev b_T_gotState : ByteArray := prog_8_method_19_code
def y_T_gotState : MethodName := ⟨R_T, "gotState", "(III)V"⟩
abbrev b_T_comes : ByteArray := prog_8_method_20_code
def y_T_comes : MethodName := ⟨R_T, "comes", "(IIIIIII)V"⟩
abbrev b_T_request : ByteArray := prog_8_method_21_code
def y_T_request : MethodName := ⟨R_T, "request", "(II)Z"⟩
abbrev b_T_tick : ByteArray := prog_8_method_22_code
def y_T_tick : MethodName := ⟨R_T, "tick", "(I)I"⟩
abbrev b_T_deliver : ByteArray := prog_8_method_23_code
def y_T_deliver : MethodName := ⟨R_T, "deliver", "(I)I"⟩
abbrev b_T_lose : ByteArray := prog_8_method_24_code
def y_T_lose : MethodName := ⟨R_T, "lose", "(I)Z"⟩
abbrev b_T_twice : ByteArray := prog_8_method_25_code
def y_T_twice : MethodName := ⟨R_T, "twice", "(I)Z"⟩
abbrev b_T_turn : ByteArray := prog_8_method_26_code
def y_T_turn : MethodName := ⟨R_T, "turn", "(IZ)Z"⟩
abbrev b_T_replica : ByteArray := prog_8_method_27_code
def y_T_replica : MethodName := ⟨R_T, "replica", "(II)I"⟩
abbrev b_T_slot : ByteArray := prog_8_method_28_code
def y_T_slot : MethodName := ⟨R_T, "slot", "(II)I"⟩
abbrev b_T_waiting : ByteArray := prog_8_method_29_code
def y_T_waiting : MethodName := ⟨R_T, "waiting", "(II)I"⟩
abbrev b_T_message : ByteArray := prog_8_method_30_code
def y_T_message : MethodName := ⟨R_T, "message", "(II)I"⟩
abbrev b_T_look : ByteArray := prog_8_method_31_code
def y_T_look : MethodName := ⟨R_T, "look", "(I)I"⟩
abbrev b_F_init : ByteArray := prog_2_method_1_code
def y_F_init : MethodName := ⟨R_F, "<init>", "()V"⟩
abbrev b_F_has : ByteArray := prog_2_method_2_code
def y_F_has : MethodName := ⟨R_F, "has", "(I)Z"⟩
abbrev b_F_cell : ByteArray := prog_2_method_3_code
def y_F_cell : MethodName := ⟨R_F, "cell", "(II)I"⟩
abbrev b_F_send : ByteArray := prog_2_method_4_code
def y_F_send : MethodName := ⟨R_F, "send", "(IIIIIII)V"⟩
abbrev b_F_read : ByteArray := prog_2_method_5_code
def y_F_read : MethodName := ⟨R_F, "read", "(ILSlotPaxos$Message;)V"⟩
abbrev b_F_remove : ByteArray := prog_2_method_6_code
def y_F_remove : MethodName := ⟨R_F, "remove", "(I)V"⟩
abbrev b_F_repeat : ByteArray := prog_2_method_7_code
def y_F_repeat : MethodName := ⟨R_F, "repeat", "(I)Z"⟩
abbrev b_L_init : ByteArray := prog_3_method_1_code
def y_L_init : MethodName := ⟨R_L, "<init>", "()V"⟩
abbrev b_L_add : ByteArray := prog_3_method_2_code
def y_L_add : MethodName := ⟨R_L, "add", "(I)Z"⟩
abbrev b_L_at : ByteArray := prog_3_method_3_code
def y_L_at : MethodName := ⟨R_L, "at", "(I)I"⟩
abbrev b_L_drop : ByteArray := prog_3_method_4_code
def y_L_drop : MethodName := ⟨R_L, "drop", "(I)V"⟩
abbrev b_G_init : ByteArray := prog_4_method_1_code
def y_G_init : MethodName := ⟨R_G, "<init>", "(I)V"⟩
abbrev b_G_ahead : ByteArray := prog_4_method_2_code
def y_G_ahead : MethodName := ⟨R_G, "ahead", "()I"⟩
abbrev b_G_keeps : ByteArray := prog_4_method_3_code
def y_G_keeps : MethodName := ⟨R_G, "keeps", "(I)Z"⟩
abbrev b_G_numberOf : ByteArray := prog_4_method_4_code
def y_G_numberOf : MethodName := ⟨R_G, "numberOf", "(I)I"⟩
abbrev b_G_append : ByteArray := prog_4_method_5_code
def y_G_append : MethodName := ⟨R_G, "append", "(I)V"⟩
abbrev b_G_jump : ByteArray := prog_4_method_6_code
def y_G_jump : MethodName := ⟨R_G, "jump", "(II)V"⟩
abbrev b_M_init : ByteArray := prog_5_method_1_code
def y_M_init : MethodName := ⟨R_M, "<init>", "()V"⟩
abbrev b_R_init : ByteArray := prog_6_method_1_code
def y_R_init : MethodName := ⟨R_R, "<init>", "(II)V"⟩
abbrev b_R_forget : ByteArray := prog_6_method_2_code
def y_R_forget : MethodName := ⟨R_R, "forget", "()V"⟩
abbrev b_R_becomeFollower : ByteArray := prog_6_method_3_code
def y_R_becomeFollower : MethodName := ⟨R_R, "becomeFollower", "()V"⟩
abbrev b_R_becomeCandidate : ByteArray := prog_6_method_4_code
def y_R_becomeCandidate : MethodName := ⟨R_R, "becomeCandidate", "(I)V"⟩
abbrev b_R_becomeLeader : ByteArray := prog_6_method_5_code
def y_R_becomeLeader : MethodName := ⟨R_R, "becomeLeader", "()V"⟩
abbrev b_R_isNext : ByteArray := prog_6_method_6_code
def y_R_isNext : MethodName := ⟨R_R, "isNext", "(I)Z"⟩
abbrev b_R_hasAnswer : ByteArray := prog_6_method_7_code
def y_R_hasAnswer : MethodName := ⟨R_R, "hasAnswer", "(I)Z"⟩
abbrev b_R_addAnswer : ByteArray := prog_6_method_8_code
def y_R_addAnswer : MethodName := ⟨R_R, "addAnswer", "(I)V"⟩
abbrev b_R_keepGreatest : ByteArray := prog_6_method_9_code
def y_R_keepGreatest : MethodName := ⟨R_R, "keepGreatest", "(II)V"⟩
abbrev b_R_hasAccepted : ByteArray := prog_6_method_10_code
def y_R_hasAccepted : MethodName := ⟨R_R, "hasAccepted", "()Z"⟩
abbrev b_R_accept : ByteArray := prog_6_method_11_code
def y_R_accept : MethodName := ⟨R_R, "accept", "(II)V"⟩
abbrev b_R_dropAccepted : ByteArray := prog_6_method_12_code
def y_R_dropAccepted : MethodName := ⟨R_R, "dropAccepted", "()V"⟩
abbrev b_R_proposeAndAccept : ByteArray := prog_6_method_13_code
def y_R_proposeAndAccept : MethodName := ⟨R_R, "proposeAndAccept", "(I)V"⟩
abbrev b_R_learn : ByteArray := prog_6_method_14_code
def y_R_learn : MethodName := ⟨R_R, "learn", "(I)V"⟩
abbrev b_R_passing : ByteArray := prog_6_method_15_code
def y_R_passing : MethodName := ⟨R_R, "passing", "(I)I"⟩
abbrev b_W_cell : ByteArray := method_2_code
def y_W_cell : MethodName := ⟨R_W, "cell", "([II)I"⟩
abbrev b_J_bitCount : ByteArray := prog_9_method_49_code
def y_J_bitCount : MethodName := ⟨R_J, "bitCount", "(I)I"⟩
abbrev b_W_law : ByteArray := code
