section
-- ===== PART A: goes FIRST, ahead of the names: the tables' words, and 'selects' of the private methods out of them =====
/-- a private method of a class that the tables say can be made, by its rows of tables_1 -/
def lw_okq (q : MethodName × Nat) : Prop := (q.1.cls ≠ "java/lang/invoke/MethodHandle" ∧ q.1.cls ≠ "java/lang/invoke/VarHandle") ∧ Cond.instantiable q.1.cls q.2 ∈ tables_1 ∧ Cond.privateMethod q.1 ∈ tables_1 ∧ Cond.instanceMethod q.1 ∈ tables_1
theorem lw_p0 : lw_okq (⟨"SlotPaxos", "find", "(I)LSlotPaxos$Replica;"⟩, 5) := ⟨⟨by decide +kernel, by decide +kernel⟩, List.mem_of_getElem? (i := 12) (by decide +kernel), List.mem_of_getElem? (i := 208) (by decide +kernel), List.mem_of_getElem? (i := 209) (by decide +kernel)⟩
theorem lw_p1 : lw_okq (⟨"SlotPaxos", "tickLeader", "(LSlotPaxos$Replica;)V"⟩, 5) := ⟨⟨by decide +kernel, by decide +kernel⟩, List.mem_of_getElem? (i := 12) (by decide +kernel), List.mem_of_getElem? (i := 220) (by decide +kernel), List.mem_of_getElem? (i := 221) (by decide +kernel)⟩
theorem lw_p2 : lw_okq (⟨"SlotPaxos", "sendAccept", "(LSlotPaxos$Replica;)V"⟩, 5) := ⟨⟨by decide +kernel, by decide +kernel⟩, List.mem_of_getElem? (i := 12) (by decide +kernel), List.mem_of_getElem? (i := 224) (by decide +kernel), List.mem_of_getElem? (i := 225) (by decide +kernel)⟩
theorem lw_p3 : lw_okq (⟨"SlotPaxos", "sendToAll", "(IIIII)V"⟩, 5) := ⟨⟨by decide +kernel, by decide +kernel⟩, List.mem_of_getElem? (i := 12) (by decide +kernel), List.mem_of_getElem? (i := 228) (by decide +kernel), List.mem_of_getElem? (i := 229) (by decide +kernel)⟩
theorem lw_p4 : lw_okq (⟨"SlotPaxos", "propose", "(LSlotPaxos$Replica;)V"⟩, 5) := ⟨⟨by decide +kernel, by decide +kernel⟩, List.mem_of_getElem? (i := 12) (by decide +kernel), List.mem_of_getElem? (i := 236) (by decide +kernel), List.mem_of_getElem? (i := 237) (by decide +kernel)⟩
theorem lw_p5 : lw_okq (⟨"SlotPaxos", "proposeNumber", "(LSlotPaxos$Replica;I)V"⟩, 5) := ⟨⟨by decide +kernel, by decide +kernel⟩, List.mem_of_getElem? (i := 12) (by decide +kernel), List.mem_of_getElem? (i := 244) (by decide +kernel), List.mem_of_getElem? (i := 245) (by decide +kernel)⟩
theorem lw_p6 : lw_okq (⟨"SlotPaxos", "sendPrepare", "(LSlotPaxos$Replica;)V"⟩, 5) := ⟨⟨by decide +kernel, by decide +kernel⟩, List.mem_of_getElem? (i := 12) (by decide +kernel), List.mem_of_getElem? (i := 256) (by decide +kernel), List.mem_of_getElem? (i := 257) (by decide +kernel)⟩
theorem lw_p7 : lw_okq (⟨"SlotPaxos", "campaign", "(LSlotPaxos$Replica;)V"⟩, 5) := ⟨⟨by decide +kernel, by decide +kernel⟩, List.mem_of_getElem? (i := 12) (by decide +kernel), List.mem_of_getElem? (i := 260) (by decide +kernel), List.mem_of_getElem? (i := 261) (by decide +kernel)⟩
theorem lw_p8 : lw_okq (⟨"SlotPaxos", "nextBallot", "(LSlotPaxos$Replica;)I"⟩, 5) := ⟨⟨by decide +kernel, by decide +kernel⟩, List.mem_of_getElem? (i := 12) (by decide +kernel), List.mem_of_getElem? (i := 264) (by decide +kernel), List.mem_of_getElem? (i := 265) (by decide +kernel)⟩
theorem lw_p9 : lw_okq (⟨"SlotPaxos", "ask", "(LSlotPaxos$Replica;I)V"⟩, 5) := ⟨⟨by decide +kernel, by decide +kernel⟩, List.mem_of_getElem? (i := 12) (by decide +kernel), List.mem_of_getElem? (i := 272) (by decide +kernel), List.mem_of_getElem? (i := 273) (by decide +kernel)⟩
theorem lw_p10 : lw_okq (⟨"SlotPaxos", "arrive", "(LSlotPaxos$Replica;LSlotPaxos$Message;)V"⟩, 5) := ⟨⟨by decide +kernel, by decide +kernel⟩, List.mem_of_getElem? (i := 12) (by decide +kernel), List.mem_of_getElem? (i := 300) (by decide +kernel), List.mem_of_getElem? (i := 301) (by decide +kernel)⟩
theorem lw_p11 : lw_okq (⟨"SlotPaxos", "onPrepare", "(LSlotPaxos$Replica;LSlotPaxos$Message;)V"⟩, 5) := ⟨⟨by decide +kernel, by decide +kernel⟩, List.mem_of_getElem? (i := 12) (by decide +kernel), List.mem_of_getElem? (i := 304) (by decide +kernel), List.mem_of_getElem? (i := 305) (by decide +kernel)⟩
theorem lw_p12 : lw_okq (⟨"SlotPaxos", "help", "(LSlotPaxos$Replica;II)V"⟩, 5) := ⟨⟨by decide +kernel, by decide +kernel⟩, List.mem_of_getElem? (i := 12) (by decide +kernel), List.mem_of_getElem? (i := 308) (by decide +kernel), List.mem_of_getElem? (i := 309) (by decide +kernel)⟩
theorem lw_p13 : lw_okq (⟨"SlotPaxos", "sendPromise", "(LSlotPaxos$Replica;LSlotPaxos$Message;)V"⟩, 5) := ⟨⟨by decide +kernel, by decide +kernel⟩, List.mem_of_getElem? (i := 12) (by decide +kernel), List.mem_of_getElem? (i := 330) (by decide +kernel), List.mem_of_getElem? (i := 331) (by decide +kernel)⟩
theorem lw_p14 : lw_okq (⟨"SlotPaxos", "deny", "(LSlotPaxos$Replica;I)V"⟩, 5) := ⟨⟨by decide +kernel, by decide +kernel⟩, List.mem_of_getElem? (i := 12) (by decide +kernel), List.mem_of_getElem? (i := 342) (by decide +kernel), List.mem_of_getElem? (i := 343) (by decide +kernel)⟩
theorem lw_p15 : lw_okq (⟨"SlotPaxos", "onPromise", "(LSlotPaxos$Replica;LSlotPaxos$Message;)V"⟩, 5) := ⟨⟨by decide +kernel, by decide +kernel⟩, List.mem_of_getElem? (i := 12) (by decide +kernel), List.mem_of_getElem? (i := 346) (by decide +kernel), List.mem_of_getElem? (i := 347) (by decide +kernel)⟩
def lw_privs_1 : List (MethodName × Nat) := [(⟨"SlotPaxos", "find", "(I)LSlotPaxos$Replica;"⟩, 5), (⟨"SlotPaxos", "tickLeader", "(LSlotPaxos$Replica;)V"⟩, 5), (⟨"SlotPaxos", "sendAccept", "(LSlotPaxos$Replica;)V"⟩, 5), (⟨"SlotPaxos", "sendToAll", "(IIIII)V"⟩, 5), (⟨"SlotPaxos", "propose", "(LSlotPaxos$Replica;)V"⟩, 5), (⟨"SlotPaxos", "proposeNumber", "(LSlotPaxos$Replica;I)V"⟩, 5), (⟨"SlotPaxos", "sendPrepare", "(LSlotPaxos$Replica;)V"⟩, 5), (⟨"SlotPaxos", "campaign", "(LSlotPaxos$Replica;)V"⟩, 5), (⟨"SlotPaxos", "nextBallot", "(LSlotPaxos$Replica;)I"⟩, 5), (⟨"SlotPaxos", "ask", "(LSlotPaxos$Replica;I)V"⟩, 5), (⟨"SlotPaxos", "arrive", "(LSlotPaxos$Replica;LSlotPaxos$Message;)V"⟩, 5), (⟨"SlotPaxos", "onPrepare", "(LSlotPaxos$Replica;LSlotPaxos$Message;)V"⟩, 5), (⟨"SlotPaxos", "help", "(LSlotPaxos$Replica;II)V"⟩, 5), (⟨"SlotPaxos", "sendPromise", "(LSlotPaxos$Replica;LSlotPaxos$Message;)V"⟩, 5), (⟨"SlotPaxos", "deny", "(LSlotPaxos$Replica;I)V"⟩, 5), (⟨"SlotPaxos", "onPromise", "(LSlotPaxos$Replica;LSlotPaxos$Message;)V"⟩, 5)]
theorem lw_r1 : ∀ q ∈ lw_privs_1, lw_okq q := List.forall_mem_cons.mpr ⟨lw_p0, List.forall_mem_cons.mpr ⟨lw_p1, List.forall_mem_cons.mpr ⟨lw_p2, List.forall_mem_cons.mpr ⟨lw_p3, List.forall_mem_cons.mpr ⟨lw_p4, List.forall_mem_cons.mpr ⟨lw_p5, List.forall_mem_cons.mpr ⟨lw_p6, List.forall_mem_cons.mpr ⟨lw_p7, List.forall_mem_cons.mpr ⟨lw_p8, List.forall_mem_cons.mpr ⟨lw_p9, List.forall_mem_cons.mpr ⟨lw_p10, List.forall_mem_cons.mpr ⟨lw_p11, List.forall_mem_cons.mpr ⟨lw_p12, List.forall_mem_cons.mpr ⟨lw_p13, List.forall_mem_cons.mpr ⟨lw_p14, List.forall_mem_cons.mpr ⟨lw_p15, fun _ h => absurd h List.not_mem_nil⟩⟩⟩⟩⟩⟩⟩⟩⟩⟩⟩⟩⟩⟩⟩⟩
theorem lw_p16 : lw_okq (⟨"SlotPaxos", "isMajority", "(I)Z"⟩, 5) := ⟨⟨by decide +kernel, by decide +kernel⟩, List.mem_of_getElem? (i := 12) (by decide +kernel), List.mem_of_getElem? (i := 362) (by decide +kernel), List.mem_of_getElem? (i := 363) (by decide +kernel)⟩
theorem lw_p17 : lw_okq (⟨"SlotPaxos", "onAccept", "(LSlotPaxos$Replica;LSlotPaxos$Message;)V"⟩, 5) := ⟨⟨by decide +kernel, by decide +kernel⟩, List.mem_of_getElem? (i := 12) (by decide +kernel), List.mem_of_getElem? (i := 376) (by decide +kernel), List.mem_of_getElem? (i := 377) (by decide +kernel)⟩
theorem lw_p18 : lw_okq (⟨"SlotPaxos", "onAccepted", "(LSlotPaxos$Replica;LSlotPaxos$Message;)V"⟩, 5) := ⟨⟨by decide +kernel, by decide +kernel⟩, List.mem_of_getElem? (i := 12) (by decide +kernel), List.mem_of_getElem? (i := 381) (by decide +kernel), List.mem_of_getElem? (i := 382) (by decide +kernel)⟩
theorem lw_p19 : lw_okq (⟨"SlotPaxos", "onChosen", "(LSlotPaxos$Replica;LSlotPaxos$Message;)V"⟩, 5) := ⟨⟨by decide +kernel, by decide +kernel⟩, List.mem_of_getElem? (i := 12) (by decide +kernel), List.mem_of_getElem? (i := 402) (by decide +kernel), List.mem_of_getElem? (i := 403) (by decide +kernel)⟩
theorem lw_p20 : lw_okq (⟨"SlotPaxos", "onAsk", "(LSlotPaxos$Replica;LSlotPaxos$Message;)V"⟩, 5) := ⟨⟨by decide +kernel, by decide +kernel⟩, List.mem_of_getElem? (i := 12) (by decide +kernel), List.mem_of_getElem? (i := 406) (by decide +kernel), List.mem_of_getElem? (i := 407) (by decide +kernel)⟩
theorem lw_p21 : lw_okq (⟨"SlotPaxos", "onDeny", "(LSlotPaxos$Replica;LSlotPaxos$Message;)V"⟩, 5) := ⟨⟨by decide +kernel, by decide +kernel⟩, List.mem_of_getElem? (i := 12) (by decide +kernel), List.mem_of_getElem? (i := 410) (by decide +kernel), List.mem_of_getElem? (i := 411) (by decide +kernel)⟩
theorem lw_p22 : lw_okq (⟨"SlotPaxos", "onState", "(LSlotPaxos$Replica;LSlotPaxos$Message;)V"⟩, 5) := ⟨⟨by decide +kernel, by decide +kernel⟩, List.mem_of_getElem? (i := 12) (by decide +kernel), List.mem_of_getElem? (i := 414) (by decide +kernel), List.mem_of_getElem? (i := 415) (by decide +kernel)⟩
theorem lw_p23 : lw_okq (⟨"SlotPaxos", "greatestIndex", "()I"⟩, 5) := ⟨⟨by decide +kernel, by decide +kernel⟩, List.mem_of_getElem? (i := 12) (by decide +kernel), List.mem_of_getElem? (i := 469) (by decide +kernel), List.mem_of_getElem? (i := 470) (by decide +kernel)⟩
theorem lw_p24 : lw_okq (⟨"SlotPaxosModel", "isUp", "(I)Z"⟩, 24) := ⟨⟨by decide +kernel, by decide +kernel⟩, List.mem_of_getElem? (i := 476) (by decide +kernel), List.mem_of_getElem? (i := 560) (by decide +kernel), List.mem_of_getElem? (i := 561) (by decide +kernel)⟩
theorem lw_p25 : lw_okq (⟨"SlotPaxosModel", "isReplica", "(I)Z"⟩, 24) := ⟨⟨by decide +kernel, by decide +kernel⟩, List.mem_of_getElem? (i := 476) (by decide +kernel), List.mem_of_getElem? (i := 564) (by decide +kernel), List.mem_of_getElem? (i := 565) (by decide +kernel)⟩
theorem lw_p26 : lw_okq (⟨"SlotPaxosModel", "sendAll", "(IIIII)V"⟩, 24) := ⟨⟨by decide +kernel, by decide +kernel⟩, List.mem_of_getElem? (i := 476) (by decide +kernel), List.mem_of_getElem? (i := 572) (by decide +kernel), List.mem_of_getElem? (i := 573) (by decide +kernel)⟩
theorem lw_p27 : lw_okq (⟨"SlotPaxosModel", "send", "(IIIIIII)V"⟩, 24) := ⟨⟨by decide +kernel, by decide +kernel⟩, List.mem_of_getElem? (i := 476) (by decide +kernel), List.mem_of_getElem? (i := 576) (by decide +kernel), List.mem_of_getElem? (i := 577) (by decide +kernel)⟩
theorem lw_p28 : lw_okq (⟨"SlotPaxosModel", "propose", "(I)V"⟩, 24) := ⟨⟨by decide +kernel, by decide +kernel⟩, List.mem_of_getElem? (i := 476) (by decide +kernel), List.mem_of_getElem? (i := 580) (by decide +kernel), List.mem_of_getElem? (i := 581) (by decide +kernel)⟩
theorem lw_p29 : lw_okq (⟨"SlotPaxosModel", "proposeIt", "(II)V"⟩, 24) := ⟨⟨by decide +kernel, by decide +kernel⟩, List.mem_of_getElem? (i := 476) (by decide +kernel), List.mem_of_getElem? (i := 584) (by decide +kernel), List.mem_of_getElem? (i := 585) (by decide +kernel)⟩
theorem lw_p30 : lw_okq (⟨"SlotPaxosModel", "campaign", "(I)V"⟩, 24) := ⟨⟨by decide +kernel, by decide +kernel⟩, List.mem_of_getElem? (i := 476) (by decide +kernel), List.mem_of_getElem? (i := 588) (by decide +kernel), List.mem_of_getElem? (i := 589) (by decide +kernel)⟩
theorem lw_p31 : lw_okq (⟨"SlotPaxosModel", "follow", "(I)V"⟩, 24) := ⟨⟨by decide +kernel, by decide +kernel⟩, List.mem_of_getElem? (i := 476) (by decide +kernel), List.mem_of_getElem? (i := 592) (by decide +kernel), List.mem_of_getElem? (i := 593) (by decide +kernel)⟩
def lw_privs_2 : List (MethodName × Nat) := [(⟨"SlotPaxos", "isMajority", "(I)Z"⟩, 5), (⟨"SlotPaxos", "onAccept", "(LSlotPaxos$Replica;LSlotPaxos$Message;)V"⟩, 5), (⟨"SlotPaxos", "onAccepted", "(LSlotPaxos$Replica;LSlotPaxos$Message;)V"⟩, 5), (⟨"SlotPaxos", "onChosen", "(LSlotPaxos$Replica;LSlotPaxos$Message;)V"⟩, 5), (⟨"SlotPaxos", "onAsk", "(LSlotPaxos$Replica;LSlotPaxos$Message;)V"⟩, 5), (⟨"SlotPaxos", "onDeny", "(LSlotPaxos$Replica;LSlotPaxos$Message;)V"⟩, 5), (⟨"SlotPaxos", "onState", "(LSlotPaxos$Replica;LSlotPaxos$Message;)V"⟩, 5), (⟨"SlotPaxos", "greatestIndex", "()I"⟩, 5), (⟨"SlotPaxosModel", "isUp", "(I)Z"⟩, 24), (⟨"SlotPaxosModel", "isReplica", "(I)Z"⟩, 24), (⟨"SlotPaxosModel", "sendAll", "(IIIII)V"⟩, 24), (⟨"SlotPaxosModel", "send", "(IIIIIII)V"⟩, 24), (⟨"SlotPaxosModel", "propose", "(I)V"⟩, 24), (⟨"SlotPaxosModel", "proposeIt", "(II)V"⟩, 24), (⟨"SlotPaxosModel", "campaign", "(I)V"⟩, 24), (⟨"SlotPaxosModel", "follow", "(I)V"⟩, 24)]
theorem lw_r2 : ∀ q ∈ lw_privs_2, lw_okq q := List.forall_mem_cons.mpr ⟨lw_p16, List.forall_mem_cons.mpr ⟨lw_p17, List.forall_mem_cons.mpr ⟨lw_p18, List.forall_mem_cons.mpr ⟨lw_p19, List.forall_mem_cons.mpr ⟨lw_p20, List.forall_mem_cons.mpr ⟨lw_p21, List.forall_mem_cons.mpr ⟨lw_p22, List.forall_mem_cons.mpr ⟨lw_p23, List.forall_mem_cons.mpr ⟨lw_p24, List.forall_mem_cons.mpr ⟨lw_p25, List.forall_mem_cons.mpr ⟨lw_p26, List.forall_mem_cons.mpr ⟨lw_p27, List.forall_mem_cons.mpr ⟨lw_p28, List.forall_mem_cons.mpr ⟨lw_p29, List.forall_mem_cons.mpr ⟨lw_p30, List.forall_mem_cons.mpr ⟨lw_p31, fun _ h => absurd h List.not_mem_nil⟩⟩⟩⟩⟩⟩⟩⟩⟩⟩⟩⟩⟩⟩⟩⟩
theorem lw_p32 : lw_okq (⟨"SlotPaxosModel", "remove", "(I)V"⟩, 24) := ⟨⟨by decide +kernel, by decide +kernel⟩, List.mem_of_getElem? (i := 476) (by decide +kernel), List.mem_of_getElem? (i := 600) (by decide +kernel), List.mem_of_getElem? (i := 601) (by decide +kernel)⟩
theorem lw_p33 : lw_okq (⟨"SlotPaxosModel", "comes", "(IIIIIII)V"⟩, 24) := ⟨⟨by decide +kernel, by decide +kernel⟩, List.mem_of_getElem? (i := 476) (by decide +kernel), List.mem_of_getElem? (i := 604) (by decide +kernel), List.mem_of_getElem? (i := 605) (by decide +kernel)⟩
theorem lw_p34 : lw_okq (⟨"SlotPaxosModel", "prepared", "(IIII)V"⟩, 24) := ⟨⟨by decide +kernel, by decide +kernel⟩, List.mem_of_getElem? (i := 476) (by decide +kernel), List.mem_of_getElem? (i := 608) (by decide +kernel), List.mem_of_getElem? (i := 609) (by decide +kernel)⟩
theorem lw_p35 : lw_okq (⟨"SlotPaxosModel", "help", "(III)V"⟩, 24) := ⟨⟨by decide +kernel, by decide +kernel⟩, List.mem_of_getElem? (i := 476) (by decide +kernel), List.mem_of_getElem? (i := 612) (by decide +kernel), List.mem_of_getElem? (i := 613) (by decide +kernel)⟩
theorem lw_p36 : lw_okq (⟨"SlotPaxosModel", "gotPromise", "(IIIIII)V"⟩, 24) := ⟨⟨by decide +kernel, by decide +kernel⟩, List.mem_of_getElem? (i := 476) (by decide +kernel), List.mem_of_getElem? (i := 616) (by decide +kernel), List.mem_of_getElem? (i := 617) (by decide +kernel)⟩
theorem lw_p37 : lw_okq (⟨"SlotPaxosModel", "count", "(I)I"⟩, 24) := ⟨⟨by decide +kernel, by decide +kernel⟩, List.mem_of_getElem? (i := 476) (by decide +kernel), List.mem_of_getElem? (i := 620) (by decide +kernel), List.mem_of_getElem? (i := 621) (by decide +kernel)⟩
theorem lw_p38 : lw_okq (⟨"SlotPaxosModel", "gotAccept", "(IIIII)V"⟩, 24) := ⟨⟨by decide +kernel, by decide +kernel⟩, List.mem_of_getElem? (i := 476) (by decide +kernel), List.mem_of_getElem? (i := 624) (by decide +kernel), List.mem_of_getElem? (i := 625) (by decide +kernel)⟩
theorem lw_p39 : lw_okq (⟨"SlotPaxosModel", "gotAccepted", "(IIII)V"⟩, 24) := ⟨⟨by decide +kernel, by decide +kernel⟩, List.mem_of_getElem? (i := 476) (by decide +kernel), List.mem_of_getElem? (i := 628) (by decide +kernel), List.mem_of_getElem? (i := 629) (by decide +kernel)⟩
theorem lw_p40 : lw_okq (⟨"SlotPaxosModel", "learn", "(II)V"⟩, 24) := ⟨⟨by decide +kernel, by decide +kernel⟩, List.mem_of_getElem? (i := 476) (by decide +kernel), List.mem_of_getElem? (i := 632) (by decide +kernel), List.mem_of_getElem? (i := 633) (by decide +kernel)⟩
theorem lw_p41 : lw_okq (⟨"SlotPaxosModel", "gotState", "(III)V"⟩, 24) := ⟨⟨by decide +kernel, by decide +kernel⟩, List.mem_of_getElem? (i := 476) (by decide +kernel), List.mem_of_getElem? (i := 636) (by decide +kernel), List.mem_of_getElem? (i := 637) (by decide +kernel)⟩
def lw_privs_3 : List (MethodName × Nat) := [(⟨"SlotPaxosModel", "remove", "(I)V"⟩, 24), (⟨"SlotPaxosModel", "comes", "(IIIIIII)V"⟩, 24), (⟨"SlotPaxosModel", "prepared", "(IIII)V"⟩, 24), (⟨"SlotPaxosModel", "help", "(III)V"⟩, 24), (⟨"SlotPaxosModel", "gotPromise", "(IIIIII)V"⟩, 24), (⟨"SlotPaxosModel", "count", "(I)I"⟩, 24), (⟨"SlotPaxosModel", "gotAccept", "(IIIII)V"⟩, 24), (⟨"SlotPaxosModel", "gotAccepted", "(IIII)V"⟩, 24), (⟨"SlotPaxosModel", "learn", "(II)V"⟩, 24), (⟨"SlotPaxosModel", "gotState", "(III)V"⟩, 24)]
theorem lw_r3 : ∀ q ∈ lw_privs_3, lw_okq q := List.forall_mem_cons.mpr ⟨lw_p32, List.forall_mem_cons.mpr ⟨lw_p33, List.forall_mem_cons.mpr ⟨lw_p34, List.forall_mem_cons.mpr ⟨lw_p35, List.forall_mem_cons.mpr ⟨lw_p36, List.forall_mem_cons.mpr ⟨lw_p37, List.forall_mem_cons.mpr ⟨lw_p38, List.forall_mem_cons.mpr ⟨lw_p39, List.forall_mem_cons.mpr ⟨lw_p40, List.forall_mem_cons.mpr ⟨lw_p41, fun _ h => absurd h List.not_mem_nil⟩⟩⟩⟩⟩⟩⟩⟩⟩⟩
def lw_privs : List (MethodName × Nat) := lw_privs_1 ++ (lw_privs_2 ++ (lw_privs_3))
def lw_tbl : List Cond := k2_sels lw_privs ++ tables_1
theorem lw_privs_ok : ∀ q ∈ lw_privs, lw_okq q := by
  show ∀ q ∈ lw_privs_1 ++ (lw_privs_2 ++ (lw_privs_3)), lw_okq q
  exact List.forall_mem_append.mpr ⟨lw_r1, List.forall_mem_append.mpr ⟨lw_r2, lw_r3⟩⟩

/-- the words that hold at every state of the run -/
def mx_tbl : List Cond := lw_tbl.filter goodWord
theorem mx_good : ∀ w ∈ mx_tbl, goodWord w = true := fun _ h => (List.mem_filter.mp h).2
theorem mw (i : Nat) {w : Cond} (h : lw_tbl[i]? = some w) (g : goodWord w = true) : w ∈ mx_tbl := List.mem_filter.mpr ⟨List.mem_of_getElem? h, g⟩
def R_F : String := "SlotPaxos$Flight"
def F_F : u_T := fun k => match k with
  | 0 => ("SlotPaxos$Flight", "cells", "[I", true)
  | 1 => ("SlotPaxos$Flight", "count", "I", false)
  | 2 => ("SlotPaxos$Flight", "sent", "I", false)
  | _ => ("SlotPaxos$Flight", "refused", "I", false)
def tf_F : Nat → FieldType := fun k => match k with
  | 0 => .array .int
  | 1 => .int
  | 2 => .int
  | _ => .int
theorem nm_F : ∀ a, a < 4 → ∀ b, b < 4 → a ≠ b → (F_F a).2.1 ≠ (F_F b).2.1 := by decide +kernel
theorem ty_F : ∀ k, k < 4 → parseFieldDescriptor (F_F k).2.2.1 = some (tf_F k) := by decide +kernel
set_option maxRecDepth 100000 in
theorem in_F : ∀ w ∈ u_ws R_F F_F 4, w ∈ mx_tbl := by
  intro w hw
  obtain ⟨k, hk, rfl⟩ := List.mem_map.mp hw
  have hk := List.mem_range.mp hk
  match k, hk with
  | 0, _ => exact mw 185 rfl rfl
  | 1, _ => exact mw 187 rfl rfl
  | 2, _ => exact mw 189 rfl rfl
  | 3, _ => exact mw 191 rfl rfl
  | k + 4, h => exact absurd h (by omega)
def R_L : String := "SlotPaxos$Line"
def F_L : u_T := fun k => match k with
  | 0 => ("SlotPaxos$Line", "numbers", "[I", true)
  | _ => ("SlotPaxos$Line", "count", "I", false)
def tf_L : Nat → FieldType := fun k => match k with
  | 0 => .array .int
  | _ => .int
theorem nm_L : ∀ a, a < 2 → ∀ b, b < 2 → a ≠ b → (F_L a).2.1 ≠ (F_L b).2.1 := by decide +kernel
theorem ty_L : ∀ k, k < 2 → parseFieldDescriptor (F_L k).2.2.1 = some (tf_L k) := by decide +kernel
set_option maxRecDepth 100000 in
theorem in_L : ∀ w ∈ u_ws R_L F_L 2, w ∈ mx_tbl := by
  intro w hw
  obtain ⟨k, hk, rfl⟩ := List.mem_map.mp hw
  have hk := List.mem_range.mp hk
  match k, hk with
  | 0, _ => exact mw 110 rfl rfl
  | 1, _ => exact mw 112 rfl rfl
  | k + 2, h => exact absurd h (by omega)
def R_G : String := "SlotPaxos$Log"
def F_G : u_T := fun k => match k with
  | 0 => ("SlotPaxos$Log", "limit", "I", true)
  | 1 => ("SlotPaxos$Log", "numbers", "[I", true)
  | 2 => ("SlotPaxos$Log", "index", "I", false)
  | 3 => ("SlotPaxos$Log", "sum", "I", false)
  | _ => ("SlotPaxos$Log", "base", "I", false)
def tf_G : Nat → FieldType := fun k => match k with
  | 0 => .int
  | 1 => .array .int
  | 2 => .int
  | 3 => .int
  | _ => .int
theorem nm_G : ∀ a, a < 5 → ∀ b, b < 5 → a ≠ b → (F_G a).2.1 ≠ (F_G b).2.1 := by decide +kernel
theorem ty_G : ∀ k, k < 5 → parseFieldDescriptor (F_G k).2.2.1 = some (tf_G k) := by decide +kernel
set_option maxRecDepth 100000 in
theorem in_G : ∀ w ∈ u_ws R_G F_G 5, w ∈ mx_tbl := by
  intro w hw
  obtain ⟨k, hk, rfl⟩ := List.mem_map.mp hw
  have hk := List.mem_range.mp hk
  match k, hk with
  | 0, _ => exact mw 88 rfl rfl
  | 1, _ => exact mw 90 rfl rfl
  | 2, _ => exact mw 92 rfl rfl
  | 3, _ => exact mw 94 rfl rfl
  | 4, _ => exact mw 96 rfl rfl
  | k + 5, h => exact absurd h (by omega)
def R_M : String := "SlotPaxos$Message"
def F_M : u_T := fun k => match k with
  | 0 => ("SlotPaxos$Message", "kind", "I", false)
  | 1 => ("SlotPaxos$Message", "sender", "I", false)
  | 2 => ("SlotPaxos$Message", "receiver", "I", false)
  | 3 => ("SlotPaxos$Message", "ballot", "I", false)
  | 4 => ("SlotPaxos$Message", "slot", "I", false)
  | 5 => ("SlotPaxos$Message", "number", "I", false)
  | _ => ("SlotPaxos$Message", "told", "I", false)
def tf_M : Nat → FieldType := fun k => match k with
  | 0 => .int
  | 1 => .int
  | 2 => .int
  | 3 => .int
  | 4 => .int
  | 5 => .int
  | _ => .int
theorem nm_M : ∀ a, a < 7 → ∀ b, b < 7 → a ≠ b → (F_M a).2.1 ≠ (F_M b).2.1 := by decide +kernel
theorem ty_M : ∀ k, k < 7 → parseFieldDescriptor (F_M k).2.2.1 = some (tf_M k) := by decide +kernel
set_option maxRecDepth 100000 in
theorem in_M : ∀ w ∈ u_ws R_M F_M 7, w ∈ mx_tbl := by
  intro w hw
  obtain ⟨k, hk, rfl⟩ := List.mem_map.mp hw
  have hk := List.mem_range.mp hk
  match k, hk with
  | 0, _ => exact mw 214 rfl rfl
  | 1, _ => exact mw 216 rfl rfl
  | 2, _ => exact mw 218 rfl rfl
  | 3, _ => exact mw 220 rfl rfl
  | 4, _ => exact mw 222 rfl rfl
  | 5, _ => exact mw 224 rfl rfl
  | 6, _ => exact mw 226 rfl rfl
  | k + 7, h => exact absurd h (by omega)
def R_R : String := "SlotPaxos$Replica"
def F_R : u_T := fun k => match k with
  | 0 => ("SlotPaxos$Replica", "id", "I", true)
  | 1 => ("SlotPaxos$Replica", "log", "LSlotPaxos$Log;", true)
  | 2 => ("SlotPaxos$Replica", "line", "LSlotPaxos$Line;", true)
  | 3 => ("SlotPaxos$Replica", "up", "Z", false)
  | 4 => ("SlotPaxos$Replica", "promised", "I", false)
  | 5 => ("SlotPaxos$Replica", "acceptedBallot", "I", false)
  | 6 => ("SlotPaxos$Replica", "acceptedNumber", "I", false)
  | 7 => ("SlotPaxos$Replica", "role", "I", false)
  | 8 => ("SlotPaxos$Replica", "ballot", "I", false)
  | 9 => ("SlotPaxos$Replica", "answered", "I", false)
  | 10 => ("SlotPaxos$Replica", "proposed", "I", false)
  | 11 => ("SlotPaxos$Replica", "seen", "I", false)
  | 12 => ("SlotPaxos$Replica", "greatestBallot", "I", false)
  | _ => ("SlotPaxos$Replica", "greatestNumber", "I", false)
def tf_R : Nat → FieldType := fun k => match k with
  | 0 => .int
  | 1 => .object "SlotPaxos$Log"
  | 2 => .object "SlotPaxos$Line"
  | 3 => .boolean
  | 4 => .int
  | 5 => .int
  | 6 => .int
  | 7 => .int
  | 8 => .int
  | 9 => .int
  | 10 => .int
  | 11 => .int
  | 12 => .int
  | _ => .int
theorem nm_R : ∀ a, a < 14 → ∀ b, b < 14 → a ≠ b → (F_R a).2.1 ≠ (F_R b).2.1 := by decide +kernel
theorem ty_R : ∀ k, k < 14 → parseFieldDescriptor (F_R k).2.2.1 = some (tf_R k) := by decide +kernel
set_option maxRecDepth 100000 in
theorem in_R : ∀ w ∈ u_ws R_R F_R 14, w ∈ mx_tbl := by
  intro w hw
  obtain ⟨k, hk, rfl⟩ := List.mem_map.mp hw
  have hk := List.mem_range.mp hk
  match k, hk with
  | 0, _ => exact mw 143 rfl rfl
  | 1, _ => exact mw 145 rfl rfl
  | 2, _ => exact mw 147 rfl rfl
  | 3, _ => exact mw 149 rfl rfl
  | 4, _ => exact mw 151 rfl rfl
  | 5, _ => exact mw 153 rfl rfl
  | 6, _ => exact mw 155 rfl rfl
  | 7, _ => exact mw 157 rfl rfl
  | 8, _ => exact mw 159 rfl rfl
  | 9, _ => exact mw 161 rfl rfl
  | 10, _ => exact mw 163 rfl rfl
  | 11, _ => exact mw 165 rfl rfl
  | 12, _ => exact mw 167 rfl rfl
  | 13, _ => exact mw 169 rfl rfl
  | k + 14, h => exact absurd h (by omega)
def R_P : String := "SlotPaxos"
def F_P : u_T := fun k => match k with
  | 0 => ("SlotPaxos", "size", "I", true)
  | 1 => ("SlotPaxos", "limit", "I", true)
  | 2 => ("SlotPaxos", "members", "[LSlotPaxos$Replica;", true)
  | 3 => ("SlotPaxos", "flight", "LSlotPaxos$Flight;", true)
  | _ => ("SlotPaxos", "arrived", "LSlotPaxos$Message;", true)
def tf_P : Nat → FieldType := fun k => match k with
  | 0 => .int
  | 1 => .int
  | 2 => .array (.object "SlotPaxos$Replica")
  | 3 => .object "SlotPaxos$Flight"
  | _ => .object "SlotPaxos$Message"
theorem nm_P : ∀ a, a < 5 → ∀ b, b < 5 → a ≠ b → (F_P a).2.1 ≠ (F_P b).2.1 := by decide +kernel
theorem ty_P : ∀ k, k < 5 → parseFieldDescriptor (F_P k).2.2.1 = some (tf_P k) := by decide +kernel
set_option maxRecDepth 100000 in
theorem in_P : ∀ w ∈ u_ws R_P F_P 5, w ∈ mx_tbl := by
  intro w hw
  obtain ⟨k, hk, rfl⟩ := List.mem_map.mp hw
  have hk := List.mem_range.mp hk
  match k, hk with
  | 0, _ => exact mw 234 rfl rfl
  | 1, _ => exact mw 236 rfl rfl
  | 2, _ => exact mw 238 rfl rfl
  | 3, _ => exact mw 240 rfl rfl
  | 4, _ => exact mw 242 rfl rfl
  | k + 5, h => exact absurd h (by omega)
def R_T : String := "SlotPaxosModel"
def F_T : u_T := fun k => match k with
  | 0 => ("SlotPaxosModel", "thrown", "I", false)
  | 1 => ("SlotPaxosModel", "n", "I", true)
  | 2 => ("SlotPaxosModel", "kept", "I", true)
  | 3 => ("SlotPaxosModel", "up", "[Z", true)
  | 4 => ("SlotPaxosModel", "index", "[I", true)
  | 5 => ("SlotPaxosModel", "sum", "[I", true)
  | 6 => ("SlotPaxosModel", "base", "[I", true)
  | 7 => ("SlotPaxosModel", "promised", "[I", true)
  | 8 => ("SlotPaxosModel", "acceptedBallot", "[I", true)
  | 9 => ("SlotPaxosModel", "accepted", "[I", true)
  | 10 => ("SlotPaxosModel", "slots", "[I", true)
  | 11 => ("SlotPaxosModel", "role", "[I", true)
  | 12 => ("SlotPaxosModel", "ballot", "[I", true)
  | 13 => ("SlotPaxosModel", "answered", "[I", true)
  | 14 => ("SlotPaxosModel", "proposed", "[I", true)
  | 15 => ("SlotPaxosModel", "told", "[I", true)
  | 16 => ("SlotPaxosModel", "toldBallot", "[I", true)
  | 17 => ("SlotPaxosModel", "seen", "[I", true)
  | 18 => ("SlotPaxosModel", "queue", "[I", true)
  | 19 => ("SlotPaxosModel", "queued", "[I", true)
  | 20 => ("SlotPaxosModel", "messages", "[I", true)
  | 21 => ("SlotPaxosModel", "flight", "I", false)
  | 22 => ("SlotPaxosModel", "sent", "I", false)
  | _ => ("SlotPaxosModel", "lost", "I", false)
def tf_T : Nat → FieldType := fun k => match k with
  | 0 => .int
  | 1 => .int
  | 2 => .int
  | 3 => .array .boolean
  | 4 => .array .int
  | 5 => .array .int
  | 6 => .array .int
  | 7 => .array .int
  | 8 => .array .int
  | 9 => .array .int
  | 10 => .array .int
  | 11 => .array .int
  | 12 => .array .int
  | 13 => .array .int
  | 14 => .array .int
  | 15 => .array .int
  | 16 => .array .int
  | 17 => .array .int
  | 18 => .array .int
  | 19 => .array .int
  | 20 => .array .int
  | 21 => .int
  | 22 => .int
  | _ => .int
theorem nm_T : ∀ a, a < 24 → ∀ b, b < 24 → a ≠ b → (F_T a).2.1 ≠ (F_T b).2.1 := by decide +kernel
theorem ty_T : ∀ k, k < 24 → parseFieldDescriptor (F_T k).2.2.1 = some (tf_T k) := by decide +kernel
set_option maxRecDepth 100000 in
theorem in_T : ∀ w ∈ u_ws R_T F_T 24, w ∈ mx_tbl := by
  intro w hw
  obtain ⟨k, hk, rfl⟩ := List.mem_map.mp hw
  have hk := List.mem_range.mp hk
  match k, hk with
  | 0, _ => exact mw 547 rfl rfl
  | 1, _ => exact mw 549 rfl rfl
  | 2, _ => exact mw 551 rfl rfl
  | 3, _ => exact mw 553 rfl rfl
  | 4, _ => exact mw 555 rfl rfl
  | 5, _ => exact mw 557 rfl rfl
  | 6, _ => exact mw 559 rfl rfl
  | 7, _ => exact mw 561 rfl rfl
  | 8, _ => exact mw 563 rfl rfl
  | 9, _ => exact mw 565 rfl rfl
  | 10, _ => exact mw 567 rfl rfl
  | 11, _ => exact mw 569 rfl rfl
  | 12, _ => exact mw 571 rfl rfl
  | 13, _ => exact mw 573 rfl rfl
  | 14, _ => exact mw 575 rfl rfl
  | 15, _ => exact mw 577 rfl rfl
  | 16, _ => exact mw 579 rfl rfl
  | 17, _ => exact mw 581 rfl rfl
  | 18, _ => exact mw 583 rfl rfl
  | 19, _ => exact mw 585 rfl rfl
  | 20, _ => exact mw 587 rfl rfl
  | 21, _ => exact mw 589 rfl rfl
  | 22, _ => exact mw 591 rfl rfl
  | 23, _ => exact mw 593 rfl rfl
  | k + 24, h => exact absurd h (by omega)
def R_W : String := "SlotPaxosLaw"
def R_J : String := "java/lang/Integer"
abbrev vwCl : List vw_C := [(R_F, F_F, 4), (R_L, F_L, 2), (R_G, F_G, 5), (R_M, F_M, 7), (R_R, F_R, 14), (R_P, F_P, 5), (R_T, F_T, 24)]
abbrev b_P_init : ByteArray := prog_1_method_1_code
def y_P_init : MethodName := ⟨R_P, "<init>", "(II)V"⟩
abbrev b_P_request : ByteArray := prog_1_method_2_code
def y_P_request : MethodName := ⟨R_P, "request", "(II)Z"⟩
abbrev b_P_tick : ByteArray := prog_1_method_3_code
def y_P_tick : MethodName := ⟨R_P, "tick", "(I)I"⟩
abbrev b_P_deliver : ByteArray := prog_1_method_4_code
def y_P_deliver : MethodName := ⟨R_P, "deliver", "(I)I"⟩
abbrev b_P_lose : ByteArray := prog_1_method_5_code
def y_P_lose : MethodName := ⟨R_P, "lose", "(I)Z"⟩
abbrev b_P_twice : ByteArray := prog_1_method_6_code
def y_P_twice : MethodName := ⟨R_P, "twice", "(I)Z"⟩
abbrev b_P_turn : ByteArray := prog_1_method_7_code
def y_P_turn : MethodName := ⟨R_P, "turn", "(IZ)Z"⟩
abbrev b_P_replica : ByteArray := prog_1_method_8_code
def y_P_replica : MethodName := ⟨R_P, "replica", "(II)I"⟩
abbrev b_P_slot : ByteArray := prog_1_method_9_code
def y_P_slot : MethodName := ⟨R_P, "slot", "(II)I"⟩
abbrev b_P_waiting : ByteArray := prog_1_method_10_code
def y_P_waiting : MethodName := ⟨R_P, "waiting", "(II)I"⟩
abbrev b_P_message : ByteArray := prog_1_method_11_code
def y_P_message : MethodName := ⟨R_P, "message", "(II)I"⟩
abbrev b_P_look : ByteArray := prog_1_method_12_code
def y_P_look : MethodName := ⟨R_P, "look", "(I)I"⟩
abbrev b_P_find : ByteArray := prog_1_method_13_code
def y_P_find : MethodName := ⟨R_P, "find", "(I)LSlotPaxos$Replica;"⟩
abbrev b_P_greatestIndex : ByteArray := prog_1_method_14_code
def y_P_greatestIndex : MethodName := ⟨R_P, "greatestIndex", "()I"⟩
abbrev b_P_isMajority : ByteArray := prog_1_method_15_code
def y_P_isMajority : MethodName := ⟨R_P, "isMajority", "(I)Z"⟩
abbrev b_P_tickLeader : ByteArray := prog_1_method_16_code
def y_P_tickLeader : MethodName := ⟨R_P, "tickLeader", "(LSlotPaxos$Replica;)V"⟩
abbrev b_P_campaign : ByteArray := prog_1_method_17_code
def y_P_campaign : MethodName := ⟨R_P, "campaign", "(LSlotPaxos$Replica;)V"⟩
abbrev b_P_nextBallot : ByteArray := prog_1_method_18_code
def y_P_nextBallot : MethodName := ⟨R_P, "nextBallot", "(LSlotPaxos$Replica;)I"⟩
abbrev b_P_propose : ByteArray := prog_1_method_19_code
def y_P_propose : MethodName := ⟨R_P, "propose", "(LSlotPaxos$Replica;)V"⟩
abbrev b_P_proposeNumber : ByteArray := prog_1_method_20_code
def y_P_proposeNumber : MethodName := ⟨R_P, "proposeNumber", "(LSlotPaxos$Replica;I)V"⟩
abbrev b_P_arrive : ByteArray := prog_1_method_21_code
def y_P_arrive : MethodName := ⟨R_P, "arrive", "(LSlotPaxos$Replica;LSlotPaxos$Message;)V"⟩
abbrev b_P_onPrepare : ByteArray := prog_1_method_22_code
def y_P_onPrepare : MethodName := ⟨R_P, "onPrepare", "(LSlotPaxos$Replica;LSlotPaxos$Message;)V"⟩
abbrev b_P_onPromise : ByteArray := prog_1_method_23_code
def y_P_onPromise : MethodName := ⟨R_P, "onPromise", "(LSlotPaxos$Replica;LSlotPaxos$Message;)V"⟩
abbrev b_P_onAccept : ByteArray := prog_1_method_24_code
def y_P_onAccept : MethodName := ⟨R_P, "onAccept", "(LSlotPaxos$Replica;LSlotPaxos$Message;)V"⟩
abbrev b_P_onAccepted : ByteArray := prog_1_method_25_code
def y_P_onAccepted : MethodName := ⟨R_P, "onAccepted", "(LSlotPaxos$Replica;LSlotPaxos$Message;)V"⟩
abbrev b_P_onChosen : ByteArray := prog_1_method_26_code
def y_P_onChosen : MethodName := ⟨R_P, "onChosen", "(LSlotPaxos$Replica;LSlotPaxos$Message;)V"⟩
abbrev b_P_onAsk : ByteArray := prog_1_method_27_code
def y_P_onAsk : MethodName := ⟨R_P, "onAsk", "(LSlotPaxos$Replica;LSlotPaxos$Message;)V"⟩
abbrev b_P_onDeny : ByteArray := prog_1_method_28_code
def y_P_onDeny : MethodName := ⟨R_P, "onDeny", "(LSlotPaxos$Replica;LSlotPaxos$Message;)V"⟩
abbrev b_P_onState : ByteArray := prog_1_method_29_code
def y_P_onState : MethodName := ⟨R_P, "onState", "(LSlotPaxos$Replica;LSlotPaxos$Message;)V"⟩
abbrev b_P_sendPrepare : ByteArray := prog_1_method_30_code
def y_P_sendPrepare : MethodName := ⟨R_P, "sendPrepare", "(LSlotPaxos$Replica;)V"⟩
abbrev b_P_sendAccept : ByteArray := prog_1_method_31_code
def y_P_sendAccept : MethodName := ⟨R_P, "sendAccept", "(LSlotPaxos$Replica;)V"⟩
abbrev b_P_sendPromise : ByteArray := prog_1_method_32_code
def y_P_sendPromise : MethodName := ⟨R_P, "sendPromise", "(LSlotPaxos$Replica;LSlotPaxos$Message;)V"⟩
abbrev b_P_ask : ByteArray := prog_1_method_33_code
def y_P_ask : MethodName := ⟨R_P, "ask", "(LSlotPaxos$Replica;I)V"⟩
abbrev b_P_deny : ByteArray := prog_1_method_34_code
def y_P_deny : MethodName := ⟨R_P, "deny", "(LSlotPaxos$Replica;I)V"⟩
abbrev b_P_help : ByteArray := prog_1_method_35_code
def y_P_help : MethodName := ⟨R_P, "help", "(LSlotPaxos$Replica;II)V"⟩
abbrev b_P_sendToAll : ByteArray := prog_1_method_36_code
def y_P_sendToAll : MethodName := ⟨R_P, "sendToAll", "(IIIII)V"⟩
abbrev b_T_init : ByteArray := prog_8_method_1_code
def y_T_init : MethodName := ⟨R_T, "<init>", "(II)V"⟩
abbrev b_T_isReplica : ByteArray := prog_8_method_3_code
def y_T_isReplica : MethodName := ⟨R_T, "isReplica", "(I)Z"⟩
abbrev b_T_isUp : ByteArray := prog_8_method_4_code
def y_T_isUp : MethodName := ⟨R_T, "isUp", "(I)Z"⟩
abbrev b_T_send : ByteArray := prog_8_method_5_code
def y_T_send : MethodName := ⟨R_T, "send", "(IIIIIII)V"⟩
abbrev b_T_sendAll : ByteArray := prog_8_method_6_code
def y_T_sendAll : MethodName := ⟨R_T, "sendAll", "(IIIII)V"⟩
abbrev b_T_remove : ByteArray := prog_8_method_7_code
def y_T_remove : MethodName := ⟨R_T, "remove", "(I)V"⟩
abbrev b_T_follow : ByteArray := prog_8_method_8_code
def y_T_follow : MethodName := ⟨R_T, "follow", "(I)V"⟩
abbrev b_T_campaign : ByteArray := prog_8_method_9_code
def y_T_campaign : MethodName := ⟨R_T, "campaign", "(I)V"⟩
abbrev b_T_proposeIt : ByteArray := prog_8_method_10_code
def y_T_proposeIt : MethodName := ⟨R_T, "proposeIt", "(II)V"⟩
abbrev b_T_propose : ByteArray := prog_8_method_11_code
def y_T_propose : MethodName := ⟨R_T, "propose", "(I)V"⟩
abbrev b_T_learn : ByteArray := prog_8_method_12_code
def y_T_learn : MethodName := ⟨R_T, "learn", "(II)V"⟩
abbrev b_T_help : ByteArray := prog_8_method_13_code
def y_T_help : MethodName := ⟨R_T, "help", "(III)V"⟩
abbrev b_T_count : ByteArray := prog_8_method_14_code
def y_T_count : MethodName := ⟨R_T, "count", "(I)I"⟩
abbrev b_T_prepared : ByteArray := prog_8_method_15_code
def y_T_prepared : MethodName := ⟨R_T, "prepared", "(IIII)V"⟩
abbrev b_T_gotPromise : ByteArray := prog_8_method_16_code
def y_T_gotPromise : MethodName := ⟨R_T, "gotPromise", "(IIIIII)V"⟩
abbrev b_T_gotAccept : ByteArray := prog_8_method_17_code
def y_T_gotAccept : MethodName := ⟨R_T, "gotAccept", "(IIIII)V"⟩
abbrev b_T_gotAccepted : ByteArray := prog_8_method_18_code
def y_T_gotAccepted : MethodName := ⟨R_T, "gotAccepted", "(IIII)V"⟩
abbrev b_T_gotState : ByteArray := prog_8_method_19_code
def y_T_gotState : MethodName := ⟨R_T, "gotState", "(III)V"⟩
abbrev b_T_comes : ByteArray := prog_8_method_20_code
def y_T_comes : MethodName := ⟨R_T, "comes", "(IIIIIII)V"⟩
abbrev b_T_request : ByteArray := prog_8_method_21_code
def y_T_request : MethodName := ⟨R_T, "request", "(II)Z"⟩
abbrev b_T_tick : ByteArray := prog_8_method_22_code
def y_T_tick : MethodName := ⟨R_T, "tick", "(I)I"⟩
abbrev b_T_deliver : ByteArray := prog_8_method_23_code
def y_T_deliver : MethodName := ⟨R_T, "deliver", "(I)I"⟩
abbrev b_T_lose : ByteArray := prog_8_method_24_code
def y_T_lose : MethodName := ⟨R_T, "lose", "(I)Z"⟩
abbrev b_T_twice : ByteArray := prog_8_method_25_code
def y_T_twice : MethodName := ⟨R_T, "twice", "(I)Z"⟩
abbrev b_T_turn : ByteArray := prog_8_method_26_code
def y_T_turn : MethodName := ⟨R_T, "turn", "(IZ)Z"⟩
abbrev b_T_replica : ByteArray := prog_8_method_27_code
def y_T_replica : MethodName := ⟨R_T, "replica", "(II)I"⟩
abbrev b_T_slot : ByteArray := prog_8_method_28_code
def y_T_slot : MethodName := ⟨R_T, "slot", "(II)I"⟩
abbrev b_T_waiting : ByteArray := prog_8_method_29_code
def y_T_waiting : MethodName := ⟨R_T, "waiting", "(II)I"⟩
abbrev b_T_message : ByteArray := prog_8_method_30_code
def y_T_message : MethodName := ⟨R_T, "message", "(II)I"⟩
abbrev b_T_look : ByteArray := prog_8_method_31_code
def y_T_look : MethodName := ⟨R_T, "look", "(I)I"⟩
abbrev b_F_init : ByteArray := prog_2_method_1_code
def y_F_init : MethodName := ⟨R_F, "<init>", "()V"⟩
abbrev b_F_has : ByteArray := prog_2_method_2_code
def y_F_has : MethodName := ⟨R_F, "has", "(I)Z"⟩
abbrev b_F_cell : ByteArray := prog_2_method_3_code
def y_F_cell : MethodName := ⟨R_F, "cell", "(II)I"⟩
abbrev b_F_send : ByteArray := prog_2_method_4_code
def y_F_send : MethodName := ⟨R_F, "send", "(IIIIIII)V"⟩
abbrev b_F_read : ByteArray := prog_2_method_5_code
def y_F_read : MethodName := ⟨R_F, "read", "(ILSlotPaxos$Message;)V"⟩
abbrev b_F_remove : ByteArray := prog_2_method_6_code
def y_F_remove : MethodName := ⟨R_F, "remove", "(I)V"⟩
abbrev b_F_repeat : ByteArray := prog_2_method_7_code
def y_F_repeat : MethodName := ⟨R_F, "repeat", "(I)Z"⟩
abbrev b_L_init : ByteArray := prog_3_method_1_code
def y_L_init : MethodName := ⟨R_L, "<init>", "()V"⟩
abbrev b_L_add : ByteArray := prog_3_method_2_code
def y_L_add : MethodName := ⟨R_L, "add", "(I)Z"⟩
abbrev b_L_at : ByteArray := prog_3_method_3_code
def y_L_at : MethodName := ⟨R_L, "at", "(I)I"⟩
abbrev b_L_drop : ByteArray := prog_3_method_4_code
def y_L_drop : MethodName := ⟨R_L, "drop", "(I)V"⟩
abbrev b_G_init : ByteArray := prog_4_method_1_code
def y_G_init : MethodName := ⟨R_G, "<init>", "(I)V"⟩
abbrev b_G_ahead : ByteArray := prog_4_method_2_code
def y_G_ahead : MethodName := ⟨R_G, "ahead", "()I"⟩
abbrev b_G_keeps : ByteArray := prog_4_method_3_code
def y_G_keeps : MethodName := ⟨R_G, "keeps", "(I)Z"⟩
abbrev b_G_numberOf : ByteArray := prog_4_method_4_code
def y_G_numberOf : MethodName := ⟨R_G, "numberOf", "(I)I"⟩
abbrev b_G_append : ByteArray := prog_4_method_5_code
def y_G_append : MethodName := ⟨R_G, "append", "(I)V"⟩
abbrev b_G_jump : ByteArray := prog_4_method_6_code
def y_G_jump : MethodName := ⟨R_G, "jump", "(II)V"⟩
abbrev b_M_init : ByteArray := prog_5_method_1_code
def y_M_init : MethodName := ⟨R_M, "<init>", "()V"⟩
abbrev b_R_init : ByteArray := prog_6_method_1_code
def y_R_init : MethodName := ⟨R_R, "<init>", "(II)V"⟩
abbrev b_R_forget : ByteArray := prog_6_method_2_code
def y_R_forget : MethodName := ⟨R_R, "forget", "()V"⟩
abbrev b_R_becomeFollower : ByteArray := prog_6_method_3_code
def y_R_becomeFollower : MethodName := ⟨R_R, "becomeFollower", "()V"⟩
abbrev b_R_becomeCandidate : ByteArray := prog_6_method_4_code
def y_R_becomeCandidate : MethodName := ⟨R_R, "becomeCandidate", "(I)V"⟩
abbrev b_R_becomeLeader : ByteArray := prog_6_method_5_code
def y_R_becomeLeader : MethodName := ⟨R_R, "becomeLeader", "()V"⟩
abbrev b_R_isNext : ByteArray := prog_6_method_6_code
def y_R_isNext : MethodName := ⟨R_R, "isNext", "(I)Z"⟩
abbrev b_R_hasAnswer : ByteArray := prog_6_method_7_code
def y_R_hasAnswer : MethodName := ⟨R_R, "hasAnswer", "(I)Z"⟩
abbrev b_R_addAnswer : ByteArray := prog_6_method_8_code
def y_R_addAnswer : MethodName := ⟨R_R, "addAnswer", "(I)V"⟩
abbrev b_R_keepGreatest : ByteArray := prog_6_method_9_code
def y_R_keepGreatest : MethodName := ⟨R_R, "keepGreatest", "(II)V"⟩
abbrev b_R_hasAccepted : ByteArray := prog_6_method_10_code
def y_R_hasAccepted : MethodName := ⟨R_R, "hasAccepted", "()Z"⟩
abbrev b_R_accept : ByteArray := prog_6_method_11_code
def y_R_accept : MethodName := ⟨R_R, "accept", "(II)V"⟩
abbrev b_R_dropAccepted : ByteArray := prog_6_method_12_code
def y_R_dropAccepted : MethodName := ⟨R_R, "dropAccepted", "()V"⟩
abbrev b_R_proposeAndAccept : ByteArray := prog_6_method_13_code
def y_R_proposeAndAccept : MethodName := ⟨R_R, "proposeAndAccept", "(I)V"⟩
abbrev b_R_learn : ByteArray := prog_6_method_14_code
def y_R_learn : MethodName := ⟨R_R, "learn", "(I)V"⟩
abbrev b_R_passing : ByteArray := prog_6_method_15_code
def y_R_passing : MethodName := ⟨R_R, "passing", "(I)I"⟩
abbrev b_W_cell : ByteArray := method_2_code
def y_W_cell : MethodName := ⟨R_W, "cell", "([II)I"⟩
abbrev b_J_bitCount : ByteArray := prog_9_method_49_code
def y_J_bitCount : MethodName := ⟨R_J, "bitCount", "(I)I"⟩
abbrev b_W_law : ByteArray := code
end
section
/-! THE ENGINE: the kit's one-instruction rows, over a bundled context -/
def lq : List (Nat × Value) → Nat → Option Value
  | [], _ => none
  | (j, v) :: r, i => bif Nat.beq j i then some v else lq r i
def nz : List (Nat × Value) → List (Nat × Value)
  | [] => []
  | q :: r => q :: (nz r).filter (fun x => !(Nat.beq q.1 x.1))
theorem nz_of_lq : ∀ (lv : List (Nat × Value)) (i : Nat) (v : Value), lq lv i = some v → (i, v) ∈ nz lv
  | [], i, v, h => by simp [lq] at h
  | (j, x) :: r, i, v, h => by
    unfold lq at h
    unfold nz
    cases hb : Nat.beq j i with
    | true =>
      rw [hb] at h
      simp only [cond_true, Option.some.injEq] at h
      rw [Nat.eq_of_beq_eq_true hb, h]
      exact List.mem_cons_self
    | false =>
      rw [hb] at h
      simp only [cond_false] at h
      refine List.mem_cons_of_mem _ (List.mem_filter.mpr ⟨nz_of_lq r i v h, ?_⟩)
      simp [hb]
theorem lq_of_nz : ∀ (lv : List (Nat × Value)) (i : Nat) (v : Value), (i, v) ∈ nz lv → lq lv i = some v
  | [], i, v, h => by simp [nz] at h
  | (j, x) :: r, i, v, h => by
    unfold nz at h
    unfold lq
    rcases List.mem_cons.mp h with h | h
    · cases h
      simp [Nat.beq_refl]
    · obtain ⟨h1, h2⟩ := List.mem_filter.mp h
      have hb : Nat.beq j i = false := by simpa using h2
      rw [hb]
      simp only [cond_false]
      exact lq_of_nz r i v h1
theorem mem_of_nz : ∀ (lv : List (Nat × Value)) (q : Nat × Value), q ∈ nz lv → q ∈ lv
  | [], q, h => by simp [nz] at h
  | y :: r, q, h => by
    unfold nz at h
    rcases List.mem_cons.mp h with h | h
    · rw [h]; exact List.mem_cons_self
    · exact List.mem_cons_of_mem _ (mem_of_nz r q (List.mem_filter.mp h).1)
/-- the locals hold what the list says -/
def lw_h (ls : Array Slot) (nL : Nat) (lv : List (Nat × Value)) : Prop := lv_has ls nL (nz lv) ∧ ∀ q ∈ nz lv, q.2.category = 1
theorem lw_h.at {ls : Array Slot} {nL : Nat} {lv : List (Nat × Value)} (h : lw_h ls nL lv) {i : Nat} {v : Value} (hq : lq lv i = some v) : ls[i]? = some (.val v) := h.1.2.2 (i, v) (nz_of_lq lv i v hq)
theorem lw_h.put {ls ls' : Array Slot} {nL : Nat} {lv : List (Nat × Value)} {i : Nat} {v : Value} (h : lw_h ls nL lv) (hv : v.category = 1) (h' : lv_has ls' nL ((i, v) :: (nz lv).filter (fun q => !(q.1 == i) && !(q.1 + 1 == i && q.2.category == 2)))) : lw_h ls' nL ((i, v) :: lv) := by
  refine ⟨⟨h'.1, h'.2.1, fun q hq => ?_⟩, fun q hq => ?_⟩
  · unfold nz at hq
    rcases List.mem_cons.mp hq with hq | hq
    · rw [hq]; exact h'.2.2 _ List.mem_cons_self
    · obtain ⟨h1, h2⟩ := List.mem_filter.mp hq
      refine h'.2.2 q (List.mem_cons_of_mem _ (List.mem_filter.mpr ⟨h1, ?_⟩))
      have hc := h.2 q h1
      have hb : Nat.beq i q.1 = false := by simpa using h2
      have hne : ¬ q.1 = i := fun e => by rw [e, Nat.beq_refl] at hb; cases hb
      simp [hc, hne]
  · unfold nz at hq
    rcases List.mem_cons.mp hq with hq | hq
    · rw [hq]; exact hv
    · exact h.2 q (List.mem_filter.mp hq).1
def lw_sub (lv : List (Nat × Value)) : List (Nat × Value) → Prop
  | [] => True
  | q :: r => lq lv q.1 = some q.2 ∧ lw_sub lv r
theorem lw_sub_mem (lv : List (Nat × Value)) : ∀ l' : List (Nat × Value), lw_sub lv l' → ∀ q ∈ l', lq lv q.1 = some q.2
  | [], _, q, h => by cases h
  | y :: r, h0, q, h => by
    rcases List.mem_cons.mp h with h | h
    · rw [h]; exact h0.1
    · exact lw_sub_mem lv r h0.2 q h
theorem lw_h.sub {ls : Array Slot} {nL : Nat} {lv lv' : List (Nat × Value)} (h : lw_h ls nL lv) (hs : lw_sub lv lv') : lw_h ls nL lv' :=
  ⟨⟨h.1.1, h.1.2.1, fun q hq => h.1.2.2 q (nz_of_lq _ _ _ (lw_sub_mem lv lv' hs q (mem_of_nz _ _ hq)))⟩, fun q hq => h.2 q (nz_of_lq _ _ _ (lw_sub_mem lv lv' hs q (mem_of_nz _ _ hq)))⟩
abbrev mx_Z : Type := Launch × va_G × List (ClassId × FieldType)
abbrev mx_C : Type := (Program × Launch × Env × Room × State × MethodId × Array Value × List Frame × Method × Code) × va_G × List (ClassId × FieldType) × Nat × (State → Prop)
/-- the machine at pc with locals lv, stack st, world ws comes to the end that the context names; n: cells and slots made so far -/
def mx (X : mx_C) (n : Nat × Nat) (pc : Nat) (lv : List (Nat × Value)) (st : List Value) (ws : va_W) : Prop := match X with
  | ((p, l, e, R, s, m, args, below, meth, c), D, _, lo, Q) => ∀ (ls : Array Slot) (H : Heap) (locs : List Loc), lw_h ls c.maxLocals lv → va_P D vwCl ws H → va_D (fun q => lo ≤ q) ws → va_S (fun q => lo ≤ q) s.heap H locs → W p l e R s m args below meth c H locs n.1 n.2 Q (F0 m pc ls st)
/-- what a context knows: the machine, the method's class, code, number of locals, room; the words; the tables -/
def mx_ok (X : mx_C) (Z : mx_Z) (own : String) (cc : ByteArray) (nL : Nat) (rm : Room) : Prop := match X with
  | ((p, l, _, R, s, m, args, _, _, c), D, tys, lo, _) => p.tables.exec = Jvm.exec ∧ c.code = cc ∧ c.maxLocals = nL ∧ s.vm.findClass own = some m.cls ∧ (∀ w ∈ mx_tbl, w.before args s = true) ∧ va_K D vwCl tys s ∧ lo ≤ s.heap.size ∧ R = rm ∧ Z = (l, D, tys)
theorem mr_lv {X : mx_C} {n : Nat × Nat} {pc : Nat} {lv : List (Nat × Value)} {st : List Value} {ws : va_W} (lv' : List (Nat × Value)) (h : lw_sub lv lv') (kk : mx X n pc lv' st ws) : mx X n pc lv st ws := by
  obtain ⟨⟨p, l, e, R, s, m, args, below, meth, c⟩, D, tys, lo, Q⟩ := X
  intro ls H locs hl hP hD hS
  exact kk ls H locs (hl.sub h) hP hD hS
theorem mr_ws {X : mx_C} {n : Nat × Nat} {pc : Nat} {lv : List (Nat × Value)} {st : List Value} {ws : va_W} {ws' : va_W} (h : ws = ws') (kk : mx X n pc lv st ws') : mx X n pc lv st ws := h ▸ kk
theorem mr_iconst {X : mx_C} {Z : mx_Z} {own : String} {cc : ByteArray} {nL : Nat} {rm : Room} {n : Nat × Nat} {pc : Nat} {lv : List (Nat × Value)} {st : List Value} {ws : va_W} (ok : mx_ok X Z own cc nL rm) {k : Int} (v : Int32) (hd : decode cc pc = .ok (.iconst k, 1)) (hv : Int32.ofInt k = v) (kk : mx X n (pc + 1) lv (.int v :: st) ws) : mx X n pc lv st ws := by
  obtain ⟨⟨p, l, e, R, s, m, args, below, meth, c⟩, D, tys, lo, Q⟩ := X
  intro ls H locs hl hP hD hS
  exact lv_iconst ok.1 ok.2.1 hd hv (kk ls H locs hl hP hD hS)
theorem mr_bipush {X : mx_C} {Z : mx_Z} {own : String} {cc : ByteArray} {nL : Nat} {rm : Room} {n : Nat × Nat} {pc : Nat} {lv : List (Nat × Value)} {st : List Value} {ws : va_W} (ok : mx_ok X Z own cc nL rm) {k : Int} (v : Int32) (hd : decode cc pc = .ok (.bipush k, 2)) (hv : (Int8.ofInt k).toInt32 = v) (kk : mx X n (pc + 2) lv (.int v :: st) ws) : mx X n pc lv st ws := by
  obtain ⟨⟨p, l, e, R, s, m, args, below, meth, c⟩, D, tys, lo, Q⟩ := X
  intro ls H locs hl hP hD hS
  exact lv_bipush ok.1 ok.2.1 hd hv (kk ls H locs hl hP hD hS)
theorem mr_sipush {X : mx_C} {Z : mx_Z} {own : String} {cc : ByteArray} {nL : Nat} {rm : Room} {n : Nat × Nat} {pc : Nat} {lv : List (Nat × Value)} {st : List Value} {ws : va_W} (ok : mx_ok X Z own cc nL rm) {k : Int} (v : Int32) (hd : decode cc pc = .ok (.sipush k, 3)) (hv : (Int16.ofInt k).toInt32 = v) (kk : mx X n (pc + 3) lv (.int v :: st) ws) : mx X n pc lv st ws := by
  obtain ⟨⟨p, l, e, R, s, m, args, below, meth, c⟩, D, tys, lo, Q⟩ := X
  intro ls H locs hl hP hD hS
  exact lv_sipush ok.1 ok.2.1 hd hv (kk ls H locs hl hP hD hS)
theorem mr_iload_n {X : mx_C} {Z : mx_Z} {own : String} {cc : ByteArray} {nL : Nat} {rm : Room} {n : Nat × Nat} {pc : Nat} {lv : List (Nat × Value)} {st : List Value} {ws : va_W} (ok : mx_ok X Z own cc nL rm) {k : Fin 4} {i : Nat} {x : Int32} (hd : decode cc pc = .ok (.iload_n k, 1)) (hi : (k : Nat) = i) (hq : lq lv i = some (.int x)) (kk : mx X n (pc + 1) lv (.int x :: st) ws) : mx X n pc lv st ws := by
  obtain ⟨⟨p, l, e, R, s, m, args, below, meth, c⟩, D, tys, lo, Q⟩ := X
  intro ls H locs hl hP hD hS
  exact lv_iload_n ok.1 ok.2.1 hd hi (hl.at hq) (kk ls H locs hl hP hD hS)
theorem mr_iload {X : mx_C} {Z : mx_Z} {own : String} {cc : ByteArray} {nL : Nat} {rm : Room} {n : Nat × Nat} {pc : Nat} {lv : List (Nat × Value)} {st : List Value} {ws : va_W} (ok : mx_ok X Z own cc nL rm) {i : Nat} {x : Int32} (hd : decode cc pc = .ok (.iload i, 2)) (hq : lq lv i = some (.int x)) (kk : mx X n (pc + 2) lv (.int x :: st) ws) : mx X n pc lv st ws := by
  obtain ⟨⟨p, l, e, R, s, m, args, below, meth, c⟩, D, tys, lo, Q⟩ := X
  intro ls H locs hl hP hD hS
  exact lv_iload ok.1 ok.2.1 hd (hl.at hq) (kk ls H locs hl hP hD hS)
theorem mr_aload_n {X : mx_C} {Z : mx_Z} {own : String} {cc : ByteArray} {nL : Nat} {rm : Room} {n : Nat × Nat} {pc : Nat} {lv : List (Nat × Value)} {st : List Value} {ws : va_W} (ok : mx_ok X Z own cc nL rm) {k : Fin 4} {i : Nat} {x : Nat} (hd : decode cc pc = .ok (.aload_n k, 1)) (hi : (k : Nat) = i) (hq : lq lv i = some (.ref x)) (kk : mx X n (pc + 1) lv (.ref x :: st) ws) : mx X n pc lv st ws := by
  obtain ⟨⟨p, l, e, R, s, m, args, below, meth, c⟩, D, tys, lo, Q⟩ := X
  intro ls H locs hl hP hD hS
  exact lv_aload_n ok.1 ok.2.1 hd hi (hl.at hq) (kk ls H locs hl hP hD hS)
theorem mr_aload {X : mx_C} {Z : mx_Z} {own : String} {cc : ByteArray} {nL : Nat} {rm : Room} {n : Nat × Nat} {pc : Nat} {lv : List (Nat × Value)} {st : List Value} {ws : va_W} (ok : mx_ok X Z own cc nL rm) {i : Nat} {x : Nat} (hd : decode cc pc = .ok (.aload i, 2)) (hq : lq lv i = some (.ref x)) (kk : mx X n (pc + 2) lv (.ref x :: st) ws) : mx X n pc lv st ws := by
  obtain ⟨⟨p, l, e, R, s, m, args, below, meth, c⟩, D, tys, lo, Q⟩ := X
  intro ls H locs hl hP hD hS
  exact lv_aload ok.1 ok.2.1 hd (hl.at hq) (kk ls H locs hl hP hD hS)
theorem mr_aload_nN {X : mx_C} {Z : mx_Z} {own : String} {cc : ByteArray} {nL : Nat} {rm : Room} {n : Nat × Nat} {pc : Nat} {lv : List (Nat × Value)} {st : List Value} {ws : va_W} (ok : mx_ok X Z own cc nL rm) {k : Fin 4} {i : Nat} (hd : decode cc pc = .ok (.aload_n k, 1)) (hi : (k : Nat) = i) (hq : lq lv i = some .null) (kk : mx X n (pc + 1) lv (.null :: st) ws) : mx X n pc lv st ws := by
  obtain ⟨⟨p, l, e, R, s, m, args, below, meth, c⟩, D, tys, lo, Q⟩ := X
  intro ls H locs hl hP hD hS
  exact lv_aload_nN ok.1 ok.2.1 hd hi (hl.at hq) (kk ls H locs hl hP hD hS)
theorem mr_istore_n {X : mx_C} {Z : mx_Z} {own : String} {cc : ByteArray} {nL : Nat} {rm : Room} {n : Nat × Nat} {pc : Nat} {lv : List (Nat × Value)} {st : List Value} {ws : va_W} (ok : mx_ok X Z own cc nL rm) {k : Fin 4} {i : Nat} {x : Int32} (hd : decode cc pc = .ok (.istore_n k, 1)) (hi : (k : Nat) = i) (hn : i < nL) (kk : mx X n (pc + 1) ((i, Value.int x) :: lv) st ws) : mx X n pc lv (.int x :: st) ws := by
  obtain ⟨⟨p, l, e, R, s, m, args, below, meth, c⟩, D, tys, lo, Q⟩ := X
  intro ls H locs hl hP hD hS
  exact lv_istore_n ok.1 ok.2.1 hd hi hl.1 (by rw [ok.2.2.1]; exact hn) rfl (fun ls h' => kk ls H locs (hl.put rfl h') hP hD hS)
theorem mr_istore {X : mx_C} {Z : mx_Z} {own : String} {cc : ByteArray} {nL : Nat} {rm : Room} {n : Nat × Nat} {pc : Nat} {lv : List (Nat × Value)} {st : List Value} {ws : va_W} (ok : mx_ok X Z own cc nL rm) {i : Nat} {x : Int32} (hd : decode cc pc = .ok (.istore i, 2)) (hn : i < nL) (kk : mx X n (pc + 2) ((i, Value.int x) :: lv) st ws) : mx X n pc lv (.int x :: st) ws := by
  obtain ⟨⟨p, l, e, R, s, m, args, below, meth, c⟩, D, tys, lo, Q⟩ := X
  intro ls H locs hl hP hD hS
  exact lv_istore ok.1 ok.2.1 hd hl.1 (by rw [ok.2.2.1]; exact hn) rfl (fun ls h' => kk ls H locs (hl.put rfl h') hP hD hS)
theorem mr_astore_n {X : mx_C} {Z : mx_Z} {own : String} {cc : ByteArray} {nL : Nat} {rm : Room} {n : Nat × Nat} {pc : Nat} {lv : List (Nat × Value)} {st : List Value} {ws : va_W} (ok : mx_ok X Z own cc nL rm) {k : Fin 4} {i : Nat} {x : Nat} (hd : decode cc pc = .ok (.astore_n k, 1)) (hi : (k : Nat) = i) (hn : i < nL) (kk : mx X n (pc + 1) ((i, Value.ref x) :: lv) st ws) : mx X n pc lv (.ref x :: st) ws := by
  obtain ⟨⟨p, l, e, R, s, m, args, below, meth, c⟩, D, tys, lo, Q⟩ := X
  intro ls H locs hl hP hD hS
  exact lv_astore_n ok.1 ok.2.1 hd hi hl.1 (by rw [ok.2.2.1]; exact hn) rfl (fun ls h' => kk ls H locs (hl.put rfl h') hP hD hS)
theorem mr_astore {X : mx_C} {Z : mx_Z} {own : String} {cc : ByteArray} {nL : Nat} {rm : Room} {n : Nat × Nat} {pc : Nat} {lv : List (Nat × Value)} {st : List Value} {ws : va_W} (ok : mx_ok X Z own cc nL rm) {i : Nat} {x : Nat} (hd : decode cc pc = .ok (.astore i, 2)) (hn : i < nL) (kk : mx X n (pc + 2) ((i, Value.ref x) :: lv) st ws) : mx X n pc lv (.ref x :: st) ws := by
  obtain ⟨⟨p, l, e, R, s, m, args, below, meth, c⟩, D, tys, lo, Q⟩ := X
  intro ls H locs hl hP hD hS
  exact lv_astore ok.1 ok.2.1 hd hl.1 (by rw [ok.2.2.1]; exact hn) rfl (fun ls h' => kk ls H locs (hl.put rfl h') hP hD hS)
theorem mr_astore_nN {X : mx_C} {Z : mx_Z} {own : String} {cc : ByteArray} {nL : Nat} {rm : Room} {n : Nat × Nat} {pc : Nat} {lv : List (Nat × Value)} {st : List Value} {ws : va_W} (ok : mx_ok X Z own cc nL rm) {k : Fin 4} {i : Nat} (hd : decode cc pc = .ok (.astore_n k, 1)) (hi : (k : Nat) = i) (hn : i < nL) (kk : mx X n (pc + 1) ((i, Value.null) :: lv) st ws) : mx X n pc lv (.null :: st) ws := by
  obtain ⟨⟨p, l, e, R, s, m, args, below, meth, c⟩, D, tys, lo, Q⟩ := X
  intro ls H locs hl hP hD hS
  exact lv_astore_nN ok.1 ok.2.1 hd hi hl.1 (by rw [ok.2.2.1]; exact hn) rfl (fun ls h' => kk ls H locs (hl.put rfl h') hP hD hS)
theorem mr_astoreN {X : mx_C} {Z : mx_Z} {own : String} {cc : ByteArray} {nL : Nat} {rm : Room} {n : Nat × Nat} {pc : Nat} {lv : List (Nat × Value)} {st : List Value} {ws : va_W} (ok : mx_ok X Z own cc nL rm) {i : Nat} (hd : decode cc pc = .ok (.astore i, 2)) (hn : i < nL) (kk : mx X n (pc + 2) ((i, Value.null) :: lv) st ws) : mx X n pc lv (.null :: st) ws := by
  obtain ⟨⟨p, l, e, R, s, m, args, below, meth, c⟩, D, tys, lo, Q⟩ := X
  intro ls H locs hl hP hD hS
  exact lv_astoreN ok.1 ok.2.1 hd hl.1 (by rw [ok.2.2.1]; exact hn) rfl (fun ls h' => kk ls H locs (hl.put rfl h') hP hD hS)
theorem mr_iinc {X : mx_C} {Z : mx_Z} {own : String} {cc : ByteArray} {nL : Nat} {rm : Room} {n : Nat × Nat} {pc : Nat} {lv : List (Nat × Value)} {st : List Value} {ws : va_W} (ok : mx_ok X Z own cc nL rm) {i : Nat} {k : Int} {x : Int32} (v : Int32) (hd : decode cc pc = .ok (.iinc i k, 3)) (hq : lq lv i = some (.int x)) (hv : x + Int32.ofInt k = v) (hn : i < nL) (kk : mx X n (pc + 3) ((i, Value.int v) :: lv) st ws) : mx X n pc lv st ws := by
  obtain ⟨⟨p, l, e, R, s, m, args, below, meth, c⟩, D, tys, lo, Q⟩ := X
  intro ls H locs hl hP hD hS
  obtain ⟨q, hq⟩ := List.getElem?_of_mem (nz_of_lq lv i _ hq)
  exact lv_iinc ok.1 ok.2.1 hd hl.1 hq hv (by rw [ok.2.2.1]; exact hn) rfl (fun ls h' => kk ls H locs (hl.put rfl h') hP hD hS)
theorem mr_iadd {X : mx_C} {Z : mx_Z} {own : String} {cc : ByteArray} {nL : Nat} {rm : Room} {n : Nat × Nat} {pc : Nat} {lv : List (Nat × Value)} {st : List Value} {ws : va_W} (ok : mx_ok X Z own cc nL rm) {x y : Int32} (hd : decode cc pc = .ok (.iadd, 1)) (kk : mx X n (pc + 1) lv (.int (x + y) :: st) ws) : mx X n pc lv (.int y :: .int x :: st) ws := by
  obtain ⟨⟨p, l, e, R, s, m, args, below, meth, c⟩, D, tys, lo, Q⟩ := X
  intro ls H locs hl hP hD hS
  exact lv_iadd ok.1 ok.2.1 hd (kk ls H locs hl hP hD hS)
theorem mr_isub {X : mx_C} {Z : mx_Z} {own : String} {cc : ByteArray} {nL : Nat} {rm : Room} {n : Nat × Nat} {pc : Nat} {lv : List (Nat × Value)} {st : List Value} {ws : va_W} (ok : mx_ok X Z own cc nL rm) {x y : Int32} (hd : decode cc pc = .ok (.isub, 1)) (kk : mx X n (pc + 1) lv (.int (x - y) :: st) ws) : mx X n pc lv (.int y :: .int x :: st) ws := by
  obtain ⟨⟨p, l, e, R, s, m, args, below, meth, c⟩, D, tys, lo, Q⟩ := X
  intro ls H locs hl hP hD hS
  exact lv_isub ok.1 ok.2.1 hd (kk ls H locs hl hP hD hS)
theorem mr_imul {X : mx_C} {Z : mx_Z} {own : String} {cc : ByteArray} {nL : Nat} {rm : Room} {n : Nat × Nat} {pc : Nat} {lv : List (Nat × Value)} {st : List Value} {ws : va_W} (ok : mx_ok X Z own cc nL rm) {x y : Int32} (hd : decode cc pc = .ok (.imul, 1)) (kk : mx X n (pc + 1) lv (.int (x * y) :: st) ws) : mx X n pc lv (.int y :: .int x :: st) ws := by
  obtain ⟨⟨p, l, e, R, s, m, args, below, meth, c⟩, D, tys, lo, Q⟩ := X
  intro ls H locs hl hP hD hS
  exact lv_imul ok.1 ok.2.1 hd (kk ls H locs hl hP hD hS)
theorem mr_iand {X : mx_C} {Z : mx_Z} {own : String} {cc : ByteArray} {nL : Nat} {rm : Room} {n : Nat × Nat} {pc : Nat} {lv : List (Nat × Value)} {st : List Value} {ws : va_W} (ok : mx_ok X Z own cc nL rm) {x y : Int32} (hd : decode cc pc = .ok (.iand, 1)) (kk : mx X n (pc + 1) lv (.int (x &&& y) :: st) ws) : mx X n pc lv (.int y :: .int x :: st) ws := by
  obtain ⟨⟨p, l, e, R, s, m, args, below, meth, c⟩, D, tys, lo, Q⟩ := X
  intro ls H locs hl hP hD hS
  exact lv_iand ok.1 ok.2.1 hd (kk ls H locs hl hP hD hS)
theorem mr_ior {X : mx_C} {Z : mx_Z} {own : String} {cc : ByteArray} {nL : Nat} {rm : Room} {n : Nat × Nat} {pc : Nat} {lv : List (Nat × Value)} {st : List Value} {ws : va_W} (ok : mx_ok X Z own cc nL rm) {x y : Int32} (hd : decode cc pc = .ok (.ior, 1)) (kk : mx X n (pc + 1) lv (.int (x ||| y) :: st) ws) : mx X n pc lv (.int y :: .int x :: st) ws := by
  obtain ⟨⟨p, l, e, R, s, m, args, below, meth, c⟩, D, tys, lo, Q⟩ := X
  intro ls H locs hl hP hD hS
  exact lv_ior ok.1 ok.2.1 hd (kk ls H locs hl hP hD hS)
theorem mr_ixor {X : mx_C} {Z : mx_Z} {own : String} {cc : ByteArray} {nL : Nat} {rm : Room} {n : Nat × Nat} {pc : Nat} {lv : List (Nat × Value)} {st : List Value} {ws : va_W} (ok : mx_ok X Z own cc nL rm) {x y : Int32} (hd : decode cc pc = .ok (.ixor, 1)) (kk : mx X n (pc + 1) lv (.int (x ^^^ y) :: st) ws) : mx X n pc lv (.int y :: .int x :: st) ws := by
  obtain ⟨⟨p, l, e, R, s, m, args, below, meth, c⟩, D, tys, lo, Q⟩ := X
  intro ls H locs hl hP hD hS
  exact lv_ixor ok.1 ok.2.1 hd (kk ls H locs hl hP hD hS)
theorem mr_ishl {X : mx_C} {Z : mx_Z} {own : String} {cc : ByteArray} {nL : Nat} {rm : Room} {n : Nat × Nat} {pc : Nat} {lv : List (Nat × Value)} {st : List Value} {ws : va_W} (ok : mx_ok X Z own cc nL rm) {x y : Int32} (hd : decode cc pc = .ok (.ishl, 1)) (kk : mx X n (pc + 1) lv (.int (x <<< (y &&& 31)) :: st) ws) : mx X n pc lv (.int y :: .int x :: st) ws := by
  obtain ⟨⟨p, l, e, R, s, m, args, below, meth, c⟩, D, tys, lo, Q⟩ := X
  intro ls H locs hl hP hD hS
  exact lv_ishl ok.1 ok.2.1 hd (kk ls H locs hl hP hD hS)
theorem mr_ishr {X : mx_C} {Z : mx_Z} {own : String} {cc : ByteArray} {nL : Nat} {rm : Room} {n : Nat × Nat} {pc : Nat} {lv : List (Nat × Value)} {st : List Value} {ws : va_W} (ok : mx_ok X Z own cc nL rm) {x y : Int32} (hd : decode cc pc = .ok (.ishr, 1)) (kk : mx X n (pc + 1) lv (.int (x >>> (y &&& 31)) :: st) ws) : mx X n pc lv (.int y :: .int x :: st) ws := by
  obtain ⟨⟨p, l, e, R, s, m, args, below, meth, c⟩, D, tys, lo, Q⟩ := X
  intro ls H locs hl hP hD hS
  exact lv_ishr ok.1 ok.2.1 hd (kk ls H locs hl hP hD hS)
theorem mr_iushr {X : mx_C} {Z : mx_Z} {own : String} {cc : ByteArray} {nL : Nat} {rm : Room} {n : Nat × Nat} {pc : Nat} {lv : List (Nat × Value)} {st : List Value} {ws : va_W} (ok : mx_ok X Z own cc nL rm) {x y : Int32} (hd : decode cc pc = .ok (.iushr, 1)) (kk : mx X n (pc + 1) lv (.int ((x.toUInt32 >>> (y.toUInt32 &&& Int32.toUInt32 31)).toInt32) :: st) ws) : mx X n pc lv (.int y :: .int x :: st) ws := by
  obtain ⟨⟨p, l, e, R, s, m, args, below, meth, c⟩, D, tys, lo, Q⟩ := X
  intro ls H locs hl hP hD hS
  exact lv_iushr ok.1 ok.2.1 hd rfl (kk ls H locs hl hP hD hS)
theorem mr_ineg {X : mx_C} {Z : mx_Z} {own : String} {cc : ByteArray} {nL : Nat} {rm : Room} {n : Nat × Nat} {pc : Nat} {lv : List (Nat × Value)} {st : List Value} {ws : va_W} (ok : mx_ok X Z own cc nL rm) {x : Int32} (hd : decode cc pc = .ok (.ineg, 1)) (kk : mx X n (pc + 1) lv (.int (-x) :: st) ws) : mx X n pc lv (.int x :: st) ws := by
  obtain ⟨⟨p, l, e, R, s, m, args, below, meth, c⟩, D, tys, lo, Q⟩ := X
  intro ls H locs hl hP hD hS
  exact lv_ineg ok.1 ok.2.1 hd (kk ls H locs hl hP hD hS)
theorem mr_idiv {X : mx_C} {Z : mx_Z} {own : String} {cc : ByteArray} {nL : Nat} {rm : Room} {n : Nat × Nat} {pc : Nat} {lv : List (Nat × Value)} {st : List Value} {ws : va_W} (ok : mx_ok X Z own cc nL rm) {x y : Int32} (hd : decode cc pc = .ok (.idiv, 1)) (hne : ¬ y = 0) (kk : mx X n (pc + 1) lv (.int (x / y) :: st) ws) : mx X n pc lv (.int y :: .int x :: st) ws := by
  obtain ⟨⟨p, l, e, R, s, m, args, below, meth, c⟩, D, tys, lo, Q⟩ := X
  intro ls H locs hl hP hD hS
  exact lv_idiv ok.1 ok.2.1 hd hne (kk ls H locs hl hP hD hS)
theorem mr_irem {X : mx_C} {Z : mx_Z} {own : String} {cc : ByteArray} {nL : Nat} {rm : Room} {n : Nat × Nat} {pc : Nat} {lv : List (Nat × Value)} {st : List Value} {ws : va_W} (ok : mx_ok X Z own cc nL rm) {x y : Int32} (hd : decode cc pc = .ok (.irem, 1)) (hne : ¬ y = 0) (kk : mx X n (pc + 1) lv (.int (x - x / y * y) :: st) ws) : mx X n pc lv (.int y :: .int x :: st) ws := by
  obtain ⟨⟨p, l, e, R, s, m, args, below, meth, c⟩, D, tys, lo, Q⟩ := X
  intro ls H locs hl hP hD hS
  exact lv_irem ok.1 ok.2.1 hd hne (kk ls H locs hl hP hD hS)
theorem mr_if_eq {X : mx_C} {Z : mx_Z} {own : String} {cc : ByteArray} {nL : Nat} {rm : Room} {n : Nat × Nat} {pc : Nat} {lv : List (Nat × Value)} {st : List Value} {ws : va_W} (ok : mx_ok X Z own cc nL rm) {x : Int32} {off : Int} (tgt : Nat) (hd : decode cc pc = .ok (.ifCond .eq off, 3)) (ht : (pc : Int) + off = (tgt : Int)) (kt : x = 0 → mx X n tgt lv st ws) (kf : ¬ x = 0 → mx X n (pc + 3) lv st ws) : mx X n pc lv (.int x :: st) ws := by
  obtain ⟨⟨p, l, e, R, s, m, args, below, meth, c⟩, D, tys, lo, Q⟩ := X
  intro ls H locs hl hP hD hS
  exact lv_if_eq ok.1 ok.2.1 hd ht (fun h => kt h ls H locs hl hP hD hS) (fun h => kf h ls H locs hl hP hD hS)
theorem mr_if_ne {X : mx_C} {Z : mx_Z} {own : String} {cc : ByteArray} {nL : Nat} {rm : Room} {n : Nat × Nat} {pc : Nat} {lv : List (Nat × Value)} {st : List Value} {ws : va_W} (ok : mx_ok X Z own cc nL rm) {x : Int32} {off : Int} (tgt : Nat) (hd : decode cc pc = .ok (.ifCond .ne off, 3)) (ht : (pc : Int) + off = (tgt : Int)) (kt : ¬ x = 0 → mx X n tgt lv st ws) (kf : x = 0 → mx X n (pc + 3) lv st ws) : mx X n pc lv (.int x :: st) ws := by
  obtain ⟨⟨p, l, e, R, s, m, args, below, meth, c⟩, D, tys, lo, Q⟩ := X
  intro ls H locs hl hP hD hS
  exact lv_if_ne ok.1 ok.2.1 hd ht (fun h => kt h ls H locs hl hP hD hS) (fun h => kf h ls H locs hl hP hD hS)
theorem mr_if_lt {X : mx_C} {Z : mx_Z} {own : String} {cc : ByteArray} {nL : Nat} {rm : Room} {n : Nat × Nat} {pc : Nat} {lv : List (Nat × Value)} {st : List Value} {ws : va_W} (ok : mx_ok X Z own cc nL rm) {x : Int32} {off : Int} (tgt : Nat) (hd : decode cc pc = .ok (.ifCond .lt off, 3)) (ht : (pc : Int) + off = (tgt : Int)) (kt : x < 0 → mx X n tgt lv st ws) (kf : ¬ x < 0 → mx X n (pc + 3) lv st ws) : mx X n pc lv (.int x :: st) ws := by
  obtain ⟨⟨p, l, e, R, s, m, args, below, meth, c⟩, D, tys, lo, Q⟩ := X
  intro ls H locs hl hP hD hS
  exact lv_if_lt ok.1 ok.2.1 hd ht (fun h => kt h ls H locs hl hP hD hS) (fun h => kf h ls H locs hl hP hD hS)
theorem mr_if_ge {X : mx_C} {Z : mx_Z} {own : String} {cc : ByteArray} {nL : Nat} {rm : Room} {n : Nat × Nat} {pc : Nat} {lv : List (Nat × Value)} {st : List Value} {ws : va_W} (ok : mx_ok X Z own cc nL rm) {x : Int32} {off : Int} (tgt : Nat) (hd : decode cc pc = .ok (.ifCond .ge off, 3)) (ht : (pc : Int) + off = (tgt : Int)) (kt : 0 ≤ x → mx X n tgt lv st ws) (kf : ¬ 0 ≤ x → mx X n (pc + 3) lv st ws) : mx X n pc lv (.int x :: st) ws := by
  obtain ⟨⟨p, l, e, R, s, m, args, below, meth, c⟩, D, tys, lo, Q⟩ := X
  intro ls H locs hl hP hD hS
  exact lv_if_ge ok.1 ok.2.1 hd ht (fun h => kt h ls H locs hl hP hD hS) (fun h => kf h ls H locs hl hP hD hS)
theorem mr_if_gt {X : mx_C} {Z : mx_Z} {own : String} {cc : ByteArray} {nL : Nat} {rm : Room} {n : Nat × Nat} {pc : Nat} {lv : List (Nat × Value)} {st : List Value} {ws : va_W} (ok : mx_ok X Z own cc nL rm) {x : Int32} {off : Int} (tgt : Nat) (hd : decode cc pc = .ok (.ifCond .gt off, 3)) (ht : (pc : Int) + off = (tgt : Int)) (kt : 0 < x → mx X n tgt lv st ws) (kf : ¬ 0 < x → mx X n (pc + 3) lv st ws) : mx X n pc lv (.int x :: st) ws := by
  obtain ⟨⟨p, l, e, R, s, m, args, below, meth, c⟩, D, tys, lo, Q⟩ := X
  intro ls H locs hl hP hD hS
  exact lv_if_gt ok.1 ok.2.1 hd ht (fun h => kt h ls H locs hl hP hD hS) (fun h => kf h ls H locs hl hP hD hS)
theorem mr_if_le {X : mx_C} {Z : mx_Z} {own : String} {cc : ByteArray} {nL : Nat} {rm : Room} {n : Nat × Nat} {pc : Nat} {lv : List (Nat × Value)} {st : List Value} {ws : va_W} (ok : mx_ok X Z own cc nL rm) {x : Int32} {off : Int} (tgt : Nat) (hd : decode cc pc = .ok (.ifCond .le off, 3)) (ht : (pc : Int) + off = (tgt : Int)) (kt : x ≤ 0 → mx X n tgt lv st ws) (kf : ¬ x ≤ 0 → mx X n (pc + 3) lv st ws) : mx X n pc lv (.int x :: st) ws := by
  obtain ⟨⟨p, l, e, R, s, m, args, below, meth, c⟩, D, tys, lo, Q⟩ := X
  intro ls H locs hl hP hD hS
  exact lv_if_le ok.1 ok.2.1 hd ht (fun h => kt h ls H locs hl hP hD hS) (fun h => kf h ls H locs hl hP hD hS)
theorem mr_icmp_eq {X : mx_C} {Z : mx_Z} {own : String} {cc : ByteArray} {nL : Nat} {rm : Room} {n : Nat × Nat} {pc : Nat} {lv : List (Nat × Value)} {st : List Value} {ws : va_W} (ok : mx_ok X Z own cc nL rm) {x y : Int32} {off : Int} (tgt : Nat) (hd : decode cc pc = .ok (.if_icmp .eq off, 3)) (ht : (pc : Int) + off = (tgt : Int)) (kt : x = y → mx X n tgt lv st ws) (kf : ¬ x = y → mx X n (pc + 3) lv st ws) : mx X n pc lv (.int y :: .int x :: st) ws := by
  obtain ⟨⟨p, l, e, R, s, m, args, below, meth, c⟩, D, tys, lo, Q⟩ := X
  intro ls H locs hl hP hD hS
  exact lv_icmp_eq ok.1 ok.2.1 hd ht (fun h => kt h ls H locs hl hP hD hS) (fun h => kf h ls H locs hl hP hD hS)
theorem mr_icmp_ne {X : mx_C} {Z : mx_Z} {own : String} {cc : ByteArray} {nL : Nat} {rm : Room} {n : Nat × Nat} {pc : Nat} {lv : List (Nat × Value)} {st : List Value} {ws : va_W} (ok : mx_ok X Z own cc nL rm) {x y : Int32} {off : Int} (tgt : Nat) (hd : decode cc pc = .ok (.if_icmp .ne off, 3)) (ht : (pc : Int) + off = (tgt : Int)) (kt : ¬ x = y → mx X n tgt lv st ws) (kf : x = y → mx X n (pc + 3) lv st ws) : mx X n pc lv (.int y :: .int x :: st) ws := by
  obtain ⟨⟨p, l, e, R, s, m, args, below, meth, c⟩, D, tys, lo, Q⟩ := X
  intro ls H locs hl hP hD hS
  exact lv_icmp_ne ok.1 ok.2.1 hd ht (fun h => kt h ls H locs hl hP hD hS) (fun h => kf h ls H locs hl hP hD hS)
theorem mr_icmp_lt {X : mx_C} {Z : mx_Z} {own : String} {cc : ByteArray} {nL : Nat} {rm : Room} {n : Nat × Nat} {pc : Nat} {lv : List (Nat × Value)} {st : List Value} {ws : va_W} (ok : mx_ok X Z own cc nL rm) {x y : Int32} {off : Int} (tgt : Nat) (hd : decode cc pc = .ok (.if_icmp .lt off, 3)) (ht : (pc : Int) + off = (tgt : Int)) (kt : x < y → mx X n tgt lv st ws) (kf : ¬ x < y → mx X n (pc + 3) lv st ws) : mx X n pc lv (.int y :: .int x :: st) ws := by
  obtain ⟨⟨p, l, e, R, s, m, args, below, meth, c⟩, D, tys, lo, Q⟩ := X
  intro ls H locs hl hP hD hS
  exact lv_icmp_lt ok.1 ok.2.1 hd ht (fun h => kt h ls H locs hl hP hD hS) (fun h => kf h ls H locs hl hP hD hS)
theorem mr_icmp_ge {X : mx_C} {Z : mx_Z} {own : String} {cc : ByteArray} {nL : Nat} {rm : Room} {n : Nat × Nat} {pc : Nat} {lv : List (Nat × Value)} {st : List Value} {ws : va_W} (ok : mx_ok X Z own cc nL rm) {x y : Int32} {off : Int} (tgt : Nat) (hd : decode cc pc = .ok (.if_icmp .ge off, 3)) (ht : (pc : Int) + off = (tgt : Int)) (kt : y ≤ x → mx X n tgt lv st ws) (kf : ¬ y ≤ x → mx X n (pc + 3) lv st ws) : mx X n pc lv (.int y :: .int x :: st) ws := by
  obtain ⟨⟨p, l, e, R, s, m, args, below, meth, c⟩, D, tys, lo, Q⟩ := X
  intro ls H locs hl hP hD hS
  exact lv_icmp_ge ok.1 ok.2.1 hd ht (fun h => kt h ls H locs hl hP hD hS) (fun h => kf h ls H locs hl hP hD hS)
theorem mr_icmp_gt {X : mx_C} {Z : mx_Z} {own : String} {cc : ByteArray} {nL : Nat} {rm : Room} {n : Nat × Nat} {pc : Nat} {lv : List (Nat × Value)} {st : List Value} {ws : va_W} (ok : mx_ok X Z own cc nL rm) {x y : Int32} {off : Int} (tgt : Nat) (hd : decode cc pc = .ok (.if_icmp .gt off, 3)) (ht : (pc : Int) + off = (tgt : Int)) (kt : y < x → mx X n tgt lv st ws) (kf : ¬ y < x → mx X n (pc + 3) lv st ws) : mx X n pc lv (.int y :: .int x :: st) ws := by
  obtain ⟨⟨p, l, e, R, s, m, args, below, meth, c⟩, D, tys, lo, Q⟩ := X
  intro ls H locs hl hP hD hS
  exact lv_icmp_gt ok.1 ok.2.1 hd ht (fun h => kt h ls H locs hl hP hD hS) (fun h => kf h ls H locs hl hP hD hS)
theorem mr_icmp_le {X : mx_C} {Z : mx_Z} {own : String} {cc : ByteArray} {nL : Nat} {rm : Room} {n : Nat × Nat} {pc : Nat} {lv : List (Nat × Value)} {st : List Value} {ws : va_W} (ok : mx_ok X Z own cc nL rm) {x y : Int32} {off : Int} (tgt : Nat) (hd : decode cc pc = .ok (.if_icmp .le off, 3)) (ht : (pc : Int) + off = (tgt : Int)) (kt : x ≤ y → mx X n tgt lv st ws) (kf : ¬ x ≤ y → mx X n (pc + 3) lv st ws) : mx X n pc lv (.int y :: .int x :: st) ws := by
  obtain ⟨⟨p, l, e, R, s, m, args, below, meth, c⟩, D, tys, lo, Q⟩ := X
  intro ls H locs hl hP hD hS
  exact lv_icmp_le ok.1 ok.2.1 hd ht (fun h => kt h ls H locs hl hP hD hS) (fun h => kf h ls H locs hl hP hD hS)
theorem mr_goto {X : mx_C} {Z : mx_Z} {own : String} {cc : ByteArray} {nL : Nat} {rm : Room} {n : Nat × Nat} {pc : Nat} {lv : List (Nat × Value)} {st : List Value} {ws : va_W} (ok : mx_ok X Z own cc nL rm) {off : Int} (tgt : Nat) (hd : decode cc pc = .ok (.goto off, 3)) (ht : (pc : Int) + off = (tgt : Int)) (kk : mx X n tgt lv st ws) : mx X n pc lv st ws := by
  obtain ⟨⟨p, l, e, R, s, m, args, below, meth, c⟩, D, tys, lo, Q⟩ := X
  intro ls H locs hl hP hD hS
  exact lv_goto ok.1 ok.2.1 hd ht (kk ls H locs hl hP hD hS)
theorem mr_ifnull {X : mx_C} {Z : mx_Z} {own : String} {cc : ByteArray} {nL : Nat} {rm : Room} {n : Nat × Nat} {pc : Nat} {lv : List (Nat × Value)} {st : List Value} {ws : va_W} (ok : mx_ok X Z own cc nL rm) {x : Nat} {off : Int} (hd : decode cc pc = .ok (.ifnull off, 3)) (kk : mx X n (pc + 3) lv st ws) : mx X n pc lv (.ref x :: st) ws := by
  obtain ⟨⟨p, l, e, R, s, m, args, below, meth, c⟩, D, tys, lo, Q⟩ := X
  intro ls H locs hl hP hD hS
  exact lv_ifnull ok.1 ok.2.1 hd (kk ls H locs hl hP hD hS)
theorem mr_ifnonnullN {X : mx_C} {Z : mx_Z} {own : String} {cc : ByteArray} {nL : Nat} {rm : Room} {n : Nat × Nat} {pc : Nat} {lv : List (Nat × Value)} {st : List Value} {ws : va_W} (ok : mx_ok X Z own cc nL rm) {off : Int} (hd : decode cc pc = .ok (.ifnonnull off, 3)) (kk : mx X n (pc + 3) lv st ws) : mx X n pc lv (.null :: st) ws := by
  obtain ⟨⟨p, l, e, R, s, m, args, below, meth, c⟩, D, tys, lo, Q⟩ := X
  intro ls H locs hl hP hD hS
  exact lv_ifnonnullN ok.1 ok.2.1 hd (kk ls H locs hl hP hD hS)
theorem mr_ifnonnull {X : mx_C} {Z : mx_Z} {own : String} {cc : ByteArray} {nL : Nat} {rm : Room} {n : Nat × Nat} {pc : Nat} {lv : List (Nat × Value)} {st : List Value} {ws : va_W} (ok : mx_ok X Z own cc nL rm) {x : Nat} {off : Int} (tgt : Nat) (hd : decode cc pc = .ok (.ifnonnull off, 3)) (ht : (pc : Int) + off = (tgt : Int)) (kk : mx X n tgt lv st ws) : mx X n pc lv (.ref x :: st) ws := by
  obtain ⟨⟨p, l, e, R, s, m, args, below, meth, c⟩, D, tys, lo, Q⟩ := X
  intro ls H locs hl hP hD hS
  exact lv_ifnonnull ok.1 ok.2.1 hd ht (kk ls H locs hl hP hD hS)
theorem mr_ifnullN {X : mx_C} {Z : mx_Z} {own : String} {cc : ByteArray} {nL : Nat} {rm : Room} {n : Nat × Nat} {pc : Nat} {lv : List (Nat × Value)} {st : List Value} {ws : va_W} (ok : mx_ok X Z own cc nL rm) {off : Int} (tgt : Nat) (hd : decode cc pc = .ok (.ifnull off, 3)) (ht : (pc : Int) + off = (tgt : Int)) (kk : mx X n tgt lv st ws) : mx X n pc lv (.null :: st) ws := by
  obtain ⟨⟨p, l, e, R, s, m, args, below, meth, c⟩, D, tys, lo, Q⟩ := X
  intro ls H locs hl hP hD hS
  exact lv_ifnullN ok.1 ok.2.1 hd ht (kk ls H locs hl hP hD hS)
theorem mr_null {X : mx_C} {Z : mx_Z} {own : String} {cc : ByteArray} {nL : Nat} {rm : Room} {n : Nat × Nat} {pc : Nat} {lv : List (Nat × Value)} {st : List Value} {ws : va_W} (ok : mx_ok X Z own cc nL rm) (hd : decode cc pc = .ok (.aconst_null, 1)) (kk : mx X n (pc + 1) lv (.null :: st) ws) : mx X n pc lv st ws := by
  obtain ⟨⟨p, l, e, R, s, m, args, below, meth, c⟩, D, tys, lo, Q⟩ := X
  intro ls H locs hl hP hD hS
  exact lv_null ok.1 ok.2.1 hd (kk ls H locs hl hP hD hS)
theorem mr_dup {X : mx_C} {Z : mx_Z} {own : String} {cc : ByteArray} {nL : Nat} {rm : Room} {n : Nat × Nat} {pc : Nat} {lv : List (Nat × Value)} {st : List Value} {ws : va_W} (ok : mx_ok X Z own cc nL rm) {va : Value} (hd : decode cc pc = .ok (.dup, 1)) (hc : va.category = 1) (kk : mx X n (pc + 1) lv (va :: va :: st) ws) : mx X n pc lv (va :: st) ws := by
  obtain ⟨⟨p, l, e, R, s, m, args, below, meth, c⟩, D, tys, lo, Q⟩ := X
  intro ls H locs hl hP hD hS
  exact lv_dup ok.1 ok.2.1 hd hc (kk ls H locs hl hP hD hS)
theorem mr_pop {X : mx_C} {Z : mx_Z} {own : String} {cc : ByteArray} {nL : Nat} {rm : Room} {n : Nat × Nat} {pc : Nat} {lv : List (Nat × Value)} {st : List Value} {ws : va_W} (ok : mx_ok X Z own cc nL rm) {va : Value} (hd : decode cc pc = .ok (.pop, 1)) (hc : va.category = 1) (kk : mx X n (pc + 1) lv st ws) : mx X n pc lv (va :: st) ws := by
  obtain ⟨⟨p, l, e, R, s, m, args, below, meth, c⟩, D, tys, lo, Q⟩ := X
  intro ls H locs hl hP hD hS
  exact lv_pop ok.1 ok.2.1 hd hc (kk ls H locs hl hP hD hS)
theorem mr_dup_x1 {X : mx_C} {Z : mx_Z} {own : String} {cc : ByteArray} {nL : Nat} {rm : Room} {n : Nat × Nat} {pc : Nat} {lv : List (Nat × Value)} {st : List Value} {ws : va_W} (ok : mx_ok X Z own cc nL rm) {va vb : Value} (hd : decode cc pc = .ok (.dup_x1, 1)) (hc : va.category = 1) (hc2 : vb.category = 1) (kk : mx X n (pc + 1) lv (va :: vb :: va :: st) ws) : mx X n pc lv (va :: vb :: st) ws := by
  obtain ⟨⟨p, l, e, R, s, m, args, below, meth, c⟩, D, tys, lo, Q⟩ := X
  intro ls H locs hl hP hD hS
  exact lv_dup_x1 ok.1 ok.2.1 hd hc hc2 (kk ls H locs hl hP hD hS)
theorem mr_dup2 {X : mx_C} {Z : mx_Z} {own : String} {cc : ByteArray} {nL : Nat} {rm : Room} {n : Nat × Nat} {pc : Nat} {lv : List (Nat × Value)} {st : List Value} {ws : va_W} (ok : mx_ok X Z own cc nL rm) {va vb : Value} (hd : decode cc pc = .ok (.dup2, 1)) (hc : va.category = 1) (hc2 : vb.category = 1) (kk : mx X n (pc + 1) lv (va :: vb :: va :: vb :: st) ws) : mx X n pc lv (va :: vb :: st) ws := by
  obtain ⟨⟨p, l, e, R, s, m, args, below, meth, c⟩, D, tys, lo, Q⟩ := X
  intro ls H locs hl hP hD hS
  exact lv_dup2_11 ok.1 ok.2.1 hd hc hc2 (kk ls H locs hl hP hD hS)
theorem mr_lookup {X : mx_C} {Z : mx_Z} {own : String} {cc : ByteArray} {nL : Nat} {rm : Room} {n : Nat × Nat} {pc : Nat} {lv : List (Nat × Value)} {st : List Value} {ws : va_W} (ok : mx_ok X Z own cc nL rm) {dflt : Int} {ps : Array (Int × Int)} {len : Nat} {x : Int32} {off : Int} (tgt : Nat) (hd : decode cc pc = .ok (.lookupswitch dflt ps, len)) (hp : (ps.toList.zip (ps.toList.drop 1)).all (fun (a, next) => a.1 < next.1) = true) (ho : Op.lookupswitch.offset ps.toList dflt x.toInt = off) (ht : (pc : Int) + off = (tgt : Int)) (kk : mx X n tgt lv st ws) : mx X n pc lv (.int x :: st) ws := by
  obtain ⟨⟨p, l, e, R, s, m, args, below, meth, c⟩, D, tys, lo, Q⟩ := X
  intro ls H locs hl hP hD hS
  exact lv_lookup ok.1 ok.2.1 hd hp ho ht (kk ls H locs hl hP hD hS)
theorem mr_tableOut {X : mx_C} {Z : mx_Z} {own : String} {cc : ByteArray} {nL : Nat} {rm : Room} {n : Nat × Nat} {pc : Nat} {lv : List (Nat × Value)} {st : List Value} {ws : va_W} (ok : mx_ok X Z own cc nL rm) {dflt tlo thi : Int} {offs : Array Int} {len : Nat} {x : Int32} (tgt : Nat) (hd : decode cc pc = .ok (.tableswitch dflt tlo thi offs, len)) (h : x.toInt < tlo ∨ thi < x.toInt) (ht : (pc : Int) + dflt = (tgt : Int)) (kk : mx X n tgt lv st ws) : mx X n pc lv (.int x :: st) ws := by
  obtain ⟨⟨p, l, e, R, s, m, args, below, meth, c⟩, D, tys, lo, Q⟩ := X
  intro ls H locs hl hP hD hS
  exact lv_tableOut ok.1 ok.2.1 hd h ht (kk ls H locs hl hP hD hS)
theorem mr_tableIn {X : mx_C} {Z : mx_Z} {own : String} {cc : ByteArray} {nL : Nat} {rm : Room} {n : Nat × Nat} {pc : Nat} {lv : List (Nat × Value)} {st : List Value} {ws : va_W} (ok : mx_ok X Z own cc nL rm) {dflt tlo thi : Int} {offs : Array Int} {len : Nat} {x : Int32} {off : Int} (tgt : Nat) (hd : decode cc pc = .ok (.tableswitch dflt tlo thi offs, len)) (h1 : ¬ x.toInt < tlo) (h2 : ¬ thi < x.toInt) (ho : offs[(x.toInt - tlo).toNat]? = some off) (ht : (pc : Int) + off = (tgt : Int)) (kk : mx X n tgt lv st ws) : mx X n pc lv (.int x :: st) ws := by
  obtain ⟨⟨p, l, e, R, s, m, args, below, meth, c⟩, D, tys, lo, Q⟩ := X
  intro ls H locs hl hP hD hS
  exact lv_tableIn ok.1 ok.2.1 hd h1 h2 ho ht (kk ls H locs hl hP hD hS)
/-- a class's field by a pool index: class number ci in vwCl, field k -/
def mx_fl (own : String) (idx ci k : Nat) : Prop := ∃ (C : String) (T : u_T) (N : Nat), vwCl[ci]? = some (C, T, N) ∧ k < N ∧ Cond.fieldLink own idx (T k).1 (T k).2.1 (T k).2.2.1 ∈ mx_tbl ∧ ∀ w ∈ u_ws C T N, w ∈ mx_tbl
/-- .. that may be written from anywhere in the nest: its type, the class's types and names -/
def mx_fw (own : String) (idx ci k : Nat) (ty : FieldType) : Prop := ∃ (C : String) (T : u_T) (N : Nat) (t0 : Nat → FieldType), vwCl[ci]? = some (C, T, N) ∧ k < N ∧ Cond.fieldLink own idx (T k).1 (T k).2.1 (T k).2.2.1 ∈ mx_tbl ∧ (∀ w ∈ u_ws C T N, w ∈ mx_tbl) ∧ (∀ k, k < N → parseFieldDescriptor (T k).2.2.1 = some (t0 k)) ∧ (∀ a, a < N → ∀ b, b < N → a ≠ b → (T a).2.1 ≠ (T b).2.1) ∧ (T k).2.2.2 = false ∧ parseFieldDescriptor (T k).2.2.1 = some ty
theorem mr_get {X : mx_C} {Z : mx_Z} {own : String} {cc : ByteArray} {nL : Nat} {rm : Room} {n : Nat × Nat} {pc : Nat} {lv : List (Nat × Value)} {st : List Value} {ws : va_W} (ok : mx_ok X Z own cc nL rm) {idx ci k a : Nat} (fl : mx_fl own idx ci k) (q0 : Nat) {fs : List Value} {v : Value} (he : ws[q0]? = some (a, .inr (ci, fs))) (hv : fs[k]? = some v) (hd : decode cc pc = .ok (.getfield idx, 3)) (kk : mx X n (pc + 3) lv (v :: st) ws) : mx X n pc lv (.ref a :: st) ws := by
  obtain ⟨⟨p, l, e, R, s, m, args, below, meth, c⟩, D, tys, lo, Q⟩ := X
  intro ls H locs hl hP hD hS
  obtain ⟨C, T, N, hc, hk, hlk, hin⟩ := fl
  exact va_get ok.1 ok.2.1 ok.2.2.2.2.1 hin ok.2.2.2.1 ok.2.2.2.2.2.1 hP q0 he hc k hk (ok.2.2.2.2.1 _ hlk) (fun _ h9 => h9) hv hd (kk ls H locs hl hP hD hS)
theorem mr_put {X : mx_C} {Z : mx_Z} {own : String} {cc : ByteArray} {nL : Nat} {rm : Room} {n : Nat × Nat} {pc : Nat} {lv : List (Nat × Value)} {st : List Value} {ws : va_W} (ok : mx_ok X Z own cc nL rm) {idx ci k a : Nat} {ty : FieldType} (fl : mx_fw own idx ci k ty) (q0 : Nat) {fs : List Value} {v : Value} (he : ws[q0]? = some (a, .inr (ci, fs))) (hl0 : k < fs.length) (hn : narrow ty v = v) (hf : fits ty v = true) (hd : decode cc pc = .ok (.putfield idx, 3)) (kk : mx X n (pc + 3) lv st (ws.set q0 (a, .inr (ci, fs.set k v)))) : mx X n pc lv (v :: .ref a :: st) ws := by
  obtain ⟨⟨p, l, e, R, s, m, args, below, meth, c⟩, D, tys, lo, Q⟩ := X
  intro ls H locs hl hP hD hS
  obtain ⟨C, T, N, t0, hc, hk, hlk, hin, hty, hnm, hfin, hde⟩ := fl
  exact va_put ok.1 ok.2.1 ok.2.2.2.2.1 hin t0 hty hnm ok.2.2.2.1 ok.2.2.2.2.2.1 hP hD hS q0 he hc k hk (ok.2.2.2.2.1 _ hlk) (fun _ h9 => h9) hfin hde hn hf hl0 hd (fun H1 locs1 hP1 hD1 hS1 => kk ls H1 locs1 hl hP1 hD1 hS1)
theorem mr_iald {X : mx_C} {Z : mx_Z} {own : String} {cc : ByteArray} {nL : Nat} {rm : Room} {n : Nat × Nat} {pc : Nat} {lv : List (Nat × Value)} {st : List Value} {ws : va_W} (ok : mx_ok X Z own cc nL rm) {a : Nat} (q0 t0 : Nat) {cA : ClassId} {N : Nat} {f : Nat → Int32} (he : ws[q0]? = some (a, .inl (cA, N, .inl f))) (ht : Z.2.2[t0]? = some (cA, .int)) {i : Int32} (hin : vp_in i N) (hd : decode cc pc = .ok (.iaload, 1)) (kk : mx X n (pc + 1) lv (.int (f i.toNatClampNeg) :: st) ws) : mx X n pc lv (.int i :: .ref a :: st) ws := by
  obtain ⟨⟨p, l, e, R, s, m, args, below, meth, c⟩, D, tys, lo, Q⟩ := X
  intro ls H locs hl hP hD hS
  have hZ := ok.2.2.2.2.2.2.2.2
  subst hZ
  exact va_iald ok.1 ok.2.1 ok.2.2.2.2.2.1 hP q0 t0 he ht hin hd (kk ls H locs hl hP hD hS)
theorem mr_iast {X : mx_C} {Z : mx_Z} {own : String} {cc : ByteArray} {nL : Nat} {rm : Room} {n : Nat × Nat} {pc : Nat} {lv : List (Nat × Value)} {st : List Value} {ws : va_W} (ok : mx_ok X Z own cc nL rm) {a : Nat} (q0 t0 : Nat) {cA : ClassId} {N : Nat} {f : Nat → Int32} (he : ws[q0]? = some (a, .inl (cA, N, .inl f))) (ht : Z.2.2[t0]? = some (cA, .int)) {i x : Int32} (hin : vp_in i N) (hd : decode cc pc = .ok (.iastore, 1)) (kk : mx X n (pc + 1) lv st (ws.set q0 (a, .inl (cA, N, .inl (upd f i.toNatClampNeg x))))) : mx X n pc lv (.int x :: .int i :: .ref a :: st) ws := by
  obtain ⟨⟨p, l, e, R, s, m, args, below, meth, c⟩, D, tys, lo, Q⟩ := X
  intro ls H locs hl hP hD hS
  have hZ := ok.2.2.2.2.2.2.2.2
  subst hZ
  exact va_iast ok.1 ok.2.1 ok.2.2.2.2.2.1 hP hD hS q0 t0 he ht hin hd (fun H1 locs1 hP1 hD1 hS1 => kk ls H1 locs1 hl hP1 hD1 hS1)
theorem mr_aald {X : mx_C} {Z : mx_Z} {own : String} {cc : ByteArray} {nL : Nat} {rm : Room} {n : Nat × Nat} {pc : Nat} {lv : List (Nat × Value)} {st : List Value} {ws : va_W} (ok : mx_ok X Z own cc nL rm) {a : Nat} (q0 t0 : Nat) {cA : ClassId} {C : String} {N : Nat} {f : Nat → Option Nat} (he : ws[q0]? = some (a, .inl (cA, N, .inr (.inr (.inr (.inr f)))))) (ht : Z.2.2[t0]? = some (cA, .object C)) {i : Int32} (hin : vp_in i N) (hd : decode cc pc = .ok (.aaload, 1)) (kk : mx X n (pc + 1) lv (va_rf (f i.toNatClampNeg) :: st) ws) : mx X n pc lv (.int i :: .ref a :: st) ws := by
  obtain ⟨⟨p, l, e, R, s, m, args, below, meth, c⟩, D, tys, lo, Q⟩ := X
  intro ls H locs hl hP hD hS
  have hZ := ok.2.2.2.2.2.2.2.2
  subst hZ
  exact va_aldq ok.1 ok.2.1 ok.2.2.2.2.2.1 hP q0 t0 he ht hin hd (kk ls H locs hl hP hD hS)
theorem mr_alen {X : mx_C} {Z : mx_Z} {own : String} {cc : ByteArray} {nL : Nat} {rm : Room} {n : Nat × Nat} {pc : Nat} {lv : List (Nat × Value)} {st : List Value} {ws : va_W} (ok : mx_ok X Z own cc nL rm) {a : Nat} (q0 t0 : Nat) {cA : ClassId} {x : vp_A} (he : ws[q0]? = some (a, .inl (cA, x))) {ty : FieldType} (ht : Z.2.2[t0]? = some (cA, ty)) (v : Int32) (hv : Int32.ofNat x.1 = v) (hd : decode cc pc = .ok (.arraylength, 1)) (kk : mx X n (pc + 1) lv (.int v :: st) ws) : mx X n pc lv (.ref a :: st) ws := by
  obtain ⟨⟨p, l, e, R, s, m, args, below, meth, c⟩, D, tys, lo, Q⟩ := X
  intro ls H locs hl hP hD hS
  have hZ := ok.2.2.2.2.2.2.2.2
  subst hZ
  exact va_alen ok.1 ok.2.1 ok.2.2.2.2.2.1 hP q0 t0 he ht hv hd (kk ls H locs hl hP hD hS)
theorem mr_new {X : mx_C} {Z : mx_Z} {own : String} {cc : ByteArray} {nL : Nat} {rm : Room} {n : Nat × Nat} {pc : Nat} {lv : List (Nat × Value)} {st : List Value} {ws : va_W} (ok : mx_ok X Z own cc nL rm) {idx ci : Nat} {C : String} {T : u_T} {N : Nat} (hc : vwCl[ci]? = some (C, T, N)) (hin : ∀ w ∈ u_ws C T N, w ∈ mx_tbl) (ty : Nat → FieldType) (hty : ∀ k, k < N → parseFieldDescriptor (T k).2.2.1 = some (ty k)) (hcl : Cond.classLink own idx C ∈ mx_tbl) (hinst : Cond.instantiable C N ∈ mx_tbl) (hini : Cond.initialized C ∈ mx_tbl) (fs : List Value) (hfs : ∀ j, j < N → defaultValue (ty j) = vp_V fs j) (h1 : n.1 + 1 ≤ rm.cells) (h2 : n.2 + N ≤ rm.slots) (hd : decode cc pc = .ok (.new idx, 3))
    (kk : ∀ q : Nat, mx X (n.1 + 1, n.2 + N) (pc + 3) lv (.ref q :: st) (ws ++ [(q, .inr (ci, fs))])) : mx X n pc lv st ws := by
  obtain ⟨⟨p, l, e, R, s, m, args, below, meth, c⟩, D, tys, lo, Q⟩ := X
  intro ls H locs hl hP hD hS
  have hR := ok.2.2.2.2.2.2.2.1
  exact va_new ok.1 ok.2.1 ok.2.2.2.2.1 hin ty hty ok.2.2.2.1 (ok.2.2.2.2.1 _ hcl) (ok.2.2.2.2.1 _ hinst) (ok.2.2.2.2.1 _ hini) ok.2.2.2.2.2.1 hP hD hS (fun q h => Nat.le_trans ok.2.2.2.2.2.2.1 h) hc hfs (by rw [hR]; exact h1) (by rw [hR]; exact h2) hd (fun q H1 hP1 hD1 hS1 => kk q ls H1 locs hl hP1 hD1 hS1)
theorem mr_newa {X : mx_C} {Z : mx_Z} {own : String} {cc : ByteArray} {nL : Nat} {rm : Room} {n : Nat × Nat} {pc : Nat} {lv : List (Nat × Value)} {st : List Value} {ws : va_W} (ok : mx_ok X Z own cc nL rm) {x : Int32} (N : Nat) (t0 : Nat) {cA : ClassId} (ht : Z.2.2[t0]? = some (cA, .int)) (harr : Cond.arrayClass .int ∈ mx_tbl) (hx : ¬ x < 0) (hN : x.toNatClampNeg = N) (hb : N * 4 ≤ 536870912) (h1 : n.1 + 1 ≤ rm.cells) (h2 : n.2 + N ≤ rm.slots) {at_ : ArrayType} (hat : newarray.typeOf at_ = .int) (hd : decode cc pc = .ok (.newarray at_, 2))
    (kk : ∀ q : Nat, mx X (n.1 + 1, n.2 + N) (pc + 2) lv (.ref q :: st) (ws ++ [(q, .inl (cA, N, .inl (fun _ => 0)))])) : mx X n pc lv (.int x :: st) ws := by
  obtain ⟨⟨p, l, e, R, s, m, args, below, meth, c⟩, D, tys, lo, Q⟩ := X
  intro ls H locs hl hP hD hS
  have hR := ok.2.2.2.2.2.2.2.1
  have hZ := ok.2.2.2.2.2.2.2.2
  subst hZ
  refine va_newa (ty := .int) (N' := N) (a0 := (N, .inl (fun _ => 0))) ok.1 ok.2.1 (by rw [hat]; exact ok.2.2.2.2.1 _ harr) hat ok.2.2.2.2.2.1 hP hD hS (fun q h => Nat.le_trans ok.2.2.2.2.2.2.1 h) (fun cA => rfl) hx hN hb (by rw [hR]; exact h1) (by rw [hR]; exact h2) hd (fun q cB H1 hK1 hP1 hD1 hS1 => ?_)
  have e1 := (ok.2.2.2.2.2.1.2 t0 _ ht).2
  have e2 := (hK1.2 tys.length (cB, .int) (by simp)).2
  have e3 : cA = cB := Option.some.inj (Eq.trans (Eq.symm e1) e2)
  subst e3
  exact kk q ls H1 locs hl hP1 hD1 hS1
theorem mr_anewa {X : mx_C} {Z : mx_Z} {own : String} {cc : ByteArray} {nL : Nat} {rm : Room} {n : Nat × Nat} {pc : Nat} {lv : List (Nat × Value)} {st : List Value} {ws : va_W} (ok : mx_ok X Z own cc nL rm) {x : Int32} (N : Nat) {C : String} {idx : Nat} (t0 : Nat) {cA : ClassId} (ht : Z.2.2[t0]? = some (cA, .object C)) (hclk : Cond.classLink own idx C ∈ mx_tbl) (hover : Cond.arrayOver (.object C) ∈ mx_tbl) (hx : ¬ x < 0) (hN : x.toNatClampNeg = N) (hb : N * 4 ≤ 536870912) (h1 : n.1 + 1 ≤ rm.cells) (h2 : n.2 + N ≤ rm.slots) (hd : decode cc pc = .ok (.anewarray idx, 3))
    (kk : ∀ q : Nat, mx X (n.1 + 1, n.2 + N) (pc + 3) lv (.ref q :: st) (ws ++ [(q, .inl (cA, N, .inr (.inr (.inr (.inr (fun _ => none))))))])) : mx X n pc lv (.int x :: st) ws := by
  obtain ⟨⟨p, l, e, R, s, m, args, below, meth, c⟩, D, tys, lo, Q⟩ := X
  intro ls H locs hl hP hD hS
  have hR := ok.2.2.2.2.2.2.2.1
  have hZ := ok.2.2.2.2.2.2.2.2
  subst hZ
  refine va_newq (N' := N) ok.1 ok.2.1 ok.2.2.2.1 (ok.2.2.2.2.1 _ hclk) (va_AO.of (ok.2.2.2.2.1 _ hover)) ok.2.2.2.2.2.1 hP hD hS (fun q h => Nat.le_trans ok.2.2.2.2.2.2.1 h) hx hN hb (by rw [hR]; exact h1) (by rw [hR]; exact h2) hd (fun q cB H1 hK1 hP1 hD1 hS1 => ?_)
  have e1 := (ok.2.2.2.2.2.1.2 t0 _ ht).2
  have e2 := (hK1.2 tys.length (cB, .object C) (by simp)).2
  obtain ⟨_, _, _, _, _, e1⟩ := e1
  obtain ⟨_, _, _, _, _, e2⟩ := e2
  have e3 : cA = cB := Option.some.inj (Eq.trans (Eq.symm e1) e2)
  subst e3
  exact kk q ls H1 locs hl hP1 hD1 hS1
theorem mr_aast {X : mx_C} {Z : mx_Z} {own : String} {cc : ByteArray} {nL : Nat} {rm : Room} {n : Nat × Nat} {pc : Nat} {lv : List (Nat × Value)} {st : List Value} {ws : va_W} (ok : mx_ok X Z own cc nL rm) {a v : Nat} (q0 t0 qk ci : Nat) {cA : ClassId} {r : vw_C} {N : Nat} {vs : List Value} {f : Nat → Option Nat} (he : ws[q0]? = some (a, .inl (cA, N, .inr (.inr (.inr (.inr f)))))) (ht : Z.2.2[t0]? = some (cA, .object r.1)) (hv : ws[qk]? = some (v, .inr (ci, vs))) (hc : vwCl[ci]? = some r) {i : Int32} (hin : vp_in i N) (hd : decode cc pc = .ok (.aastore, 1)) (kk : mx X n (pc + 1) lv st (ws.set q0 (a, .inl (cA, N, .inr (.inr (.inr (.inr (va_up f i.toNatClampNeg (some v))))))))) : mx X n pc lv (.ref v :: .int i :: .ref a :: st) ws := by
  obtain ⟨⟨p, l, e, R, s, m, args, below, meth, c⟩, D, tys, lo, Q⟩ := X
  intro ls H locs hl hP hD hS
  have hZ := ok.2.2.2.2.2.2.2.2
  subst hZ
  exact va_astq ok.1 ok.2.1 ok.2.2.2.2.2.1 hP hD hS q0 t0 qk ci he ht hv hc hin hd (fun H1 locs1 hP1 hD1 hS1 => kk ls H1 locs1 hl hP1 hD1 hS1)
theorem mr_copy {X : mx_C} {Z : mx_Z} {own : String} {cc : ByteArray} {nL : Nat} {rm : Room} {n : Nat × Nat} {pc : Nat} {lv : List (Nat × Value)} {st : List Value} {ws : va_W} (ok : mx_ok X Z own cc nL rm) {idx : Nat} (hlk : Cond.methodLink own idx arraycopyName ∈ mx_tbl) (hnat : Cond.native arraycopyName ∈ mx_tbl) (hst : Cond.static arraycopyName ∈ mx_tbl) (hini : Cond.initialized "java/lang/System" ∈ mx_tbl) {a a0 : Nat} (q0 q1 t0 t1 : Nat) {c0 c1 : ClassId} {n0 n1 : Nat} {f g : Nat → Int32} (ha0 : ws[q0]? = some (a0, .inl (c0, n0, .inl f))) (ha1 : ws[q1]? = some (a, .inl (c1, n1, .inl g))) (ht0 : Z.2.2[t0]? = some (c0, .int)) (ht1 : Z.2.2[t1]? = some (c1, .int)) {sp dp k : Int32} (h1 : ¬ sp < 0) (h2 : ¬ dp < 0) (h3 : ¬ k < 0) (h4 : sp.toNatClampNeg + k.toNatClampNeg ≤ n0) (h5 : dp.toNatClampNeg + k.toNatClampNeg ≤ n1) (hf : 1 ≤ rm.frames) (hlo : (st.map fun v => v.category).sum + (nativeFrameWords "java/lang/System" "arraycopy" 5 + 11) ≤ rm.locals) (hd : decode cc pc = .ok (.invokestatic idx, 3))
    (kk : mx X n (pc + 3) lv st (ws.set q1 (a, .inl (c1, n1, .inl (va_cpy f g sp.toNatClampNeg dp.toNatClampNeg k.toNatClampNeg))))) : mx X n pc lv (.int k :: .int dp :: .ref a :: .int sp :: .ref a0 :: st) ws := by
  obtain ⟨⟨p, l, e, R, s, m, args, below, meth, c⟩, D, tys, lo, Q⟩ := X
  intro ls H locs hl hP hD hS
  have hR := ok.2.2.2.2.2.2.2.1
  have hZ := ok.2.2.2.2.2.2.2.2
  subst hZ
  have hw := ok.2.2.2.2.1
  exact va_copyi ok.1 ok.2.1 hl.1.1.symm ok.2.2.2.1 (hw _ hlk) (hw _ hnat) (hw _ hst) (hw _ hini) ok.2.2.2.2.2.1 hP hD hS q0 q1 t0 t1 ha0 ha1 ht0 ht1 rfl h1 h2 h3 h4 h5 (fun _ _ => rfl) (by rw [hR]; exact hf) (by rw [hR]; exact hlo) hd (fun H1 locs1 hP1 hD1 hS1 => kk ls H1 locs1 hl hP1 hD1 hS1)
theorem mr_max {X : mx_C} {Z : mx_Z} {own : String} {cc : ByteArray} {nL : Nat} {rm : Room} {n : Nat × Nat} {pc : Nat} {lv : List (Nat × Value)} {st : List Value} {ws : va_W} (ok : mx_ok X Z own cc nL rm) {idx : Nat} (hlk : Cond.methodLink own idx Lib.Math.max.name ∈ mx_tbl) (hst : Cond.static Lib.Math.max.name ∈ mx_tbl) (hini : Cond.initialized "java/lang/Math" ∈ mx_tbl) (hcd : Cond.code Lib.Math.max.name Lib.Math.max.code 2 (some .int) ∈ mx_tbl) (hf : 1 ≤ rm.frames) (hlo : (st.map fun v => v.category).sum + 13 ≤ rm.locals) (h1 : n.1 ≤ rm.cells) (h2 : n.2 ≤ rm.slots) {x y : Int32} (hd : decode cc pc = .ok (.invokestatic idx, 3)) (kk : mx X n (pc + 3) lv (.int (if x < y then y else x) :: st) ws) : mx X n pc lv (.int y :: .int x :: st) ws := by
  obtain ⟨⟨p, l, e, R, s, m, args, below, meth, c⟩, D, tys, lo, Q⟩ := X
  intro ls H locs hl hP hD hS
  have hR := ok.2.2.2.2.2.2.2.1
  have hw := ok.2.2.2.2.1
  exact va_mmax ok.1 ok.2.1 hl.1.1.symm ok.2.2.2.1 (hw _ hlk) (hw _ hst) (hw _ hini) (hw _ hcd) (by rw [hR]; exact hf) (by rw [hR]; exact hlo) (by rw [hR]; exact h1) (by rw [hR]; exact h2) hd (kk ls H locs hl hP hD hS)
theorem mr_min {X : mx_C} {Z : mx_Z} {own : String} {cc : ByteArray} {nL : Nat} {rm : Room} {n : Nat × Nat} {pc : Nat} {lv : List (Nat × Value)} {st : List Value} {ws : va_W} (ok : mx_ok X Z own cc nL rm) {idx : Nat} (hlk : Cond.methodLink own idx Lib.Math.min.name ∈ mx_tbl) (hst : Cond.static Lib.Math.min.name ∈ mx_tbl) (hini : Cond.initialized "java/lang/Math" ∈ mx_tbl) (hcd : Cond.code Lib.Math.min.name Lib.Math.min.code 2 (some .int) ∈ mx_tbl) (hf : 1 ≤ rm.frames) (hlo : (st.map fun v => v.category).sum + 13 ≤ rm.locals) (h1 : n.1 ≤ rm.cells) (h2 : n.2 ≤ rm.slots) {x y : Int32} (hd : decode cc pc = .ok (.invokestatic idx, 3)) (kk : mx X n (pc + 3) lv (.int (if y < x then y else x) :: st) ws) : mx X n pc lv (.int y :: .int x :: st) ws := by
  obtain ⟨⟨p, l, e, R, s, m, args, below, meth, c⟩, D, tys, lo, Q⟩ := X
  intro ls H locs hl hP hD hS
  have hR := ok.2.2.2.2.2.2.2.1
  have hw := ok.2.2.2.2.1
  exact va_mmin ok.1 ok.2.1 hl.1.1.symm ok.2.2.2.1 (hw _ hlk) (hw _ hst) (hw _ hini) (hw _ hcd) (by rw [hR]; exact hf) (by rw [hR]; exact hlo) (by rw [hR]; exact h1) (by rw [hR]; exact h2) hd (kk ls H locs hl hP hD hS)
theorem mr_objInit {X : mx_C} {Z : mx_Z} {own : String} {cc : ByteArray} {nL : Nat} {rm : Room} {n : Nat × Nat} {pc : Nat} {lv : List (Nat × Value)} {st : List Value} {ws : va_W} (ok : mx_ok X Z own cc nL rm) {idx : Nat} {a : Nat} (hlk : Cond.methodLink own idx objectInit ∈ mx_tbl) (hin : Cond.instanceMethod objectInit ∈ mx_tbl) (hcd : Cond.code objectInit ⟨#[0xb1]⟩ 1 none ∈ mx_tbl) (hf : 1 ≤ rm.frames) (hlo : 2 * 0 + (st.map fun v => v.category).sum + 12 ≤ rm.locals) (hd : decode cc pc = .ok (.invokespecial idx, 3)) (kk : mx X n (pc + 3) lv st ws) : mx X n pc lv (.ref a :: st) ws := by
  obtain ⟨⟨p, l, e, R, s, m, args, below, meth, c⟩, D, tys, lo, Q⟩ := X
  intro ls H locs hl hP hD hS
  have hR := ok.2.2.2.2.2.2.2.1
  have hw := ok.2.2.2.2.1
  exact W.objInit ok.1 ok.2.1 ok.2.2.2.1 (hw _ hlk) (hw _ hin) (hw _ hcd) rfl hl.1.1 rfl hd (by rw [hR]; exact hf) (by rw [hR]; exact hlo) (kk ls H locs hl hP hD hS)
def mx_fF (own : String) (idx ci k : Nat) (ty : FieldType) : Prop := ∃ (C : String) (T : u_T) (N : Nat) (t0 : Nat → FieldType), vwCl[ci]? = some (C, T, N) ∧ k < N ∧ Cond.fieldLink own idx (T k).1 (T k).2.1 (T k).2.2.1 ∈ mx_tbl ∧ (∀ w ∈ u_ws C T N, w ∈ mx_tbl) ∧ (∀ k, k < N → parseFieldDescriptor (T k).2.2.1 = some (t0 k)) ∧ (∀ a, a < N → ∀ b, b < N → a ≠ b → (T a).2.1 ≠ (T b).2.1) ∧ (T k).2.2.2 = true ∧ parseFieldDescriptor (T k).2.2.1 = some ty ∧ (T k).1 = own
def mx_nm (X : mx_C) (nm : String) : Prop := match X with
  | ((_, _, _, _, _, _, _, _, meth, _), _, _, _, _) => meth.name = nm
theorem mr_putF {X : mx_C} {Z : mx_Z} {own : String} {cc : ByteArray} {nL : Nat} {rm : Room} {n : Nat × Nat} {pc : Nat} {lv : List (Nat × Value)} {st : List Value} {ws : va_W} (ok : mx_ok X Z own cc nL rm) {idx ci k a : Nat} {ty : FieldType} (hnm : mx_nm X "<init>") (fl : mx_fF own idx ci k ty) (q0 : Nat) {fs : List Value} {v : Value} (he : ws[q0]? = some (a, .inr (ci, fs))) (hl0 : k < fs.length) (hn : narrow ty v = v) (hf : fits ty v = true) (hd : decode cc pc = .ok (.putfield idx, 3)) (kk : mx X n (pc + 3) lv st (ws.set q0 (a, .inr (ci, fs.set k v)))) : mx X n pc lv (v :: .ref a :: st) ws := by
  obtain ⟨⟨p, l, e, R, s, m, args, below, meth, c⟩, D, tys, lo, Q⟩ := X
  intro ls H locs hl hP hD hS
  obtain ⟨C, T, N, t0, hc, hk, hlk, hin, hty, hna, hfin, hde, hdc⟩ := fl
  exact va_putF ok.1 ok.2.1 ok.2.2.2.2.1 hin t0 hty hna ok.2.2.2.1 ok.2.2.2.2.2.1 hP hD hS q0 he hc k hk (ok.2.2.2.2.1 _ hlk) (fun _ h9 => h9) hfin hnm hdc hde hn hf hl0 hd (fun H1 locs1 hP1 hD1 hS1 => kk ls H1 locs1 hl hP1 hD1 hS1)
/-- the world of a state, the end of a method, a contract -/
def mx_wd (D : va_G) (tys : List (ClassId × FieldType)) (lo : Nat) (ws : va_W) (U : State) : Prop := lo ≤ U.heap.size ∧ va_P D vwCl ws U.heap ∧ va_D (fun q => lo ≤ q) ws ∧ va_K D vwCl tys U
def mx_qc (D : va_G) (tys : List (ClassId × FieldType)) (lo : Nat) (Qp : Option Value → va_W → Prop) : Array Value → State → Outcome → State → Prop := fun _ st o t => (∃ (v : Option Value) (ws' : va_W), o = .returned v ∧ Qp v ws' ∧ mx_wd D tys lo ws' t) ∧ va_F (fun q => lo ≤ q) st t
def mx_ct (Z : mx_Z) (y : MethodName) (b : ByteArray) (maxL : Nat) (ret : Option FieldType) (rm : Room) (av : List Value) (ws : va_W) (Qp : Option Value → va_W → Prop) : Prop :=
  ∀ lo : Nat, Met Z.1 y (Cond.code y b maxL ret :: mx_tbl) rm (va_Pc av (mx_wd Z.2.1 Z.2.2 lo ws)) (mx_qc Z.2.1 Z.2.2 lo Qp) rm.cells rm.slots (fun q => lo ≤ q)
def mx_end (X : mx_C) (ret : Option FieldType) (rm : Room) (Qp : Option Value → va_W → Prop) : Prop := match X with
  | ((_, _, _, _, s, _, args, below, meth, _), D, tys, lo, Q) => meth.sig.returnType = ret ∧ meth.locks = false ∧ Q = MQ below (mx_qc D tys lo Qp) args s rm.cells rm.slots (fun q => lo ≤ q)
theorem lv_args_mem : ∀ (av : List Value) (i : Nat) (q : Nat × Value), q ∈ lv_args i av → q.2 ∈ av
  | [], i, q, h => by simp [lv_args] at h
  | v :: vs, i, q, h => by
    unfold lv_args at h
    rcases List.mem_cons.mp h with h | h
    · rw [h]; exact List.mem_cons_self
    · exact List.mem_cons_of_mem _ (lv_args_mem vs _ q h)
theorem ct_of {Z : mx_Z} {y : MethodName} {b : ByteArray} {maxL : Nat} {ret : Option FieldType} {rm : Room} {av : List Value} {ws : va_W} {Qp : Option Value → va_W → Prop} (hy : plainName y.cls = true) (hlen : (lg_sl av).length ≤ maxL) (hcat : ∀ v ∈ av, v.category = 1)
    (body : ∀ X : mx_C, mx_ok X Z y.cls b maxL rm → mx_end X ret rm Qp → mx_nm X y.name → mx X (0, 0) 0 (lv_args 0 av) [] ws) : mx_ct Z y b maxL ret rm av ws Qp := by
  intro lo
  obtain ⟨l, D, tys⟩ := Z
  refine Met.ofW (cc := b) (maxL := maxL) (ret := ret) hy rfl ?_
  intro p e s m args below meth c s₁ B hml hv
  obtain ⟨rfl, hlo, hP, hD, hK⟩ := hv
  have hts := atoms_spec (ws := Cond.code y b maxL ret :: mx_tbl) B.pre
  have hown : s.vm.findClass y.cls = some m.cls := findClass_of_methodNamed B.named
  have hl := lv_entry av (n := maxL) hlen
  rw [lg_entry_eq]
  refine body ((p, l, e, rm, s, m, av.toArray, below, meth, c), D, tys, lo, MQ below (mx_qc D tys lo Qp) av.toArray s rm.cells rm.slots (fun q => lo ≤ q)) ⟨B.exec, B.bytes, hml, hown, fun w h => hts w (List.mem_cons_of_mem _ h), hK, hlo, rfl, rfl⟩ ⟨B.returns, B.notSynchronized, rfl⟩ (name_of_methodNamed B.named B.method).1 _ s.heap [] ?_ hP hD va_S.rf
  rw [hml]
  exact ⟨⟨hl.1, hl.2.1, fun q hq => hl.2.2 q (mem_of_nz _ _ hq)⟩, fun q hq => hcat _ (lv_args_mem _ _ _ (mem_of_nz _ _ hq))⟩
theorem mr_iret {X : mx_C} {Z : mx_Z} {own : String} {cc : ByteArray} {nL : Nat} {rm : Room} {n : Nat × Nat} {pc : Nat} {lv : List (Nat × Value)} {ws : va_W} {Qp : Option Value → va_W → Prop} {rm' : Room} {v : Int32} (ok : mx_ok X Z own cc nL rm) (en : mx_end X (some .int) rm' Qp) (h1 : n.1 ≤ rm'.cells) (h2 : n.2 ≤ rm'.slots) (hd : decode cc pc = .ok (.ireturn, 1)) (hq : Qp (some (.int v)) ws) : mx X n pc lv [.int v] ws := by
  obtain ⟨⟨p, l, e, R, s, m, args, below, meth, c⟩, D, tys, lo, Q⟩ := X
  intro ls H locs hl hP hD hS
  obtain ⟨hr, hlk, rfl⟩ := en
  refine W.widen h1 h2 ?_
  exact W.iret ok.1 ok.2.1 hr (fun t ht hW => ⟨⟨_, ws, rfl, hq, by rw [ht]; exact Nat.le_trans ok.2.2.2.2.2.2.1 hS.1, by rw [ht]; exact hP, hD, va_K.moved hW.alike ok.2.2.2.2.2.1⟩, hS.F ht⟩) hS.2.2 hd hlk
theorem mr_zret {X : mx_C} {Z : mx_Z} {own : String} {cc : ByteArray} {nL : Nat} {rm : Room} {n : Nat × Nat} {pc : Nat} {lv : List (Nat × Value)} {ws : va_W} {Qp : Option Value → va_W → Prop} {rm' : Room} {v : Int32} {ty : FieldType} (hnw : narrow ty (.int v) = .int v) (ok : mx_ok X Z own cc nL rm) (en : mx_end X (some ty) rm' Qp) (h1 : n.1 ≤ rm'.cells) (h2 : n.2 ≤ rm'.slots) (hd : decode cc pc = .ok (.ireturn, 1)) (hq : Qp (some (.int v)) ws) : mx X n pc lv [.int v] ws := by
  obtain ⟨⟨p, l, e, R, s, m, args, below, meth, c⟩, D, tys, lo, Q⟩ := X
  intro ls H locs hl hP hD hS
  obtain ⟨hr, hlk, rfl⟩ := en
  refine W.widen h1 h2 ?_
  exact W.zret ok.1 ok.2.1 hr hnw (fun t ht hW => ⟨⟨_, ws, rfl, hq, by rw [ht]; exact Nat.le_trans ok.2.2.2.2.2.2.1 hS.1, by rw [ht]; exact hP, hD, va_K.moved hW.alike ok.2.2.2.2.2.1⟩, hS.F ht⟩) hS.2.2 hd hlk
theorem mr_vret {X : mx_C} {Z : mx_Z} {own : String} {cc : ByteArray} {nL : Nat} {rm : Room} {n : Nat × Nat} {pc : Nat} {lv : List (Nat × Value)} {ws : va_W} {Qp : Option Value → va_W → Prop} {rm' : Room} (ok : mx_ok X Z own cc nL rm) (en : mx_end X none rm' Qp) (h1 : n.1 ≤ rm'.cells) (h2 : n.2 ≤ rm'.slots) (hd : decode cc pc = .ok (.return_, 1)) (hq : Qp none ws) : mx X n pc lv [] ws := by
  obtain ⟨⟨p, l, e, R, s, m, args, below, meth, c⟩, D, tys, lo, Q⟩ := X
  intro ls H locs hl hP hD hS
  obtain ⟨hr, hlk, rfl⟩ := en
  refine W.widen h1 h2 ?_
  exact W.vret ok.1 ok.2.1 hr (fun t ht hW => ⟨⟨_, ws, rfl, hq, by rw [ht]; exact Nat.le_trans ok.2.2.2.2.2.2.1 hS.1, by rw [ht]; exact hP, hD, va_K.moved hW.alike ok.2.2.2.2.2.1⟩, hS.F ht⟩) hS.2.2 hd hlk
theorem mr_aret {X : mx_C} {Z : mx_Z} {own : String} {cc : ByteArray} {nL : Nat} {rm : Room} {n : Nat × Nat} {pc : Nat} {lv : List (Nat × Value)} {ws : va_W} {Qp : Option Value → va_W → Prop} {rm' : Room} {C : String} {v : Value} (ok : mx_ok X Z own cc nL rm) (en : mx_end X (some (.object C)) rm' Qp) (h1 : n.1 ≤ rm'.cells) (h2 : n.2 ≤ rm'.slots) (hv : v = .null ∨ ∃ a, v = .ref a) (hd : decode cc pc = .ok (.areturn, 1)) (hq : Qp (some v) ws) : mx X n pc lv [v] ws := by
  obtain ⟨⟨p, l, e, R, s, m, args, below, meth, c⟩, D, tys, lo, Q⟩ := X
  intro ls H locs hl hP hD hS
  obtain ⟨hr, hlk, rfl⟩ := en
  refine W.widen h1 h2 ?_
  exact W.aret ok.1 ok.2.1 hr (Or.inl ⟨_, rfl⟩) hv (fun t ht hW => ⟨⟨_, ws, rfl, hq, by rw [ht]; exact Nat.le_trans ok.2.2.2.2.2.2.1 hS.1, by rw [ht]; exact hP, hD, va_K.moved hW.alike ok.2.2.2.2.2.1⟩, hS.F ht⟩) hS.2.2 hd hlk
theorem mx_blind {D : va_G} {tys : List (ClassId × FieldType)} {lo : Nat} {ws : va_W} {av : List Value} : FrameBlind (va_Pc av (mx_wd D tys lo ws)) := fun a U g mk q => by
  obtain ⟨q0, q1, qP, qD, qK⟩ := q
  exact ⟨q0, q1, qP, qD, va_K.moved (u := U) (U := U.calling g mk a) (Vm.Alike.refl U.vm) qK⟩
theorem mx_goodIn {ws : List Cond} (h : ∀ w ∈ ws, w ∈ mx_tbl) : GoodIn mx_tbl ws := fun w hw => ⟨h w hw, good_of_word (mx_good w (h w hw))⟩
theorem mx_after {p : Program} {l : Launch} {e : Env} {R : Room} {s : State} {m : MethodId} {args : Array Value} {below : List Frame} {meth : Method} {c : Code} {H : Heap} {locs : List Loc} {cells slots mc ms pc : Nat} {Q : State → Prop} {ls : Array Slot} {st0 rest : List Value} {D : va_G} {tys : List (ClassId × FieldType)} {lo : Nat} {Qp : Option Value → va_W → Prop} {a : Array Value}
    (hr : va_Run p l e R s m args below meth c H locs cells slots mc ms (F0 m pc ls st0) rest (mx_qc D tys lo Qp a) (fun q => lo ≤ q)) (hS : va_S (fun q => lo ≤ q) s.heap H locs)
    (kk : ∀ (v : Option Value) (ws' : va_W) (H1 : Heap) (locs1 : List Loc), Qp v ws' → va_P D vwCl ws' H1 → va_D (fun q => lo ≤ q) ws' → va_S (fun q => lo ≤ q) s.heap H1 locs1 → W p l e R s m args below meth c H1 locs1 (cells + mc) (slots + ms) Q (F0 m (pc + 3) ls (v.toList ++ rest))) : W p l e R s m args below meth c H locs cells slots Q (F0 m pc ls st0) := by
  intro T hT X
  obtain ⟨v, st₀, t, T', L, h0, X', hL, e1, e2, ⟨⟨v', ws', hv, hq, hlo, hP, hD, hK⟩, hz, hk⟩, stp⟩ := hr T hT X
  cases hv
  rw [h0] at hz hk
  obtain ⟨t2, a1, b1⟩ := kk v ws' T'.heap (locs ++ L) hq (by rw [e1]; exact hP) hD ⟨Nat.le_trans hS.1 (by rw [e1]; exact hz), fun q h1 h2 => by rw [e1, hk q (Nat.lt_of_lt_of_le h1 hS.1) h2]; exact hS.2.1 q h1 h2, fun q hq => by
      rcases List.mem_append.mp hq with h | h
      · exact hS.2.2 q h
      · exact hL q h⟩ T' rfl X'
  exact ⟨t2, stp t2 a1, b1⟩
/-- what a call by pool index idx needs of the tables -/
def mx_cB (own : String) (idx : Nat) (y : MethodName) (b : ByteArray) (maxL : Nat) (ret : Option FieldType) (k : Nat) : Prop := Cond.methodLink own idx y ∈ mx_tbl ∧ Cond.initialized y.cls ∈ mx_tbl ∧ Cond.code y b maxL ret ∈ mx_tbl ∧ (y.cls ≠ "java/lang/invoke/MethodHandle" ∧ y.cls ≠ "java/lang/invoke/VarHandle" ∧ (parseMethodDescriptor y.desc).map (fun d => d.parameters.length) = some k)
def mx_cV (y : MethodName) : Prop := Cond.instanceMethod y ∈ mx_tbl ∧ Cond.selects y.cls y y ∈ mx_tbl
theorem mx_callB {R : Room} {s : State} {args : Array Value} {own : String} {idx : Nat} {y : MethodName} {b : ByteArray} {maxL : Nat} {ret : Option FieldType} {k : Nat} {rm' : Room} (hw : ∀ w ∈ mx_tbl, w.before args s = true) (cb : mx_cB own idx y b maxL ret k) (hR : rm'.frames + 1 ≤ R.frames ∧ 8 + (maxL + 11) + rm'.locals ≤ R.locals) : CallB R s args own idx y b maxL ret (Cond.code y b maxL ret :: mx_tbl) rm' rm'.cells rm'.slots k :=
  callB_of k hw (mx_goodIn fun w h => by
    rcases List.mem_cons.mp h with h | h
    · rw [h]; exact cb.2.2.1
    · exact h) rfl rfl rfl (hw _ cb.2.1) (hw _ cb.1) cb.2.2.2 hR
theorem mr_callV {X : mx_C} {Z : mx_Z} {own : String} {cc : ByteArray} {nL : Nat} {rm : Room} {n : Nat × Nat} {pc : Nat} {lv : List (Nat × Value)} {st : List Value} {ws : va_W} (ok : mx_ok X Z own cc nL rm) {idx k : Nat} {y : MethodName} {b : ByteArray} {maxL : Nat} {ret : Option FieldType} {rm' : Room} {a : Nat} {As : List Value} {Qp : Option Value → va_W → Prop} (cb : mx_cB own idx y b maxL ret k) (cv : mx_cV y) (hC : mx_ct Z y b maxL ret rm' (.ref a :: As) ws Qp) (q0 ci : Nat) {r : vw_C} {fs : List Value} (he : ws[q0]? = some (a, .inr (ci, fs))) (hc : vwCl[ci]? = some r) (hy : r.1 = y.cls) (hk : As.length = k) (hst : (st.map fun v => v.category).sum ≤ 8) (hR : rm'.frames + 1 ≤ rm.frames ∧ 8 + (maxL + 11) + rm'.locals ≤ rm.locals) (h1 : n.1 + rm'.cells ≤ rm.cells) (h2 : n.2 + rm'.slots ≤ rm.slots) (hd : decode cc pc = .ok (.invokevirtual idx, 3)) {st0 : List Value} (hs0 : st0 = As.reverse ++ .ref a :: st)
    (kk : ∀ (v : Option Value) (ws' : va_W), Qp v ws' → mx X (n.1 + rm'.cells, n.2 + rm'.slots) (pc + 3) lv (v.toList ++ st) ws') : mx X n pc lv st0 ws := by
  obtain ⟨⟨p, l, e, R, s, m, args, below, meth, c⟩, D, tys, lo, Q⟩ := X
  intro ls H locs hl hP hD hS
  obtain ⟨hx, hb, hml, hown, hw, hK, hlo, rfl, rfl⟩ := ok
  subst hs0
  have hz := va_recv hK hP hc he
  rw [hy] at hz
  refine mx_after (va_runV (As := As) (rest := st) (C := y.cls) ⟨hx, hb, hml, hown, hw⟩ (hC lo) ⟨mx_callB hw cb hR, hw _ cv.1, hw _ cv.2⟩ ⟨mx_blind, hz, fun U hU hW => ⟨rfl, by rw [hU]; exact Nat.le_trans hlo hS.1, by rw [hU]; exact hP, hD, va_K.moved hW.alike hK⟩⟩ rfl hk (by rw [← hml]; exact hl.1.1) rfl (by show 2 * 0 + _ ≤ 8; omega) hd ⟨h1, h2⟩) hS (fun v ws' H1 locs1 hq hP1 hD1 hS1 => kk v ws' hq ls H1 locs1 hl hP1 hD1 hS1)
theorem mr_callS {X : mx_C} {Z : mx_Z} {own : String} {cc : ByteArray} {nL : Nat} {rm : Room} {n : Nat × Nat} {pc : Nat} {lv : List (Nat × Value)} {st : List Value} {ws : va_W} (ok : mx_ok X Z own cc nL rm) {idx k : Nat} {y : MethodName} {b : ByteArray} {maxL : Nat} {ret : Option FieldType} {rm' : Room} {As : List Value} {Qp : Option Value → va_W → Prop} (cb : mx_cB own idx y b maxL ret k) (cs : Cond.static y ∈ mx_tbl) (hC : mx_ct Z y b maxL ret rm' As ws Qp) (hk : As.length = k) (hst : (st.map fun v => v.category).sum ≤ 8) (hR : rm'.frames + 1 ≤ rm.frames ∧ 8 + (maxL + 11) + rm'.locals ≤ rm.locals) (h1 : n.1 + rm'.cells ≤ rm.cells) (h2 : n.2 + rm'.slots ≤ rm.slots) (hd : decode cc pc = .ok (.invokestatic idx, 3)) {st0 : List Value} (hs0 : st0 = As.reverse ++ st)
    (kk : ∀ (v : Option Value) (ws' : va_W), Qp v ws' → mx X (n.1 + rm'.cells, n.2 + rm'.slots) (pc + 3) lv (v.toList ++ st) ws') : mx X n pc lv st0 ws := by
  obtain ⟨⟨p, l, e, R, s, m, args, below, meth, c⟩, D, tys, lo, Q⟩ := X
  intro ls H locs hl hP hD hS
  obtain ⟨hx, hb, hml, hown, hw, hK, hlo, rfl, rfl⟩ := ok
  subst hs0
  refine mx_after (va_runS (As := As) (rest := st) ⟨hx, hb, hml, hown, hw⟩ (hC lo) ⟨mx_callB hw cb hR, hw _ cs⟩ ⟨mx_blind, fun U hU hW => ⟨rfl, by rw [hU]; exact Nat.le_trans hlo hS.1, by rw [hU]; exact hP, hD, va_K.moved hW.alike hK⟩⟩ rfl hk (by rw [← hml]; exact hl.1.1) rfl (by show 2 * 0 + _ ≤ 8; omega) hd ⟨h1, h2⟩) hS (fun v ws' H1 locs1 hq hP1 hD1 hS1 => kk v ws' hq ls H1 locs1 hl hP1 hD1 hS1)
theorem mr_callI {X : mx_C} {Z : mx_Z} {own : String} {cc : ByteArray} {nL : Nat} {rm : Room} {n : Nat × Nat} {pc : Nat} {lv : List (Nat × Value)} {st : List Value} {ws : va_W} (ok : mx_ok X Z own cc nL rm) {idx k : Nat} {y : MethodName} {b : ByteArray} {maxL : Nat} {rm' : Room} {a : Nat} {As : List Value} {Qp : Option Value → va_W → Prop} (cb : mx_cB own idx y b maxL none k) (ci : y.name = "<init>" ∧ Cond.instanceMethod y ∈ mx_tbl) (hC : mx_ct Z y b maxL none rm' (.ref a :: As) ws Qp) (hk : As.length = k) (hst : (st.map fun v => v.category).sum ≤ 8) (hR : rm'.frames + 1 ≤ rm.frames ∧ 8 + (maxL + 11) + rm'.locals ≤ rm.locals) (h1 : n.1 + rm'.cells ≤ rm.cells) (h2 : n.2 + rm'.slots ≤ rm.slots) (hd : decode cc pc = .ok (.invokespecial idx, 3)) {st0 : List Value} (hs0 : st0 = As.reverse ++ .ref a :: st)
    (kk : ∀ (v : Option Value) (ws' : va_W), Qp v ws' → mx X (n.1 + rm'.cells, n.2 + rm'.slots) (pc + 3) lv (v.toList ++ st) ws') : mx X n pc lv st0 ws := by
  obtain ⟨⟨p, l, e, R, s, m, args, below, meth, c⟩, D, tys, lo, Q⟩ := X
  intro ls H locs hl hP hD hS
  obtain ⟨hx, hb, hml, hown, hw, hK, hlo, rfl, rfl⟩ := ok
  subst hs0
  refine mx_after (va_runI (As := As) (rest := st) ⟨hx, hb, hml, hown, hw⟩ (hC lo) ⟨mx_callB hw cb hR, ci.1, hw _ ci.2⟩ ⟨mx_blind, fun U hU hW => ⟨rfl, by rw [hU]; exact Nat.le_trans hlo hS.1, by rw [hU]; exact hP, hD, va_K.moved hW.alike hK⟩⟩ rfl hk (by rw [← hml]; exact hl.1.1) rfl (by show 2 * 0 + _ ≤ 8; omega) hd ⟨h1, h2⟩) hS (fun v ws' H1 locs1 hq hP1 hD1 hS1 => kk v ws' hq ls H1 locs1 hl hP1 hD1 hS1)
theorem mr_zald {X : mx_C} {Z : mx_Z} {own : String} {cc : ByteArray} {nL : Nat} {rm : Room} {n : Nat × Nat} {pc : Nat} {lv : List (Nat × Value)} {st : List Value} {ws : va_W} (ok : mx_ok X Z own cc nL rm) {a : Nat} (q0 t0 : Nat) {cA : ClassId} {N : Nat} {f : Nat → Int32} (he : ws[q0]? = some (a, .inl (cA, N, .inl f))) (ht : Z.2.2[t0]? = some (cA, .boolean)) {i : Int32} (hin : vp_in i N) (hd : decode cc pc = .ok (.baload, 1)) (kk : mx X n (pc + 1) lv (.int (f i.toNatClampNeg) :: st) ws) : mx X n pc lv (.int i :: .ref a :: st) ws := by
  obtain ⟨⟨p, l, e, R, s, m, args, below, meth, c⟩, D, tys, lo, Q⟩ := X
  intro ls H locs hl hP hD hS
  have hZ := ok.2.2.2.2.2.2.2.2
  subst hZ
  exact va_zald ok.1 ok.2.1 ok.2.2.2.2.2.1 hP q0 t0 he ht hin hd (kk ls H locs hl hP hD hS)
theorem mr_zast {X : mx_C} {Z : mx_Z} {own : String} {cc : ByteArray} {nL : Nat} {rm : Room} {n : Nat × Nat} {pc : Nat} {lv : List (Nat × Value)} {st : List Value} {ws : va_W} (ok : mx_ok X Z own cc nL rm) {a : Nat} (q0 t0 : Nat) {cA : ClassId} {N : Nat} {f : Nat → Int32} (he : ws[q0]? = some (a, .inl (cA, N, .inl f))) (ht : Z.2.2[t0]? = some (cA, .boolean)) {i x : Int32} (hin : vp_in i N) (hd : decode cc pc = .ok (.bastore, 1)) (kk : mx X n (pc + 1) lv st (ws.set q0 (a, .inl (cA, N, .inl (upd f i.toNatClampNeg (vp_nar .boolean x)))))) : mx X n pc lv (.int x :: .int i :: .ref a :: st) ws := by
  obtain ⟨⟨p, l, e, R, s, m, args, below, meth, c⟩, D, tys, lo, Q⟩ := X
  intro ls H locs hl hP hD hS
  have hZ := ok.2.2.2.2.2.2.2.2
  subst hZ
  exact va_zast ok.1 ok.2.1 ok.2.2.2.2.2.1 hP hD hS q0 t0 he ht hin hd (fun H1 locs1 hP1 hD1 hS1 => kk ls H1 locs1 hl hP1 hD1 hS1)
theorem mr_ldcw {X : mx_C} {Z : mx_Z} {own : String} {cc : ByteArray} {nL : Nat} {rm : Room} {n : Nat × Nat} {pc : Nat} {lv : List (Nat × Value)} {st : List Value} {ws : va_W} (ok : mx_ok X Z own cc nL rm) {idx : Nat} (v : Int32) (hc : Cond.constant own idx v ∈ mx_tbl) (hd : decode cc pc = .ok (.ldc_w idx, 3)) (kk : mx X n (pc + 3) lv (.int v :: st) ws) : mx X n pc lv st ws := by
  obtain ⟨⟨p, l, e, R, s, m, args, below, meth, c⟩, D, tys, lo, Q⟩ := X
  intro ls H locs hl hP hD hS
  exact lv_ldcw ok.1 ok.2.1 ok.2.2.2.1 (ok.2.2.2.2.1 _ hc) hd (kk ls H locs hl hP hD hS)
end
section
/-! A WORLD OF FIXED SHAPE: addresses, references and lengths stay; the ints are one function S kind index place -/
abbrev sh_T : Type := (ClassId × Nat) ⊕ (ClassId × Nat × (Nat → Option Nat)) ⊕ (Nat × List (Option Value))
abbrev sh_S : Type := Nat → Nat → Nat → Int32
abbrev sh_L : Type := List (Nat × (Nat × Nat) × sh_T)
abbrev sh_B : Type := sh_L × (Nat → Nat → Nat) × (Nat → Nat → Option sh_T)
def sh_fs : List (Option Value) → (Nat → Int32) → Nat → List Value
  | [], _, _ => []
  | some v :: r, f, j => v :: sh_fs r f (j + 1)
  | none :: r, f, j => .int (f j) :: sh_fs r f (j + 1)
def sh_cell (t : sh_T) (f : Nat → Int32) : va_E := match t with
  | .inl (cA, n) => .inl (cA, n, .inl f)
  | .inr (.inl (cA, n, g)) => .inl (cA, n, .inr (.inr (.inr (.inr g))))
  | .inr (.inr (ci, tm)) => .inr (ci, sh_fs tm f 0)
def sh_ws (sh : sh_L) (S : sh_S) : va_W := sh.map (fun q => (q.1, sh_cell q.2.2 (S q.2.1.1 q.2.1.2)))
def sA (S : sh_S) (k i : Nat) (f : Nat → Int32) : sh_S := fun k' i' => bif Nat.beq k' k then (bif Nat.beq i' i then f else S k' i') else S k' i'
def sU (S : sh_S) (k i j : Nat) (v : Int32) : sh_S := fun k' i' j' => bif Nat.beq k' k then (bif Nat.beq j' j then (bif Nat.beq i' i then v else S k' i' j') else S k' i' j') else S k' i' j'
theorem sA_same (S : sh_S) (k i : Nat) (f : Nat → Int32) : sA S k i f k i = f := by
  unfold sA
  rw [Nat.beq_refl, Nat.beq_refl]
  rfl
theorem sA_ne (S : sh_S) {k i k' i' : Nat} (f : Nat → Int32) (h : ¬ (k' = k ∧ i' = i)) : sA S k i f k' i' = S k' i' := by
  unfold sA
  cases h1 : Nat.beq k' k with
  | false => rfl
  | true =>
    cases h2 : Nat.beq i' i with
    | false => rfl
    | true => exact absurd ⟨Nat.eq_of_beq_eq_true h1, Nat.eq_of_beq_eq_true h2⟩ h
theorem sU_sA (S : sh_S) (k i j : Nat) (v : Int32) : sA S k i (upd (S k i) j v) = sU S k i j v := by
  funext k' i' j'
  unfold sA sU upd
  cases h1 : Nat.beq k' k with
  | false => rfl
  | true =>
    cases h2 : Nat.beq i' i with
    | false =>
      simp only [cond_true, cond_false]
      cases Nat.beq j' j <;> rfl
    | true =>
      simp only [cond_true]
      have e1 := Nat.eq_of_beq_eq_true h1
      have e2 := Nat.eq_of_beq_eq_true h2
      subst e1; subst e2
      cases h3 : Nat.beq j' j with
      | true => simp [Nat.eq_of_beq_eq_true h3]
      | false =>
        have : ¬ j' = j := fun z => by rw [z, Nat.beq_refl] at h3; cases h3
        simp [this]
def sh_ok (sh : sh_L) : Prop := ∀ (q0 q1 : Nat) (e0 e1 : Nat × (Nat × Nat) × sh_T), sh[q0]? = some e0 → sh[q1]? = some e1 → e0.2.1 = e1.2.1 → q0 = q1
/-- the bundle: list, addresses, templates -/
def sh_F (B : sh_B) : Prop := sh_ok B.1 ∧ ∀ (k i : Nat) (t : sh_T), B.2.2 k i = some t → ∃ q0 : Nat, B.1[q0]? = some (B.2.1 k i, (k, i), t)
theorem sh_at {sh : sh_L} {S : sh_S} {q0 a k i : Nat} {t : sh_T} (h : sh[q0]? = some (a, (k, i), t)) : (sh_ws sh S)[q0]? = some (a, sh_cell t (S k i)) := by
  simp [sh_ws, h]
theorem sh_set {sh : sh_L} {S : sh_S} {q0 a k i : Nat} {t : sh_T} (ho : sh_ok sh) (h : sh[q0]? = some (a, (k, i), t)) (f : Nat → Int32) : (sh_ws sh S).set q0 (a, sh_cell t f) = sh_ws sh (sA S k i f) := by
  have hl : q0 < (sh_ws sh S).length := by
    have := (List.getElem?_eq_some_iff.mp h).1
    simpa [sh_ws] using this
  apply List.ext_getElem?
  intro j
  by_cases hj : j = q0
  · subst hj
    rw [List.getElem?_set_self hl, sh_at h, sA_same]
  · rw [List.getElem?_set_ne (Ne.symm hj)]
    simp only [sh_ws, List.getElem?_map]
    cases hx : sh[j]? with
    | none => rfl
    | some e =>
      have hne : ¬ (e.2.1.1 = k ∧ e.2.1.2 = i) := fun z => hj (ho j q0 e _ hx h (Prod.ext z.1 z.2))
      simp only [Option.map_some]
      rw [sA_ne S f hne]
theorem sh_fs_get : ∀ (tm : List (Option Value)) (f : Nat → Int32) (j k : Nat), (sh_fs tm f j)[k]? = (tm[k]?).map (fun o => o.getD (.int (f (j + k))))
  | [], f, j, k => by simp [sh_fs]
  | some v :: r, f, j, 0 => by simp [sh_fs]
  | none :: r, f, j, 0 => by simp [sh_fs]
  | some v :: r, f, j, k + 1 => by
    have := sh_fs_get r f (j + 1) k
    simp only [sh_fs, List.getElem?_cons_succ]
    rw [this, Nat.add_right_comm, Nat.add_assoc]
  | none :: r, f, j, k + 1 => by
    have := sh_fs_get r f (j + 1) k
    simp only [sh_fs, List.getElem?_cons_succ]
    rw [this, Nat.add_right_comm, Nat.add_assoc]
theorem sh_fs_len : ∀ (tm : List (Option Value)) (f : Nat → Int32) (j : Nat), (sh_fs tm f j).length = tm.length
  | [], f, j => rfl
  | some v :: r, f, j => by simp [sh_fs, sh_fs_len r f (j + 1)]
  | none :: r, f, j => by simp [sh_fs, sh_fs_len r f (j + 1)]
theorem sh_fs_set {tm : List (Option Value)} {k : Nat} (f : Nat → Int32) (x : Int32) (h : tm[k]? = some none) : (sh_fs tm f 0).set k (.int x) = sh_fs tm (upd f k x) 0 := by
  have hk := (List.getElem?_eq_some_iff.mp h).1
  apply List.ext_getElem?
  intro j
  by_cases hj : j = k
  · subst hj
    rw [List.getElem?_set_self (by rw [sh_fs_len]; exact hk), sh_fs_get, h]
    simp [upd]
  · rw [List.getElem?_set_ne (Ne.symm hj), sh_fs_get, sh_fs_get]
    simp [upd, hj]
abbrev sx (B : sh_B) (X : mx_C) (n : Nat × Nat) (pc : Nat) (lv : List (Nat × Value)) (st : List Value) (S : sh_S) : Prop := mx X n pc lv st (sh_ws B.1 S)
/-- a contract over the shape, and its end -/
def sx_q (B : sh_B) (Qs : Option Value → sh_S → Prop) : Option Value → va_W → Prop := fun v ws' => ∃ S' : sh_S, ws' = sh_ws B.1 S' ∧ Qs v S'
abbrev sc (B : sh_B) (Z : mx_Z) (y : MethodName) (b : ByteArray) (maxL : Nat) (ret : Option FieldType) (rm : Room) (av : List Value) (S : sh_S) (Qs : Option Value → sh_S → Prop) : Prop := mx_ct Z y b maxL ret rm av (sh_ws B.1 S) (sx_q B Qs)
abbrev sx_end (B : sh_B) (X : mx_C) (ret : Option FieldType) (rm : Room) (Qs : Option Value → sh_S → Prop) : Prop := mx_end X ret rm (sx_q B Qs)
theorem sx_geti {X : mx_C} {Z : mx_Z} {own : String} {cc : ByteArray} {nL : Nat} {rm : Room} {n : Nat × Nat} {pc : Nat} {lv : List (Nat × Value)} {st : List Value} {B : sh_B} {S : sh_S} (ok : mx_ok X Z own cc nL rm) (hB : sh_F B) {idx ci kf kd i : Nat} {tm : List (Option Value)} (fl : mx_fl own idx ci kf) (ht : B.2.2 kd i = some (.inr (.inr (ci, tm)))) (hk : tm[kf]? = some none) (hd : decode cc pc = .ok (.getfield idx, 3)) (kk : sx B X n (pc + 3) lv (.int (S kd i kf) :: st) S) : sx B X n pc lv (.ref (B.2.1 kd i) :: st) S := by
  obtain ⟨q0, h0⟩ := hB.2 kd i _ ht
  refine mr_get ok fl q0 (sh_at h0) (v := .int (S kd i kf)) ?_ hd kk
  rw [sh_fs_get, hk]
  simp
theorem sx_getr {X : mx_C} {Z : mx_Z} {own : String} {cc : ByteArray} {nL : Nat} {rm : Room} {n : Nat × Nat} {pc : Nat} {lv : List (Nat × Value)} {st : List Value} {B : sh_B} {S : sh_S} (ok : mx_ok X Z own cc nL rm) (hB : sh_F B) {idx ci kf kd i : Nat} {tm : List (Option Value)} {v : Value} (fl : mx_fl own idx ci kf) (ht : B.2.2 kd i = some (.inr (.inr (ci, tm)))) (hk : tm[kf]? = some (some v)) (hd : decode cc pc = .ok (.getfield idx, 3)) (kk : sx B X n (pc + 3) lv (v :: st) S) : sx B X n pc lv (.ref (B.2.1 kd i) :: st) S := by
  obtain ⟨q0, h0⟩ := hB.2 kd i _ ht
  refine mr_get ok fl q0 (sh_at h0) (v := v) ?_ hd kk
  rw [sh_fs_get, hk]
  simp
theorem sx_put {X : mx_C} {Z : mx_Z} {own : String} {cc : ByteArray} {nL : Nat} {rm : Room} {n : Nat × Nat} {pc : Nat} {lv : List (Nat × Value)} {st : List Value} {B : sh_B} {S : sh_S} (ok : mx_ok X Z own cc nL rm) (hB : sh_F B) {idx ci kf kd i : Nat} {tm : List (Option Value)} {ty : FieldType} {x : Int32} (fl : mx_fw own idx ci kf ty) (ht : B.2.2 kd i = some (.inr (.inr (ci, tm)))) (hk : tm[kf]? = some none) (hn : narrow ty (.int x) = .int x) (hf : fits ty (.int x) = true) (hd : decode cc pc = .ok (.putfield idx, 3)) (kk : sx B X n (pc + 3) lv st (sU S kd i kf x)) : sx B X n pc lv (.int x :: .ref (B.2.1 kd i) :: st) S := by
  obtain ⟨q0, h0⟩ := hB.2 kd i _ ht
  refine mr_put ok fl q0 (sh_at h0) (by rw [sh_fs_len]; exact (List.getElem?_eq_some_iff.mp hk).1) hn hf hd ?_
  rw [sh_fs_set _ _ hk]
  have e := sh_set (S := S) hB.1 h0 (upd (S kd i) kf x)
  rw [sU_sA] at e
  exact mr_ws e kk
theorem sx_iald {X : mx_C} {Z : mx_Z} {own : String} {cc : ByteArray} {nL : Nat} {rm : Room} {n : Nat × Nat} {pc : Nat} {lv : List (Nat × Value)} {st : List Value} {B : sh_B} {S : sh_S} (ok : mx_ok X Z own cc nL rm) (hB : sh_F B) {kd i t0 N : Nat} {cA : ClassId} {x : Int32} (ht : B.2.2 kd i = some (.inl (cA, N))) (hty : Z.2.2[t0]? = some (cA, .int)) (hin : vp_in x N) (hd : decode cc pc = .ok (.iaload, 1)) (kk : sx B X n (pc + 1) lv (.int (S kd i x.toNatClampNeg) :: st) S) : sx B X n pc lv (.int x :: .ref (B.2.1 kd i) :: st) S := by
  obtain ⟨q0, h0⟩ := hB.2 kd i _ ht
  exact mr_iald ok q0 t0 (sh_at h0) hty hin hd kk
theorem sx_iast {X : mx_C} {Z : mx_Z} {own : String} {cc : ByteArray} {nL : Nat} {rm : Room} {n : Nat × Nat} {pc : Nat} {lv : List (Nat × Value)} {st : List Value} {B : sh_B} {S : sh_S} (ok : mx_ok X Z own cc nL rm) (hB : sh_F B) {kd i t0 N : Nat} {cA : ClassId} {x v : Int32} (ht : B.2.2 kd i = some (.inl (cA, N))) (hty : Z.2.2[t0]? = some (cA, .int)) (hin : vp_in x N) (hd : decode cc pc = .ok (.iastore, 1)) (kk : sx B X n (pc + 1) lv st (sU S kd i x.toNatClampNeg v)) : sx B X n pc lv (.int v :: .int x :: .ref (B.2.1 kd i) :: st) S := by
  obtain ⟨q0, h0⟩ := hB.2 kd i _ ht
  refine mr_iast ok q0 t0 (sh_at h0) hty hin hd ?_
  have e := sh_set (S := S) hB.1 h0 (upd (S kd i) x.toNatClampNeg v)
  rw [sU_sA] at e
  exact mr_ws e kk
theorem sx_aald {X : mx_C} {Z : mx_Z} {own : String} {cc : ByteArray} {nL : Nat} {rm : Room} {n : Nat × Nat} {pc : Nat} {lv : List (Nat × Value)} {st : List Value} {B : sh_B} {S : sh_S} (ok : mx_ok X Z own cc nL rm) (hB : sh_F B) {kd i t0 N : Nat} {cA : ClassId} {C : String} {g : Nat → Option Nat} {x : Int32} (ht : B.2.2 kd i = some (.inr (.inl (cA, N, g)))) (hty : Z.2.2[t0]? = some (cA, .object C)) (hin : vp_in x N) (hd : decode cc pc = .ok (.aaload, 1)) (kk : sx B X n (pc + 1) lv (va_rf (g x.toNatClampNeg) :: st) S) : sx B X n pc lv (.int x :: .ref (B.2.1 kd i) :: st) S := by
  obtain ⟨q0, h0⟩ := hB.2 kd i _ ht
  exact mr_aald ok q0 t0 (sh_at h0) hty hin hd kk
theorem sx_alen {X : mx_C} {Z : mx_Z} {own : String} {cc : ByteArray} {nL : Nat} {rm : Room} {n : Nat × Nat} {pc : Nat} {lv : List (Nat × Value)} {st : List Value} {B : sh_B} {S : sh_S} (ok : mx_ok X Z own cc nL rm) (hB : sh_F B) {kd i t0 N : Nat} {cA : ClassId} (ht : B.2.2 kd i = some (.inl (cA, N))) (hty : Z.2.2[t0]? = some (cA, .int)) (hd : decode cc pc = .ok (.arraylength, 1)) (kk : sx B X n (pc + 1) lv (.int (nI N) :: st) S) : sx B X n pc lv (.ref (B.2.1 kd i) :: st) S := by
  obtain ⟨q0, h0⟩ := hB.2 kd i _ ht
  exact mr_alen ok q0 t0 (sh_at h0) hty (nI N) rfl hd kk
theorem sx_copy {X : mx_C} {Z : mx_Z} {own : String} {cc : ByteArray} {nL : Nat} {rm : Room} {n : Nat × Nat} {pc : Nat} {lv : List (Nat × Value)} {st : List Value} {B : sh_B} {S : sh_S} (ok : mx_ok X Z own cc nL rm) (hB : sh_F B) {idx : Nat} (cw : Cond.methodLink own idx arraycopyName ∈ mx_tbl ∧ Cond.native arraycopyName ∈ mx_tbl ∧ Cond.static arraycopyName ∈ mx_tbl ∧ Cond.initialized "java/lang/System" ∈ mx_tbl) {kd i kd' i' t0 N N' : Nat} {cA : ClassId} {sp dp k : Int32} (ht : B.2.2 kd i = some (.inl (cA, N))) (ht' : B.2.2 kd' i' = some (.inl (cA, N'))) (hty : Z.2.2[t0]? = some (cA, .int)) (h1 : ¬ sp < 0) (h2 : ¬ dp < 0) (h3 : ¬ k < 0) (h4 : sp.toNatClampNeg + k.toNatClampNeg ≤ N) (h5 : dp.toNatClampNeg + k.toNatClampNeg ≤ N') (hf : 1 ≤ rm.frames) (hlo : (st.map fun v => v.category).sum + (nativeFrameWords "java/lang/System" "arraycopy" 5 + 11) ≤ rm.locals) (hd : decode cc pc = .ok (.invokestatic idx, 3))
    (kk : sx B X n (pc + 3) lv st (sA S kd' i' (va_cpy (S kd i) (S kd' i') sp.toNatClampNeg dp.toNatClampNeg k.toNatClampNeg))) : sx B X n pc lv (.int k :: .int dp :: .ref (B.2.1 kd' i') :: .int sp :: .ref (B.2.1 kd i) :: st) S := by
  obtain ⟨q0, h0⟩ := hB.2 kd i _ ht
  obtain ⟨q1, h6⟩ := hB.2 kd' i' _ ht'
  refine mr_copy ok cw.1 cw.2.1 cw.2.2.1 cw.2.2.2 q0 q1 t0 t0 (sh_at h0) (sh_at h6) hty hty h1 h2 h3 h4 h5 hf hlo hd ?_
  have e := sh_set (S := S) hB.1 h6 (va_cpy (S kd i) (S kd' i') sp.toNatClampNeg dp.toNatClampNeg k.toNatClampNeg)
  exact mr_ws e kk
theorem sx_iret {X : mx_C} {Z : mx_Z} {own : String} {cc : ByteArray} {nL : Nat} {rm : Room} {n : Nat × Nat} {pc : Nat} {lv : List (Nat × Value)} {B : sh_B} {S : sh_S} {Qs : Option Value → sh_S → Prop} {rm' : Room} {v : Int32} (ok : mx_ok X Z own cc nL rm) (en : sx_end B X (some .int) rm' Qs) (h1 : n.1 ≤ rm'.cells) (h2 : n.2 ≤ rm'.slots) (hd : decode cc pc = .ok (.ireturn, 1)) (hq : Qs (some (.int v)) S) : sx B X n pc lv [.int v] S := mr_iret ok en h1 h2 hd ⟨S, rfl, hq⟩
theorem sx_zret {X : mx_C} {Z : mx_Z} {own : String} {cc : ByteArray} {nL : Nat} {rm : Room} {n : Nat × Nat} {pc : Nat} {lv : List (Nat × Value)} {B : sh_B} {S : sh_S} {Qs : Option Value → sh_S → Prop} {rm' : Room} {v : Int32} {ty : FieldType} (hnw : narrow ty (.int v) = .int v) (ok : mx_ok X Z own cc nL rm) (en : sx_end B X (some ty) rm' Qs) (h1 : n.1 ≤ rm'.cells) (h2 : n.2 ≤ rm'.slots) (hd : decode cc pc = .ok (.ireturn, 1)) (hq : Qs (some (.int v)) S) : sx B X n pc lv [.int v] S := mr_zret hnw ok en h1 h2 hd ⟨S, rfl, hq⟩
theorem sx_vret {X : mx_C} {Z : mx_Z} {own : String} {cc : ByteArray} {nL : Nat} {rm : Room} {n : Nat × Nat} {pc : Nat} {lv : List (Nat × Value)} {B : sh_B} {S : sh_S} {Qs : Option Value → sh_S → Prop} {rm' : Room} (ok : mx_ok X Z own cc nL rm) (en : sx_end B X none rm' Qs) (h1 : n.1 ≤ rm'.cells) (h2 : n.2 ≤ rm'.slots) (hd : decode cc pc = .ok (.return_, 1)) (hq : Qs none S) : sx B X n pc lv [] S := mr_vret ok en h1 h2 hd ⟨S, rfl, hq⟩
theorem sx_aret {X : mx_C} {Z : mx_Z} {own : String} {cc : ByteArray} {nL : Nat} {rm : Room} {n : Nat × Nat} {pc : Nat} {lv : List (Nat × Value)} {B : sh_B} {S : sh_S} {Qs : Option Value → sh_S → Prop} {rm' : Room} {C : String} {v : Value} (ok : mx_ok X Z own cc nL rm) (en : sx_end B X (some (.object C)) rm' Qs) (h1 : n.1 ≤ rm'.cells) (h2 : n.2 ≤ rm'.slots) (hv : v = .null ∨ ∃ a, v = .ref a) (hd : decode cc pc = .ok (.areturn, 1)) (hq : Qs (some v) S) : sx B X n pc lv [v] S := mr_aret ok en h1 h2 hv hd ⟨S, rfl, hq⟩
theorem sx_callV {X : mx_C} {Z : mx_Z} {own : String} {cc : ByteArray} {nL : Nat} {rm : Room} {n : Nat × Nat} {pc : Nat} {lv : List (Nat × Value)} {st : List Value} {B : sh_B} {S : sh_S} (ok : mx_ok X Z own cc nL rm) (hB : sh_F B) {idx k : Nat} {y : MethodName} {b : ByteArray} {maxL : Nat} {ret : Option FieldType} {rm' : Room} {As : List Value} {Qs : Option Value → sh_S → Prop} {kd i ci : Nat} {r : vw_C} {tm : List (Option Value)} (cb : mx_cB own idx y b maxL ret k) (cv : mx_cV y) (hC : sc B Z y b maxL ret rm' (.ref (B.2.1 kd i) :: As) S Qs) (ht : B.2.2 kd i = some (.inr (.inr (ci, tm)))) (hc : vwCl[ci]? = some r) (hy : r.1 = y.cls) (hk : As.length = k) (hst : (st.map fun v => v.category).sum ≤ 8) (hR : rm'.frames + 1 ≤ rm.frames ∧ 8 + (maxL + 11) + rm'.locals ≤ rm.locals) (h1 : n.1 + rm'.cells ≤ rm.cells) (h2 : n.2 + rm'.slots ≤ rm.slots) (hd : decode cc pc = .ok (.invokevirtual idx, 3)) {st0 : List Value} (hs0 : st0 = As.reverse ++ .ref (B.2.1 kd i) :: st)
    (kk : ∀ (v : Option Value) (S' : sh_S), Qs v S' → sx B X (n.1 + rm'.cells, n.2 + rm'.slots) (pc + 3) lv (v.toList ++ st) S') : sx B X n pc lv st0 S := by
  obtain ⟨q0, h0⟩ := hB.2 kd i _ ht
  refine mr_callV ok cb cv hC q0 ci (sh_at h0) hc hy hk hst hR h1 h2 hd hs0 (fun v ws' hq => ?_)
  obtain ⟨S', rfl, hq⟩ := hq
  exact kk v S' hq
theorem sx_callS {X : mx_C} {Z : mx_Z} {own : String} {cc : ByteArray} {nL : Nat} {rm : Room} {n : Nat × Nat} {pc : Nat} {lv : List (Nat × Value)} {st : List Value} {B : sh_B} {S : sh_S} (ok : mx_ok X Z own cc nL rm) {idx k : Nat} {y : MethodName} {b : ByteArray} {maxL : Nat} {ret : Option FieldType} {rm' : Room} {As : List Value} {Qs : Option Value → sh_S → Prop} (cb : mx_cB own idx y b maxL ret k) (cs : Cond.static y ∈ mx_tbl) (hC : sc B Z y b maxL ret rm' As S Qs) (hk : As.length = k) (hst : (st.map fun v => v.category).sum ≤ 8) (hR : rm'.frames + 1 ≤ rm.frames ∧ 8 + (maxL + 11) + rm'.locals ≤ rm.locals) (h1 : n.1 + rm'.cells ≤ rm.cells) (h2 : n.2 + rm'.slots ≤ rm.slots) (hd : decode cc pc = .ok (.invokestatic idx, 3)) {st0 : List Value} (hs0 : st0 = As.reverse ++ st)
    (kk : ∀ (v : Option Value) (S' : sh_S), Qs v S' → sx B X (n.1 + rm'.cells, n.2 + rm'.slots) (pc + 3) lv (v.toList ++ st) S') : sx B X n pc lv st0 S := by
  refine mr_callS ok cb cs hC hk hst hR h1 h2 hd hs0 (fun v ws' hq => ?_)
  obtain ⟨S', rfl, hq⟩ := hq
  exact kk v S' hq
theorem vp_at {j N : Nat} (hj : j < N) (hN : N ≤ 100000) : vp_in (nI j) N ∧ (nI j).toNatClampNeg = j := ⟨vp_in_nI hj (by omega), nI_clamp (by omega)⟩
/-- two halves: kinds below 20 are the class's, the others the reference's -/
def jn (c r : sh_S) : sh_S := fun k => bif Nat.blt k 20 then c k else r k
theorem jn_c {c r : sh_S} {k : Nat} (h : Nat.blt k 20 = true) : jn c r k = c k := by unfold jn; rw [h]; rfl
theorem jn_r {c r : sh_S} {k : Nat} (h : Nat.blt k 20 = false) : jn c r k = r k := by unfold jn; rw [h]; rfl
theorem sA_c {c r : sh_S} {k i : Nat} {f : Nat → Int32} (h : Nat.blt k 20 = true) : sA (jn c r) k i f = jn (sA c k i f) r := by
  funext k' i'
  cases hb : Nat.blt k' 20 with
  | true => rw [jn_c hb]; unfold sA; rw [jn_c hb]
  | false =>
    rw [jn_r hb]
    have : ¬ (k' = k ∧ i' = i) := fun z => by rw [z.1, h] at hb; cases hb
    rw [sA_ne _ _ this, jn_r hb]
theorem sA_r {c r : sh_S} {k i : Nat} {f : Nat → Int32} (h : Nat.blt k 20 = false) : sA (jn c r) k i f = jn c (sA r k i f) := by
  funext k' i'
  cases hb : Nat.blt k' 20 with
  | false => rw [jn_r hb]; unfold sA; rw [jn_r hb]
  | true =>
    rw [jn_c hb]
    have : ¬ (k' = k ∧ i' = i) := fun z => by rw [z.1, h] at hb; cases hb
    rw [sA_ne _ _ this, jn_c hb]
theorem sU_c {c r : sh_S} {k i j : Nat} {v : Int32} (h : Nat.blt k 20 = true) : sU (jn c r) k i j v = jn (sU c k i j v) r := by
  rw [← sU_sA, ← sU_sA, jn_c h, sA_c h]
theorem sU_r {c r : sh_S} {k i j : Nat} {v : Int32} (h : Nat.blt k 20 = false) : sU (jn c r) k i j v = jn c (sU r k i j v) := by
  rw [← sU_sA, ← sU_sA, jn_r h, sA_r h]
theorem sx_S {B : sh_B} {X : mx_C} {n : Nat × Nat} {pc : Nat} {lv : List (Nat × Value)} {st : List Value} {S S' : sh_S} (h : S = S') (kk : sx B X n pc lv st S') : sx B X n pc lv st S := h ▸ kk
def tm_ (N L : Nat) (cI cR cZ : ClassId) (ad : Nat → Nat → Nat) (k i : Nat) : Option sh_T := match k with
  | 0 => if i < N then some (.inr (.inr (4, [some (.int (nI i)), some (.ref (ad 1 i)), some (.ref (ad 3 i)), none, none, none, none, none, none, none, none, none, none, none]))) else none
  | 1 => if i < N then some (.inr (.inr (2, [some (.int (nI L)), some (.ref (ad 2 i)), none, none, none]))) else none
  | 2 => if i < N then some (.inl (cI, 32)) else none
  | 3 => if i < N then some (.inr (.inr (1, [some (.ref (ad 4 i)), none]))) else none
  | 4 => if i < N then some (.inl (cI, 8)) else none
  | 5 => if i = 0 then some (.inr (.inr (0, [some (.ref (ad 6 0)), none, none, none]))) else none
  | 6 => if i = 0 then some (.inl (cI, 1400)) else none
  | 7 => if i = 0 then some (.inr (.inr (3, [none, none, none, none, none, none, none]))) else none
  | 8 => if i = 0 then some (.inr (.inr (5, [some (.int (nI N)), some (.int (nI L)), some (.ref (ad 9 0)), some (.ref (ad 5 0)), some (.ref (ad 7 0))]))) else none
  | 9 => if i = 0 then some (.inr (.inl (cR, N, fun j => some (ad 0 j)))) else none
  | 20 => if i = 0 then some (.inr (.inr (6, [none, some (.int (nI N)), some (.int (nI L)), some (.ref (ad 23 0)), some (.ref (ad 24 0)), some (.ref (ad 25 0)), some (.ref (ad 26 0)), some (.ref (ad 27 0)), some (.ref (ad 28 0)), some (.ref (ad 29 0)), some (.ref (ad 30 0)), some (.ref (ad 31 0)), some (.ref (ad 32 0)), some (.ref (ad 33 0)), some (.ref (ad 34 0)), some (.ref (ad 35 0)), some (.ref (ad 36 0)), some (.ref (ad 37 0)), some (.ref (ad 38 0)), some (.ref (ad 39 0)), some (.ref (ad 40 0)), none, none, none]))) else none
  | 23 => if i = 0 then some (.inl (cZ, 5)) else none
  | 24 => if i = 0 then some (.inl (cI, 5)) else none
  | 25 => if i = 0 then some (.inl (cI, 5)) else none
  | 26 => if i = 0 then some (.inl (cI, 5)) else none
  | 27 => if i = 0 then some (.inl (cI, 5)) else none
  | 28 => if i = 0 then some (.inl (cI, 5)) else none
  | 29 => if i = 0 then some (.inl (cI, 5)) else none
  | 30 => if i = 0 then some (.inl (cI, 200)) else none
  | 31 => if i = 0 then some (.inl (cI, 5)) else none
  | 32 => if i = 0 then some (.inl (cI, 5)) else none
  | 33 => if i = 0 then some (.inl (cI, 5)) else none
  | 34 => if i = 0 then some (.inl (cI, 5)) else none
  | 35 => if i = 0 then some (.inl (cI, 5)) else none
  | 36 => if i = 0 then some (.inl (cI, 5)) else none
  | 37 => if i = 0 then some (.inl (cI, 5)) else none
  | 38 => if i = 0 then some (.inl (cI, 40)) else none
  | 39 => if i = 0 then some (.inl (cI, 5)) else none
  | 40 => if i = 0 then some (.inl (cI, 1407)) else none
  | _ => none
/-- the bundle of this system -/
def wB (B : sh_B) (Z : mx_Z) (N L : Nat) (cI cR cZ : ClassId) : Prop := sh_F B ∧ (∀ k i, B.2.2 k i = tm_ N L cI cR cZ B.2.1 k i) ∧ Z.2.2 = [(cI, .int), (cR, .object R_R), (cZ, .boolean)] ∧ (3 ≤ N ∧ N ≤ 5) ∧ (1 ≤ L ∧ L ≤ 32)
section TM
variable {B : sh_B} {Z : mx_Z} {N L : Nat} {cI cR cZ : ClassId}
theorem ty_0 (hb : wB B Z N L cI cR cZ) : Z.2.2[0]? = some (cI, .int) := by rw [hb.2.2.1]; rfl
theorem ty_1 (hb : wB B Z N L cI cR cZ) : Z.2.2[1]? = some (cR, .object R_R) := by rw [hb.2.2.1]; rfl
theorem ty_2 (hb : wB B Z N L cI cR cZ) : Z.2.2[2]? = some (cZ, .boolean) := by rw [hb.2.2.1]; rfl
theorem tm_0 (hb : wB B Z N L cI cR cZ) {i : Nat} (hi : i < N) : B.2.2 0 i = some (.inr (.inr (4, [some (.int (nI i)), some (.ref (B.2.1 1 i)), some (.ref (B.2.1 3 i)), none, none, none, none, none, none, none, none, none, none, none]))) := by rw [hb.2.1]; exact if_pos hi
theorem tm_1 (hb : wB B Z N L cI cR cZ) {i : Nat} (hi : i < N) : B.2.2 1 i = some (.inr (.inr (2, [some (.int (nI L)), some (.ref (B.2.1 2 i)), none, none, none]))) := by rw [hb.2.1]; exact if_pos hi
theorem tm_2 (hb : wB B Z N L cI cR cZ) {i : Nat} (hi : i < N) : B.2.2 2 i = some (.inl (cI, 32)) := by rw [hb.2.1]; exact if_pos hi
theorem tm_3 (hb : wB B Z N L cI cR cZ) {i : Nat} (hi : i < N) : B.2.2 3 i = some (.inr (.inr (1, [some (.ref (B.2.1 4 i)), none]))) := by rw [hb.2.1]; exact if_pos hi
theorem tm_4 (hb : wB B Z N L cI cR cZ) {i : Nat} (hi : i < N) : B.2.2 4 i = some (.inl (cI, 8)) := by rw [hb.2.1]; exact if_pos hi
theorem tm_5 (hb : wB B Z N L cI cR cZ) : B.2.2 5 0 = some (.inr (.inr (0, [some (.ref (B.2.1 6 0)), none, none, none]))) := by rw [hb.2.1]; rfl
theorem tm_6 (hb : wB B Z N L cI cR cZ) : B.2.2 6 0 = some (.inl (cI, 1400)) := by rw [hb.2.1]; rfl
theorem tm_7 (hb : wB B Z N L cI cR cZ) : B.2.2 7 0 = some (.inr (.inr (3, [none, none, none, none, none, none, none]))) := by rw [hb.2.1]; rfl
theorem tm_8 (hb : wB B Z N L cI cR cZ) : B.2.2 8 0 = some (.inr (.inr (5, [some (.int (nI N)), some (.int (nI L)), some (.ref (B.2.1 9 0)), some (.ref (B.2.1 5 0)), some (.ref (B.2.1 7 0))]))) := by rw [hb.2.1]; rfl
theorem tm_9 (hb : wB B Z N L cI cR cZ) : B.2.2 9 0 = some (.inr (.inl (cR, N, fun j => some (B.2.1 0 j)))) := by rw [hb.2.1]; rfl
theorem tm_20 (hb : wB B Z N L cI cR cZ) : B.2.2 20 0 = some (.inr (.inr (6, [none, some (.int (nI N)), some (.int (nI L)), some (.ref (B.2.1 23 0)), some (.ref (B.2.1 24 0)), some (.ref (B.2.1 25 0)), some (.ref (B.2.1 26 0)), some (.ref (B.2.1 27 0)), some (.ref (B.2.1 28 0)), some (.ref (B.2.1 29 0)), some (.ref (B.2.1 30 0)), some (.ref (B.2.1 31 0)), some (.ref (B.2.1 32 0)), some (.ref (B.2.1 33 0)), some (.ref (B.2.1 34 0)), some (.ref (B.2.1 35 0)), some (.ref (B.2.1 36 0)), some (.ref (B.2.1 37 0)), some (.ref (B.2.1 38 0)), some (.ref (B.2.1 39 0)), some (.ref (B.2.1 40 0)), none, none, none]))) := by rw [hb.2.1]; rfl
theorem tm_23 (hb : wB B Z N L cI cR cZ) : B.2.2 23 0 = some (.inl (cZ, 5)) := by rw [hb.2.1]; rfl
theorem tm_24 (hb : wB B Z N L cI cR cZ) : B.2.2 24 0 = some (.inl (cI, 5)) := by rw [hb.2.1]; rfl
theorem tm_25 (hb : wB B Z N L cI cR cZ) : B.2.2 25 0 = some (.inl (cI, 5)) := by rw [hb.2.1]; rfl
theorem tm_26 (hb : wB B Z N L cI cR cZ) : B.2.2 26 0 = some (.inl (cI, 5)) := by rw [hb.2.1]; rfl
theorem tm_27 (hb : wB B Z N L cI cR cZ) : B.2.2 27 0 = some (.inl (cI, 5)) := by rw [hb.2.1]; rfl
theorem tm_28 (hb : wB B Z N L cI cR cZ) : B.2.2 28 0 = some (.inl (cI, 5)) := by rw [hb.2.1]; rfl
theorem tm_29 (hb : wB B Z N L cI cR cZ) : B.2.2 29 0 = some (.inl (cI, 5)) := by rw [hb.2.1]; rfl
theorem tm_30 (hb : wB B Z N L cI cR cZ) : B.2.2 30 0 = some (.inl (cI, 200)) := by rw [hb.2.1]; rfl
theorem tm_31 (hb : wB B Z N L cI cR cZ) : B.2.2 31 0 = some (.inl (cI, 5)) := by rw [hb.2.1]; rfl
theorem tm_32 (hb : wB B Z N L cI cR cZ) : B.2.2 32 0 = some (.inl (cI, 5)) := by rw [hb.2.1]; rfl
theorem tm_33 (hb : wB B Z N L cI cR cZ) : B.2.2 33 0 = some (.inl (cI, 5)) := by rw [hb.2.1]; rfl
theorem tm_34 (hb : wB B Z N L cI cR cZ) : B.2.2 34 0 = some (.inl (cI, 5)) := by rw [hb.2.1]; rfl
theorem tm_35 (hb : wB B Z N L cI cR cZ) : B.2.2 35 0 = some (.inl (cI, 5)) := by rw [hb.2.1]; rfl
theorem tm_36 (hb : wB B Z N L cI cR cZ) : B.2.2 36 0 = some (.inl (cI, 5)) := by rw [hb.2.1]; rfl
theorem tm_37 (hb : wB B Z N L cI cR cZ) : B.2.2 37 0 = some (.inl (cI, 5)) := by rw [hb.2.1]; rfl
theorem tm_38 (hb : wB B Z N L cI cR cZ) : B.2.2 38 0 = some (.inl (cI, 40)) := by rw [hb.2.1]; rfl
theorem tm_39 (hb : wB B Z N L cI cR cZ) : B.2.2 39 0 = some (.inl (cI, 5)) := by rw [hb.2.1]; rfl
theorem tm_40 (hb : wB B Z N L cI cR cZ) : B.2.2 40 0 = some (.inl (cI, 1407)) := by rw [hb.2.1]; rfl
end TM
theorem cx_geti {X : mx_C} {Z : mx_Z} {own : String} {cc : ByteArray} {nL : Nat} {rm : Room} {n : Nat × Nat} {pc : Nat} {lv : List (Nat × Value)} {st : List Value} {B : sh_B} {c r : sh_S} (ok : mx_ok X Z own cc nL rm) (hB : sh_F B) {idx ci kf kd i : Nat} {tm : List (Option Value)} (hk0 : Nat.blt kd 20 = true) (fl : mx_fl own idx ci kf) (ht : B.2.2 kd i = some (.inr (.inr (ci, tm)))) (hk : tm[kf]? = some none) (hd : decode cc pc = .ok (.getfield idx, 3)) (kk : sx B X n (pc + 3) lv (.int (c kd i kf) :: st) (jn c r)) : sx B X n pc lv (.ref (B.2.1 kd i) :: st) (jn c r) :=
  sx_geti ok hB fl ht hk hd (by rw [jn_c hk0]; exact kk)
theorem cx_put {X : mx_C} {Z : mx_Z} {own : String} {cc : ByteArray} {nL : Nat} {rm : Room} {n : Nat × Nat} {pc : Nat} {lv : List (Nat × Value)} {st : List Value} {B : sh_B} {c r : sh_S} (ok : mx_ok X Z own cc nL rm) (hB : sh_F B) {idx ci kf kd i : Nat} {tm : List (Option Value)} {ty : FieldType} {x : Int32} (hk0 : Nat.blt kd 20 = true) (fl : mx_fw own idx ci kf ty) (ht : B.2.2 kd i = some (.inr (.inr (ci, tm)))) (hk : tm[kf]? = some none) (hn : narrow ty (.int x) = .int x) (hf : fits ty (.int x) = true) (hd : decode cc pc = .ok (.putfield idx, 3)) (kk : sx B X n (pc + 3) lv st (jn (sU c kd i kf x) r)) : sx B X n pc lv (.int x :: .ref (B.2.1 kd i) :: st) (jn c r) :=
  sx_put ok hB fl ht hk hn hf hd (sx_S (sU_c hk0) kk)
theorem cx_iald {X : mx_C} {Z : mx_Z} {own : String} {cc : ByteArray} {nL : Nat} {rm : Room} {n : Nat × Nat} {pc : Nat} {lv : List (Nat × Value)} {st : List Value} {B : sh_B} {c r : sh_S} (ok : mx_ok X Z own cc nL rm) (hB : sh_F B) {kd i j t0 N : Nat} {cA : ClassId} {x : Int32} (hk0 : Nat.blt kd 20 = true) (ht : B.2.2 kd i = some (.inl (cA, N))) (hty : Z.2.2[t0]? = some (cA, .int)) (hx : x = nI j) (hj : j < N) (hN : N ≤ 100000) (hd : decode cc pc = .ok (.iaload, 1)) (kk : sx B X n (pc + 1) lv (.int (c kd i j) :: st) (jn c r)) : sx B X n pc lv (.int x :: .ref (B.2.1 kd i) :: st) (jn c r) := by
  subst hx
  refine sx_iald ok hB ht hty (vp_at hj hN).1 hd ?_
  rw [(vp_at hj hN).2, jn_c hk0]
  exact kk
theorem cx_iast {X : mx_C} {Z : mx_Z} {own : String} {cc : ByteArray} {nL : Nat} {rm : Room} {n : Nat × Nat} {pc : Nat} {lv : List (Nat × Value)} {st : List Value} {B : sh_B} {c r : sh_S} (ok : mx_ok X Z own cc nL rm) (hB : sh_F B) {kd i j t0 N : Nat} {cA : ClassId} {x v : Int32} (hk0 : Nat.blt kd 20 = true) (ht : B.2.2 kd i = some (.inl (cA, N))) (hty : Z.2.2[t0]? = some (cA, .int)) (hx : x = nI j) (hj : j < N) (hN : N ≤ 100000) (hd : decode cc pc = .ok (.iastore, 1)) (kk : sx B X n (pc + 1) lv st (jn (sU c kd i j v) r)) : sx B X n pc lv (.int v :: .int x :: .ref (B.2.1 kd i) :: st) (jn c r) := by
  subst hx
  refine sx_iast ok hB ht hty (vp_at hj hN).1 hd ?_
  rw [(vp_at hj hN).2]
  exact sx_S (sU_c hk0) kk
theorem rx_geti {X : mx_C} {Z : mx_Z} {own : String} {cc : ByteArray} {nL : Nat} {rm : Room} {n : Nat × Nat} {pc : Nat} {lv : List (Nat × Value)} {st : List Value} {B : sh_B} {c r : sh_S} (ok : mx_ok X Z own cc nL rm) (hB : sh_F B) {idx ci kf kd i : Nat} {tm : List (Option Value)} (hk0 : Nat.blt kd 20 = false) (fl : mx_fl own idx ci kf) (ht : B.2.2 kd i = some (.inr (.inr (ci, tm)))) (hk : tm[kf]? = some none) (hd : decode cc pc = .ok (.getfield idx, 3)) (kk : sx B X n (pc + 3) lv (.int (r kd i kf) :: st) (jn c r)) : sx B X n pc lv (.ref (B.2.1 kd i) :: st) (jn c r) :=
  sx_geti ok hB fl ht hk hd (by rw [jn_r hk0]; exact kk)
theorem rx_put {X : mx_C} {Z : mx_Z} {own : String} {cc : ByteArray} {nL : Nat} {rm : Room} {n : Nat × Nat} {pc : Nat} {lv : List (Nat × Value)} {st : List Value} {B : sh_B} {c r : sh_S} (ok : mx_ok X Z own cc nL rm) (hB : sh_F B) {idx ci kf kd i : Nat} {tm : List (Option Value)} {ty : FieldType} {x : Int32} (hk0 : Nat.blt kd 20 = false) (fl : mx_fw own idx ci kf ty) (ht : B.2.2 kd i = some (.inr (.inr (ci, tm)))) (hk : tm[kf]? = some none) (hn : narrow ty (.int x) = .int x) (hf : fits ty (.int x) = true) (hd : decode cc pc = .ok (.putfield idx, 3)) (kk : sx B X n (pc + 3) lv st (jn c (sU r kd i kf x))) : sx B X n pc lv (.int x :: .ref (B.2.1 kd i) :: st) (jn c r) :=
  sx_put ok hB fl ht hk hn hf hd (sx_S (sU_r hk0) kk)
theorem rx_iald {X : mx_C} {Z : mx_Z} {own : String} {cc : ByteArray} {nL : Nat} {rm : Room} {n : Nat × Nat} {pc : Nat} {lv : List (Nat × Value)} {st : List Value} {B : sh_B} {c r : sh_S} (ok : mx_ok X Z own cc nL rm) (hB : sh_F B) {kd i j t0 N : Nat} {cA : ClassId} {x : Int32} (hk0 : Nat.blt kd 20 = false) (ht : B.2.2 kd i = some (.inl (cA, N))) (hty : Z.2.2[t0]? = some (cA, .int)) (hx : x = nI j) (hj : j < N) (hN : N ≤ 100000) (hd : decode cc pc = .ok (.iaload, 1)) (kk : sx B X n (pc + 1) lv (.int (r kd i j) :: st) (jn c r)) : sx B X n pc lv (.int x :: .ref (B.2.1 kd i) :: st) (jn c r) := by
  subst hx
  refine sx_iald ok hB ht hty (vp_at hj hN).1 hd ?_
  rw [(vp_at hj hN).2, jn_r hk0]
  exact kk
theorem rx_iast {X : mx_C} {Z : mx_Z} {own : String} {cc : ByteArray} {nL : Nat} {rm : Room} {n : Nat × Nat} {pc : Nat} {lv : List (Nat × Value)} {st : List Value} {B : sh_B} {c r : sh_S} (ok : mx_ok X Z own cc nL rm) (hB : sh_F B) {kd i j t0 N : Nat} {cA : ClassId} {x v : Int32} (hk0 : Nat.blt kd 20 = false) (ht : B.2.2 kd i = some (.inl (cA, N))) (hty : Z.2.2[t0]? = some (cA, .int)) (hx : x = nI j) (hj : j < N) (hN : N ≤ 100000) (hd : decode cc pc = .ok (.iastore, 1)) (kk : sx B X n (pc + 1) lv st (jn c (sU r kd i j v))) : sx B X n pc lv (.int v :: .int x :: .ref (B.2.1 kd i) :: st) (jn c r) := by
  subst hx
  refine sx_iast ok hB ht hty (vp_at hj hN).1 hd ?_
  rw [(vp_at hj hN).2]
  exact sx_S (sU_r hk0) kk
theorem rx_zald {X : mx_C} {Z : mx_Z} {own : String} {cc : ByteArray} {nL : Nat} {rm : Room} {n : Nat × Nat} {pc : Nat} {lv : List (Nat × Value)} {st : List Value} {B : sh_B} {c r : sh_S} (ok : mx_ok X Z own cc nL rm) (hB : sh_F B) {kd i j t0 N : Nat} {cA : ClassId} {x : Int32} (hk0 : Nat.blt kd 20 = false) (ht : B.2.2 kd i = some (.inl (cA, N))) (hty : Z.2.2[t0]? = some (cA, .boolean)) (hx : x = nI j) (hj : j < N) (hN : N ≤ 100000) (hd : decode cc pc = .ok (.baload, 1)) (kk : sx B X n (pc + 1) lv (.int (r kd i j) :: st) (jn c r)) : sx B X n pc lv (.int x :: .ref (B.2.1 kd i) :: st) (jn c r) := by
  subst hx
  obtain ⟨q0, h0⟩ := hB.2 kd i _ ht
  refine mr_zald ok q0 t0 (sh_at h0) hty (vp_at hj hN).1 hd ?_
  rw [(vp_at hj hN).2, jn_r hk0]
  exact kk
theorem rx_zast {X : mx_C} {Z : mx_Z} {own : String} {cc : ByteArray} {nL : Nat} {rm : Room} {n : Nat × Nat} {pc : Nat} {lv : List (Nat × Value)} {st : List Value} {B : sh_B} {c r : sh_S} (ok : mx_ok X Z own cc nL rm) (hB : sh_F B) {kd i j t0 N : Nat} {cA : ClassId} {x v : Int32} (hk0 : Nat.blt kd 20 = false) (ht : B.2.2 kd i = some (.inl (cA, N))) (hty : Z.2.2[t0]? = some (cA, .boolean)) (hx : x = nI j) (hj : j < N) (hN : N ≤ 100000) (hv : vp_nar .boolean v = v) (hd : decode cc pc = .ok (.bastore, 1)) (kk : sx B X n (pc + 1) lv st (jn c (sU r kd i j v))) : sx B X n pc lv (.int v :: .int x :: .ref (B.2.1 kd i) :: st) (jn c r) := by
  subst hx
  obtain ⟨q0, h0⟩ := hB.2 kd i _ ht
  refine mr_zast ok q0 t0 (sh_at h0) hty (vp_at hj hN).1 hd ?_
  rw [(vp_at hj hN).2, hv]
  have e := sh_set (S := jn c r) hB.1 h0 (upd (jn c r kd i) j v)
  rw [sU_sA, sU_r hk0] at e
  exact mr_ws e kk
theorem cx_copy {X : mx_C} {Z : mx_Z} {own : String} {cc : ByteArray} {nL : Nat} {rm : Room} {n : Nat × Nat} {pc : Nat} {lv : List (Nat × Value)} {st : List Value} {B : sh_B} {c r : sh_S} (ok : mx_ok X Z own cc nL rm) (hB : sh_F B) {idx : Nat} (cw : Cond.methodLink own idx arraycopyName ∈ mx_tbl ∧ Cond.native arraycopyName ∈ mx_tbl ∧ Cond.static arraycopyName ∈ mx_tbl ∧ Cond.initialized "java/lang/System" ∈ mx_tbl) {kd i t0 N sp dp k : Nat} {cA : ClassId} {xs xd xk : Int32} (hk0 : Nat.blt kd 20 = true) (ht : B.2.2 kd i = some (.inl (cA, N))) (hty : Z.2.2[t0]? = some (cA, .int)) (h1 : xs = nI sp) (h2 : xd = nI dp) (h3 : xk = nI k) (h4 : sp + k ≤ N) (h5 : dp + k ≤ N) (hN : N ≤ 100000) (hf : 1 ≤ rm.frames) (hlo : (st.map fun v => v.category).sum + (nativeFrameWords "java/lang/System" "arraycopy" 5 + 11) ≤ rm.locals) (hd : decode cc pc = .ok (.invokestatic idx, 3))
    (kk : sx B X n (pc + 3) lv st (jn (sA c kd i (va_cpy (c kd i) (c kd i) sp dp k)) r)) : sx B X n pc lv (.int xk :: .int xd :: .ref (B.2.1 kd i) :: .int xs :: .ref (B.2.1 kd i) :: st) (jn c r) := by
  subst h1; subst h2; subst h3
  have e1 : (nI sp).toNatClampNeg = sp := nI_clamp (by omega)
  have e2 : (nI dp).toNatClampNeg = dp := nI_clamp (by omega)
  have e3 : (nI k).toNatClampNeg = k := nI_clamp (by omega)
  refine sx_copy ok hB cw ht ht hty (nI_pos (by omega)) (nI_pos (by omega)) (nI_pos (by omega)) (by rw [e1, e3]; exact h4) (by rw [e2, e3]; exact h5) hf hlo hd ?_
  rw [e1, e2, e3]
  exact sx_S (by rw [jn_c hk0, sA_c hk0]) kk
/-- an exact end -/
abbrev qe (v0 : Option Value) (S0 : sh_S) : Option Value → sh_S → Prop := fun v S' => v = v0 ∧ S' = S0
abbrev rmm (f l : Nat) : Room := { frames := f, cells := 0, slots := 0, locals := l }
theorem cat_of {l : List Value} (h : l.all (fun v => Nat.beq v.category 1) = true) : ∀ v ∈ l, v.category = 1 := fun v hv => Nat.eq_of_beq_eq_true (List.all_eq_true.mp h v hv)
theorem and31 (x : Int32) : x &&& 31 = nI (x &&& 31).toNatClampNeg ∧ (x &&& 31).toNatClampNeg < 32 := by
  obtain ⟨j, hj, e⟩ := pk_andE x (m := 31) 5 (by decide)
  have h32 : (2 : Nat) ^ 5 = 32 := by decide
  rw [h32] at hj
  rw [e, nI_clamp (by omega)]
  exact ⟨rfl, hj⟩
theorem sx_cVi {X : mx_C} {Z : mx_Z} {own : String} {cc : ByteArray} {nL : Nat} {rm : Room} {n : Nat × Nat} {pc : Nat} {lv : List (Nat × Value)} {st : List Value} {B : sh_B} {S : sh_S} (ok : mx_ok X Z own cc nL rm) (hB : sh_F B) {idx k : Nat} {y : MethodName} {b : ByteArray} {maxL : Nat} {ret : Option FieldType} {f l : Nat} (As : List Value) {w : Value} {S' : sh_S} {kd i ci : Nat} {rc : vw_C} {tm : List (Option Value)} {st0 : List Value} (hs0 : st0 = As.reverse ++ .ref (B.2.1 kd i) :: st) (cb : mx_cB own idx y b maxL ret k) (cv : mx_cV y) (ht : B.2.2 kd i = some (.inr (.inr (ci, tm)))) (hc : vwCl[ci]? = some rc) (hy : rc.1 = y.cls) (hC : sc B Z y b maxL ret (rmm f l) (.ref (B.2.1 kd i) :: As) S (qe (some w) S')) (hk : As.length = k) (hst : (st.map fun v => v.category).sum ≤ 8) (hR : f + 1 ≤ rm.frames ∧ 8 + (maxL + 11) + l ≤ rm.locals) (hn : n.1 ≤ rm.cells ∧ n.2 ≤ rm.slots) (hd : decode cc pc = .ok (.invokevirtual idx, 3))
    (kk : sx B X n (pc + 3) lv (w :: st) S') : sx B X n pc lv st0 S := by
  refine sx_callV ok hB cb cv hC ht hc hy hk hst hR hn.1 hn.2 hd hs0 ?_
  rintro _ _ ⟨rfl, rfl⟩
  exact kk
theorem sx_cSi {X : mx_C} {Z : mx_Z} {own : String} {cc : ByteArray} {nL : Nat} {rm : Room} {n : Nat × Nat} {pc : Nat} {lv : List (Nat × Value)} {st : List Value} {B : sh_B} {S : sh_S} (ok : mx_ok X Z own cc nL rm) {idx k : Nat} {y : MethodName} {b : ByteArray} {maxL : Nat} {ret : Option FieldType} {f l : Nat} (As : List Value) {w : Value} {S' : sh_S} {st0 : List Value} (hs0 : st0 = As.reverse ++ st) (cb : mx_cB own idx y b maxL ret k) (cs : Cond.static y ∈ mx_tbl) (hC : sc B Z y b maxL ret (rmm f l) As S (qe (some w) S')) (hk : As.length = k) (hst : (st.map fun v => v.category).sum ≤ 8) (hR : f + 1 ≤ rm.frames ∧ 8 + (maxL + 11) + l ≤ rm.locals) (hn : n.1 ≤ rm.cells ∧ n.2 ≤ rm.slots) (hd : decode cc pc = .ok (.invokestatic idx, 3))
    (kk : sx B X n (pc + 3) lv (w :: st) S') : sx B X n pc lv st0 S := by
  refine sx_callS ok cb cs hC hk hst hR hn.1 hn.2 hd hs0 ?_
  rintro _ _ ⟨rfl, rfl⟩
  exact kk
theorem sx_cVv {X : mx_C} {Z : mx_Z} {own : String} {cc : ByteArray} {nL : Nat} {rm : Room} {n : Nat × Nat} {pc : Nat} {lv : List (Nat × Value)} {st : List Value} {B : sh_B} {S : sh_S} (ok : mx_ok X Z own cc nL rm) (hB : sh_F B) {idx k : Nat} {y : MethodName} {b : ByteArray} {maxL : Nat} {ret : Option FieldType} {f l : Nat} (As : List Value) {S' : sh_S} {kd i ci : Nat} {rc : vw_C} {tm : List (Option Value)} {st0 : List Value} (hs0 : st0 = As.reverse ++ .ref (B.2.1 kd i) :: st) (cb : mx_cB own idx y b maxL ret k) (cv : mx_cV y) (ht : B.2.2 kd i = some (.inr (.inr (ci, tm)))) (hc : vwCl[ci]? = some rc) (hy : rc.1 = y.cls) (hC : sc B Z y b maxL ret (rmm f l) (.ref (B.2.1 kd i) :: As) S (qe none S')) (hk : As.length = k) (hst : (st.map fun v => v.category).sum ≤ 8) (hR : f + 1 ≤ rm.frames ∧ 8 + (maxL + 11) + l ≤ rm.locals) (hn : n.1 ≤ rm.cells ∧ n.2 ≤ rm.slots) (hd : decode cc pc = .ok (.invokevirtual idx, 3))
    (kk : sx B X n (pc + 3) lv (st) S') : sx B X n pc lv st0 S := by
  refine sx_callV ok hB cb cv hC ht hc hy hk hst hR hn.1 hn.2 hd hs0 ?_
  rintro _ _ ⟨rfl, rfl⟩
  exact kk
theorem sx_cSv {X : mx_C} {Z : mx_Z} {own : String} {cc : ByteArray} {nL : Nat} {rm : Room} {n : Nat × Nat} {pc : Nat} {lv : List (Nat × Value)} {st : List Value} {B : sh_B} {S : sh_S} (ok : mx_ok X Z own cc nL rm) {idx k : Nat} {y : MethodName} {b : ByteArray} {maxL : Nat} {ret : Option FieldType} {f l : Nat} (As : List Value) {S' : sh_S} {st0 : List Value} (hs0 : st0 = As.reverse ++ st) (cb : mx_cB own idx y b maxL ret k) (cs : Cond.static y ∈ mx_tbl) (hC : sc B Z y b maxL ret (rmm f l) As S (qe none S')) (hk : As.length = k) (hst : (st.map fun v => v.category).sum ≤ 8) (hR : f + 1 ≤ rm.frames ∧ 8 + (maxL + 11) + l ≤ rm.locals) (hn : n.1 ≤ rm.cells ∧ n.2 ≤ rm.slots) (hd : decode cc pc = .ok (.invokestatic idx, 3))
    (kk : sx B X n (pc + 3) lv (st) S') : sx B X n pc lv st0 S := by
  refine sx_callS ok cb cs hC hk hst hR hn.1 hn.2 hd hs0 ?_
  rintro _ _ ⟨rfl, rfl⟩
  exact kk
end
section
set_option maxRecDepth 100000 in
theorem fl_P_18 : mx_fl R_P 18 5 0 := ⟨R_P, F_P, 5, rfl, by decide, mw 229 rfl rfl, in_P⟩
set_option maxRecDepth 100000 in
theorem fF_P_18 : mx_fF R_P 18 5 0 (.int) := ⟨R_P, F_P, 5, tf_P, rfl, by decide, mw 229 rfl rfl, in_P, ty_P, nm_P, rfl, by decide +kernel, rfl⟩
set_option maxRecDepth 100000 in
theorem fl_P_22 : mx_fl R_P 22 5 1 := ⟨R_P, F_P, 5, rfl, by decide, mw 230 rfl rfl, in_P⟩
set_option maxRecDepth 100000 in
theorem fF_P_22 : mx_fF R_P 22 5 1 (.int) := ⟨R_P, F_P, 5, tf_P, rfl, by decide, mw 230 rfl rfl, in_P, ty_P, nm_P, rfl, by decide +kernel, rfl⟩
set_option maxRecDepth 100000 in
theorem fl_P_27 : mx_fl R_P 27 5 2 := ⟨R_P, F_P, 5, rfl, by decide, mw 231 rfl rfl, in_P⟩
set_option maxRecDepth 100000 in
theorem fF_P_27 : mx_fF R_P 27 5 2 (.array (.object "SlotPaxos$Replica")) := ⟨R_P, F_P, 5, tf_P, rfl, by decide, mw 231 rfl rfl, in_P, ty_P, nm_P, rfl, by decide +kernel, rfl⟩
set_option maxRecDepth 100000 in
theorem fl_P_37 : mx_fl R_P 37 5 3 := ⟨R_P, F_P, 5, rfl, by decide, mw 232 rfl rfl, in_P⟩
set_option maxRecDepth 100000 in
theorem fF_P_37 : mx_fF R_P 37 5 3 (.object "SlotPaxos$Flight") := ⟨R_P, F_P, 5, tf_P, rfl, by decide, mw 232 rfl rfl, in_P, ty_P, nm_P, rfl, by decide +kernel, rfl⟩
set_option maxRecDepth 100000 in
theorem fl_P_44 : mx_fl R_P 44 5 4 := ⟨R_P, F_P, 5, rfl, by decide, mw 233 rfl rfl, in_P⟩
set_option maxRecDepth 100000 in
theorem fF_P_44 : mx_fF R_P 44 5 4 (.object "SlotPaxos$Message") := ⟨R_P, F_P, 5, tf_P, rfl, by decide, mw 233 rfl rfl, in_P, ty_P, nm_P, rfl, by decide +kernel, rfl⟩
set_option maxRecDepth 100000 in
theorem fl_P_52 : mx_fl R_P 52 4 3 := ⟨R_R, F_R, 14, rfl, by decide, mw 122 rfl rfl, in_R⟩
set_option maxRecDepth 100000 in
theorem fw_P_52 : mx_fw R_P 52 4 3 (.boolean) := ⟨R_R, F_R, 14, tf_R, rfl, by decide, mw 122 rfl rfl, in_R, ty_R, nm_R, rfl, by decide +kernel⟩
set_option maxRecDepth 100000 in
theorem fl_P_56 : mx_fl R_P 56 4 2 := ⟨R_R, F_R, 14, rfl, by decide, mw 120 rfl rfl, in_R⟩
set_option maxRecDepth 100000 in
theorem fl_P_66 : mx_fl R_P 66 4 7 := ⟨R_R, F_R, 14, rfl, by decide, mw 130 rfl rfl, in_R⟩
set_option maxRecDepth 100000 in
theorem fw_P_66 : mx_fw R_P 66 4 7 (.int) := ⟨R_R, F_R, 14, tf_R, rfl, by decide, mw 130 rfl rfl, in_R, ty_R, nm_R, rfl, by decide +kernel⟩
set_option maxRecDepth 100000 in
theorem fl_P_76 : mx_fl R_P 76 1 1 := ⟨R_L, F_L, 2, rfl, by decide, mw 109 rfl rfl, in_L⟩
set_option maxRecDepth 100000 in
theorem fw_P_76 : mx_fw R_P 76 1 1 (.int) := ⟨R_L, F_L, 2, tf_L, rfl, by decide, mw 109 rfl rfl, in_L, ty_L, nm_L, rfl, by decide +kernel⟩
set_option maxRecDepth 100000 in
theorem fl_P_82 : mx_fl R_P 82 4 0 := ⟨R_R, F_R, 14, rfl, by decide, mw 116 rfl rfl, in_R⟩
set_option maxRecDepth 100000 in
theorem fl_P_89 : mx_fl R_P 89 0 1 := ⟨R_F, F_F, 4, rfl, by decide, mw 180 rfl rfl, in_F⟩
set_option maxRecDepth 100000 in
theorem fw_P_89 : mx_fw R_P 89 0 1 (.int) := ⟨R_F, F_F, 4, tf_F, rfl, by decide, mw 180 rfl rfl, in_F, ty_F, nm_F, rfl, by decide +kernel⟩
set_option maxRecDepth 100000 in
theorem fl_P_101 : mx_fl R_P 101 3 2 := ⟨R_M, F_M, 7, rfl, by decide, mw 204 rfl rfl, in_M⟩
set_option maxRecDepth 100000 in
theorem fw_P_101 : mx_fw R_P 101 3 2 (.int) := ⟨R_M, F_M, 7, tf_M, rfl, by decide, mw 204 rfl rfl, in_M, ty_M, nm_M, rfl, by decide +kernel⟩
set_option maxRecDepth 100000 in
theorem fl_P_108 : mx_fl R_P 108 3 0 := ⟨R_M, F_M, 7, rfl, by decide, mw 200 rfl rfl, in_M⟩
set_option maxRecDepth 100000 in
theorem fw_P_108 : mx_fw R_P 108 3 0 (.int) := ⟨R_M, F_M, 7, tf_M, rfl, by decide, mw 200 rfl rfl, in_M, ty_M, nm_M, rfl, by decide +kernel⟩
set_option maxRecDepth 100000 in
theorem fl_P_117 : mx_fl R_P 117 4 1 := ⟨R_R, F_R, 14, rfl, by decide, mw 118 rfl rfl, in_R⟩
set_option maxRecDepth 100000 in
theorem fl_P_121 : mx_fl R_P 121 2 2 := ⟨R_G, F_G, 5, rfl, by decide, mw 84 rfl rfl, in_G⟩
set_option maxRecDepth 100000 in
theorem fw_P_121 : mx_fw R_P 121 2 2 (.int) := ⟨R_G, F_G, 5, tf_G, rfl, by decide, mw 84 rfl rfl, in_G, ty_G, nm_G, rfl, by decide +kernel⟩
set_option maxRecDepth 100000 in
theorem fl_P_126 : mx_fl R_P 126 2 3 := ⟨R_G, F_G, 5, rfl, by decide, mw 86 rfl rfl, in_G⟩
set_option maxRecDepth 100000 in
theorem fw_P_126 : mx_fw R_P 126 2 3 (.int) := ⟨R_G, F_G, 5, tf_G, rfl, by decide, mw 86 rfl rfl, in_G, ty_G, nm_G, rfl, by decide +kernel⟩
set_option maxRecDepth 100000 in
theorem fl_P_133 : mx_fl R_P 133 4 4 := ⟨R_R, F_R, 14, rfl, by decide, mw 124 rfl rfl, in_R⟩
set_option maxRecDepth 100000 in
theorem fw_P_133 : mx_fw R_P 133 4 4 (.int) := ⟨R_R, F_R, 14, tf_R, rfl, by decide, mw 124 rfl rfl, in_R, ty_R, nm_R, rfl, by decide +kernel⟩
set_option maxRecDepth 100000 in
theorem fl_P_140 : mx_fl R_P 140 4 5 := ⟨R_R, F_R, 14, rfl, by decide, mw 126 rfl rfl, in_R⟩
set_option maxRecDepth 100000 in
theorem fw_P_140 : mx_fw R_P 140 4 5 (.int) := ⟨R_R, F_R, 14, tf_R, rfl, by decide, mw 126 rfl rfl, in_R, ty_R, nm_R, rfl, by decide +kernel⟩
set_option maxRecDepth 100000 in
theorem fl_P_143 : mx_fl R_P 143 4 6 := ⟨R_R, F_R, 14, rfl, by decide, mw 128 rfl rfl, in_R⟩
set_option maxRecDepth 100000 in
theorem fw_P_143 : mx_fw R_P 143 4 6 (.int) := ⟨R_R, F_R, 14, tf_R, rfl, by decide, mw 128 rfl rfl, in_R, ty_R, nm_R, rfl, by decide +kernel⟩
set_option maxRecDepth 100000 in
theorem fl_P_159 : mx_fl R_P 159 0 2 := ⟨R_F, F_F, 4, rfl, by decide, mw 182 rfl rfl, in_F⟩
set_option maxRecDepth 100000 in
theorem fw_P_159 : mx_fw R_P 159 0 2 (.int) := ⟨R_F, F_F, 4, tf_F, rfl, by decide, mw 182 rfl rfl, in_F, ty_F, nm_F, rfl, by decide +kernel⟩
set_option maxRecDepth 100000 in
theorem fl_P_162 : mx_fl R_P 162 0 3 := ⟨R_F, F_F, 4, rfl, by decide, mw 184 rfl rfl, in_F⟩
set_option maxRecDepth 100000 in
theorem fw_P_162 : mx_fw R_P 162 0 3 (.int) := ⟨R_F, F_F, 4, tf_F, rfl, by decide, mw 184 rfl rfl, in_F, ty_F, nm_F, rfl, by decide +kernel⟩
set_option maxRecDepth 100000 in
theorem fl_P_173 : mx_fl R_P 173 4 10 := ⟨R_R, F_R, 14, rfl, by decide, mw 136 rfl rfl, in_R⟩
set_option maxRecDepth 100000 in
theorem fw_P_173 : mx_fw R_P 173 4 10 (.int) := ⟨R_R, F_R, 14, tf_R, rfl, by decide, mw 136 rfl rfl, in_R, ty_R, nm_R, rfl, by decide +kernel⟩
set_option maxRecDepth 100000 in
theorem fl_P_189 : mx_fl R_P 189 4 11 := ⟨R_R, F_R, 14, rfl, by decide, mw 138 rfl rfl, in_R⟩
set_option maxRecDepth 100000 in
theorem fw_P_189 : mx_fw R_P 189 4 11 (.int) := ⟨R_R, F_R, 14, tf_R, rfl, by decide, mw 138 rfl rfl, in_R, ty_R, nm_R, rfl, by decide +kernel⟩
set_option maxRecDepth 100000 in
theorem fl_P_198 : mx_fl R_P 198 3 3 := ⟨R_M, F_M, 7, rfl, by decide, mw 207 rfl rfl, in_M⟩
set_option maxRecDepth 100000 in
theorem fw_P_198 : mx_fw R_P 198 3 3 (.int) := ⟨R_M, F_M, 7, tf_M, rfl, by decide, mw 207 rfl rfl, in_M, ty_M, nm_M, rfl, by decide +kernel⟩
set_option maxRecDepth 100000 in
theorem fl_P_225 : mx_fl R_P 225 3 4 := ⟨R_M, F_M, 7, rfl, by decide, mw 209 rfl rfl, in_M⟩
set_option maxRecDepth 100000 in
theorem fw_P_225 : mx_fw R_P 225 3 4 (.int) := ⟨R_M, F_M, 7, tf_M, rfl, by decide, mw 209 rfl rfl, in_M, ty_M, nm_M, rfl, by decide +kernel⟩
set_option maxRecDepth 100000 in
theorem fl_P_228 : mx_fl R_P 228 3 1 := ⟨R_M, F_M, 7, rfl, by decide, mw 203 rfl rfl, in_M⟩
set_option maxRecDepth 100000 in
theorem fw_P_228 : mx_fw R_P 228 3 1 (.int) := ⟨R_M, F_M, 7, tf_M, rfl, by decide, mw 203 rfl rfl, in_M, ty_M, nm_M, rfl, by decide +kernel⟩
set_option maxRecDepth 100000 in
theorem fl_P_244 : mx_fl R_P 244 4 8 := ⟨R_R, F_R, 14, rfl, by decide, mw 132 rfl rfl, in_R⟩
set_option maxRecDepth 100000 in
theorem fw_P_244 : mx_fw R_P 244 4 8 (.int) := ⟨R_R, F_R, 14, tf_R, rfl, by decide, mw 132 rfl rfl, in_R, ty_R, nm_R, rfl, by decide +kernel⟩
set_option maxRecDepth 100000 in
theorem fl_P_254 : mx_fl R_P 254 3 6 := ⟨R_M, F_M, 7, rfl, by decide, mw 213 rfl rfl, in_M⟩
set_option maxRecDepth 100000 in
theorem fw_P_254 : mx_fw R_P 254 3 6 (.int) := ⟨R_M, F_M, 7, tf_M, rfl, by decide, mw 213 rfl rfl, in_M, ty_M, nm_M, rfl, by decide +kernel⟩
set_option maxRecDepth 100000 in
theorem fl_P_257 : mx_fl R_P 257 3 5 := ⟨R_M, F_M, 7, rfl, by decide, mw 211 rfl rfl, in_M⟩
set_option maxRecDepth 100000 in
theorem fw_P_257 : mx_fw R_P 257 3 5 (.int) := ⟨R_M, F_M, 7, tf_M, rfl, by decide, mw 211 rfl rfl, in_M, ty_M, nm_M, rfl, by decide +kernel⟩
set_option maxRecDepth 100000 in
theorem fl_P_263 : mx_fl R_P 263 4 9 := ⟨R_R, F_R, 14, rfl, by decide, mw 134 rfl rfl, in_R⟩
set_option maxRecDepth 100000 in
theorem fw_P_263 : mx_fw R_P 263 4 9 (.int) := ⟨R_R, F_R, 14, tf_R, rfl, by decide, mw 134 rfl rfl, in_R, ty_R, nm_R, rfl, by decide +kernel⟩
set_option maxRecDepth 100000 in
theorem fl_P_272 : mx_fl R_P 272 4 12 := ⟨R_R, F_R, 14, rfl, by decide, mw 140 rfl rfl, in_R⟩
set_option maxRecDepth 100000 in
theorem fw_P_272 : mx_fw R_P 272 4 12 (.int) := ⟨R_R, F_R, 14, tf_R, rfl, by decide, mw 140 rfl rfl, in_R, ty_R, nm_R, rfl, by decide +kernel⟩
set_option maxRecDepth 100000 in
theorem fl_P_275 : mx_fl R_P 275 4 13 := ⟨R_R, F_R, 14, rfl, by decide, mw 142 rfl rfl, in_R⟩
set_option maxRecDepth 100000 in
theorem fw_P_275 : mx_fw R_P 275 4 13 (.int) := ⟨R_R, F_R, 14, tf_R, rfl, by decide, mw 142 rfl rfl, in_R, ty_R, nm_R, rfl, by decide +kernel⟩
set_option maxRecDepth 100000 in
theorem fl_F_11 : mx_fl R_F 11 0 0 := ⟨R_F, F_F, 4, rfl, by decide, mw 178 rfl rfl, in_F⟩
set_option maxRecDepth 100000 in
theorem fF_F_11 : mx_fF R_F 11 0 0 (.array .int) := ⟨R_F, F_F, 4, tf_F, rfl, by decide, mw 178 rfl rfl, in_F, ty_F, nm_F, rfl, by decide +kernel, rfl⟩
set_option maxRecDepth 100000 in
theorem fl_F_15 : mx_fl R_F 15 0 1 := ⟨R_F, F_F, 4, rfl, by decide, mw 179 rfl rfl, in_F⟩
set_option maxRecDepth 100000 in
theorem fw_F_15 : mx_fw R_F 15 0 1 (.int) := ⟨R_F, F_F, 4, tf_F, rfl, by decide, mw 179 rfl rfl, in_F, ty_F, nm_F, rfl, by decide +kernel⟩
set_option maxRecDepth 100000 in
theorem fl_F_23 : mx_fl R_F 23 0 2 := ⟨R_F, F_F, 4, rfl, by decide, mw 181 rfl rfl, in_F⟩
set_option maxRecDepth 100000 in
theorem fw_F_23 : mx_fw R_F 23 0 2 (.int) := ⟨R_F, F_F, 4, tf_F, rfl, by decide, mw 181 rfl rfl, in_F, ty_F, nm_F, rfl, by decide +kernel⟩
set_option maxRecDepth 100000 in
theorem fl_F_26 : mx_fl R_F 26 0 3 := ⟨R_F, F_F, 4, rfl, by decide, mw 183 rfl rfl, in_F⟩
set_option maxRecDepth 100000 in
theorem fw_F_26 : mx_fw R_F 26 0 3 (.int) := ⟨R_F, F_F, 4, tf_F, rfl, by decide, mw 183 rfl rfl, in_F, ty_F, nm_F, rfl, by decide +kernel⟩
set_option maxRecDepth 100000 in
theorem fl_F_33 : mx_fl R_F 33 3 0 := ⟨R_M, F_M, 7, rfl, by decide, mw 201 rfl rfl, in_M⟩
set_option maxRecDepth 100000 in
theorem fw_F_33 : mx_fw R_F 33 3 0 (.int) := ⟨R_M, F_M, 7, tf_M, rfl, by decide, mw 201 rfl rfl, in_M, ty_M, nm_M, rfl, by decide +kernel⟩
set_option maxRecDepth 100000 in
theorem fl_F_38 : mx_fl R_F 38 3 1 := ⟨R_M, F_M, 7, rfl, by decide, mw 202 rfl rfl, in_M⟩
set_option maxRecDepth 100000 in
theorem fw_F_38 : mx_fw R_F 38 3 1 (.int) := ⟨R_M, F_M, 7, tf_M, rfl, by decide, mw 202 rfl rfl, in_M, ty_M, nm_M, rfl, by decide +kernel⟩
set_option maxRecDepth 100000 in
theorem fl_F_41 : mx_fl R_F 41 3 2 := ⟨R_M, F_M, 7, rfl, by decide, mw 205 rfl rfl, in_M⟩
set_option maxRecDepth 100000 in
theorem fw_F_41 : mx_fw R_F 41 3 2 (.int) := ⟨R_M, F_M, 7, tf_M, rfl, by decide, mw 205 rfl rfl, in_M, ty_M, nm_M, rfl, by decide +kernel⟩
set_option maxRecDepth 100000 in
theorem fl_F_44 : mx_fl R_F 44 3 3 := ⟨R_M, F_M, 7, rfl, by decide, mw 206 rfl rfl, in_M⟩
set_option maxRecDepth 100000 in
theorem fw_F_44 : mx_fw R_F 44 3 3 (.int) := ⟨R_M, F_M, 7, tf_M, rfl, by decide, mw 206 rfl rfl, in_M, ty_M, nm_M, rfl, by decide +kernel⟩
set_option maxRecDepth 100000 in
theorem fl_F_47 : mx_fl R_F 47 3 4 := ⟨R_M, F_M, 7, rfl, by decide, mw 208 rfl rfl, in_M⟩
set_option maxRecDepth 100000 in
theorem fw_F_47 : mx_fw R_F 47 3 4 (.int) := ⟨R_M, F_M, 7, tf_M, rfl, by decide, mw 208 rfl rfl, in_M, ty_M, nm_M, rfl, by decide +kernel⟩
set_option maxRecDepth 100000 in
theorem fl_F_50 : mx_fl R_F 50 3 5 := ⟨R_M, F_M, 7, rfl, by decide, mw 210 rfl rfl, in_M⟩
set_option maxRecDepth 100000 in
theorem fw_F_50 : mx_fw R_F 50 3 5 (.int) := ⟨R_M, F_M, 7, tf_M, rfl, by decide, mw 210 rfl rfl, in_M, ty_M, nm_M, rfl, by decide +kernel⟩
set_option maxRecDepth 100000 in
theorem fl_F_53 : mx_fl R_F 53 3 6 := ⟨R_M, F_M, 7, rfl, by decide, mw 212 rfl rfl, in_M⟩
set_option maxRecDepth 100000 in
theorem fw_F_53 : mx_fw R_F 53 3 6 (.int) := ⟨R_M, F_M, 7, tf_M, rfl, by decide, mw 212 rfl rfl, in_M, ty_M, nm_M, rfl, by decide +kernel⟩
set_option maxRecDepth 100000 in
theorem fl_L_9 : mx_fl R_L 9 1 0 := ⟨R_L, F_L, 2, rfl, by decide, mw 106 rfl rfl, in_L⟩
set_option maxRecDepth 100000 in
theorem fF_L_9 : mx_fF R_L 9 1 0 (.array .int) := ⟨R_L, F_L, 2, tf_L, rfl, by decide, mw 106 rfl rfl, in_L, ty_L, nm_L, rfl, by decide +kernel, rfl⟩
set_option maxRecDepth 100000 in
theorem fl_L_15 : mx_fl R_L 15 1 1 := ⟨R_L, F_L, 2, rfl, by decide, mw 107 rfl rfl, in_L⟩
set_option maxRecDepth 100000 in
theorem fw_L_15 : mx_fw R_L 15 1 1 (.int) := ⟨R_L, F_L, 2, tf_L, rfl, by decide, mw 107 rfl rfl, in_L, ty_L, nm_L, rfl, by decide +kernel⟩
set_option maxRecDepth 100000 in
theorem fl_G_9 : mx_fl R_G 9 2 0 := ⟨R_G, F_G, 5, rfl, by decide, mw 80 rfl rfl, in_G⟩
set_option maxRecDepth 100000 in
theorem fF_G_9 : mx_fF R_G 9 2 0 (.int) := ⟨R_G, F_G, 5, tf_G, rfl, by decide, mw 80 rfl rfl, in_G, ty_G, nm_G, rfl, by decide +kernel, rfl⟩
set_option maxRecDepth 100000 in
theorem fl_G_15 : mx_fl R_G 15 2 1 := ⟨R_G, F_G, 5, rfl, by decide, mw 81 rfl rfl, in_G⟩
set_option maxRecDepth 100000 in
theorem fF_G_15 : mx_fF R_G 15 2 1 (.array .int) := ⟨R_G, F_G, 5, tf_G, rfl, by decide, mw 81 rfl rfl, in_G, ty_G, nm_G, rfl, by decide +kernel, rfl⟩
set_option maxRecDepth 100000 in
theorem fl_G_19 : mx_fl R_G 19 2 4 := ⟨R_G, F_G, 5, rfl, by decide, mw 87 rfl rfl, in_G⟩
set_option maxRecDepth 100000 in
theorem fw_G_19 : mx_fw R_G 19 2 4 (.int) := ⟨R_G, F_G, 5, tf_G, rfl, by decide, mw 87 rfl rfl, in_G, ty_G, nm_G, rfl, by decide +kernel⟩
set_option maxRecDepth 100000 in
theorem fl_G_22 : mx_fl R_G 22 2 2 := ⟨R_G, F_G, 5, rfl, by decide, mw 82 rfl rfl, in_G⟩
set_option maxRecDepth 100000 in
theorem fw_G_22 : mx_fw R_G 22 2 2 (.int) := ⟨R_G, F_G, 5, tf_G, rfl, by decide, mw 82 rfl rfl, in_G, ty_G, nm_G, rfl, by decide +kernel⟩
set_option maxRecDepth 100000 in
theorem fl_G_39 : mx_fl R_G 39 2 3 := ⟨R_G, F_G, 5, rfl, by decide, mw 85 rfl rfl, in_G⟩
set_option maxRecDepth 100000 in
theorem fw_G_39 : mx_fw R_G 39 2 3 (.int) := ⟨R_G, F_G, 5, tf_G, rfl, by decide, mw 85 rfl rfl, in_G, ty_G, nm_G, rfl, by decide +kernel⟩
set_option maxRecDepth 100000 in
theorem fl_R_9 : mx_fl R_R 9 4 0 := ⟨R_R, F_R, 14, rfl, by decide, mw 115 rfl rfl, in_R⟩
set_option maxRecDepth 100000 in
theorem fF_R_9 : mx_fF R_R 9 4 0 (.int) := ⟨R_R, F_R, 14, tf_R, rfl, by decide, mw 115 rfl rfl, in_R, ty_R, nm_R, rfl, by decide +kernel, rfl⟩
set_option maxRecDepth 100000 in
theorem fl_R_20 : mx_fl R_R 20 4 1 := ⟨R_R, F_R, 14, rfl, by decide, mw 117 rfl rfl, in_R⟩
set_option maxRecDepth 100000 in
theorem fF_R_20 : mx_fF R_R 20 4 1 (.object "SlotPaxos$Log") := ⟨R_R, F_R, 14, tf_R, rfl, by decide, mw 117 rfl rfl, in_R, ty_R, nm_R, rfl, by decide +kernel, rfl⟩
set_option maxRecDepth 100000 in
theorem fl_R_27 : mx_fl R_R 27 4 2 := ⟨R_R, F_R, 14, rfl, by decide, mw 119 rfl rfl, in_R⟩
set_option maxRecDepth 100000 in
theorem fF_R_27 : mx_fF R_R 27 4 2 (.object "SlotPaxos$Line") := ⟨R_R, F_R, 14, tf_R, rfl, by decide, mw 119 rfl rfl, in_R, ty_R, nm_R, rfl, by decide +kernel, rfl⟩
set_option maxRecDepth 100000 in
theorem fl_R_31 : mx_fl R_R 31 4 3 := ⟨R_R, F_R, 14, rfl, by decide, mw 121 rfl rfl, in_R⟩
set_option maxRecDepth 100000 in
theorem fw_R_31 : mx_fw R_R 31 4 3 (.boolean) := ⟨R_R, F_R, 14, tf_R, rfl, by decide, mw 121 rfl rfl, in_R, ty_R, nm_R, rfl, by decide +kernel⟩
set_option maxRecDepth 100000 in
theorem fl_R_38 : mx_fl R_R 38 4 4 := ⟨R_R, F_R, 14, rfl, by decide, mw 123 rfl rfl, in_R⟩
set_option maxRecDepth 100000 in
theorem fw_R_38 : mx_fw R_R 38 4 4 (.int) := ⟨R_R, F_R, 14, tf_R, rfl, by decide, mw 123 rfl rfl, in_R, ty_R, nm_R, rfl, by decide +kernel⟩
set_option maxRecDepth 100000 in
theorem fl_R_41 : mx_fl R_R 41 4 11 := ⟨R_R, F_R, 14, rfl, by decide, mw 137 rfl rfl, in_R⟩
set_option maxRecDepth 100000 in
theorem fw_R_41 : mx_fw R_R 41 4 11 (.int) := ⟨R_R, F_R, 14, tf_R, rfl, by decide, mw 137 rfl rfl, in_R, ty_R, nm_R, rfl, by decide +kernel⟩
set_option maxRecDepth 100000 in
theorem fl_R_44 : mx_fl R_R 44 1 1 := ⟨R_L, F_L, 2, rfl, by decide, mw 108 rfl rfl, in_L⟩
set_option maxRecDepth 100000 in
theorem fw_R_44 : mx_fw R_R 44 1 1 (.int) := ⟨R_L, F_L, 2, tf_L, rfl, by decide, mw 108 rfl rfl, in_L, ty_L, nm_L, rfl, by decide +kernel⟩
set_option maxRecDepth 100000 in
theorem fl_R_47 : mx_fl R_R 47 4 7 := ⟨R_R, F_R, 14, rfl, by decide, mw 129 rfl rfl, in_R⟩
set_option maxRecDepth 100000 in
theorem fw_R_47 : mx_fw R_R 47 4 7 (.int) := ⟨R_R, F_R, 14, tf_R, rfl, by decide, mw 129 rfl rfl, in_R, ty_R, nm_R, rfl, by decide +kernel⟩
set_option maxRecDepth 100000 in
theorem fl_R_50 : mx_fl R_R 50 4 8 := ⟨R_R, F_R, 14, rfl, by decide, mw 131 rfl rfl, in_R⟩
set_option maxRecDepth 100000 in
theorem fw_R_50 : mx_fw R_R 50 4 8 (.int) := ⟨R_R, F_R, 14, tf_R, rfl, by decide, mw 131 rfl rfl, in_R, ty_R, nm_R, rfl, by decide +kernel⟩
set_option maxRecDepth 100000 in
theorem fl_R_53 : mx_fl R_R 53 4 9 := ⟨R_R, F_R, 14, rfl, by decide, mw 133 rfl rfl, in_R⟩
set_option maxRecDepth 100000 in
theorem fw_R_53 : mx_fw R_R 53 4 9 (.int) := ⟨R_R, F_R, 14, tf_R, rfl, by decide, mw 133 rfl rfl, in_R, ty_R, nm_R, rfl, by decide +kernel⟩
set_option maxRecDepth 100000 in
theorem fl_R_56 : mx_fl R_R 56 4 10 := ⟨R_R, F_R, 14, rfl, by decide, mw 135 rfl rfl, in_R⟩
set_option maxRecDepth 100000 in
theorem fw_R_56 : mx_fw R_R 56 4 10 (.int) := ⟨R_R, F_R, 14, tf_R, rfl, by decide, mw 135 rfl rfl, in_R, ty_R, nm_R, rfl, by decide +kernel⟩
set_option maxRecDepth 100000 in
theorem fl_R_59 : mx_fl R_R 59 4 5 := ⟨R_R, F_R, 14, rfl, by decide, mw 125 rfl rfl, in_R⟩
set_option maxRecDepth 100000 in
theorem fw_R_59 : mx_fw R_R 59 4 5 (.int) := ⟨R_R, F_R, 14, tf_R, rfl, by decide, mw 125 rfl rfl, in_R, ty_R, nm_R, rfl, by decide +kernel⟩
set_option maxRecDepth 100000 in
theorem fl_R_62 : mx_fl R_R 62 4 12 := ⟨R_R, F_R, 14, rfl, by decide, mw 139 rfl rfl, in_R⟩
set_option maxRecDepth 100000 in
theorem fw_R_62 : mx_fw R_R 62 4 12 (.int) := ⟨R_R, F_R, 14, tf_R, rfl, by decide, mw 139 rfl rfl, in_R, ty_R, nm_R, rfl, by decide +kernel⟩
set_option maxRecDepth 100000 in
theorem fl_R_65 : mx_fl R_R 65 4 6 := ⟨R_R, F_R, 14, rfl, by decide, mw 127 rfl rfl, in_R⟩
set_option maxRecDepth 100000 in
theorem fw_R_65 : mx_fw R_R 65 4 6 (.int) := ⟨R_R, F_R, 14, tf_R, rfl, by decide, mw 127 rfl rfl, in_R, ty_R, nm_R, rfl, by decide +kernel⟩
set_option maxRecDepth 100000 in
theorem fl_R_68 : mx_fl R_R 68 4 13 := ⟨R_R, F_R, 14, rfl, by decide, mw 141 rfl rfl, in_R⟩
set_option maxRecDepth 100000 in
theorem fw_R_68 : mx_fw R_R 68 4 13 (.int) := ⟨R_R, F_R, 14, tf_R, rfl, by decide, mw 141 rfl rfl, in_R, ty_R, nm_R, rfl, by decide +kernel⟩
set_option maxRecDepth 100000 in
theorem fl_R_71 : mx_fl R_R 71 2 2 := ⟨R_G, F_G, 5, rfl, by decide, mw 83 rfl rfl, in_G⟩
set_option maxRecDepth 100000 in
theorem fw_R_71 : mx_fw R_R 71 2 2 (.int) := ⟨R_G, F_G, 5, tf_G, rfl, by decide, mw 83 rfl rfl, in_G, ty_G, nm_G, rfl, by decide +kernel⟩
set_option maxRecDepth 100000 in
theorem fl_T_7 : mx_fl R_T 7 6 3 := ⟨R_T, F_T, 24, rfl, by decide, mw 526 rfl rfl, in_T⟩
set_option maxRecDepth 100000 in
theorem fF_T_7 : mx_fF R_T 7 6 3 (.array .boolean) := ⟨R_T, F_T, 24, tf_T, rfl, by decide, mw 526 rfl rfl, in_T, ty_T, nm_T, rfl, by decide +kernel, rfl⟩
set_option maxRecDepth 100000 in
theorem fl_T_13 : mx_fl R_T 13 6 4 := ⟨R_T, F_T, 24, rfl, by decide, mw 527 rfl rfl, in_T⟩
set_option maxRecDepth 100000 in
theorem fF_T_13 : mx_fF R_T 13 6 4 (.array .int) := ⟨R_T, F_T, 24, tf_T, rfl, by decide, mw 527 rfl rfl, in_T, ty_T, nm_T, rfl, by decide +kernel, rfl⟩
set_option maxRecDepth 100000 in
theorem fl_T_17 : mx_fl R_T 17 6 5 := ⟨R_T, F_T, 24, rfl, by decide, mw 528 rfl rfl, in_T⟩
set_option maxRecDepth 100000 in
theorem fF_T_17 : mx_fF R_T 17 6 5 (.array .int) := ⟨R_T, F_T, 24, tf_T, rfl, by decide, mw 528 rfl rfl, in_T, ty_T, nm_T, rfl, by decide +kernel, rfl⟩
set_option maxRecDepth 100000 in
theorem fl_T_20 : mx_fl R_T 20 6 6 := ⟨R_T, F_T, 24, rfl, by decide, mw 529 rfl rfl, in_T⟩
set_option maxRecDepth 100000 in
theorem fF_T_20 : mx_fF R_T 20 6 6 (.array .int) := ⟨R_T, F_T, 24, tf_T, rfl, by decide, mw 529 rfl rfl, in_T, ty_T, nm_T, rfl, by decide +kernel, rfl⟩
set_option maxRecDepth 100000 in
theorem fl_T_23 : mx_fl R_T 23 6 7 := ⟨R_T, F_T, 24, rfl, by decide, mw 530 rfl rfl, in_T⟩
set_option maxRecDepth 100000 in
theorem fF_T_23 : mx_fF R_T 23 6 7 (.array .int) := ⟨R_T, F_T, 24, tf_T, rfl, by decide, mw 530 rfl rfl, in_T, ty_T, nm_T, rfl, by decide +kernel, rfl⟩
set_option maxRecDepth 100000 in
theorem fl_T_26 : mx_fl R_T 26 6 8 := ⟨R_T, F_T, 24, rfl, by decide, mw 531 rfl rfl, in_T⟩
set_option maxRecDepth 100000 in
theorem fF_T_26 : mx_fF R_T 26 6 8 (.array .int) := ⟨R_T, F_T, 24, tf_T, rfl, by decide, mw 531 rfl rfl, in_T, ty_T, nm_T, rfl, by decide +kernel, rfl⟩
set_option maxRecDepth 100000 in
theorem fl_T_29 : mx_fl R_T 29 6 9 := ⟨R_T, F_T, 24, rfl, by decide, mw 532 rfl rfl, in_T⟩
set_option maxRecDepth 100000 in
theorem fF_T_29 : mx_fF R_T 29 6 9 (.array .int) := ⟨R_T, F_T, 24, tf_T, rfl, by decide, mw 532 rfl rfl, in_T, ty_T, nm_T, rfl, by decide +kernel, rfl⟩
set_option maxRecDepth 100000 in
theorem fl_T_32 : mx_fl R_T 32 6 10 := ⟨R_T, F_T, 24, rfl, by decide, mw 533 rfl rfl, in_T⟩
set_option maxRecDepth 100000 in
theorem fF_T_32 : mx_fF R_T 32 6 10 (.array .int) := ⟨R_T, F_T, 24, tf_T, rfl, by decide, mw 533 rfl rfl, in_T, ty_T, nm_T, rfl, by decide +kernel, rfl⟩
set_option maxRecDepth 100000 in
theorem fl_T_35 : mx_fl R_T 35 6 11 := ⟨R_T, F_T, 24, rfl, by decide, mw 534 rfl rfl, in_T⟩
set_option maxRecDepth 100000 in
theorem fF_T_35 : mx_fF R_T 35 6 11 (.array .int) := ⟨R_T, F_T, 24, tf_T, rfl, by decide, mw 534 rfl rfl, in_T, ty_T, nm_T, rfl, by decide +kernel, rfl⟩
set_option maxRecDepth 100000 in
theorem fl_T_38 : mx_fl R_T 38 6 12 := ⟨R_T, F_T, 24, rfl, by decide, mw 535 rfl rfl, in_T⟩
set_option maxRecDepth 100000 in
theorem fF_T_38 : mx_fF R_T 38 6 12 (.array .int) := ⟨R_T, F_T, 24, tf_T, rfl, by decide, mw 535 rfl rfl, in_T, ty_T, nm_T, rfl, by decide +kernel, rfl⟩
set_option maxRecDepth 100000 in
theorem fl_T_41 : mx_fl R_T 41 6 13 := ⟨R_T, F_T, 24, rfl, by decide, mw 536 rfl rfl, in_T⟩
set_option maxRecDepth 100000 in
theorem fF_T_41 : mx_fF R_T 41 6 13 (.array .int) := ⟨R_T, F_T, 24, tf_T, rfl, by decide, mw 536 rfl rfl, in_T, ty_T, nm_T, rfl, by decide +kernel, rfl⟩
set_option maxRecDepth 100000 in
theorem fl_T_44 : mx_fl R_T 44 6 14 := ⟨R_T, F_T, 24, rfl, by decide, mw 537 rfl rfl, in_T⟩
set_option maxRecDepth 100000 in
theorem fF_T_44 : mx_fF R_T 44 6 14 (.array .int) := ⟨R_T, F_T, 24, tf_T, rfl, by decide, mw 537 rfl rfl, in_T, ty_T, nm_T, rfl, by decide +kernel, rfl⟩
set_option maxRecDepth 100000 in
theorem fl_T_47 : mx_fl R_T 47 6 15 := ⟨R_T, F_T, 24, rfl, by decide, mw 538 rfl rfl, in_T⟩
set_option maxRecDepth 100000 in
theorem fF_T_47 : mx_fF R_T 47 6 15 (.array .int) := ⟨R_T, F_T, 24, tf_T, rfl, by decide, mw 538 rfl rfl, in_T, ty_T, nm_T, rfl, by decide +kernel, rfl⟩
set_option maxRecDepth 100000 in
theorem fl_T_50 : mx_fl R_T 50 6 16 := ⟨R_T, F_T, 24, rfl, by decide, mw 539 rfl rfl, in_T⟩
set_option maxRecDepth 100000 in
theorem fF_T_50 : mx_fF R_T 50 6 16 (.array .int) := ⟨R_T, F_T, 24, tf_T, rfl, by decide, mw 539 rfl rfl, in_T, ty_T, nm_T, rfl, by decide +kernel, rfl⟩
set_option maxRecDepth 100000 in
theorem fl_T_53 : mx_fl R_T 53 6 17 := ⟨R_T, F_T, 24, rfl, by decide, mw 540 rfl rfl, in_T⟩
set_option maxRecDepth 100000 in
theorem fF_T_53 : mx_fF R_T 53 6 17 (.array .int) := ⟨R_T, F_T, 24, tf_T, rfl, by decide, mw 540 rfl rfl, in_T, ty_T, nm_T, rfl, by decide +kernel, rfl⟩
set_option maxRecDepth 100000 in
theorem fl_T_56 : mx_fl R_T 56 6 18 := ⟨R_T, F_T, 24, rfl, by decide, mw 541 rfl rfl, in_T⟩
set_option maxRecDepth 100000 in
theorem fF_T_56 : mx_fF R_T 56 6 18 (.array .int) := ⟨R_T, F_T, 24, tf_T, rfl, by decide, mw 541 rfl rfl, in_T, ty_T, nm_T, rfl, by decide +kernel, rfl⟩
set_option maxRecDepth 100000 in
theorem fl_T_59 : mx_fl R_T 59 6 19 := ⟨R_T, F_T, 24, rfl, by decide, mw 542 rfl rfl, in_T⟩
set_option maxRecDepth 100000 in
theorem fF_T_59 : mx_fF R_T 59 6 19 (.array .int) := ⟨R_T, F_T, 24, tf_T, rfl, by decide, mw 542 rfl rfl, in_T, ty_T, nm_T, rfl, by decide +kernel, rfl⟩
set_option maxRecDepth 100000 in
theorem fl_T_62 : mx_fl R_T 62 6 20 := ⟨R_T, F_T, 24, rfl, by decide, mw 543 rfl rfl, in_T⟩
set_option maxRecDepth 100000 in
theorem fF_T_62 : mx_fF R_T 62 6 20 (.array .int) := ⟨R_T, F_T, 24, tf_T, rfl, by decide, mw 543 rfl rfl, in_T, ty_T, nm_T, rfl, by decide +kernel, rfl⟩
set_option maxRecDepth 100000 in
theorem fl_T_65 : mx_fl R_T 65 6 1 := ⟨R_T, F_T, 24, rfl, by decide, mw 524 rfl rfl, in_T⟩
set_option maxRecDepth 100000 in
theorem fF_T_65 : mx_fF R_T 65 6 1 (.int) := ⟨R_T, F_T, 24, tf_T, rfl, by decide, mw 524 rfl rfl, in_T, ty_T, nm_T, rfl, by decide +kernel, rfl⟩
set_option maxRecDepth 100000 in
theorem fl_T_69 : mx_fl R_T 69 6 2 := ⟨R_T, F_T, 24, rfl, by decide, mw 525 rfl rfl, in_T⟩
set_option maxRecDepth 100000 in
theorem fF_T_69 : mx_fF R_T 69 6 2 (.int) := ⟨R_T, F_T, 24, tf_T, rfl, by decide, mw 525 rfl rfl, in_T, ty_T, nm_T, rfl, by decide +kernel, rfl⟩
set_option maxRecDepth 100000 in
theorem fl_T_72 : mx_fl R_T 72 6 0 := ⟨R_T, F_T, 24, rfl, by decide, mw 523 rfl rfl, in_T⟩
set_option maxRecDepth 100000 in
theorem fw_T_72 : mx_fw R_T 72 6 0 (.int) := ⟨R_T, F_T, 24, tf_T, rfl, by decide, mw 523 rfl rfl, in_T, ty_T, nm_T, rfl, by decide +kernel⟩
set_option maxRecDepth 100000 in
theorem fl_T_79 : mx_fl R_T 79 6 22 := ⟨R_T, F_T, 24, rfl, by decide, mw 545 rfl rfl, in_T⟩
set_option maxRecDepth 100000 in
theorem fw_T_79 : mx_fw R_T 79 6 22 (.int) := ⟨R_T, F_T, 24, tf_T, rfl, by decide, mw 545 rfl rfl, in_T, ty_T, nm_T, rfl, by decide +kernel⟩
set_option maxRecDepth 100000 in
theorem fl_T_82 : mx_fl R_T 82 6 21 := ⟨R_T, F_T, 24, rfl, by decide, mw 544 rfl rfl, in_T⟩
set_option maxRecDepth 100000 in
theorem fw_T_82 : mx_fw R_T 82 6 21 (.int) := ⟨R_T, F_T, 24, tf_T, rfl, by decide, mw 544 rfl rfl, in_T, ty_T, nm_T, rfl, by decide +kernel⟩
set_option maxRecDepth 100000 in
theorem fl_T_85 : mx_fl R_T 85 6 23 := ⟨R_T, F_T, 24, rfl, by decide, mw 546 rfl rfl, in_T⟩
set_option maxRecDepth 100000 in
theorem fw_T_85 : mx_fw R_T 85 6 23 (.int) := ⟨R_T, F_T, 24, tf_T, rfl, by decide, mw 546 rfl rfl, in_T, ty_T, nm_T, rfl, by decide +kernel⟩
set_option maxRecDepth 100000 in
theorem cb_P_31 : mx_cB R_P 31 y_R_init b_R_init 3 none 2 := ⟨mw 70 rfl rfl, mw 45 rfl rfl, mw 72 rfl rfl, by decide +kernel⟩
set_option maxRecDepth 100000 in
theorem ci_R_init : y_R_init.name = "<init>" ∧ Cond.instanceMethod y_R_init ∈ mx_tbl := ⟨rfl, mw 71 rfl rfl⟩
set_option maxRecDepth 100000 in
theorem cb_P_36 : mx_cB R_P 36 y_F_init b_F_init 1 none 0 := ⟨mw 174 rfl rfl, mw 48 rfl rfl, mw 176 rfl rfl, by decide +kernel⟩
set_option maxRecDepth 100000 in
theorem ci_F_init : y_F_init.name = "<init>" ∧ Cond.instanceMethod y_F_init ∈ mx_tbl := ⟨rfl, mw 175 rfl rfl⟩
set_option maxRecDepth 100000 in
theorem cb_P_48 : mx_cB R_P 48 y_P_find b_P_find 2 (some (.object "SlotPaxos$Replica")) 1 := ⟨mw 249 rfl rfl, mw 43 rfl rfl, mw 252 rfl rfl, by decide +kernel⟩
set_option maxRecDepth 100000 in
theorem cv_P_find : mx_cV y_P_find := ⟨mw 251 rfl rfl, mw 0 rfl rfl⟩
set_option maxRecDepth 100000 in
theorem cb_P_60 : mx_cB R_P 60 y_L_add b_L_add 2 (some (.boolean)) 1 := ⟨mw 253 rfl rfl, mw 47 rfl rfl, mw 256 rfl rfl, by decide +kernel⟩
set_option maxRecDepth 100000 in
theorem cv_L_add : mx_cV y_L_add := ⟨mw 254 rfl rfl, mw 255 rfl rfl⟩
set_option maxRecDepth 100000 in
theorem cb_P_69 : mx_cB R_P 69 y_P_tickLeader b_P_tickLeader 2 none 1 := ⟨mw 261 rfl rfl, mw 43 rfl rfl, mw 264 rfl rfl, by decide +kernel⟩
set_option maxRecDepth 100000 in
theorem cv_P_tickLeader : mx_cV y_P_tickLeader := ⟨mw 263 rfl rfl, mw 1 rfl rfl⟩
set_option maxRecDepth 100000 in
theorem cb_P_73 : mx_cB R_P 73 y_P_sendPrepare b_P_sendPrepare 2 none 1 := ⟨mw 297 rfl rfl, mw 43 rfl rfl, mw 300 rfl rfl, by decide +kernel⟩
set_option maxRecDepth 100000 in
theorem cv_P_sendPrepare : mx_cV y_P_sendPrepare := ⟨mw 299 rfl rfl, mw 6 rfl rfl⟩
set_option maxRecDepth 100000 in
theorem cb_P_79 : mx_cB R_P 79 y_P_campaign b_P_campaign 2 none 1 := ⟨mw 301 rfl rfl, mw 43 rfl rfl, mw 304 rfl rfl, by decide +kernel⟩
set_option maxRecDepth 100000 in
theorem cv_P_campaign : mx_cV y_P_campaign := ⟨mw 303 rfl rfl, mw 7 rfl rfl⟩
set_option maxRecDepth 100000 in
theorem cb_P_85 : mx_cB R_P 85 y_P_ask b_P_ask 3 none 2 := ⟨mw 313 rfl rfl, mw 43 rfl rfl, mw 316 rfl rfl, by decide +kernel⟩
set_option maxRecDepth 100000 in
theorem cv_P_ask : mx_cV y_P_ask := ⟨mw 315 rfl rfl, mw 9 rfl rfl⟩
set_option maxRecDepth 100000 in
theorem cb_P_90 : mx_cB R_P 90 y_F_has b_F_has 2 (some (.boolean)) 1 := ⟨mw 321 rfl rfl, mw 48 rfl rfl, mw 324 rfl rfl, by decide +kernel⟩
set_option maxRecDepth 100000 in
theorem cv_F_has : mx_cV y_F_has := ⟨mw 322 rfl rfl, mw 323 rfl rfl⟩
set_option maxRecDepth 100000 in
theorem cb_P_93 : mx_cB R_P 93 y_F_read b_F_read 3 none 2 := ⟨mw 325 rfl rfl, mw 48 rfl rfl, mw 328 rfl rfl, by decide +kernel⟩
set_option maxRecDepth 100000 in
theorem cv_F_read : mx_cV y_F_read := ⟨mw 326 rfl rfl, mw 327 rfl rfl⟩
set_option maxRecDepth 100000 in
theorem cb_P_97 : mx_cB R_P 97 y_F_remove b_F_remove 3 none 1 := ⟨mw 334 rfl rfl, mw 48 rfl rfl, mw 337 rfl rfl, by decide +kernel⟩
set_option maxRecDepth 100000 in
theorem cv_F_remove : mx_cV y_F_remove := ⟨mw 335 rfl rfl, mw 336 rfl rfl⟩
set_option maxRecDepth 100000 in
theorem cb_P_104 : mx_cB R_P 104 y_P_arrive b_P_arrive 3 none 2 := ⟨mw 341 rfl rfl, mw 43 rfl rfl, mw 344 rfl rfl, by decide +kernel⟩
set_option maxRecDepth 100000 in
theorem cv_P_arrive : mx_cV y_P_arrive := ⟨mw 343 rfl rfl, mw 10 rfl rfl⟩
set_option maxRecDepth 100000 in
theorem cb_P_111 : mx_cB R_P 111 y_F_repeat b_F_repeat 2 (some (.boolean)) 1 := ⟨mw 472 rfl rfl, mw 48 rfl rfl, mw 475 rfl rfl, by decide +kernel⟩
set_option maxRecDepth 100000 in
theorem cv_F_repeat : mx_cV y_F_repeat := ⟨mw 473 rfl rfl, mw 474 rfl rfl⟩
set_option maxRecDepth 100000 in
theorem cb_P_114 : mx_cB R_P 114 y_R_forget b_R_forget 1 none 0 := ⟨mw 480 rfl rfl, mw 45 rfl rfl, mw 483 rfl rfl, by decide +kernel⟩
set_option maxRecDepth 100000 in
theorem cv_R_forget : mx_cV y_R_forget := ⟨mw 481 rfl rfl, mw 482 rfl rfl⟩
set_option maxRecDepth 100000 in
theorem cb_P_129 : mx_cB R_P 129 y_G_ahead b_G_ahead 1 (some (.int)) 0 := ⟨mw 488 rfl rfl, mw 46 rfl rfl, mw 360 rfl rfl, by decide +kernel⟩
set_option maxRecDepth 100000 in
theorem cv_G_ahead : mx_cV y_G_ahead := ⟨mw 358 rfl rfl, mw 359 rfl rfl⟩
set_option maxRecDepth 100000 in
theorem cb_P_136 : mx_cB R_P 136 y_R_hasAccepted b_R_hasAccepted 1 (some (.boolean)) 0 := ⟨mw 379 rfl rfl, mw 45 rfl rfl, mw 382 rfl rfl, by decide +kernel⟩
set_option maxRecDepth 100000 in
theorem cv_R_hasAccepted : mx_cV y_R_hasAccepted := ⟨mw 380 rfl rfl, mw 381 rfl rfl⟩
set_option maxRecDepth 100000 in
theorem cb_P_146 : mx_cB R_P 146 y_R_passing b_R_passing 2 (some (.int)) 1 := ⟨mw 489 rfl rfl, mw 45 rfl rfl, mw 492 rfl rfl, by decide +kernel⟩
set_option maxRecDepth 100000 in
theorem cv_R_passing : mx_cV y_R_passing := ⟨mw 490 rfl rfl, mw 491 rfl rfl⟩
set_option maxRecDepth 100000 in
theorem cb_P_150 : mx_cB R_P 150 y_G_numberOf b_G_numberOf 2 (some (.int)) 1 := ⟨mw 362 rfl rfl, mw 46 rfl rfl, mw 365 rfl rfl, by decide +kernel⟩
set_option maxRecDepth 100000 in
theorem cv_G_numberOf : mx_cV y_G_numberOf := ⟨mw 363 rfl rfl, mw 364 rfl rfl⟩
set_option maxRecDepth 100000 in
theorem cb_P_153 : mx_cB R_P 153 y_L_at b_L_at 2 (some (.int)) 1 := ⟨mw 281 rfl rfl, mw 47 rfl rfl, mw 284 rfl rfl, by decide +kernel⟩
set_option maxRecDepth 100000 in
theorem cv_L_at : mx_cV y_L_at := ⟨mw 282 rfl rfl, mw 283 rfl rfl⟩
set_option maxRecDepth 100000 in
theorem cb_P_156 : mx_cB R_P 156 y_F_cell b_F_cell 3 (some (.int)) 2 := ⟨mw 505 rfl rfl, mw 48 rfl rfl, mw 332 rfl rfl, by decide +kernel⟩
set_option maxRecDepth 100000 in
theorem cv_F_cell : mx_cV y_F_cell := ⟨mw 330 rfl rfl, mw 331 rfl rfl⟩
set_option maxRecDepth 100000 in
theorem cb_P_165 : mx_cB R_P 165 y_P_greatestIndex b_P_greatestIndex 3 (some (.int)) 0 := ⟨mw 510 rfl rfl, mw 43 rfl rfl, mw 513 rfl rfl, by decide +kernel⟩
set_option maxRecDepth 100000 in
theorem cv_P_greatestIndex : mx_cV y_P_greatestIndex := ⟨mw 512 rfl rfl, mw 23 rfl rfl⟩
set_option maxRecDepth 100000 in
theorem cb_P_168 : mx_cB R_P 168 y_J_bitCount b_J_bitCount 1 (some (.int)) 1 := ⟨mw 407 rfl rfl, mw 52 rfl rfl, mw 409 rfl rfl, by decide +kernel⟩
set_option maxRecDepth 100000 in
theorem cs_J_bitCount : Cond.static y_J_bitCount ∈ mx_tbl := mw 408 rfl rfl
set_option maxRecDepth 100000 in
theorem cb_P_176 : mx_cB R_P 176 y_P_sendAccept b_P_sendAccept 2 none 1 := ⟨mw 265 rfl rfl, mw 43 rfl rfl, mw 268 rfl rfl, by decide +kernel⟩
set_option maxRecDepth 100000 in
theorem cv_P_sendAccept : mx_cV y_P_sendAccept := ⟨mw 267 rfl rfl, mw 2 rfl rfl⟩
set_option maxRecDepth 100000 in
theorem cb_P_179 : mx_cB R_P 179 y_P_propose b_P_propose 3 none 1 := ⟨mw 277 rfl rfl, mw 43 rfl rfl, mw 280 rfl rfl, by decide +kernel⟩
set_option maxRecDepth 100000 in
theorem cv_P_propose : mx_cV y_P_propose := ⟨mw 279 rfl rfl, mw 4 rfl rfl⟩
set_option maxRecDepth 100000 in
theorem cb_P_182 : mx_cB R_P 182 y_P_nextBallot b_P_nextBallot 4 (some (.int)) 1 := ⟨mw 305 rfl rfl, mw 43 rfl rfl, mw 308 rfl rfl, by decide +kernel⟩
set_option maxRecDepth 100000 in
theorem cv_P_nextBallot : mx_cV y_P_nextBallot := ⟨mw 307 rfl rfl, mw 8 rfl rfl⟩
set_option maxRecDepth 100000 in
theorem cb_P_186 : mx_cB R_P 186 y_R_becomeCandidate b_R_becomeCandidate 2 none 1 := ⟨mw 309 rfl rfl, mw 45 rfl rfl, mw 312 rfl rfl, by decide +kernel⟩
set_option maxRecDepth 100000 in
theorem cv_R_becomeCandidate : mx_cV y_R_becomeCandidate := ⟨mw 310 rfl rfl, mw 311 rfl rfl⟩
set_option maxRecDepth 100000 in
theorem cb_P_192 : mx_cB R_P 192 y_P_proposeNumber b_P_proposeNumber 3 none 2 := ⟨mw 285 rfl rfl, mw 43 rfl rfl, mw 288 rfl rfl, by decide +kernel⟩
set_option maxRecDepth 100000 in
theorem cv_P_proposeNumber : mx_cV y_P_proposeNumber := ⟨mw 287 rfl rfl, mw 5 rfl rfl⟩
set_option maxRecDepth 100000 in
theorem cb_P_195 : mx_cB R_P 195 y_R_proposeAndAccept b_R_proposeAndAccept 2 none 1 := ⟨mw 289 rfl rfl, mw 45 rfl rfl, mw 292 rfl rfl, by decide +kernel⟩
set_option maxRecDepth 100000 in
theorem cv_R_proposeAndAccept : mx_cV y_R_proposeAndAccept := ⟨mw 290 rfl rfl, mw 291 rfl rfl⟩
set_option maxRecDepth 100000 in
theorem cb_P_201 : mx_cB R_P 201 y_P_onPrepare b_P_onPrepare 3 none 2 := ⟨mw 345 rfl rfl, mw 43 rfl rfl, mw 348 rfl rfl, by decide +kernel⟩
set_option maxRecDepth 100000 in
theorem cv_P_onPrepare : mx_cV y_P_onPrepare := ⟨mw 347 rfl rfl, mw 11 rfl rfl⟩
set_option maxRecDepth 100000 in
theorem cb_P_204 : mx_cB R_P 204 y_P_onPromise b_P_onPromise 4 none 2 := ⟨mw 387 rfl rfl, mw 43 rfl rfl, mw 390 rfl rfl, by decide +kernel⟩
set_option maxRecDepth 100000 in
theorem cv_P_onPromise : mx_cV y_P_onPromise := ⟨mw 389 rfl rfl, mw 15 rfl rfl⟩
set_option maxRecDepth 100000 in
theorem cb_P_207 : mx_cB R_P 207 y_P_onAccept b_P_onAccept 3 none 2 := ⟨mw 417 rfl rfl, mw 43 rfl rfl, mw 420 rfl rfl, by decide +kernel⟩
set_option maxRecDepth 100000 in
theorem cv_P_onAccept : mx_cV y_P_onAccept := ⟨mw 419 rfl rfl, mw 17 rfl rfl⟩
set_option maxRecDepth 100000 in
theorem cb_P_210 : mx_cB R_P 210 y_P_onAccepted b_P_onAccepted 5 none 2 := ⟨mw 422 rfl rfl, mw 43 rfl rfl, mw 425 rfl rfl, by decide +kernel⟩
set_option maxRecDepth 100000 in
theorem cv_P_onAccepted : mx_cV y_P_onAccepted := ⟨mw 424 rfl rfl, mw 18 rfl rfl⟩
set_option maxRecDepth 100000 in
theorem cb_P_213 : mx_cB R_P 213 y_P_onChosen b_P_onChosen 3 none 2 := ⟨mw 443 rfl rfl, mw 43 rfl rfl, mw 446 rfl rfl, by decide +kernel⟩
set_option maxRecDepth 100000 in
theorem cv_P_onChosen : mx_cV y_P_onChosen := ⟨mw 445 rfl rfl, mw 19 rfl rfl⟩
set_option maxRecDepth 100000 in
theorem cb_P_216 : mx_cB R_P 216 y_P_onAsk b_P_onAsk 3 none 2 := ⟨mw 447 rfl rfl, mw 43 rfl rfl, mw 450 rfl rfl, by decide +kernel⟩
set_option maxRecDepth 100000 in
theorem cv_P_onAsk : mx_cV y_P_onAsk := ⟨mw 449 rfl rfl, mw 20 rfl rfl⟩
set_option maxRecDepth 100000 in
theorem cb_P_219 : mx_cB R_P 219 y_P_onDeny b_P_onDeny 3 none 2 := ⟨mw 451 rfl rfl, mw 43 rfl rfl, mw 454 rfl rfl, by decide +kernel⟩
set_option maxRecDepth 100000 in
theorem cv_P_onDeny : mx_cV y_P_onDeny := ⟨mw 453 rfl rfl, mw 21 rfl rfl⟩
set_option maxRecDepth 100000 in
theorem cb_P_222 : mx_cB R_P 222 y_P_onState b_P_onState 3 none 2 := ⟨mw 455 rfl rfl, mw 43 rfl rfl, mw 458 rfl rfl, by decide +kernel⟩
set_option maxRecDepth 100000 in
theorem cv_P_onState : mx_cV y_P_onState := ⟨mw 457 rfl rfl, mw 22 rfl rfl⟩
set_option maxRecDepth 100000 in
theorem cb_P_231 : mx_cB R_P 231 y_P_help b_P_help 4 none 3 := ⟨mw 349 rfl rfl, mw 43 rfl rfl, mw 352 rfl rfl, by decide +kernel⟩
set_option maxRecDepth 100000 in
theorem cv_P_help : mx_cV y_P_help := ⟨mw 351 rfl rfl, mw 12 rfl rfl⟩
set_option maxRecDepth 100000 in
theorem cb_P_235 : mx_cB R_P 235 y_R_becomeFollower b_R_becomeFollower 1 none 0 := ⟨mw 367 rfl rfl, mw 45 rfl rfl, mw 370 rfl rfl, by decide +kernel⟩
set_option maxRecDepth 100000 in
theorem cv_R_becomeFollower : mx_cV y_R_becomeFollower := ⟨mw 368 rfl rfl, mw 369 rfl rfl⟩
set_option maxRecDepth 100000 in
theorem cb_P_238 : mx_cB R_P 238 y_P_sendPromise b_P_sendPromise 6 none 2 := ⟨mw 371 rfl rfl, mw 43 rfl rfl, mw 374 rfl rfl, by decide +kernel⟩
set_option maxRecDepth 100000 in
theorem cv_P_sendPromise : mx_cV y_P_sendPromise := ⟨mw 373 rfl rfl, mw 13 rfl rfl⟩
set_option maxRecDepth 100000 in
theorem cb_P_241 : mx_cB R_P 241 y_P_deny b_P_deny 3 none 2 := ⟨mw 383 rfl rfl, mw 43 rfl rfl, mw 386 rfl rfl, by decide +kernel⟩
set_option maxRecDepth 100000 in
theorem cv_P_deny : mx_cV y_P_deny := ⟨mw 385 rfl rfl, mw 14 rfl rfl⟩
set_option maxRecDepth 100000 in
theorem cb_P_245 : mx_cB R_P 245 y_R_isNext b_R_isNext 2 (some (.boolean)) 1 := ⟨mw 375 rfl rfl, mw 45 rfl rfl, mw 378 rfl rfl, by decide +kernel⟩
set_option maxRecDepth 100000 in
theorem cv_R_isNext : mx_cV y_R_isNext := ⟨mw 376 rfl rfl, mw 377 rfl rfl⟩
set_option maxRecDepth 100000 in
theorem cb_P_248 : mx_cB R_P 248 y_R_hasAnswer b_R_hasAnswer 2 (some (.boolean)) 1 := ⟨mw 391 rfl rfl, mw 45 rfl rfl, mw 394 rfl rfl, by decide +kernel⟩
set_option maxRecDepth 100000 in
theorem cv_R_hasAnswer : mx_cV y_R_hasAnswer := ⟨mw 392 rfl rfl, mw 393 rfl rfl⟩
set_option maxRecDepth 100000 in
theorem cb_P_251 : mx_cB R_P 251 y_R_addAnswer b_R_addAnswer 2 none 1 := ⟨mw 395 rfl rfl, mw 45 rfl rfl, mw 398 rfl rfl, by decide +kernel⟩
set_option maxRecDepth 100000 in
theorem cv_R_addAnswer : mx_cV y_R_addAnswer := ⟨mw 396 rfl rfl, mw 397 rfl rfl⟩
set_option maxRecDepth 100000 in
theorem cb_P_260 : mx_cB R_P 260 y_R_keepGreatest b_R_keepGreatest 3 none 2 := ⟨mw 399 rfl rfl, mw 45 rfl rfl, mw 402 rfl rfl, by decide +kernel⟩
set_option maxRecDepth 100000 in
theorem cv_R_keepGreatest : mx_cV y_R_keepGreatest := ⟨mw 400 rfl rfl, mw 401 rfl rfl⟩
set_option maxRecDepth 100000 in
theorem cb_P_266 : mx_cB R_P 266 y_P_isMajority b_P_isMajority 2 (some (.boolean)) 1 := ⟨mw 403 rfl rfl, mw 43 rfl rfl, mw 406 rfl rfl, by decide +kernel⟩
set_option maxRecDepth 100000 in
theorem cv_P_isMajority : mx_cV y_P_isMajority := ⟨mw 405 rfl rfl, mw 16 rfl rfl⟩
set_option maxRecDepth 100000 in
theorem cb_P_269 : mx_cB R_P 269 y_R_becomeLeader b_R_becomeLeader 1 none 0 := ⟨mw 413 rfl rfl, mw 45 rfl rfl, mw 416 rfl rfl, by decide +kernel⟩
set_option maxRecDepth 100000 in
theorem cv_R_becomeLeader : mx_cV y_R_becomeLeader := ⟨mw 414 rfl rfl, mw 415 rfl rfl⟩
set_option maxRecDepth 100000 in
theorem cb_P_278 : mx_cB R_P 278 y_R_accept b_R_accept 3 none 2 := ⟨mw 421 rfl rfl, mw 45 rfl rfl, mw 296 rfl rfl, by decide +kernel⟩
set_option maxRecDepth 100000 in
theorem cv_R_accept : mx_cV y_R_accept := ⟨mw 294 rfl rfl, mw 295 rfl rfl⟩
set_option maxRecDepth 100000 in
theorem cb_P_281 : mx_cB R_P 281 y_F_send b_F_send 9 none 7 := ⟨mw 273 rfl rfl, mw 48 rfl rfl, mw 276 rfl rfl, by decide +kernel⟩
set_option maxRecDepth 100000 in
theorem cv_F_send : mx_cV y_F_send := ⟨mw 274 rfl rfl, mw 275 rfl rfl⟩
set_option maxRecDepth 100000 in
theorem cb_P_285 : mx_cB R_P 285 y_P_sendToAll b_P_sendToAll 7 none 5 := ⟨mw 269 rfl rfl, mw 43 rfl rfl, mw 272 rfl rfl, by decide +kernel⟩
set_option maxRecDepth 100000 in
theorem cv_P_sendToAll : mx_cV y_P_sendToAll := ⟨mw 271 rfl rfl, mw 3 rfl rfl⟩
set_option maxRecDepth 100000 in
theorem cb_P_289 : mx_cB R_P 289 y_R_learn b_R_learn 2 none 1 := ⟨mw 426 rfl rfl, mw 45 rfl rfl, mw 429 rfl rfl, by decide +kernel⟩
set_option maxRecDepth 100000 in
theorem cv_R_learn : mx_cV y_R_learn := ⟨mw 427 rfl rfl, mw 428 rfl rfl⟩
set_option maxRecDepth 100000 in
theorem cb_P_292 : mx_cB R_P 292 y_G_jump b_G_jump 3 none 2 := ⟨mw 459 rfl rfl, mw 46 rfl rfl, mw 462 rfl rfl, by decide +kernel⟩
set_option maxRecDepth 100000 in
theorem cv_G_jump : mx_cV y_G_jump := ⟨mw 460 rfl rfl, mw 461 rfl rfl⟩
set_option maxRecDepth 100000 in
theorem cb_P_295 : mx_cB R_P 295 y_R_dropAccepted b_R_dropAccepted 1 none 0 := ⟨mw 463 rfl rfl, mw 45 rfl rfl, mw 437 rfl rfl, by decide +kernel⟩
set_option maxRecDepth 100000 in
theorem cv_R_dropAccepted : mx_cV y_R_dropAccepted := ⟨mw 435 rfl rfl, mw 436 rfl rfl⟩
set_option maxRecDepth 100000 in
theorem cb_P_298 : mx_cB R_P 298 y_G_keeps b_G_keeps 2 (some (.boolean)) 1 := ⟨mw 353 rfl rfl, mw 46 rfl rfl, mw 356 rfl rfl, by decide +kernel⟩
set_option maxRecDepth 100000 in
theorem cv_G_keeps : mx_cV y_G_keeps := ⟨mw 354 rfl rfl, mw 355 rfl rfl⟩
set_option maxRecDepth 100000 in
theorem cb_F_19 : mx_cB R_F 19 y_F_has b_F_has 2 (some (.boolean)) 1 := ⟨mw 333 rfl rfl, mw 48 rfl rfl, mw 324 rfl rfl, by decide +kernel⟩
set_option maxRecDepth 100000 in
theorem cb_F_29 : mx_cB R_F 29 y_F_cell b_F_cell 3 (some (.int)) 2 := ⟨mw 329 rfl rfl, mw 48 rfl rfl, mw 332 rfl rfl, by decide +kernel⟩
set_option maxRecDepth 100000 in
theorem cb_G_31 : mx_cB R_G 31 y_G_ahead b_G_ahead 1 (some (.int)) 0 := ⟨mw 357 rfl rfl, mw 46 rfl rfl, mw 360 rfl rfl, by decide +kernel⟩
set_option maxRecDepth 100000 in
theorem cb_G_35 : mx_cB R_G 35 y_G_keeps b_G_keeps 2 (some (.boolean)) 1 := ⟨mw 366 rfl rfl, mw 46 rfl rfl, mw 356 rfl rfl, by decide +kernel⟩
set_option maxRecDepth 100000 in
theorem cb_R_17 : mx_cB R_R 17 y_G_init b_G_init 2 none 1 := ⟨mw 76 rfl rfl, mw 46 rfl rfl, mw 78 rfl rfl, by decide +kernel⟩
set_option maxRecDepth 100000 in
theorem ci_G_init : y_G_init.name = "<init>" ∧ Cond.instanceMethod y_G_init ∈ mx_tbl := ⟨rfl, mw 77 rfl rfl⟩
set_option maxRecDepth 100000 in
theorem cb_R_26 : mx_cB R_R 26 y_L_init b_L_init 1 none 0 := ⟨mw 102 rfl rfl, mw 47 rfl rfl, mw 104 rfl rfl, by decide +kernel⟩
set_option maxRecDepth 100000 in
theorem ci_L_init : y_L_init.name = "<init>" ∧ Cond.instanceMethod y_L_init ∈ mx_tbl := ⟨rfl, mw 103 rfl rfl⟩
set_option maxRecDepth 100000 in
theorem cb_R_35 : mx_cB R_R 35 y_R_becomeFollower b_R_becomeFollower 1 none 0 := ⟨mw 438 rfl rfl, mw 45 rfl rfl, mw 370 rfl rfl, by decide +kernel⟩
set_option maxRecDepth 100000 in
theorem cb_R_74 : mx_cB R_R 74 y_R_accept b_R_accept 3 none 2 := ⟨mw 293 rfl rfl, mw 45 rfl rfl, mw 296 rfl rfl, by decide +kernel⟩
set_option maxRecDepth 100000 in
theorem cb_R_78 : mx_cB R_R 78 y_G_append b_G_append 2 none 1 := ⟨mw 430 rfl rfl, mw 46 rfl rfl, mw 433 rfl rfl, by decide +kernel⟩
set_option maxRecDepth 100000 in
theorem cv_G_append : mx_cV y_G_append := ⟨mw 431 rfl rfl, mw 432 rfl rfl⟩
set_option maxRecDepth 100000 in
theorem cb_R_81 : mx_cB R_R 81 y_R_dropAccepted b_R_dropAccepted 1 none 0 := ⟨mw 434 rfl rfl, mw 45 rfl rfl, mw 437 rfl rfl, by decide +kernel⟩
set_option maxRecDepth 100000 in
theorem cb_R_84 : mx_cB R_R 84 y_L_drop b_L_drop 4 none 1 := ⟨mw 439 rfl rfl, mw 47 rfl rfl, mw 442 rfl rfl, by decide +kernel⟩
set_option maxRecDepth 100000 in
theorem cv_L_drop : mx_cV y_L_drop := ⟨mw 440 rfl rfl, mw 441 rfl rfl⟩
set_option maxRecDepth 100000 in
theorem cb_W_9 : mx_cB R_W 9 y_W_cell b_W_cell 2 (some (.int)) 2 := ⟨mw 514 rfl rfl, mw 42 rfl rfl, mw 516 rfl rfl, by decide +kernel⟩
set_option maxRecDepth 100000 in
theorem cs_W_cell : Cond.static y_W_cell ∈ mx_tbl := mw 515 rfl rfl
set_option maxRecDepth 100000 in
theorem cb_W_15 : mx_cB R_W 15 y_P_init b_P_init 4 none 2 := ⟨mw 55 rfl rfl, mw 43 rfl rfl, mw 57 rfl rfl, by decide +kernel⟩
set_option maxRecDepth 100000 in
theorem ci_P_init : y_P_init.name = "<init>" ∧ Cond.instanceMethod y_P_init ∈ mx_tbl := ⟨rfl, mw 56 rfl rfl⟩
set_option maxRecDepth 100000 in
theorem cb_W_20 : mx_cB R_W 20 y_T_init b_T_init 4 none 2 := ⟨mw 519 rfl rfl, mw 50 rfl rfl, mw 521 rfl rfl, by decide +kernel⟩
set_option maxRecDepth 100000 in
theorem ci_T_init : y_T_init.name = "<init>" ∧ Cond.instanceMethod y_T_init ∈ mx_tbl := ⟨rfl, mw 520 rfl rfl⟩
set_option maxRecDepth 100000 in
theorem cb_W_21 : mx_cB R_W 21 y_P_request b_P_request 4 (some (.boolean)) 2 := ⟨mw 245 rfl rfl, mw 43 rfl rfl, mw 248 rfl rfl, by decide +kernel⟩
set_option maxRecDepth 100000 in
theorem cv_P_request : mx_cV y_P_request := ⟨mw 246 rfl rfl, mw 247 rfl rfl⟩
set_option maxRecDepth 100000 in
theorem cb_W_25 : mx_cB R_W 25 y_T_request b_T_request 3 (some (.boolean)) 2 := ⟨mw 597 rfl rfl, mw 50 rfl rfl, mw 600 rfl rfl, by decide +kernel⟩
set_option maxRecDepth 100000 in
theorem cv_T_request : mx_cV y_T_request := ⟨mw 598 rfl rfl, mw 599 rfl rfl⟩
set_option maxRecDepth 100000 in
theorem cb_W_26 : mx_cB R_W 26 y_P_tick b_P_tick 3 (some (.int)) 1 := ⟨mw 257 rfl rfl, mw 43 rfl rfl, mw 260 rfl rfl, by decide +kernel⟩
set_option maxRecDepth 100000 in
theorem cv_P_tick : mx_cV y_P_tick := ⟨mw 258 rfl rfl, mw 259 rfl rfl⟩
set_option maxRecDepth 100000 in
theorem cb_W_30 : mx_cB R_W 30 y_T_tick b_T_tick 2 (some (.int)) 1 := ⟨mw 609 rfl rfl, mw 50 rfl rfl, mw 612 rfl rfl, by decide +kernel⟩
set_option maxRecDepth 100000 in
theorem cv_T_tick : mx_cV y_T_tick := ⟨mw 610 rfl rfl, mw 611 rfl rfl⟩
set_option maxRecDepth 100000 in
theorem cb_W_31 : mx_cB R_W 31 y_P_deliver b_P_deliver 3 (some (.int)) 1 := ⟨mw 317 rfl rfl, mw 43 rfl rfl, mw 320 rfl rfl, by decide +kernel⟩
set_option maxRecDepth 100000 in
theorem cv_P_deliver : mx_cV y_P_deliver := ⟨mw 318 rfl rfl, mw 319 rfl rfl⟩
set_option maxRecDepth 100000 in
theorem cb_W_34 : mx_cB R_W 34 y_T_deliver b_T_deliver 10 (some (.int)) 1 := ⟨mw 637 rfl rfl, mw 50 rfl rfl, mw 640 rfl rfl, by decide +kernel⟩
set_option maxRecDepth 100000 in
theorem cv_T_deliver : mx_cV y_T_deliver := ⟨mw 638 rfl rfl, mw 639 rfl rfl⟩
set_option maxRecDepth 100000 in
theorem cb_W_35 : mx_cB R_W 35 y_P_lose b_P_lose 2 (some (.boolean)) 1 := ⟨mw 464 rfl rfl, mw 43 rfl rfl, mw 467 rfl rfl, by decide +kernel⟩
set_option maxRecDepth 100000 in
theorem cv_P_lose : mx_cV y_P_lose := ⟨mw 465 rfl rfl, mw 466 rfl rfl⟩
set_option maxRecDepth 100000 in
theorem cb_W_39 : mx_cB R_W 39 y_T_lose b_T_lose 2 (some (.boolean)) 1 := ⟨mw 681 rfl rfl, mw 50 rfl rfl, mw 684 rfl rfl, by decide +kernel⟩
set_option maxRecDepth 100000 in
theorem cv_T_lose : mx_cV y_T_lose := ⟨mw 682 rfl rfl, mw 683 rfl rfl⟩
set_option maxRecDepth 100000 in
theorem cb_W_40 : mx_cB R_W 40 y_P_twice b_P_twice 2 (some (.boolean)) 1 := ⟨mw 468 rfl rfl, mw 43 rfl rfl, mw 471 rfl rfl, by decide +kernel⟩
set_option maxRecDepth 100000 in
theorem cv_P_twice : mx_cV y_P_twice := ⟨mw 469 rfl rfl, mw 470 rfl rfl⟩
set_option maxRecDepth 100000 in
theorem cb_W_43 : mx_cB R_W 43 y_T_twice b_T_twice 3 (some (.boolean)) 1 := ⟨mw 685 rfl rfl, mw 50 rfl rfl, mw 688 rfl rfl, by decide +kernel⟩
set_option maxRecDepth 100000 in
theorem cv_T_twice : mx_cV y_T_twice := ⟨mw 686 rfl rfl, mw 687 rfl rfl⟩
set_option maxRecDepth 100000 in
theorem cb_W_44 : mx_cB R_W 44 y_P_turn b_P_turn 4 (some (.boolean)) 2 := ⟨mw 476 rfl rfl, mw 43 rfl rfl, mw 479 rfl rfl, by decide +kernel⟩
set_option maxRecDepth 100000 in
theorem cv_P_turn : mx_cV y_P_turn := ⟨mw 477 rfl rfl, mw 478 rfl rfl⟩
set_option maxRecDepth 100000 in
theorem cb_W_48 : mx_cB R_W 48 y_T_turn b_T_turn 3 (some (.boolean)) 2 := ⟨mw 689 rfl rfl, mw 50 rfl rfl, mw 692 rfl rfl, by decide +kernel⟩
set_option maxRecDepth 100000 in
theorem cv_T_turn : mx_cV y_T_turn := ⟨mw 690 rfl rfl, mw 691 rfl rfl⟩
set_option maxRecDepth 100000 in
theorem cb_W_49 : mx_cB R_W 49 y_P_replica b_P_replica 4 (some (.int)) 2 := ⟨mw 484 rfl rfl, mw 43 rfl rfl, mw 487 rfl rfl, by decide +kernel⟩
set_option maxRecDepth 100000 in
theorem cv_P_replica : mx_cV y_P_replica := ⟨mw 485 rfl rfl, mw 486 rfl rfl⟩
set_option maxRecDepth 100000 in
theorem cb_W_53 : mx_cB R_W 53 y_T_replica b_T_replica 3 (some (.int)) 2 := ⟨mw 693 rfl rfl, mw 50 rfl rfl, mw 696 rfl rfl, by decide +kernel⟩
set_option maxRecDepth 100000 in
theorem cv_T_replica : mx_cV y_T_replica := ⟨mw 694 rfl rfl, mw 695 rfl rfl⟩
set_option maxRecDepth 100000 in
theorem cb_W_54 : mx_cB R_W 54 y_P_slot b_P_slot 4 (some (.int)) 2 := ⟨mw 493 rfl rfl, mw 43 rfl rfl, mw 496 rfl rfl, by decide +kernel⟩
set_option maxRecDepth 100000 in
theorem cv_P_slot : mx_cV y_P_slot := ⟨mw 494 rfl rfl, mw 495 rfl rfl⟩
set_option maxRecDepth 100000 in
theorem cb_W_57 : mx_cB R_W 57 y_T_slot b_T_slot 4 (some (.int)) 2 := ⟨mw 697 rfl rfl, mw 50 rfl rfl, mw 700 rfl rfl, by decide +kernel⟩
set_option maxRecDepth 100000 in
theorem cv_T_slot : mx_cV y_T_slot := ⟨mw 698 rfl rfl, mw 699 rfl rfl⟩
set_option maxRecDepth 100000 in
theorem cb_W_58 : mx_cB R_W 58 y_P_waiting b_P_waiting 4 (some (.int)) 2 := ⟨mw 497 rfl rfl, mw 43 rfl rfl, mw 500 rfl rfl, by decide +kernel⟩
set_option maxRecDepth 100000 in
theorem cv_P_waiting : mx_cV y_P_waiting := ⟨mw 498 rfl rfl, mw 499 rfl rfl⟩
set_option maxRecDepth 100000 in
theorem cb_W_61 : mx_cB R_W 61 y_T_waiting b_T_waiting 3 (some (.int)) 2 := ⟨mw 701 rfl rfl, mw 50 rfl rfl, mw 704 rfl rfl, by decide +kernel⟩
set_option maxRecDepth 100000 in
theorem cv_T_waiting : mx_cV y_T_waiting := ⟨mw 702 rfl rfl, mw 703 rfl rfl⟩
set_option maxRecDepth 100000 in
theorem cb_W_62 : mx_cB R_W 62 y_P_message b_P_message 3 (some (.int)) 2 := ⟨mw 501 rfl rfl, mw 43 rfl rfl, mw 504 rfl rfl, by decide +kernel⟩
set_option maxRecDepth 100000 in
theorem cv_P_message : mx_cV y_P_message := ⟨mw 502 rfl rfl, mw 503 rfl rfl⟩
set_option maxRecDepth 100000 in
theorem cb_W_65 : mx_cB R_W 65 y_T_message b_T_message 3 (some (.int)) 2 := ⟨mw 705 rfl rfl, mw 50 rfl rfl, mw 708 rfl rfl, by decide +kernel⟩
set_option maxRecDepth 100000 in
theorem cv_T_message : mx_cV y_T_message := ⟨mw 706 rfl rfl, mw 707 rfl rfl⟩
set_option maxRecDepth 100000 in
theorem cb_W_66 : mx_cB R_W 66 y_P_look b_P_look 2 (some (.int)) 1 := ⟨mw 506 rfl rfl, mw 43 rfl rfl, mw 509 rfl rfl, by decide +kernel⟩
set_option maxRecDepth 100000 in
theorem cv_P_look : mx_cV y_P_look := ⟨mw 507 rfl rfl, mw 508 rfl rfl⟩
set_option maxRecDepth 100000 in
theorem cb_W_69 : mx_cB R_W 69 y_T_look b_T_look 4 (some (.int)) 1 := ⟨mw 709 rfl rfl, mw 50 rfl rfl, mw 712 rfl rfl, by decide +kernel⟩
set_option maxRecDepth 100000 in
theorem cv_T_look : mx_cV y_T_look := ⟨mw 710 rfl rfl, mw 711 rfl rfl⟩
set_option maxRecDepth 100000 in
theorem cb_T_75 : mx_cB R_T 75 y_T_isReplica b_T_isReplica 2 (some (.boolean)) 1 := ⟨mw 605 rfl rfl, mw 50 rfl rfl, mw 608 rfl rfl, by decide +kernel⟩
set_option maxRecDepth 100000 in
theorem cv_T_isReplica : mx_cV y_T_isReplica := ⟨mw 607 rfl rfl, mw 25 rfl rfl⟩
set_option maxRecDepth 100000 in
theorem cb_T_88 : mx_cB R_T 88 y_T_send b_T_send 9 none 7 := ⟨mw 617 rfl rfl, mw 50 rfl rfl, mw 620 rfl rfl, by decide +kernel⟩
set_option maxRecDepth 100000 in
theorem cv_T_send : mx_cV y_T_send := ⟨mw 619 rfl rfl, mw 27 rfl rfl⟩
set_option maxRecDepth 100000 in
theorem cb_T_92 : mx_cB R_T 92 y_T_follow b_T_follow 2 none 1 := ⟨mw 633 rfl rfl, mw 50 rfl rfl, mw 636 rfl rfl, by decide +kernel⟩
set_option maxRecDepth 100000 in
theorem cv_T_follow : mx_cV y_T_follow := ⟨mw 635 rfl rfl, mw 31 rfl rfl⟩
set_option maxRecDepth 100000 in
theorem cb_T_96 : mx_cB R_T 96 y_T_sendAll b_T_sendAll 7 none 5 := ⟨mw 613 rfl rfl, mw 50 rfl rfl, mw 616 rfl rfl, by decide +kernel⟩
set_option maxRecDepth 100000 in
theorem cv_T_sendAll : mx_cV y_T_sendAll := ⟨mw 615 rfl rfl, mw 26 rfl rfl⟩
set_option maxRecDepth 100000 in
theorem cb_T_100 : mx_cB R_T 100 y_T_proposeIt b_T_proposeIt 3 none 2 := ⟨mw 625 rfl rfl, mw 50 rfl rfl, mw 628 rfl rfl, by decide +kernel⟩
set_option maxRecDepth 100000 in
theorem cv_T_proposeIt : mx_cV y_T_proposeIt := ⟨mw 627 rfl rfl, mw 29 rfl rfl⟩
set_option maxRecDepth 100000 in
theorem cb_T_104 : mx_cB R_T 104 y_T_help b_T_help 4 none 3 := ⟨mw 653 rfl rfl, mw 50 rfl rfl, mw 656 rfl rfl, by decide +kernel⟩
set_option maxRecDepth 100000 in
theorem cv_T_help : mx_cV y_T_help := ⟨mw 655 rfl rfl, mw 35 rfl rfl⟩
set_option maxRecDepth 100000 in
theorem cb_T_108 : mx_cB R_T 108 y_T_count b_T_count 4 (some (.int)) 1 := ⟨mw 661 rfl rfl, mw 50 rfl rfl, mw 664 rfl rfl, by decide +kernel⟩
set_option maxRecDepth 100000 in
theorem cv_T_count : mx_cV y_T_count := ⟨mw 663 rfl rfl, mw 37 rfl rfl⟩
set_option maxRecDepth 100000 in
theorem cb_T_112 : mx_cB R_T 112 y_T_propose b_T_propose 2 none 1 := ⟨mw 621 rfl rfl, mw 50 rfl rfl, mw 624 rfl rfl, by decide +kernel⟩
set_option maxRecDepth 100000 in
theorem cv_T_propose : mx_cV y_T_propose := ⟨mw 623 rfl rfl, mw 28 rfl rfl⟩
set_option maxRecDepth 100000 in
theorem cb_T_115 : mx_cB R_T 115 y_T_learn b_T_learn 5 none 2 := ⟨mw 673 rfl rfl, mw 50 rfl rfl, mw 676 rfl rfl, by decide +kernel⟩
set_option maxRecDepth 100000 in
theorem cv_T_learn : mx_cV y_T_learn := ⟨mw 675 rfl rfl, mw 40 rfl rfl⟩
set_option maxRecDepth 100000 in
theorem cb_T_118 : mx_cB R_T 118 y_T_prepared b_T_prepared 6 none 4 := ⟨mw 649 rfl rfl, mw 50 rfl rfl, mw 652 rfl rfl, by decide +kernel⟩
set_option maxRecDepth 100000 in
theorem cv_T_prepared : mx_cV y_T_prepared := ⟨mw 651 rfl rfl, mw 34 rfl rfl⟩
set_option maxRecDepth 100000 in
theorem cb_T_122 : mx_cB R_T 122 y_T_gotPromise b_T_gotPromise 7 none 6 := ⟨mw 657 rfl rfl, mw 50 rfl rfl, mw 660 rfl rfl, by decide +kernel⟩
set_option maxRecDepth 100000 in
theorem cv_T_gotPromise : mx_cV y_T_gotPromise := ⟨mw 659 rfl rfl, mw 36 rfl rfl⟩
set_option maxRecDepth 100000 in
theorem cb_T_126 : mx_cB R_T 126 y_T_gotAccept b_T_gotAccept 6 none 5 := ⟨mw 665 rfl rfl, mw 50 rfl rfl, mw 668 rfl rfl, by decide +kernel⟩
set_option maxRecDepth 100000 in
theorem cv_T_gotAccept : mx_cV y_T_gotAccept := ⟨mw 667 rfl rfl, mw 38 rfl rfl⟩
set_option maxRecDepth 100000 in
theorem cb_T_129 : mx_cB R_T 129 y_T_gotAccepted b_T_gotAccepted 6 none 4 := ⟨mw 669 rfl rfl, mw 50 rfl rfl, mw 672 rfl rfl, by decide +kernel⟩
set_option maxRecDepth 100000 in
theorem cv_T_gotAccepted : mx_cV y_T_gotAccepted := ⟨mw 671 rfl rfl, mw 39 rfl rfl⟩
set_option maxRecDepth 100000 in
theorem cb_T_132 : mx_cB R_T 132 y_T_gotState b_T_gotState 4 none 3 := ⟨mw 677 rfl rfl, mw 50 rfl rfl, mw 680 rfl rfl, by decide +kernel⟩
set_option maxRecDepth 100000 in
theorem cv_T_gotState : mx_cV y_T_gotState := ⟨mw 679 rfl rfl, mw 41 rfl rfl⟩
set_option maxRecDepth 100000 in
theorem cb_T_135 : mx_cB R_T 135 y_T_isUp b_T_isUp 2 (some (.boolean)) 1 := ⟨mw 601 rfl rfl, mw 50 rfl rfl, mw 604 rfl rfl, by decide +kernel⟩
set_option maxRecDepth 100000 in
theorem cv_T_isUp : mx_cV y_T_isUp := ⟨mw 603 rfl rfl, mw 24 rfl rfl⟩
set_option maxRecDepth 100000 in
theorem cb_T_138 : mx_cB R_T 138 y_T_campaign b_T_campaign 4 none 1 := ⟨mw 629 rfl rfl, mw 50 rfl rfl, mw 632 rfl rfl, by decide +kernel⟩
set_option maxRecDepth 100000 in
theorem cv_T_campaign : mx_cV y_T_campaign := ⟨mw 631 rfl rfl, mw 30 rfl rfl⟩
set_option maxRecDepth 100000 in
theorem cb_T_141 : mx_cB R_T 141 y_T_remove b_T_remove 3 none 1 := ⟨mw 641 rfl rfl, mw 50 rfl rfl, mw 644 rfl rfl, by decide +kernel⟩
set_option maxRecDepth 100000 in
theorem cv_T_remove : mx_cV y_T_remove := ⟨mw 643 rfl rfl, mw 32 rfl rfl⟩
set_option maxRecDepth 100000 in
theorem cb_T_144 : mx_cB R_T 144 y_T_comes b_T_comes 8 none 7 := ⟨mw 645 rfl rfl, mw 50 rfl rfl, mw 648 rfl rfl, by decide +kernel⟩
set_option maxRecDepth 100000 in
theorem cv_T_comes : mx_cV y_T_comes := ⟨mw 647 rfl rfl, mw 33 rfl rfl⟩
end
section
theorem d_P_init_0 : decode b_P_init 0 = .ok (.aload_n 0, 1) := by decide +kernel
theorem d_P_init_1 : decode b_P_init 1 = .ok (.invokespecial 1, 3) := by decide +kernel
theorem d_P_init_4 : decode b_P_init 4 = .ok (.aload_n 0, 1) := by decide +kernel
theorem d_P_init_5 : decode b_P_init 5 = .ok (.iconst 3, 1) := by decide +kernel
theorem d_P_init_6 : decode b_P_init 6 = .ok (.iconst 5, 1) := by decide +kernel
theorem d_P_init_7 : decode b_P_init 7 = .ok (.iload_n 1, 1) := by decide +kernel
theorem d_P_init_8 : decode b_P_init 8 = .ok (.invokestatic 9, 3) := by decide +kernel
theorem d_P_init_11 : decode b_P_init 11 = .ok (.invokestatic 15, 3) := by decide +kernel
theorem d_P_init_14 : decode b_P_init 14 = .ok (.putfield 18, 3) := by decide +kernel
theorem d_P_init_17 : decode b_P_init 17 = .ok (.aload_n 0, 1) := by decide +kernel
theorem d_P_init_18 : decode b_P_init 18 = .ok (.iconst 1, 1) := by decide +kernel
theorem d_P_init_19 : decode b_P_init 19 = .ok (.bipush 32, 2) := by decide +kernel
theorem d_P_init_21 : decode b_P_init 21 = .ok (.iload_n 2, 1) := by decide +kernel
theorem d_P_init_22 : decode b_P_init 22 = .ok (.invokestatic 9, 3) := by decide +kernel
theorem d_P_init_25 : decode b_P_init 25 = .ok (.invokestatic 15, 3) := by decide +kernel
theorem d_P_init_28 : decode b_P_init 28 = .ok (.putfield 22, 3) := by decide +kernel
theorem d_P_init_31 : decode b_P_init 31 = .ok (.aload_n 0, 1) := by decide +kernel
theorem d_P_init_32 : decode b_P_init 32 = .ok (.aload_n 0, 1) := by decide +kernel
theorem d_P_init_33 : decode b_P_init 33 = .ok (.getfield 18, 3) := by decide +kernel
theorem d_P_init_36 : decode b_P_init 36 = .ok (.anewarray 25, 3) := by decide +kernel
theorem d_P_init_39 : decode b_P_init 39 = .ok (.putfield 27, 3) := by decide +kernel
theorem d_P_init_42 : decode b_P_init 42 = .ok (.iconst 0, 1) := by decide +kernel
theorem d_P_init_43 : decode b_P_init 43 = .ok (.istore_n 3, 1) := by decide +kernel
theorem d_P_init_44 : decode b_P_init 44 = .ok (.iload_n 3, 1) := by decide +kernel
theorem d_P_init_45 : decode b_P_init 45 = .ok (.aload_n 0, 1) := by decide +kernel
theorem d_P_init_46 : decode b_P_init 46 = .ok (.getfield 18, 3) := by decide +kernel
theorem d_P_init_49 : decode b_P_init 49 = .ok (.if_icmp .ge 27, 3) := by decide +kernel
theorem d_P_init_52 : decode b_P_init 52 = .ok (.aload_n 0, 1) := by decide +kernel
theorem d_P_init_53 : decode b_P_init 53 = .ok (.getfield 27, 3) := by decide +kernel
theorem d_P_init_56 : decode b_P_init 56 = .ok (.iload_n 3, 1) := by decide +kernel
theorem d_P_init_57 : decode b_P_init 57 = .ok (.new 25, 3) := by decide +kernel
theorem d_P_init_60 : decode b_P_init 60 = .ok (.dup, 1) := by decide +kernel
theorem d_P_init_61 : decode b_P_init 61 = .ok (.iload_n 3, 1) := by decide +kernel
theorem d_P_init_62 : decode b_P_init 62 = .ok (.aload_n 0, 1) := by decide +kernel
theorem d_P_init_63 : decode b_P_init 63 = .ok (.getfield 22, 3) := by decide +kernel
theorem d_P_init_66 : decode b_P_init 66 = .ok (.invokespecial 31, 3) := by decide +kernel
theorem d_P_init_69 : decode b_P_init 69 = .ok (.aastore, 1) := by decide +kernel
theorem d_P_init_70 : decode b_P_init 70 = .ok (.iinc 3 1, 3) := by decide +kernel
theorem d_P_init_73 : decode b_P_init 73 = .ok (.goto (-29), 3) := by decide +kernel
theorem d_P_init_76 : decode b_P_init 76 = .ok (.aload_n 0, 1) := by decide +kernel
theorem d_P_init_77 : decode b_P_init 77 = .ok (.new 34, 3) := by decide +kernel
theorem d_P_init_80 : decode b_P_init 80 = .ok (.dup, 1) := by decide +kernel
theorem d_P_init_81 : decode b_P_init 81 = .ok (.invokespecial 36, 3) := by decide +kernel
theorem d_P_init_84 : decode b_P_init 84 = .ok (.putfield 37, 3) := by decide +kernel
theorem d_P_init_87 : decode b_P_init 87 = .ok (.aload_n 0, 1) := by decide +kernel
theorem d_P_init_88 : decode b_P_init 88 = .ok (.new 41, 3) := by decide +kernel
theorem d_P_init_91 : decode b_P_init 91 = .ok (.dup, 1) := by decide +kernel
theorem d_P_init_92 : decode b_P_init 92 = .ok (.invokespecial 43, 3) := by decide +kernel
theorem d_P_init_95 : decode b_P_init 95 = .ok (.putfield 44, 3) := by decide +kernel
theorem d_P_init_98 : decode b_P_init 98 = .ok (.return_, 1) := by decide +kernel
theorem d_P_request_0 : decode b_P_request 0 = .ok (.aload_n 0, 1) := by decide +kernel
theorem d_P_request_1 : decode b_P_request 1 = .ok (.iload_n 1, 1) := by decide +kernel
theorem d_P_request_2 : decode b_P_request 2 = .ok (.invokevirtual 48, 3) := by decide +kernel
theorem d_P_request_5 : decode b_P_request 5 = .ok (.astore_n 3, 1) := by decide +kernel
theorem d_P_request_6 : decode b_P_request 6 = .ok (.aload_n 3, 1) := by decide +kernel
theorem d_P_request_7 : decode b_P_request 7 = .ok (.ifnull 15, 3) := by decide +kernel
theorem d_P_request_10 : decode b_P_request 10 = .ok (.aload_n 3, 1) := by decide +kernel
theorem d_P_request_11 : decode b_P_request 11 = .ok (.getfield 52, 3) := by decide +kernel
theorem d_P_request_14 : decode b_P_request 14 = .ok (.ifCond .eq 8, 3) := by decide +kernel
theorem d_P_request_17 : decode b_P_request 17 = .ok (.iload_n 2, 1) := by decide +kernel
theorem d_P_request_18 : decode b_P_request 18 = .ok (.iconst 1, 1) := by decide +kernel
theorem d_P_request_19 : decode b_P_request 19 = .ok (.if_icmp .ge 5, 3) := by decide +kernel
theorem d_P_request_22 : decode b_P_request 22 = .ok (.iconst 0, 1) := by decide +kernel
theorem d_P_request_23 : decode b_P_request 23 = .ok (.ireturn, 1) := by decide +kernel
theorem d_P_request_24 : decode b_P_request 24 = .ok (.aload_n 3, 1) := by decide +kernel
theorem d_P_request_25 : decode b_P_request 25 = .ok (.getfield 56, 3) := by decide +kernel
theorem d_P_request_28 : decode b_P_request 28 = .ok (.iload_n 2, 1) := by decide +kernel
theorem d_P_request_29 : decode b_P_request 29 = .ok (.invokevirtual 60, 3) := by decide +kernel
theorem d_P_request_32 : decode b_P_request 32 = .ok (.ireturn, 1) := by decide +kernel
theorem d_P_tick_0 : decode b_P_tick 0 = .ok (.aload_n 0, 1) := by decide +kernel
theorem d_P_tick_1 : decode b_P_tick 1 = .ok (.iload_n 1, 1) := by decide +kernel
theorem d_P_tick_2 : decode b_P_tick 2 = .ok (.invokevirtual 48, 3) := by decide +kernel
theorem d_P_tick_5 : decode b_P_tick 5 = .ok (.astore_n 2, 1) := by decide +kernel
theorem d_P_tick_6 : decode b_P_tick 6 = .ok (.aload_n 2, 1) := by decide +kernel
theorem d_P_tick_7 : decode b_P_tick 7 = .ok (.ifnull 10, 3) := by decide +kernel
theorem d_P_tick_10 : decode b_P_tick 10 = .ok (.aload_n 2, 1) := by decide +kernel
theorem d_P_tick_11 : decode b_P_tick 11 = .ok (.getfield 52, 3) := by decide +kernel
theorem d_P_tick_14 : decode b_P_tick 14 = .ok (.ifCond .ne 5, 3) := by decide +kernel
theorem d_P_tick_17 : decode b_P_tick 17 = .ok (.iconst (-1), 1) := by decide +kernel
theorem d_P_tick_18 : decode b_P_tick 18 = .ok (.ireturn, 1) := by decide +kernel
theorem d_P_tick_19 : decode b_P_tick 19 = .ok (.aload_n 2, 1) := by decide +kernel
theorem d_P_tick_20 : decode b_P_tick 20 = .ok (.getfield 66, 3) := by decide +kernel
theorem d_P_tick_23 : decode b_P_tick 23 = .ok (.iconst 2, 1) := by decide +kernel
theorem d_P_tick_24 : decode b_P_tick 24 = .ok (.if_icmp .ne 11, 3) := by decide +kernel
theorem d_P_tick_27 : decode b_P_tick 27 = .ok (.aload_n 0, 1) := by decide +kernel
theorem d_P_tick_28 : decode b_P_tick 28 = .ok (.aload_n 2, 1) := by decide +kernel
theorem d_P_tick_29 : decode b_P_tick 29 = .ok (.invokevirtual 69, 3) := by decide +kernel
theorem d_P_tick_32 : decode b_P_tick 32 = .ok (.goto 65, 3) := by decide +kernel
theorem d_P_tick_35 : decode b_P_tick 35 = .ok (.aload_n 2, 1) := by decide +kernel
theorem d_P_tick_36 : decode b_P_tick 36 = .ok (.getfield 66, 3) := by decide +kernel
theorem d_P_tick_39 : decode b_P_tick 39 = .ok (.iconst 1, 1) := by decide +kernel
theorem d_P_tick_40 : decode b_P_tick 40 = .ok (.if_icmp .ne 11, 3) := by decide +kernel
theorem d_P_tick_43 : decode b_P_tick 43 = .ok (.aload_n 0, 1) := by decide +kernel
theorem d_P_tick_44 : decode b_P_tick 44 = .ok (.aload_n 2, 1) := by decide +kernel
theorem d_P_tick_45 : decode b_P_tick 45 = .ok (.invokevirtual 73, 3) := by decide +kernel
theorem d_P_tick_48 : decode b_P_tick 48 = .ok (.goto 49, 3) := by decide +kernel
theorem d_P_tick_51 : decode b_P_tick 51 = .ok (.aload_n 2, 1) := by decide +kernel
theorem d_P_tick_52 : decode b_P_tick 52 = .ok (.getfield 56, 3) := by decide +kernel
theorem d_P_tick_55 : decode b_P_tick 55 = .ok (.getfield 76, 3) := by decide +kernel
theorem d_P_tick_58 : decode b_P_tick 58 = .ok (.ifCond .le 11, 3) := by decide +kernel
theorem d_P_tick_61 : decode b_P_tick 61 = .ok (.aload_n 0, 1) := by decide +kernel
theorem d_P_tick_62 : decode b_P_tick 62 = .ok (.aload_n 2, 1) := by decide +kernel
theorem d_P_tick_63 : decode b_P_tick 63 = .ok (.invokevirtual 79, 3) := by decide +kernel
theorem d_P_tick_66 : decode b_P_tick 66 = .ok (.goto 31, 3) := by decide +kernel
theorem d_P_tick_69 : decode b_P_tick 69 = .ok (.aload_n 0, 1) := by decide +kernel
theorem d_P_tick_70 : decode b_P_tick 70 = .ok (.aload_n 2, 1) := by decide +kernel
theorem d_P_tick_71 : decode b_P_tick 71 = .ok (.aload_n 2, 1) := by decide +kernel
theorem d_P_tick_72 : decode b_P_tick 72 = .ok (.getfield 82, 3) := by decide +kernel
theorem d_P_tick_75 : decode b_P_tick 75 = .ok (.iconst 1, 1) := by decide +kernel
theorem d_P_tick_76 : decode b_P_tick 76 = .ok (.iadd, 1) := by decide +kernel
theorem d_P_tick_77 : decode b_P_tick 77 = .ok (.aload_n 0, 1) := by decide +kernel
theorem d_P_tick_78 : decode b_P_tick 78 = .ok (.getfield 18, 3) := by decide +kernel
theorem d_P_tick_81 : decode b_P_tick 81 = .ok (.if_icmp .ge 12, 3) := by decide +kernel
theorem d_P_tick_84 : decode b_P_tick 84 = .ok (.aload_n 2, 1) := by decide +kernel
theorem d_P_tick_85 : decode b_P_tick 85 = .ok (.getfield 82, 3) := by decide +kernel
theorem d_P_tick_88 : decode b_P_tick 88 = .ok (.iconst 1, 1) := by decide +kernel
theorem d_P_tick_89 : decode b_P_tick 89 = .ok (.iadd, 1) := by decide +kernel
theorem d_P_tick_90 : decode b_P_tick 90 = .ok (.goto 4, 3) := by decide +kernel
theorem d_P_tick_93 : decode b_P_tick 93 = .ok (.iconst 0, 1) := by decide +kernel
theorem d_P_tick_94 : decode b_P_tick 94 = .ok (.invokevirtual 85, 3) := by decide +kernel
theorem d_P_tick_97 : decode b_P_tick 97 = .ok (.aload_n 0, 1) := by decide +kernel
theorem d_P_tick_98 : decode b_P_tick 98 = .ok (.getfield 37, 3) := by decide +kernel
theorem d_P_tick_101 : decode b_P_tick 101 = .ok (.getfield 89, 3) := by decide +kernel
theorem d_P_tick_104 : decode b_P_tick 104 = .ok (.ireturn, 1) := by decide +kernel
theorem d_P_deliver_0 : decode b_P_deliver 0 = .ok (.aload_n 0, 1) := by decide +kernel
theorem d_P_deliver_1 : decode b_P_deliver 1 = .ok (.getfield 37, 3) := by decide +kernel
theorem d_P_deliver_4 : decode b_P_deliver 4 = .ok (.iload_n 1, 1) := by decide +kernel
theorem d_P_deliver_5 : decode b_P_deliver 5 = .ok (.invokevirtual 90, 3) := by decide +kernel
theorem d_P_deliver_8 : decode b_P_deliver 8 = .ok (.ifCond .ne 5, 3) := by decide +kernel
theorem d_P_deliver_11 : decode b_P_deliver 11 = .ok (.iconst (-1), 1) := by decide +kernel
theorem d_P_deliver_12 : decode b_P_deliver 12 = .ok (.ireturn, 1) := by decide +kernel
theorem d_P_deliver_13 : decode b_P_deliver 13 = .ok (.aload_n 0, 1) := by decide +kernel
theorem d_P_deliver_14 : decode b_P_deliver 14 = .ok (.getfield 37, 3) := by decide +kernel
theorem d_P_deliver_17 : decode b_P_deliver 17 = .ok (.iload_n 1, 1) := by decide +kernel
theorem d_P_deliver_18 : decode b_P_deliver 18 = .ok (.aload_n 0, 1) := by decide +kernel
theorem d_P_deliver_19 : decode b_P_deliver 19 = .ok (.getfield 44, 3) := by decide +kernel
theorem d_P_deliver_22 : decode b_P_deliver 22 = .ok (.invokevirtual 93, 3) := by decide +kernel
theorem d_P_deliver_25 : decode b_P_deliver 25 = .ok (.aload_n 0, 1) := by decide +kernel
theorem d_P_deliver_26 : decode b_P_deliver 26 = .ok (.getfield 37, 3) := by decide +kernel
theorem d_P_deliver_29 : decode b_P_deliver 29 = .ok (.iload_n 1, 1) := by decide +kernel
theorem d_P_deliver_30 : decode b_P_deliver 30 = .ok (.invokevirtual 97, 3) := by decide +kernel
theorem d_P_deliver_33 : decode b_P_deliver 33 = .ok (.aload_n 0, 1) := by decide +kernel
theorem d_P_deliver_34 : decode b_P_deliver 34 = .ok (.aload_n 0, 1) := by decide +kernel
theorem d_P_deliver_35 : decode b_P_deliver 35 = .ok (.getfield 44, 3) := by decide +kernel
theorem d_P_deliver_38 : decode b_P_deliver 38 = .ok (.getfield 101, 3) := by decide +kernel
theorem d_P_deliver_41 : decode b_P_deliver 41 = .ok (.invokevirtual 48, 3) := by decide +kernel
theorem d_P_deliver_44 : decode b_P_deliver 44 = .ok (.astore_n 2, 1) := by decide +kernel
theorem d_P_deliver_45 : decode b_P_deliver 45 = .ok (.aload_n 2, 1) := by decide +kernel
theorem d_P_deliver_46 : decode b_P_deliver 46 = .ok (.ifnull 19, 3) := by decide +kernel
theorem d_P_deliver_49 : decode b_P_deliver 49 = .ok (.aload_n 2, 1) := by decide +kernel
theorem d_P_deliver_50 : decode b_P_deliver 50 = .ok (.getfield 52, 3) := by decide +kernel
theorem d_P_deliver_53 : decode b_P_deliver 53 = .ok (.ifCond .eq 12, 3) := by decide +kernel
theorem d_P_deliver_56 : decode b_P_deliver 56 = .ok (.aload_n 0, 1) := by decide +kernel
theorem d_P_deliver_57 : decode b_P_deliver 57 = .ok (.aload_n 2, 1) := by decide +kernel
theorem d_P_deliver_58 : decode b_P_deliver 58 = .ok (.aload_n 0, 1) := by decide +kernel
theorem d_P_deliver_59 : decode b_P_deliver 59 = .ok (.getfield 44, 3) := by decide +kernel
theorem d_P_deliver_62 : decode b_P_deliver 62 = .ok (.invokevirtual 104, 3) := by decide +kernel
theorem d_P_deliver_65 : decode b_P_deliver 65 = .ok (.aload_n 0, 1) := by decide +kernel
theorem d_P_deliver_66 : decode b_P_deliver 66 = .ok (.getfield 44, 3) := by decide +kernel
theorem d_P_deliver_69 : decode b_P_deliver 69 = .ok (.getfield 108, 3) := by decide +kernel
theorem d_P_deliver_72 : decode b_P_deliver 72 = .ok (.ireturn, 1) := by decide +kernel
theorem d_P_lose_0 : decode b_P_lose 0 = .ok (.aload_n 0, 1) := by decide +kernel
theorem d_P_lose_1 : decode b_P_lose 1 = .ok (.getfield 37, 3) := by decide +kernel
theorem d_P_lose_4 : decode b_P_lose 4 = .ok (.iload_n 1, 1) := by decide +kernel
theorem d_P_lose_5 : decode b_P_lose 5 = .ok (.invokevirtual 90, 3) := by decide +kernel
theorem d_P_lose_8 : decode b_P_lose 8 = .ok (.ifCond .ne 5, 3) := by decide +kernel
theorem d_P_lose_11 : decode b_P_lose 11 = .ok (.iconst 0, 1) := by decide +kernel
theorem d_P_lose_12 : decode b_P_lose 12 = .ok (.ireturn, 1) := by decide +kernel
theorem d_P_lose_13 : decode b_P_lose 13 = .ok (.aload_n 0, 1) := by decide +kernel
theorem d_P_lose_14 : decode b_P_lose 14 = .ok (.getfield 37, 3) := by decide +kernel
theorem d_P_lose_17 : decode b_P_lose 17 = .ok (.iload_n 1, 1) := by decide +kernel
theorem d_P_lose_18 : decode b_P_lose 18 = .ok (.invokevirtual 97, 3) := by decide +kernel
theorem d_P_lose_21 : decode b_P_lose 21 = .ok (.iconst 1, 1) := by decide +kernel
theorem d_P_lose_22 : decode b_P_lose 22 = .ok (.ireturn, 1) := by decide +kernel
theorem d_P_twice_0 : decode b_P_twice 0 = .ok (.aload_n 0, 1) := by decide +kernel
theorem d_P_twice_1 : decode b_P_twice 1 = .ok (.getfield 37, 3) := by decide +kernel
theorem d_P_twice_4 : decode b_P_twice 4 = .ok (.iload_n 1, 1) := by decide +kernel
theorem d_P_twice_5 : decode b_P_twice 5 = .ok (.invokevirtual 111, 3) := by decide +kernel
theorem d_P_twice_8 : decode b_P_twice 8 = .ok (.ireturn, 1) := by decide +kernel
theorem d_P_turn_0 : decode b_P_turn 0 = .ok (.aload_n 0, 1) := by decide +kernel
theorem d_P_turn_1 : decode b_P_turn 1 = .ok (.iload_n 1, 1) := by decide +kernel
theorem d_P_turn_2 : decode b_P_turn 2 = .ok (.invokevirtual 48, 3) := by decide +kernel
theorem d_P_turn_5 : decode b_P_turn 5 = .ok (.astore_n 3, 1) := by decide +kernel
theorem d_P_turn_6 : decode b_P_turn 6 = .ok (.aload_n 3, 1) := by decide +kernel
theorem d_P_turn_7 : decode b_P_turn 7 = .ok (.ifnull 11, 3) := by decide +kernel
theorem d_P_turn_10 : decode b_P_turn 10 = .ok (.aload_n 3, 1) := by decide +kernel
theorem d_P_turn_11 : decode b_P_turn 11 = .ok (.getfield 52, 3) := by decide +kernel
theorem d_P_turn_14 : decode b_P_turn 14 = .ok (.iload_n 2, 1) := by decide +kernel
theorem d_P_turn_15 : decode b_P_turn 15 = .ok (.if_icmp .ne 5, 3) := by decide +kernel
theorem d_P_turn_18 : decode b_P_turn 18 = .ok (.iconst 0, 1) := by decide +kernel
theorem d_P_turn_19 : decode b_P_turn 19 = .ok (.ireturn, 1) := by decide +kernel
theorem d_P_turn_20 : decode b_P_turn 20 = .ok (.aload_n 3, 1) := by decide +kernel
theorem d_P_turn_21 : decode b_P_turn 21 = .ok (.iload_n 2, 1) := by decide +kernel
theorem d_P_turn_22 : decode b_P_turn 22 = .ok (.putfield 52, 3) := by decide +kernel
theorem d_P_turn_25 : decode b_P_turn 25 = .ok (.aload_n 3, 1) := by decide +kernel
theorem d_P_turn_26 : decode b_P_turn 26 = .ok (.invokevirtual 114, 3) := by decide +kernel
theorem d_P_turn_29 : decode b_P_turn 29 = .ok (.iconst 1, 1) := by decide +kernel
theorem d_P_turn_30 : decode b_P_turn 30 = .ok (.ireturn, 1) := by decide +kernel
theorem d_P_replica_0 : decode b_P_replica 0 = .ok (.aload_n 0, 1) := by decide +kernel
theorem d_P_replica_1 : decode b_P_replica 1 = .ok (.iload_n 1, 1) := by decide +kernel
theorem d_P_replica_2 : decode b_P_replica 2 = .ok (.invokevirtual 48, 3) := by decide +kernel
theorem d_P_replica_5 : decode b_P_replica 5 = .ok (.astore_n 3, 1) := by decide +kernel
theorem d_P_replica_6 : decode b_P_replica 6 = .ok (.aload_n 3, 1) := by decide +kernel
theorem d_P_replica_7 : decode b_P_replica 7 = .ok (.ifnonnull 5, 3) := by decide +kernel
theorem d_P_replica_10 : decode b_P_replica 10 = .ok (.iconst (-1), 1) := by decide +kernel
theorem d_P_replica_11 : decode b_P_replica 11 = .ok (.ireturn, 1) := by decide +kernel
theorem d_P_replica_12 : decode b_P_replica 12 = .ok (.iload_n 2, 1) := by decide +kernel
theorem d_P_replica_13 : decode b_P_replica 13 = .ok (.tableswitch 106 0 6 #[43, 56, 64, 72, 80, 85, 101], 43) := by decide +kernel
theorem d_P_replica_56 : decode b_P_replica 56 = .ok (.aload_n 3, 1) := by decide +kernel
theorem d_P_replica_57 : decode b_P_replica 57 = .ok (.getfield 52, 3) := by decide +kernel
theorem d_P_replica_60 : decode b_P_replica 60 = .ok (.ifCond .eq 7, 3) := by decide +kernel
theorem d_P_replica_63 : decode b_P_replica 63 = .ok (.iconst 1, 1) := by decide +kernel
theorem d_P_replica_64 : decode b_P_replica 64 = .ok (.goto 4, 3) := by decide +kernel
theorem d_P_replica_67 : decode b_P_replica 67 = .ok (.iconst 0, 1) := by decide +kernel
theorem d_P_replica_68 : decode b_P_replica 68 = .ok (.ireturn, 1) := by decide +kernel
theorem d_P_replica_69 : decode b_P_replica 69 = .ok (.aload_n 3, 1) := by decide +kernel
theorem d_P_replica_70 : decode b_P_replica 70 = .ok (.getfield 117, 3) := by decide +kernel
theorem d_P_replica_73 : decode b_P_replica 73 = .ok (.getfield 121, 3) := by decide +kernel
theorem d_P_replica_76 : decode b_P_replica 76 = .ok (.ireturn, 1) := by decide +kernel
theorem d_P_replica_77 : decode b_P_replica 77 = .ok (.aload_n 3, 1) := by decide +kernel
theorem d_P_replica_78 : decode b_P_replica 78 = .ok (.getfield 117, 3) := by decide +kernel
theorem d_P_replica_81 : decode b_P_replica 81 = .ok (.getfield 126, 3) := by decide +kernel
theorem d_P_replica_84 : decode b_P_replica 84 = .ok (.ireturn, 1) := by decide +kernel
theorem d_P_replica_85 : decode b_P_replica 85 = .ok (.aload_n 3, 1) := by decide +kernel
theorem d_P_replica_86 : decode b_P_replica 86 = .ok (.getfield 117, 3) := by decide +kernel
theorem d_P_replica_89 : decode b_P_replica 89 = .ok (.invokevirtual 129, 3) := by decide +kernel
theorem d_P_replica_92 : decode b_P_replica 92 = .ok (.ireturn, 1) := by decide +kernel
theorem d_P_replica_93 : decode b_P_replica 93 = .ok (.aload_n 3, 1) := by decide +kernel
theorem d_P_replica_94 : decode b_P_replica 94 = .ok (.getfield 133, 3) := by decide +kernel
theorem d_P_replica_97 : decode b_P_replica 97 = .ok (.ireturn, 1) := by decide +kernel
theorem d_P_replica_98 : decode b_P_replica 98 = .ok (.aload_n 3, 1) := by decide +kernel
theorem d_P_replica_99 : decode b_P_replica 99 = .ok (.invokevirtual 136, 3) := by decide +kernel
theorem d_P_replica_102 : decode b_P_replica 102 = .ok (.ifCond .eq 10, 3) := by decide +kernel
theorem d_P_replica_105 : decode b_P_replica 105 = .ok (.aload_n 3, 1) := by decide +kernel
theorem d_P_replica_106 : decode b_P_replica 106 = .ok (.getfield 140, 3) := by decide +kernel
theorem d_P_replica_109 : decode b_P_replica 109 = .ok (.goto 4, 3) := by decide +kernel
theorem d_P_replica_112 : decode b_P_replica 112 = .ok (.iconst (-1), 1) := by decide +kernel
theorem d_P_replica_113 : decode b_P_replica 113 = .ok (.ireturn, 1) := by decide +kernel
theorem d_P_replica_114 : decode b_P_replica 114 = .ok (.aload_n 3, 1) := by decide +kernel
theorem d_P_replica_115 : decode b_P_replica 115 = .ok (.getfield 143, 3) := by decide +kernel
theorem d_P_replica_118 : decode b_P_replica 118 = .ok (.ireturn, 1) := by decide +kernel
theorem d_P_replica_119 : decode b_P_replica 119 = .ok (.aload_n 3, 1) := by decide +kernel
theorem d_P_replica_120 : decode b_P_replica 120 = .ok (.getfield 52, 3) := by decide +kernel
theorem d_P_replica_123 : decode b_P_replica 123 = .ok (.ifCond .eq 11, 3) := by decide +kernel
theorem d_P_replica_126 : decode b_P_replica 126 = .ok (.aload_n 3, 1) := by decide +kernel
theorem d_P_replica_127 : decode b_P_replica 127 = .ok (.iload_n 2, 1) := by decide +kernel
theorem d_P_replica_128 : decode b_P_replica 128 = .ok (.invokevirtual 146, 3) := by decide +kernel
theorem d_P_replica_131 : decode b_P_replica 131 = .ok (.goto 4, 3) := by decide +kernel
theorem d_P_replica_134 : decode b_P_replica 134 = .ok (.iconst (-1), 1) := by decide +kernel
theorem d_P_replica_135 : decode b_P_replica 135 = .ok (.ireturn, 1) := by decide +kernel
theorem d_P_slot_0 : decode b_P_slot 0 = .ok (.aload_n 0, 1) := by decide +kernel
theorem d_P_slot_1 : decode b_P_slot 1 = .ok (.iload_n 1, 1) := by decide +kernel
theorem d_P_slot_2 : decode b_P_slot 2 = .ok (.invokevirtual 48, 3) := by decide +kernel
theorem d_P_slot_5 : decode b_P_slot 5 = .ok (.astore_n 3, 1) := by decide +kernel
theorem d_P_slot_6 : decode b_P_slot 6 = .ok (.aload_n 3, 1) := by decide +kernel
theorem d_P_slot_7 : decode b_P_slot 7 = .ok (.ifnonnull 7, 3) := by decide +kernel
theorem d_P_slot_10 : decode b_P_slot 10 = .ok (.iconst 0, 1) := by decide +kernel
theorem d_P_slot_11 : decode b_P_slot 11 = .ok (.goto 11, 3) := by decide +kernel
theorem d_P_slot_14 : decode b_P_slot 14 = .ok (.aload_n 3, 1) := by decide +kernel
theorem d_P_slot_15 : decode b_P_slot 15 = .ok (.getfield 117, 3) := by decide +kernel
theorem d_P_slot_18 : decode b_P_slot 18 = .ok (.iload_n 2, 1) := by decide +kernel
theorem d_P_slot_19 : decode b_P_slot 19 = .ok (.invokevirtual 150, 3) := by decide +kernel
theorem d_P_slot_22 : decode b_P_slot 22 = .ok (.ireturn, 1) := by decide +kernel
theorem d_P_waiting_0 : decode b_P_waiting 0 = .ok (.aload_n 0, 1) := by decide +kernel
theorem d_P_waiting_1 : decode b_P_waiting 1 = .ok (.iload_n 1, 1) := by decide +kernel
theorem d_P_waiting_2 : decode b_P_waiting 2 = .ok (.invokevirtual 48, 3) := by decide +kernel
theorem d_P_waiting_5 : decode b_P_waiting 5 = .ok (.astore_n 3, 1) := by decide +kernel
theorem d_P_waiting_6 : decode b_P_waiting 6 = .ok (.aload_n 3, 1) := by decide +kernel
theorem d_P_waiting_7 : decode b_P_waiting 7 = .ok (.ifnull 10, 3) := by decide +kernel
theorem d_P_waiting_10 : decode b_P_waiting 10 = .ok (.aload_n 3, 1) := by decide +kernel
theorem d_P_waiting_11 : decode b_P_waiting 11 = .ok (.getfield 52, 3) := by decide +kernel
theorem d_P_waiting_14 : decode b_P_waiting 14 = .ok (.ifCond .ne 7, 3) := by decide +kernel
theorem d_P_waiting_17 : decode b_P_waiting 17 = .ok (.iconst 0, 1) := by decide +kernel
theorem d_P_waiting_18 : decode b_P_waiting 18 = .ok (.goto 11, 3) := by decide +kernel
theorem d_P_waiting_21 : decode b_P_waiting 21 = .ok (.aload_n 3, 1) := by decide +kernel
theorem d_P_waiting_22 : decode b_P_waiting 22 = .ok (.getfield 56, 3) := by decide +kernel
theorem d_P_waiting_25 : decode b_P_waiting 25 = .ok (.iload_n 2, 1) := by decide +kernel
theorem d_P_waiting_26 : decode b_P_waiting 26 = .ok (.invokevirtual 153, 3) := by decide +kernel
theorem d_P_waiting_29 : decode b_P_waiting 29 = .ok (.ireturn, 1) := by decide +kernel
theorem d_P_message_0 : decode b_P_message 0 = .ok (.aload_n 0, 1) := by decide +kernel
theorem d_P_message_1 : decode b_P_message 1 = .ok (.getfield 37, 3) := by decide +kernel
theorem d_P_message_4 : decode b_P_message 4 = .ok (.iload_n 1, 1) := by decide +kernel
theorem d_P_message_5 : decode b_P_message 5 = .ok (.iload_n 2, 1) := by decide +kernel
theorem d_P_message_6 : decode b_P_message 6 = .ok (.invokevirtual 156, 3) := by decide +kernel
theorem d_P_message_9 : decode b_P_message 9 = .ok (.ireturn, 1) := by decide +kernel
theorem d_P_look_0 : decode b_P_look 0 = .ok (.iload_n 1, 1) := by decide +kernel
theorem d_P_look_1 : decode b_P_look 1 = .ok (.tableswitch 78 0 5 #[39, 44, 49, 57, 65, 73], 39) := by decide +kernel
theorem d_P_look_40 : decode b_P_look 40 = .ok (.aload_n 0, 1) := by decide +kernel
theorem d_P_look_41 : decode b_P_look 41 = .ok (.getfield 18, 3) := by decide +kernel
theorem d_P_look_44 : decode b_P_look 44 = .ok (.ireturn, 1) := by decide +kernel
theorem d_P_look_45 : decode b_P_look 45 = .ok (.aload_n 0, 1) := by decide +kernel
theorem d_P_look_46 : decode b_P_look 46 = .ok (.getfield 22, 3) := by decide +kernel
theorem d_P_look_49 : decode b_P_look 49 = .ok (.ireturn, 1) := by decide +kernel
theorem d_P_look_50 : decode b_P_look 50 = .ok (.aload_n 0, 1) := by decide +kernel
theorem d_P_look_51 : decode b_P_look 51 = .ok (.getfield 37, 3) := by decide +kernel
theorem d_P_look_54 : decode b_P_look 54 = .ok (.getfield 89, 3) := by decide +kernel
theorem d_P_look_57 : decode b_P_look 57 = .ok (.ireturn, 1) := by decide +kernel
theorem d_P_look_58 : decode b_P_look 58 = .ok (.aload_n 0, 1) := by decide +kernel
theorem d_P_look_59 : decode b_P_look 59 = .ok (.getfield 37, 3) := by decide +kernel
theorem d_P_look_62 : decode b_P_look 62 = .ok (.getfield 159, 3) := by decide +kernel
theorem d_P_look_65 : decode b_P_look 65 = .ok (.ireturn, 1) := by decide +kernel
theorem d_P_look_66 : decode b_P_look 66 = .ok (.aload_n 0, 1) := by decide +kernel
theorem d_P_look_67 : decode b_P_look 67 = .ok (.getfield 37, 3) := by decide +kernel
theorem d_P_look_70 : decode b_P_look 70 = .ok (.getfield 162, 3) := by decide +kernel
theorem d_P_look_73 : decode b_P_look 73 = .ok (.ireturn, 1) := by decide +kernel
theorem d_P_look_74 : decode b_P_look 74 = .ok (.aload_n 0, 1) := by decide +kernel
theorem d_P_look_75 : decode b_P_look 75 = .ok (.invokevirtual 165, 3) := by decide +kernel
theorem d_P_look_78 : decode b_P_look 78 = .ok (.ireturn, 1) := by decide +kernel
theorem d_P_look_79 : decode b_P_look 79 = .ok (.iconst (-1), 1) := by decide +kernel
theorem d_P_look_80 : decode b_P_look 80 = .ok (.ireturn, 1) := by decide +kernel
theorem d_P_find_0 : decode b_P_find 0 = .ok (.iload_n 1, 1) := by decide +kernel
theorem d_P_find_1 : decode b_P_find 1 = .ok (.ifCond .lt 20, 3) := by decide +kernel
theorem d_P_find_4 : decode b_P_find 4 = .ok (.iload_n 1, 1) := by decide +kernel
theorem d_P_find_5 : decode b_P_find 5 = .ok (.aload_n 0, 1) := by decide +kernel
theorem d_P_find_6 : decode b_P_find 6 = .ok (.getfield 18, 3) := by decide +kernel
theorem d_P_find_9 : decode b_P_find 9 = .ok (.if_icmp .ge 12, 3) := by decide +kernel
theorem d_P_find_12 : decode b_P_find 12 = .ok (.aload_n 0, 1) := by decide +kernel
theorem d_P_find_13 : decode b_P_find 13 = .ok (.getfield 27, 3) := by decide +kernel
theorem d_P_find_16 : decode b_P_find 16 = .ok (.iload_n 1, 1) := by decide +kernel
theorem d_P_find_17 : decode b_P_find 17 = .ok (.aaload, 1) := by decide +kernel
theorem d_P_find_18 : decode b_P_find 18 = .ok (.goto 4, 3) := by decide +kernel
theorem d_P_find_21 : decode b_P_find 21 = .ok (.aconst_null, 1) := by decide +kernel
theorem d_P_find_22 : decode b_P_find 22 = .ok (.areturn, 1) := by decide +kernel
theorem d_P_greatestIndex_0 : decode b_P_greatestIndex 0 = .ok (.iconst 0, 1) := by decide +kernel
theorem d_P_greatestIndex_1 : decode b_P_greatestIndex 1 = .ok (.istore_n 1, 1) := by decide +kernel
theorem d_P_greatestIndex_2 : decode b_P_greatestIndex 2 = .ok (.iconst 0, 1) := by decide +kernel
theorem d_P_greatestIndex_3 : decode b_P_greatestIndex 3 = .ok (.istore_n 2, 1) := by decide +kernel
theorem d_P_greatestIndex_4 : decode b_P_greatestIndex 4 = .ok (.iload_n 2, 1) := by decide +kernel
theorem d_P_greatestIndex_5 : decode b_P_greatestIndex 5 = .ok (.aload_n 0, 1) := by decide +kernel
theorem d_P_greatestIndex_6 : decode b_P_greatestIndex 6 = .ok (.getfield 18, 3) := by decide +kernel
theorem d_P_greatestIndex_9 : decode b_P_greatestIndex 9 = .ok (.if_icmp .ge 26, 3) := by decide +kernel
theorem d_P_greatestIndex_12 : decode b_P_greatestIndex 12 = .ok (.iload_n 1, 1) := by decide +kernel
theorem d_P_greatestIndex_13 : decode b_P_greatestIndex 13 = .ok (.aload_n 0, 1) := by decide +kernel
theorem d_P_greatestIndex_14 : decode b_P_greatestIndex 14 = .ok (.getfield 27, 3) := by decide +kernel
theorem d_P_greatestIndex_17 : decode b_P_greatestIndex 17 = .ok (.iload_n 2, 1) := by decide +kernel
theorem d_P_greatestIndex_18 : decode b_P_greatestIndex 18 = .ok (.aaload, 1) := by decide +kernel
theorem d_P_greatestIndex_19 : decode b_P_greatestIndex 19 = .ok (.getfield 117, 3) := by decide +kernel
theorem d_P_greatestIndex_22 : decode b_P_greatestIndex 22 = .ok (.getfield 121, 3) := by decide +kernel
theorem d_P_greatestIndex_25 : decode b_P_greatestIndex 25 = .ok (.invokestatic 15, 3) := by decide +kernel
theorem d_P_greatestIndex_28 : decode b_P_greatestIndex 28 = .ok (.istore_n 1, 1) := by decide +kernel
theorem d_P_greatestIndex_29 : decode b_P_greatestIndex 29 = .ok (.iinc 2 1, 3) := by decide +kernel
theorem d_P_greatestIndex_32 : decode b_P_greatestIndex 32 = .ok (.goto (-28), 3) := by decide +kernel
theorem d_P_greatestIndex_35 : decode b_P_greatestIndex 35 = .ok (.iload_n 1, 1) := by decide +kernel
theorem d_P_greatestIndex_36 : decode b_P_greatestIndex 36 = .ok (.ireturn, 1) := by decide +kernel
theorem d_P_isMajority_0 : decode b_P_isMajority 0 = .ok (.iconst 2, 1) := by decide +kernel
theorem d_P_isMajority_1 : decode b_P_isMajority 1 = .ok (.iload_n 1, 1) := by decide +kernel
theorem d_P_isMajority_2 : decode b_P_isMajority 2 = .ok (.invokestatic 168, 3) := by decide +kernel
theorem d_P_isMajority_5 : decode b_P_isMajority 5 = .ok (.imul, 1) := by decide +kernel
theorem d_P_isMajority_6 : decode b_P_isMajority 6 = .ok (.aload_n 0, 1) := by decide +kernel
theorem d_P_isMajority_7 : decode b_P_isMajority 7 = .ok (.getfield 18, 3) := by decide +kernel
theorem d_P_isMajority_10 : decode b_P_isMajority 10 = .ok (.if_icmp .le 7, 3) := by decide +kernel
theorem d_P_isMajority_13 : decode b_P_isMajority 13 = .ok (.iconst 1, 1) := by decide +kernel
theorem d_P_isMajority_14 : decode b_P_isMajority 14 = .ok (.goto 4, 3) := by decide +kernel
theorem d_P_isMajority_17 : decode b_P_isMajority 17 = .ok (.iconst 0, 1) := by decide +kernel
theorem d_P_isMajority_18 : decode b_P_isMajority 18 = .ok (.ireturn, 1) := by decide +kernel
theorem d_P_tickLeader_0 : decode b_P_tickLeader 0 = .ok (.aload_n 1, 1) := by decide +kernel
theorem d_P_tickLeader_1 : decode b_P_tickLeader 1 = .ok (.getfield 173, 3) := by decide +kernel
theorem d_P_tickLeader_4 : decode b_P_tickLeader 4 = .ok (.ifCond .eq 11, 3) := by decide +kernel
theorem d_P_tickLeader_7 : decode b_P_tickLeader 7 = .ok (.aload_n 0, 1) := by decide +kernel
theorem d_P_tickLeader_8 : decode b_P_tickLeader 8 = .ok (.aload_n 1, 1) := by decide +kernel
theorem d_P_tickLeader_9 : decode b_P_tickLeader 9 = .ok (.invokevirtual 176, 3) := by decide +kernel
theorem d_P_tickLeader_12 : decode b_P_tickLeader 12 = .ok (.goto 8, 3) := by decide +kernel
theorem d_P_tickLeader_15 : decode b_P_tickLeader 15 = .ok (.aload_n 0, 1) := by decide +kernel
theorem d_P_tickLeader_16 : decode b_P_tickLeader 16 = .ok (.aload_n 1, 1) := by decide +kernel
theorem d_P_tickLeader_17 : decode b_P_tickLeader 17 = .ok (.invokevirtual 179, 3) := by decide +kernel
theorem d_P_tickLeader_20 : decode b_P_tickLeader 20 = .ok (.return_, 1) := by decide +kernel
theorem d_P_campaign_0 : decode b_P_campaign 0 = .ok (.aload_n 1, 1) := by decide +kernel
theorem d_P_campaign_1 : decode b_P_campaign 1 = .ok (.aload_n 0, 1) := by decide +kernel
theorem d_P_campaign_2 : decode b_P_campaign 2 = .ok (.aload_n 1, 1) := by decide +kernel
theorem d_P_campaign_3 : decode b_P_campaign 3 = .ok (.invokevirtual 182, 3) := by decide +kernel
theorem d_P_campaign_6 : decode b_P_campaign 6 = .ok (.invokevirtual 186, 3) := by decide +kernel
theorem d_P_campaign_9 : decode b_P_campaign 9 = .ok (.aload_n 0, 1) := by decide +kernel
theorem d_P_campaign_10 : decode b_P_campaign 10 = .ok (.aload_n 1, 1) := by decide +kernel
theorem d_P_campaign_11 : decode b_P_campaign 11 = .ok (.invokevirtual 73, 3) := by decide +kernel
theorem d_P_campaign_14 : decode b_P_campaign 14 = .ok (.return_, 1) := by decide +kernel
theorem d_P_nextBallot_0 : decode b_P_nextBallot 0 = .ok (.aload_n 1, 1) := by decide +kernel
theorem d_P_nextBallot_1 : decode b_P_nextBallot 1 = .ok (.getfield 133, 3) := by decide +kernel
theorem d_P_nextBallot_4 : decode b_P_nextBallot 4 = .ok (.aload_n 1, 1) := by decide +kernel
theorem d_P_nextBallot_5 : decode b_P_nextBallot 5 = .ok (.getfield 189, 3) := by decide +kernel
theorem d_P_nextBallot_8 : decode b_P_nextBallot 8 = .ok (.invokestatic 15, 3) := by decide +kernel
theorem d_P_nextBallot_11 : decode b_P_nextBallot 11 = .ok (.istore_n 2, 1) := by decide +kernel
theorem d_P_nextBallot_12 : decode b_P_nextBallot 12 = .ok (.iload_n 2, 1) := by decide +kernel
theorem d_P_nextBallot_13 : decode b_P_nextBallot 13 = .ok (.iload_n 2, 1) := by decide +kernel
theorem d_P_nextBallot_14 : decode b_P_nextBallot 14 = .ok (.aload_n 0, 1) := by decide +kernel
theorem d_P_nextBallot_15 : decode b_P_nextBallot 15 = .ok (.getfield 18, 3) := by decide +kernel
theorem d_P_nextBallot_18 : decode b_P_nextBallot 18 = .ok (.irem, 1) := by decide +kernel
theorem d_P_nextBallot_19 : decode b_P_nextBallot 19 = .ok (.isub, 1) := by decide +kernel
theorem d_P_nextBallot_20 : decode b_P_nextBallot 20 = .ok (.aload_n 1, 1) := by decide +kernel
theorem d_P_nextBallot_21 : decode b_P_nextBallot 21 = .ok (.getfield 82, 3) := by decide +kernel
theorem d_P_nextBallot_24 : decode b_P_nextBallot 24 = .ok (.iadd, 1) := by decide +kernel
theorem d_P_nextBallot_25 : decode b_P_nextBallot 25 = .ok (.istore_n 3, 1) := by decide +kernel
theorem d_P_nextBallot_26 : decode b_P_nextBallot 26 = .ok (.iload_n 3, 1) := by decide +kernel
theorem d_P_nextBallot_27 : decode b_P_nextBallot 27 = .ok (.iload_n 2, 1) := by decide +kernel
theorem d_P_nextBallot_28 : decode b_P_nextBallot 28 = .ok (.if_icmp .le 7, 3) := by decide +kernel
theorem d_P_nextBallot_31 : decode b_P_nextBallot 31 = .ok (.iload_n 3, 1) := by decide +kernel
theorem d_P_nextBallot_32 : decode b_P_nextBallot 32 = .ok (.goto 9, 3) := by decide +kernel
theorem d_P_nextBallot_35 : decode b_P_nextBallot 35 = .ok (.iload_n 3, 1) := by decide +kernel
theorem d_P_nextBallot_36 : decode b_P_nextBallot 36 = .ok (.aload_n 0, 1) := by decide +kernel
theorem d_P_nextBallot_37 : decode b_P_nextBallot 37 = .ok (.getfield 18, 3) := by decide +kernel
theorem d_P_nextBallot_40 : decode b_P_nextBallot 40 = .ok (.iadd, 1) := by decide +kernel
theorem d_P_nextBallot_41 : decode b_P_nextBallot 41 = .ok (.ireturn, 1) := by decide +kernel
theorem d_P_propose_0 : decode b_P_propose 0 = .ok (.aload_n 1, 1) := by decide +kernel
theorem d_P_propose_1 : decode b_P_propose 1 = .ok (.getfield 56, 3) := by decide +kernel
theorem d_P_propose_4 : decode b_P_propose 4 = .ok (.iconst 0, 1) := by decide +kernel
theorem d_P_propose_5 : decode b_P_propose 5 = .ok (.invokevirtual 153, 3) := by decide +kernel
theorem d_P_propose_8 : decode b_P_propose 8 = .ok (.istore_n 2, 1) := by decide +kernel
theorem d_P_propose_9 : decode b_P_propose 9 = .ok (.iload_n 2, 1) := by decide +kernel
theorem d_P_propose_10 : decode b_P_propose 10 = .ok (.ifCond .eq 9, 3) := by decide +kernel
theorem d_P_propose_13 : decode b_P_propose 13 = .ok (.aload_n 0, 1) := by decide +kernel
theorem d_P_propose_14 : decode b_P_propose 14 = .ok (.aload_n 1, 1) := by decide +kernel
theorem d_P_propose_15 : decode b_P_propose 15 = .ok (.iload_n 2, 1) := by decide +kernel
theorem d_P_propose_16 : decode b_P_propose 16 = .ok (.invokevirtual 192, 3) := by decide +kernel
theorem d_P_propose_19 : decode b_P_propose 19 = .ok (.return_, 1) := by decide +kernel
theorem d_P_proposeNumber_0 : decode b_P_proposeNumber 0 = .ok (.aload_n 1, 1) := by decide +kernel
theorem d_P_proposeNumber_1 : decode b_P_proposeNumber 1 = .ok (.iload_n 2, 1) := by decide +kernel
theorem d_P_proposeNumber_2 : decode b_P_proposeNumber 2 = .ok (.invokevirtual 195, 3) := by decide +kernel
theorem d_P_proposeNumber_5 : decode b_P_proposeNumber 5 = .ok (.aload_n 0, 1) := by decide +kernel
theorem d_P_proposeNumber_6 : decode b_P_proposeNumber 6 = .ok (.aload_n 1, 1) := by decide +kernel
theorem d_P_proposeNumber_7 : decode b_P_proposeNumber 7 = .ok (.invokevirtual 176, 3) := by decide +kernel
theorem d_P_proposeNumber_10 : decode b_P_proposeNumber 10 = .ok (.return_, 1) := by decide +kernel
theorem d_P_arrive_0 : decode b_P_arrive 0 = .ok (.aload_n 1, 1) := by decide +kernel
theorem d_P_arrive_1 : decode b_P_arrive 1 = .ok (.aload_n 1, 1) := by decide +kernel
theorem d_P_arrive_2 : decode b_P_arrive 2 = .ok (.getfield 189, 3) := by decide +kernel
theorem d_P_arrive_5 : decode b_P_arrive 5 = .ok (.aload_n 2, 1) := by decide +kernel
theorem d_P_arrive_6 : decode b_P_arrive 6 = .ok (.getfield 198, 3) := by decide +kernel
theorem d_P_arrive_9 : decode b_P_arrive 9 = .ok (.invokestatic 15, 3) := by decide +kernel
theorem d_P_arrive_12 : decode b_P_arrive 12 = .ok (.putfield 189, 3) := by decide +kernel
theorem d_P_arrive_15 : decode b_P_arrive 15 = .ok (.aload_n 2, 1) := by decide +kernel
theorem d_P_arrive_16 : decode b_P_arrive 16 = .ok (.getfield 108, 3) := by decide +kernel
theorem d_P_arrive_19 : decode b_P_arrive 19 = .ok (.tableswitch 104 1 7 #[41, 50, 59, 68, 77, 86, 95], 41) := by decide +kernel
theorem d_P_arrive_60 : decode b_P_arrive 60 = .ok (.aload_n 0, 1) := by decide +kernel
theorem d_P_arrive_61 : decode b_P_arrive 61 = .ok (.aload_n 1, 1) := by decide +kernel
theorem d_P_arrive_62 : decode b_P_arrive 62 = .ok (.aload_n 2, 1) := by decide +kernel
theorem d_P_arrive_63 : decode b_P_arrive 63 = .ok (.invokevirtual 201, 3) := by decide +kernel
theorem d_P_arrive_66 : decode b_P_arrive 66 = .ok (.goto 63, 3) := by decide +kernel
theorem d_P_arrive_69 : decode b_P_arrive 69 = .ok (.aload_n 0, 1) := by decide +kernel
theorem d_P_arrive_70 : decode b_P_arrive 70 = .ok (.aload_n 1, 1) := by decide +kernel
theorem d_P_arrive_71 : decode b_P_arrive 71 = .ok (.aload_n 2, 1) := by decide +kernel
theorem d_P_arrive_72 : decode b_P_arrive 72 = .ok (.invokevirtual 204, 3) := by decide +kernel
theorem d_P_arrive_75 : decode b_P_arrive 75 = .ok (.goto 54, 3) := by decide +kernel
theorem d_P_arrive_78 : decode b_P_arrive 78 = .ok (.aload_n 0, 1) := by decide +kernel
theorem d_P_arrive_79 : decode b_P_arrive 79 = .ok (.aload_n 1, 1) := by decide +kernel
theorem d_P_arrive_80 : decode b_P_arrive 80 = .ok (.aload_n 2, 1) := by decide +kernel
theorem d_P_arrive_81 : decode b_P_arrive 81 = .ok (.invokevirtual 207, 3) := by decide +kernel
theorem d_P_arrive_84 : decode b_P_arrive 84 = .ok (.goto 45, 3) := by decide +kernel
theorem d_P_arrive_87 : decode b_P_arrive 87 = .ok (.aload_n 0, 1) := by decide +kernel
theorem d_P_arrive_88 : decode b_P_arrive 88 = .ok (.aload_n 1, 1) := by decide +kernel
theorem d_P_arrive_89 : decode b_P_arrive 89 = .ok (.aload_n 2, 1) := by decide +kernel
theorem d_P_arrive_90 : decode b_P_arrive 90 = .ok (.invokevirtual 210, 3) := by decide +kernel
theorem d_P_arrive_93 : decode b_P_arrive 93 = .ok (.goto 36, 3) := by decide +kernel
end
section
theorem d_P_arrive_96 : decode b_P_arrive 96 = .ok (.aload_n 0, 1) := by decide +kernel
theorem d_P_arrive_97 : decode b_P_arrive 97 = .ok (.aload_n 1, 1) := by decide +kernel
theorem d_P_arrive_98 : decode b_P_arrive 98 = .ok (.aload_n 2, 1) := by decide +kernel
theorem d_P_arrive_99 : decode b_P_arrive 99 = .ok (.invokevirtual 213, 3) := by decide +kernel
theorem d_P_arrive_102 : decode b_P_arrive 102 = .ok (.goto 27, 3) := by decide +kernel
theorem d_P_arrive_105 : decode b_P_arrive 105 = .ok (.aload_n 0, 1) := by decide +kernel
theorem d_P_arrive_106 : decode b_P_arrive 106 = .ok (.aload_n 1, 1) := by decide +kernel
theorem d_P_arrive_107 : decode b_P_arrive 107 = .ok (.aload_n 2, 1) := by decide +kernel
theorem d_P_arrive_108 : decode b_P_arrive 108 = .ok (.invokevirtual 216, 3) := by decide +kernel
theorem d_P_arrive_111 : decode b_P_arrive 111 = .ok (.goto 18, 3) := by decide +kernel
theorem d_P_arrive_114 : decode b_P_arrive 114 = .ok (.aload_n 0, 1) := by decide +kernel
theorem d_P_arrive_115 : decode b_P_arrive 115 = .ok (.aload_n 1, 1) := by decide +kernel
theorem d_P_arrive_116 : decode b_P_arrive 116 = .ok (.aload_n 2, 1) := by decide +kernel
theorem d_P_arrive_117 : decode b_P_arrive 117 = .ok (.invokevirtual 219, 3) := by decide +kernel
theorem d_P_arrive_120 : decode b_P_arrive 120 = .ok (.goto 9, 3) := by decide +kernel
theorem d_P_arrive_123 : decode b_P_arrive 123 = .ok (.aload_n 0, 1) := by decide +kernel
theorem d_P_arrive_124 : decode b_P_arrive 124 = .ok (.aload_n 1, 1) := by decide +kernel
theorem d_P_arrive_125 : decode b_P_arrive 125 = .ok (.aload_n 2, 1) := by decide +kernel
theorem d_P_arrive_126 : decode b_P_arrive 126 = .ok (.invokevirtual 222, 3) := by decide +kernel
theorem d_P_arrive_129 : decode b_P_arrive 129 = .ok (.return_, 1) := by decide +kernel
theorem d_P_onPrepare_0 : decode b_P_onPrepare 0 = .ok (.aload_n 2, 1) := by decide +kernel
theorem d_P_onPrepare_1 : decode b_P_onPrepare 1 = .ok (.getfield 225, 3) := by decide +kernel
theorem d_P_onPrepare_4 : decode b_P_onPrepare 4 = .ok (.aload_n 1, 1) := by decide +kernel
theorem d_P_onPrepare_5 : decode b_P_onPrepare 5 = .ok (.getfield 117, 3) := by decide +kernel
theorem d_P_onPrepare_8 : decode b_P_onPrepare 8 = .ok (.getfield 121, 3) := by decide +kernel
theorem d_P_onPrepare_11 : decode b_P_onPrepare 11 = .ok (.if_icmp .gt 19, 3) := by decide +kernel
theorem d_P_onPrepare_14 : decode b_P_onPrepare 14 = .ok (.aload_n 0, 1) := by decide +kernel
theorem d_P_onPrepare_15 : decode b_P_onPrepare 15 = .ok (.aload_n 1, 1) := by decide +kernel
theorem d_P_onPrepare_16 : decode b_P_onPrepare 16 = .ok (.aload_n 2, 1) := by decide +kernel
theorem d_P_onPrepare_17 : decode b_P_onPrepare 17 = .ok (.getfield 228, 3) := by decide +kernel
theorem d_P_onPrepare_20 : decode b_P_onPrepare 20 = .ok (.aload_n 2, 1) := by decide +kernel
theorem d_P_onPrepare_21 : decode b_P_onPrepare 21 = .ok (.getfield 225, 3) := by decide +kernel
theorem d_P_onPrepare_24 : decode b_P_onPrepare 24 = .ok (.invokevirtual 231, 3) := by decide +kernel
theorem d_P_onPrepare_27 : decode b_P_onPrepare 27 = .ok (.goto 44, 3) := by decide +kernel
theorem d_P_onPrepare_30 : decode b_P_onPrepare 30 = .ok (.aload_n 2, 1) := by decide +kernel
theorem d_P_onPrepare_31 : decode b_P_onPrepare 31 = .ok (.getfield 198, 3) := by decide +kernel
theorem d_P_onPrepare_34 : decode b_P_onPrepare 34 = .ok (.aload_n 1, 1) := by decide +kernel
theorem d_P_onPrepare_35 : decode b_P_onPrepare 35 = .ok (.getfield 133, 3) := by decide +kernel
theorem d_P_onPrepare_38 : decode b_P_onPrepare 38 = .ok (.if_icmp .lt 24, 3) := by decide +kernel
theorem d_P_onPrepare_41 : decode b_P_onPrepare 41 = .ok (.aload_n 1, 1) := by decide +kernel
theorem d_P_onPrepare_42 : decode b_P_onPrepare 42 = .ok (.aload_n 2, 1) := by decide +kernel
theorem d_P_onPrepare_43 : decode b_P_onPrepare 43 = .ok (.getfield 198, 3) := by decide +kernel
theorem d_P_onPrepare_46 : decode b_P_onPrepare 46 = .ok (.putfield 133, 3) := by decide +kernel
theorem d_P_onPrepare_49 : decode b_P_onPrepare 49 = .ok (.aload_n 1, 1) := by decide +kernel
theorem d_P_onPrepare_50 : decode b_P_onPrepare 50 = .ok (.invokevirtual 235, 3) := by decide +kernel
theorem d_P_onPrepare_53 : decode b_P_onPrepare 53 = .ok (.aload_n 0, 1) := by decide +kernel
theorem d_P_onPrepare_54 : decode b_P_onPrepare 54 = .ok (.aload_n 1, 1) := by decide +kernel
theorem d_P_onPrepare_55 : decode b_P_onPrepare 55 = .ok (.aload_n 2, 1) := by decide +kernel
theorem d_P_onPrepare_56 : decode b_P_onPrepare 56 = .ok (.invokevirtual 238, 3) := by decide +kernel
theorem d_P_onPrepare_59 : decode b_P_onPrepare 59 = .ok (.goto 12, 3) := by decide +kernel
theorem d_P_onPrepare_62 : decode b_P_onPrepare 62 = .ok (.aload_n 0, 1) := by decide +kernel
theorem d_P_onPrepare_63 : decode b_P_onPrepare 63 = .ok (.aload_n 1, 1) := by decide +kernel
theorem d_P_onPrepare_64 : decode b_P_onPrepare 64 = .ok (.aload_n 2, 1) := by decide +kernel
theorem d_P_onPrepare_65 : decode b_P_onPrepare 65 = .ok (.getfield 228, 3) := by decide +kernel
theorem d_P_onPrepare_68 : decode b_P_onPrepare 68 = .ok (.invokevirtual 241, 3) := by decide +kernel
theorem d_P_onPrepare_71 : decode b_P_onPrepare 71 = .ok (.return_, 1) := by decide +kernel
theorem d_P_onPromise_0 : decode b_P_onPromise 0 = .ok (.aload_n 1, 1) := by decide +kernel
theorem d_P_onPromise_1 : decode b_P_onPromise 1 = .ok (.getfield 66, 3) := by decide +kernel
theorem d_P_onPromise_4 : decode b_P_onPromise 4 = .ok (.iconst 1, 1) := by decide +kernel
theorem d_P_onPromise_5 : decode b_P_onPromise 5 = .ok (.if_icmp .ne 40, 3) := by decide +kernel
theorem d_P_onPromise_8 : decode b_P_onPromise 8 = .ok (.aload_n 1, 1) := by decide +kernel
theorem d_P_onPromise_9 : decode b_P_onPromise 9 = .ok (.getfield 244, 3) := by decide +kernel
theorem d_P_onPromise_12 : decode b_P_onPromise 12 = .ok (.aload_n 2, 1) := by decide +kernel
theorem d_P_onPromise_13 : decode b_P_onPromise 13 = .ok (.getfield 198, 3) := by decide +kernel
theorem d_P_onPromise_16 : decode b_P_onPromise 16 = .ok (.if_icmp .ne 29, 3) := by decide +kernel
theorem d_P_onPromise_19 : decode b_P_onPromise 19 = .ok (.aload_n 1, 1) := by decide +kernel
theorem d_P_onPromise_20 : decode b_P_onPromise 20 = .ok (.aload_n 2, 1) := by decide +kernel
theorem d_P_onPromise_21 : decode b_P_onPromise 21 = .ok (.getfield 225, 3) := by decide +kernel
theorem d_P_onPromise_24 : decode b_P_onPromise 24 = .ok (.invokevirtual 245, 3) := by decide +kernel
theorem d_P_onPromise_27 : decode b_P_onPromise 27 = .ok (.ifCond .eq 18, 3) := by decide +kernel
theorem d_P_onPromise_30 : decode b_P_onPromise 30 = .ok (.aload_n 1, 1) := by decide +kernel
theorem d_P_onPromise_31 : decode b_P_onPromise 31 = .ok (.aload_n 2, 1) := by decide +kernel
theorem d_P_onPromise_32 : decode b_P_onPromise 32 = .ok (.getfield 228, 3) := by decide +kernel
theorem d_P_onPromise_35 : decode b_P_onPromise 35 = .ok (.invokevirtual 248, 3) := by decide +kernel
theorem d_P_onPromise_38 : decode b_P_onPromise 38 = .ok (.ifCond .ne 7, 3) := by decide +kernel
theorem d_P_onPromise_41 : decode b_P_onPromise 41 = .ok (.iconst 1, 1) := by decide +kernel
theorem d_P_onPromise_42 : decode b_P_onPromise 42 = .ok (.goto 4, 3) := by decide +kernel
theorem d_P_onPromise_45 : decode b_P_onPromise 45 = .ok (.iconst 0, 1) := by decide +kernel
theorem d_P_onPromise_46 : decode b_P_onPromise 46 = .ok (.istore_n 3, 1) := by decide +kernel
theorem d_P_onPromise_47 : decode b_P_onPromise 47 = .ok (.iload_n 3, 1) := by decide +kernel
theorem d_P_onPromise_48 : decode b_P_onPromise 48 = .ok (.ifCond .ne 4, 3) := by decide +kernel
theorem d_P_onPromise_51 : decode b_P_onPromise 51 = .ok (.return_, 1) := by decide +kernel
theorem d_P_onPromise_52 : decode b_P_onPromise 52 = .ok (.aload_n 1, 1) := by decide +kernel
theorem d_P_onPromise_53 : decode b_P_onPromise 53 = .ok (.aload_n 2, 1) := by decide +kernel
theorem d_P_onPromise_54 : decode b_P_onPromise 54 = .ok (.getfield 228, 3) := by decide +kernel
theorem d_P_onPromise_57 : decode b_P_onPromise 57 = .ok (.invokevirtual 251, 3) := by decide +kernel
theorem d_P_onPromise_60 : decode b_P_onPromise 60 = .ok (.aload_n 1, 1) := by decide +kernel
theorem d_P_onPromise_61 : decode b_P_onPromise 61 = .ok (.aload_n 2, 1) := by decide +kernel
theorem d_P_onPromise_62 : decode b_P_onPromise 62 = .ok (.getfield 254, 3) := by decide +kernel
theorem d_P_onPromise_65 : decode b_P_onPromise 65 = .ok (.aload_n 2, 1) := by decide +kernel
theorem d_P_onPromise_66 : decode b_P_onPromise 66 = .ok (.getfield 257, 3) := by decide +kernel
theorem d_P_onPromise_69 : decode b_P_onPromise 69 = .ok (.invokevirtual 260, 3) := by decide +kernel
theorem d_P_onPromise_72 : decode b_P_onPromise 72 = .ok (.aload_n 0, 1) := by decide +kernel
theorem d_P_onPromise_73 : decode b_P_onPromise 73 = .ok (.aload_n 1, 1) := by decide +kernel
theorem d_P_onPromise_74 : decode b_P_onPromise 74 = .ok (.getfield 263, 3) := by decide +kernel
theorem d_P_onPromise_77 : decode b_P_onPromise 77 = .ok (.invokevirtual 266, 3) := by decide +kernel
theorem d_P_onPromise_80 : decode b_P_onPromise 80 = .ok (.ifCond .eq 31, 3) := by decide +kernel
theorem d_P_onPromise_83 : decode b_P_onPromise 83 = .ok (.aload_n 1, 1) := by decide +kernel
theorem d_P_onPromise_84 : decode b_P_onPromise 84 = .ok (.invokevirtual 269, 3) := by decide +kernel
theorem d_P_onPromise_87 : decode b_P_onPromise 87 = .ok (.aload_n 1, 1) := by decide +kernel
theorem d_P_onPromise_88 : decode b_P_onPromise 88 = .ok (.getfield 272, 3) := by decide +kernel
theorem d_P_onPromise_91 : decode b_P_onPromise 91 = .ok (.ifCond .eq 15, 3) := by decide +kernel
theorem d_P_onPromise_94 : decode b_P_onPromise 94 = .ok (.aload_n 0, 1) := by decide +kernel
theorem d_P_onPromise_95 : decode b_P_onPromise 95 = .ok (.aload_n 1, 1) := by decide +kernel
theorem d_P_onPromise_96 : decode b_P_onPromise 96 = .ok (.aload_n 1, 1) := by decide +kernel
theorem d_P_onPromise_97 : decode b_P_onPromise 97 = .ok (.getfield 275, 3) := by decide +kernel
theorem d_P_onPromise_100 : decode b_P_onPromise 100 = .ok (.invokevirtual 192, 3) := by decide +kernel
theorem d_P_onPromise_103 : decode b_P_onPromise 103 = .ok (.goto 8, 3) := by decide +kernel
theorem d_P_onPromise_106 : decode b_P_onPromise 106 = .ok (.aload_n 0, 1) := by decide +kernel
theorem d_P_onPromise_107 : decode b_P_onPromise 107 = .ok (.aload_n 1, 1) := by decide +kernel
theorem d_P_onPromise_108 : decode b_P_onPromise 108 = .ok (.invokevirtual 179, 3) := by decide +kernel
theorem d_P_onPromise_111 : decode b_P_onPromise 111 = .ok (.return_, 1) := by decide +kernel
theorem d_P_onAccept_0 : decode b_P_onAccept 0 = .ok (.aload_n 2, 1) := by decide +kernel
theorem d_P_onAccept_1 : decode b_P_onAccept 1 = .ok (.getfield 225, 3) := by decide +kernel
theorem d_P_onAccept_4 : decode b_P_onAccept 4 = .ok (.aload_n 1, 1) := by decide +kernel
theorem d_P_onAccept_5 : decode b_P_onAccept 5 = .ok (.getfield 117, 3) := by decide +kernel
theorem d_P_onAccept_8 : decode b_P_onAccept 8 = .ok (.getfield 121, 3) := by decide +kernel
theorem d_P_onAccept_11 : decode b_P_onAccept 11 = .ok (.if_icmp .gt 19, 3) := by decide +kernel
theorem d_P_onAccept_14 : decode b_P_onAccept 14 = .ok (.aload_n 0, 1) := by decide +kernel
theorem d_P_onAccept_15 : decode b_P_onAccept 15 = .ok (.aload_n 1, 1) := by decide +kernel
theorem d_P_onAccept_16 : decode b_P_onAccept 16 = .ok (.aload_n 2, 1) := by decide +kernel
theorem d_P_onAccept_17 : decode b_P_onAccept 17 = .ok (.getfield 228, 3) := by decide +kernel
theorem d_P_onAccept_20 : decode b_P_onAccept 20 = .ok (.aload_n 2, 1) := by decide +kernel
theorem d_P_onAccept_21 : decode b_P_onAccept 21 = .ok (.getfield 225, 3) := by decide +kernel
theorem d_P_onAccept_24 : decode b_P_onAccept 24 = .ok (.invokevirtual 231, 3) := by decide +kernel
theorem d_P_onAccept_27 : decode b_P_onAccept 27 = .ok (.goto 118, 3) := by decide +kernel
theorem d_P_onAccept_30 : decode b_P_onAccept 30 = .ok (.aload_n 1, 1) := by decide +kernel
theorem d_P_onAccept_31 : decode b_P_onAccept 31 = .ok (.aload_n 2, 1) := by decide +kernel
theorem d_P_onAccept_32 : decode b_P_onAccept 32 = .ok (.getfield 225, 3) := by decide +kernel
theorem d_P_onAccept_35 : decode b_P_onAccept 35 = .ok (.invokevirtual 245, 3) := by decide +kernel
theorem d_P_onAccept_38 : decode b_P_onAccept 38 = .ok (.ifCond .ne 15, 3) := by decide +kernel
theorem d_P_onAccept_41 : decode b_P_onAccept 41 = .ok (.aload_n 0, 1) := by decide +kernel
theorem d_P_onAccept_42 : decode b_P_onAccept 42 = .ok (.aload_n 1, 1) := by decide +kernel
theorem d_P_onAccept_43 : decode b_P_onAccept 43 = .ok (.aload_n 2, 1) := by decide +kernel
theorem d_P_onAccept_44 : decode b_P_onAccept 44 = .ok (.getfield 228, 3) := by decide +kernel
theorem d_P_onAccept_47 : decode b_P_onAccept 47 = .ok (.invokevirtual 85, 3) := by decide +kernel
theorem d_P_onAccept_50 : decode b_P_onAccept 50 = .ok (.goto 95, 3) := by decide +kernel
theorem d_P_onAccept_53 : decode b_P_onAccept 53 = .ok (.aload_n 2, 1) := by decide +kernel
theorem d_P_onAccept_54 : decode b_P_onAccept 54 = .ok (.getfield 198, 3) := by decide +kernel
theorem d_P_onAccept_57 : decode b_P_onAccept 57 = .ok (.aload_n 1, 1) := by decide +kernel
theorem d_P_onAccept_58 : decode b_P_onAccept 58 = .ok (.getfield 133, 3) := by decide +kernel
theorem d_P_onAccept_61 : decode b_P_onAccept 61 = .ok (.if_icmp .lt 75, 3) := by decide +kernel
theorem d_P_onAccept_64 : decode b_P_onAccept 64 = .ok (.aload_n 1, 1) := by decide +kernel
theorem d_P_onAccept_65 : decode b_P_onAccept 65 = .ok (.aload_n 2, 1) := by decide +kernel
theorem d_P_onAccept_66 : decode b_P_onAccept 66 = .ok (.getfield 198, 3) := by decide +kernel
theorem d_P_onAccept_69 : decode b_P_onAccept 69 = .ok (.putfield 133, 3) := by decide +kernel
theorem d_P_onAccept_72 : decode b_P_onAccept 72 = .ok (.aload_n 1, 1) := by decide +kernel
theorem d_P_onAccept_73 : decode b_P_onAccept 73 = .ok (.getfield 66, 3) := by decide +kernel
theorem d_P_onAccept_76 : decode b_P_onAccept 76 = .ok (.iconst 1, 1) := by decide +kernel
theorem d_P_onAccept_77 : decode b_P_onAccept 77 = .ok (.if_icmp .eq 14, 3) := by decide +kernel
theorem d_P_onAccept_80 : decode b_P_onAccept 80 = .ok (.aload_n 1, 1) := by decide +kernel
theorem d_P_onAccept_81 : decode b_P_onAccept 81 = .ok (.getfield 244, 3) := by decide +kernel
theorem d_P_onAccept_84 : decode b_P_onAccept 84 = .ok (.aload_n 2, 1) := by decide +kernel
theorem d_P_onAccept_85 : decode b_P_onAccept 85 = .ok (.getfield 198, 3) := by decide +kernel
theorem d_P_onAccept_88 : decode b_P_onAccept 88 = .ok (.if_icmp .eq 7, 3) := by decide +kernel
theorem d_P_onAccept_91 : decode b_P_onAccept 91 = .ok (.aload_n 1, 1) := by decide +kernel
theorem d_P_onAccept_92 : decode b_P_onAccept 92 = .ok (.invokevirtual 235, 3) := by decide +kernel
theorem d_P_onAccept_95 : decode b_P_onAccept 95 = .ok (.aload_n 1, 1) := by decide +kernel
theorem d_P_onAccept_96 : decode b_P_onAccept 96 = .ok (.aload_n 2, 1) := by decide +kernel
theorem d_P_onAccept_97 : decode b_P_onAccept 97 = .ok (.getfield 198, 3) := by decide +kernel
theorem d_P_onAccept_100 : decode b_P_onAccept 100 = .ok (.aload_n 2, 1) := by decide +kernel
theorem d_P_onAccept_101 : decode b_P_onAccept 101 = .ok (.getfield 257, 3) := by decide +kernel
theorem d_P_onAccept_104 : decode b_P_onAccept 104 = .ok (.invokevirtual 278, 3) := by decide +kernel
theorem d_P_onAccept_107 : decode b_P_onAccept 107 = .ok (.aload_n 0, 1) := by decide +kernel
theorem d_P_onAccept_108 : decode b_P_onAccept 108 = .ok (.getfield 37, 3) := by decide +kernel
theorem d_P_onAccept_111 : decode b_P_onAccept 111 = .ok (.iconst 4, 1) := by decide +kernel
theorem d_P_onAccept_112 : decode b_P_onAccept 112 = .ok (.aload_n 1, 1) := by decide +kernel
theorem d_P_onAccept_113 : decode b_P_onAccept 113 = .ok (.getfield 82, 3) := by decide +kernel
theorem d_P_onAccept_116 : decode b_P_onAccept 116 = .ok (.aload_n 2, 1) := by decide +kernel
theorem d_P_onAccept_117 : decode b_P_onAccept 117 = .ok (.getfield 228, 3) := by decide +kernel
theorem d_P_onAccept_120 : decode b_P_onAccept 120 = .ok (.aload_n 2, 1) := by decide +kernel
theorem d_P_onAccept_121 : decode b_P_onAccept 121 = .ok (.getfield 198, 3) := by decide +kernel
theorem d_P_onAccept_124 : decode b_P_onAccept 124 = .ok (.aload_n 2, 1) := by decide +kernel
theorem d_P_onAccept_125 : decode b_P_onAccept 125 = .ok (.getfield 225, 3) := by decide +kernel
theorem d_P_onAccept_128 : decode b_P_onAccept 128 = .ok (.iconst 0, 1) := by decide +kernel
theorem d_P_onAccept_129 : decode b_P_onAccept 129 = .ok (.iconst 0, 1) := by decide +kernel
theorem d_P_onAccept_130 : decode b_P_onAccept 130 = .ok (.invokevirtual 281, 3) := by decide +kernel
theorem d_P_onAccept_133 : decode b_P_onAccept 133 = .ok (.goto 12, 3) := by decide +kernel
theorem d_P_onAccept_136 : decode b_P_onAccept 136 = .ok (.aload_n 0, 1) := by decide +kernel
theorem d_P_onAccept_137 : decode b_P_onAccept 137 = .ok (.aload_n 1, 1) := by decide +kernel
theorem d_P_onAccept_138 : decode b_P_onAccept 138 = .ok (.aload_n 2, 1) := by decide +kernel
theorem d_P_onAccept_139 : decode b_P_onAccept 139 = .ok (.getfield 228, 3) := by decide +kernel
theorem d_P_onAccept_142 : decode b_P_onAccept 142 = .ok (.invokevirtual 241, 3) := by decide +kernel
theorem d_P_onAccept_145 : decode b_P_onAccept 145 = .ok (.return_, 1) := by decide +kernel
theorem d_P_onAccepted_0 : decode b_P_onAccepted 0 = .ok (.aload_n 1, 1) := by decide +kernel
theorem d_P_onAccepted_1 : decode b_P_onAccepted 1 = .ok (.getfield 66, 3) := by decide +kernel
theorem d_P_onAccepted_4 : decode b_P_onAccepted 4 = .ok (.iconst 2, 1) := by decide +kernel
theorem d_P_onAccepted_5 : decode b_P_onAccepted 5 = .ok (.if_icmp .ne 47, 3) := by decide +kernel
theorem d_P_onAccepted_8 : decode b_P_onAccepted 8 = .ok (.aload_n 1, 1) := by decide +kernel
theorem d_P_onAccepted_9 : decode b_P_onAccepted 9 = .ok (.getfield 244, 3) := by decide +kernel
theorem d_P_onAccepted_12 : decode b_P_onAccepted 12 = .ok (.aload_n 2, 1) := by decide +kernel
theorem d_P_onAccepted_13 : decode b_P_onAccepted 13 = .ok (.getfield 198, 3) := by decide +kernel
theorem d_P_onAccepted_16 : decode b_P_onAccepted 16 = .ok (.if_icmp .ne 36, 3) := by decide +kernel
theorem d_P_onAccepted_19 : decode b_P_onAccepted 19 = .ok (.aload_n 1, 1) := by decide +kernel
theorem d_P_onAccepted_20 : decode b_P_onAccepted 20 = .ok (.getfield 173, 3) := by decide +kernel
theorem d_P_onAccepted_23 : decode b_P_onAccepted 23 = .ok (.ifCond .eq 29, 3) := by decide +kernel
theorem d_P_onAccepted_26 : decode b_P_onAccepted 26 = .ok (.aload_n 1, 1) := by decide +kernel
theorem d_P_onAccepted_27 : decode b_P_onAccepted 27 = .ok (.aload_n 2, 1) := by decide +kernel
theorem d_P_onAccepted_28 : decode b_P_onAccepted 28 = .ok (.getfield 225, 3) := by decide +kernel
theorem d_P_onAccepted_31 : decode b_P_onAccepted 31 = .ok (.invokevirtual 245, 3) := by decide +kernel
theorem d_P_onAccepted_34 : decode b_P_onAccepted 34 = .ok (.ifCond .eq 18, 3) := by decide +kernel
theorem d_P_onAccepted_37 : decode b_P_onAccepted 37 = .ok (.aload_n 1, 1) := by decide +kernel
theorem d_P_onAccepted_38 : decode b_P_onAccepted 38 = .ok (.aload_n 2, 1) := by decide +kernel
theorem d_P_onAccepted_39 : decode b_P_onAccepted 39 = .ok (.getfield 228, 3) := by decide +kernel
theorem d_P_onAccepted_42 : decode b_P_onAccepted 42 = .ok (.invokevirtual 248, 3) := by decide +kernel
theorem d_P_onAccepted_45 : decode b_P_onAccepted 45 = .ok (.ifCond .ne 7, 3) := by decide +kernel
theorem d_P_onAccepted_48 : decode b_P_onAccepted 48 = .ok (.iconst 1, 1) := by decide +kernel
theorem d_P_onAccepted_49 : decode b_P_onAccepted 49 = .ok (.goto 4, 3) := by decide +kernel
theorem d_P_onAccepted_52 : decode b_P_onAccepted 52 = .ok (.iconst 0, 1) := by decide +kernel
theorem d_P_onAccepted_53 : decode b_P_onAccepted 53 = .ok (.istore_n 3, 1) := by decide +kernel
theorem d_P_onAccepted_54 : decode b_P_onAccepted 54 = .ok (.iload_n 3, 1) := by decide +kernel
theorem d_P_onAccepted_55 : decode b_P_onAccepted 55 = .ok (.ifCond .ne 4, 3) := by decide +kernel
theorem d_P_onAccepted_58 : decode b_P_onAccepted 58 = .ok (.return_, 1) := by decide +kernel
theorem d_P_onAccepted_59 : decode b_P_onAccepted 59 = .ok (.aload_n 1, 1) := by decide +kernel
theorem d_P_onAccepted_60 : decode b_P_onAccepted 60 = .ok (.aload_n 2, 1) := by decide +kernel
theorem d_P_onAccepted_61 : decode b_P_onAccepted 61 = .ok (.getfield 228, 3) := by decide +kernel
theorem d_P_onAccepted_64 : decode b_P_onAccepted 64 = .ok (.invokevirtual 251, 3) := by decide +kernel
theorem d_P_onAccepted_67 : decode b_P_onAccepted 67 = .ok (.aload_n 0, 1) := by decide +kernel
theorem d_P_onAccepted_68 : decode b_P_onAccepted 68 = .ok (.aload_n 1, 1) := by decide +kernel
theorem d_P_onAccepted_69 : decode b_P_onAccepted 69 = .ok (.getfield 263, 3) := by decide +kernel
theorem d_P_onAccepted_72 : decode b_P_onAccepted 72 = .ok (.invokevirtual 266, 3) := by decide +kernel
theorem d_P_onAccepted_75 : decode b_P_onAccepted 75 = .ok (.ifCond .eq 36, 3) := by decide +kernel
theorem d_P_onAccepted_78 : decode b_P_onAccepted 78 = .ok (.aload_n 1, 1) := by decide +kernel
theorem d_P_onAccepted_79 : decode b_P_onAccepted 79 = .ok (.getfield 173, 3) := by decide +kernel
theorem d_P_onAccepted_82 : decode b_P_onAccepted 82 = .ok (.istore 4, 2) := by decide +kernel
theorem d_P_onAccepted_84 : decode b_P_onAccepted 84 = .ok (.aload_n 0, 1) := by decide +kernel
theorem d_P_onAccepted_85 : decode b_P_onAccepted 85 = .ok (.iconst 5, 1) := by decide +kernel
theorem d_P_onAccepted_86 : decode b_P_onAccepted 86 = .ok (.aload_n 1, 1) := by decide +kernel
theorem d_P_onAccepted_87 : decode b_P_onAccepted 87 = .ok (.getfield 82, 3) := by decide +kernel
theorem d_P_onAccepted_90 : decode b_P_onAccepted 90 = .ok (.iconst 0, 1) := by decide +kernel
theorem d_P_onAccepted_91 : decode b_P_onAccepted 91 = .ok (.aload_n 2, 1) := by decide +kernel
theorem d_P_onAccepted_92 : decode b_P_onAccepted 92 = .ok (.getfield 225, 3) := by decide +kernel
theorem d_P_onAccepted_95 : decode b_P_onAccepted 95 = .ok (.iload 4, 2) := by decide +kernel
theorem d_P_onAccepted_97 : decode b_P_onAccepted 97 = .ok (.invokevirtual 285, 3) := by decide +kernel
theorem d_P_onAccepted_100 : decode b_P_onAccepted 100 = .ok (.aload_n 1, 1) := by decide +kernel
theorem d_P_onAccepted_101 : decode b_P_onAccepted 101 = .ok (.iload 4, 2) := by decide +kernel
theorem d_P_onAccepted_103 : decode b_P_onAccepted 103 = .ok (.invokevirtual 289, 3) := by decide +kernel
theorem d_P_onAccepted_106 : decode b_P_onAccepted 106 = .ok (.aload_n 0, 1) := by decide +kernel
theorem d_P_onAccepted_107 : decode b_P_onAccepted 107 = .ok (.aload_n 1, 1) := by decide +kernel
theorem d_P_onAccepted_108 : decode b_P_onAccepted 108 = .ok (.invokevirtual 179, 3) := by decide +kernel
theorem d_P_onAccepted_111 : decode b_P_onAccepted 111 = .ok (.return_, 1) := by decide +kernel
theorem d_P_onChosen_0 : decode b_P_onChosen 0 = .ok (.aload_n 1, 1) := by decide +kernel
theorem d_P_onChosen_1 : decode b_P_onChosen 1 = .ok (.aload_n 2, 1) := by decide +kernel
theorem d_P_onChosen_2 : decode b_P_onChosen 2 = .ok (.getfield 225, 3) := by decide +kernel
theorem d_P_onChosen_5 : decode b_P_onChosen 5 = .ok (.invokevirtual 245, 3) := by decide +kernel
theorem d_P_onChosen_8 : decode b_P_onChosen 8 = .ok (.ifCond .eq 14, 3) := by decide +kernel
theorem d_P_onChosen_11 : decode b_P_onChosen 11 = .ok (.aload_n 1, 1) := by decide +kernel
theorem d_P_onChosen_12 : decode b_P_onChosen 12 = .ok (.aload_n 2, 1) := by decide +kernel
theorem d_P_onChosen_13 : decode b_P_onChosen 13 = .ok (.getfield 257, 3) := by decide +kernel
theorem d_P_onChosen_16 : decode b_P_onChosen 16 = .ok (.invokevirtual 289, 3) := by decide +kernel
theorem d_P_onChosen_19 : decode b_P_onChosen 19 = .ok (.goto 26, 3) := by decide +kernel
theorem d_P_onChosen_22 : decode b_P_onChosen 22 = .ok (.aload_n 2, 1) := by decide +kernel
theorem d_P_onChosen_23 : decode b_P_onChosen 23 = .ok (.getfield 225, 3) := by decide +kernel
theorem d_P_onChosen_26 : decode b_P_onChosen 26 = .ok (.aload_n 1, 1) := by decide +kernel
theorem d_P_onChosen_27 : decode b_P_onChosen 27 = .ok (.getfield 117, 3) := by decide +kernel
theorem d_P_onChosen_30 : decode b_P_onChosen 30 = .ok (.getfield 121, 3) := by decide +kernel
theorem d_P_onChosen_33 : decode b_P_onChosen 33 = .ok (.if_icmp .le 12, 3) := by decide +kernel
theorem d_P_onChosen_36 : decode b_P_onChosen 36 = .ok (.aload_n 0, 1) := by decide +kernel
theorem d_P_onChosen_37 : decode b_P_onChosen 37 = .ok (.aload_n 1, 1) := by decide +kernel
theorem d_P_onChosen_38 : decode b_P_onChosen 38 = .ok (.aload_n 2, 1) := by decide +kernel
theorem d_P_onChosen_39 : decode b_P_onChosen 39 = .ok (.getfield 228, 3) := by decide +kernel
theorem d_P_onChosen_42 : decode b_P_onChosen 42 = .ok (.invokevirtual 85, 3) := by decide +kernel
theorem d_P_onChosen_45 : decode b_P_onChosen 45 = .ok (.return_, 1) := by decide +kernel
theorem d_P_onAsk_0 : decode b_P_onAsk 0 = .ok (.aload_n 2, 1) := by decide +kernel
theorem d_P_onAsk_1 : decode b_P_onAsk 1 = .ok (.getfield 225, 3) := by decide +kernel
theorem d_P_onAsk_4 : decode b_P_onAsk 4 = .ok (.aload_n 1, 1) := by decide +kernel
theorem d_P_onAsk_5 : decode b_P_onAsk 5 = .ok (.getfield 117, 3) := by decide +kernel
theorem d_P_onAsk_8 : decode b_P_onAsk 8 = .ok (.getfield 121, 3) := by decide +kernel
theorem d_P_onAsk_11 : decode b_P_onAsk 11 = .ok (.if_icmp .gt 16, 3) := by decide +kernel
theorem d_P_onAsk_14 : decode b_P_onAsk 14 = .ok (.aload_n 0, 1) := by decide +kernel
theorem d_P_onAsk_15 : decode b_P_onAsk 15 = .ok (.aload_n 1, 1) := by decide +kernel
theorem d_P_onAsk_16 : decode b_P_onAsk 16 = .ok (.aload_n 2, 1) := by decide +kernel
theorem d_P_onAsk_17 : decode b_P_onAsk 17 = .ok (.getfield 228, 3) := by decide +kernel
theorem d_P_onAsk_20 : decode b_P_onAsk 20 = .ok (.aload_n 2, 1) := by decide +kernel
theorem d_P_onAsk_21 : decode b_P_onAsk 21 = .ok (.getfield 225, 3) := by decide +kernel
theorem d_P_onAsk_24 : decode b_P_onAsk 24 = .ok (.invokevirtual 231, 3) := by decide +kernel
theorem d_P_onAsk_27 : decode b_P_onAsk 27 = .ok (.return_, 1) := by decide +kernel
theorem d_P_onDeny_0 : decode b_P_onDeny 0 = .ok (.aload_n 1, 1) := by decide +kernel
theorem d_P_onDeny_1 : decode b_P_onDeny 1 = .ok (.getfield 66, 3) := by decide +kernel
theorem d_P_onDeny_4 : decode b_P_onDeny 4 = .ok (.ifCond .eq 18, 3) := by decide +kernel
theorem d_P_onDeny_7 : decode b_P_onDeny 7 = .ok (.aload_n 1, 1) := by decide +kernel
theorem d_P_onDeny_8 : decode b_P_onDeny 8 = .ok (.getfield 244, 3) := by decide +kernel
theorem d_P_onDeny_11 : decode b_P_onDeny 11 = .ok (.aload_n 2, 1) := by decide +kernel
theorem d_P_onDeny_12 : decode b_P_onDeny 12 = .ok (.getfield 198, 3) := by decide +kernel
theorem d_P_onDeny_15 : decode b_P_onDeny 15 = .ok (.if_icmp .ge 7, 3) := by decide +kernel
theorem d_P_onDeny_18 : decode b_P_onDeny 18 = .ok (.aload_n 1, 1) := by decide +kernel
theorem d_P_onDeny_19 : decode b_P_onDeny 19 = .ok (.invokevirtual 235, 3) := by decide +kernel
theorem d_P_onDeny_22 : decode b_P_onDeny 22 = .ok (.return_, 1) := by decide +kernel
theorem d_P_onState_0 : decode b_P_onState 0 = .ok (.aload_n 2, 1) := by decide +kernel
theorem d_P_onState_1 : decode b_P_onState 1 = .ok (.getfield 225, 3) := by decide +kernel
theorem d_P_onState_4 : decode b_P_onState 4 = .ok (.aload_n 1, 1) := by decide +kernel
theorem d_P_onState_5 : decode b_P_onState 5 = .ok (.getfield 117, 3) := by decide +kernel
theorem d_P_onState_8 : decode b_P_onState 8 = .ok (.getfield 121, 3) := by decide +kernel
theorem d_P_onState_11 : decode b_P_onState 11 = .ok (.if_icmp .le 26, 3) := by decide +kernel
theorem d_P_onState_14 : decode b_P_onState 14 = .ok (.aload_n 1, 1) := by decide +kernel
theorem d_P_onState_15 : decode b_P_onState 15 = .ok (.getfield 117, 3) := by decide +kernel
theorem d_P_onState_18 : decode b_P_onState 18 = .ok (.aload_n 2, 1) := by decide +kernel
theorem d_P_onState_19 : decode b_P_onState 19 = .ok (.getfield 225, 3) := by decide +kernel
theorem d_P_onState_22 : decode b_P_onState 22 = .ok (.aload_n 2, 1) := by decide +kernel
theorem d_P_onState_23 : decode b_P_onState 23 = .ok (.getfield 257, 3) := by decide +kernel
theorem d_P_onState_26 : decode b_P_onState 26 = .ok (.invokevirtual 292, 3) := by decide +kernel
theorem d_P_onState_29 : decode b_P_onState 29 = .ok (.aload_n 1, 1) := by decide +kernel
theorem d_P_onState_30 : decode b_P_onState 30 = .ok (.invokevirtual 295, 3) := by decide +kernel
theorem d_P_onState_33 : decode b_P_onState 33 = .ok (.aload_n 1, 1) := by decide +kernel
theorem d_P_onState_34 : decode b_P_onState 34 = .ok (.invokevirtual 235, 3) := by decide +kernel
theorem d_P_onState_37 : decode b_P_onState 37 = .ok (.return_, 1) := by decide +kernel
theorem d_P_sendPrepare_0 : decode b_P_sendPrepare 0 = .ok (.aload_n 0, 1) := by decide +kernel
theorem d_P_sendPrepare_1 : decode b_P_sendPrepare 1 = .ok (.iconst 1, 1) := by decide +kernel
theorem d_P_sendPrepare_2 : decode b_P_sendPrepare 2 = .ok (.aload_n 1, 1) := by decide +kernel
theorem d_P_sendPrepare_3 : decode b_P_sendPrepare 3 = .ok (.getfield 82, 3) := by decide +kernel
theorem d_P_sendPrepare_6 : decode b_P_sendPrepare 6 = .ok (.aload_n 1, 1) := by decide +kernel
theorem d_P_sendPrepare_7 : decode b_P_sendPrepare 7 = .ok (.getfield 244, 3) := by decide +kernel
theorem d_P_sendPrepare_10 : decode b_P_sendPrepare 10 = .ok (.aload_n 1, 1) := by decide +kernel
theorem d_P_sendPrepare_11 : decode b_P_sendPrepare 11 = .ok (.getfield 117, 3) := by decide +kernel
theorem d_P_sendPrepare_14 : decode b_P_sendPrepare 14 = .ok (.getfield 121, 3) := by decide +kernel
theorem d_P_sendPrepare_17 : decode b_P_sendPrepare 17 = .ok (.iconst 1, 1) := by decide +kernel
theorem d_P_sendPrepare_18 : decode b_P_sendPrepare 18 = .ok (.iadd, 1) := by decide +kernel
theorem d_P_sendPrepare_19 : decode b_P_sendPrepare 19 = .ok (.iconst 0, 1) := by decide +kernel
theorem d_P_sendPrepare_20 : decode b_P_sendPrepare 20 = .ok (.invokevirtual 285, 3) := by decide +kernel
theorem d_P_sendPrepare_23 : decode b_P_sendPrepare 23 = .ok (.return_, 1) := by decide +kernel
theorem d_P_sendAccept_0 : decode b_P_sendAccept 0 = .ok (.aload_n 0, 1) := by decide +kernel
theorem d_P_sendAccept_1 : decode b_P_sendAccept 1 = .ok (.iconst 3, 1) := by decide +kernel
theorem d_P_sendAccept_2 : decode b_P_sendAccept 2 = .ok (.aload_n 1, 1) := by decide +kernel
theorem d_P_sendAccept_3 : decode b_P_sendAccept 3 = .ok (.getfield 82, 3) := by decide +kernel
theorem d_P_sendAccept_6 : decode b_P_sendAccept 6 = .ok (.aload_n 1, 1) := by decide +kernel
theorem d_P_sendAccept_7 : decode b_P_sendAccept 7 = .ok (.getfield 244, 3) := by decide +kernel
theorem d_P_sendAccept_10 : decode b_P_sendAccept 10 = .ok (.aload_n 1, 1) := by decide +kernel
theorem d_P_sendAccept_11 : decode b_P_sendAccept 11 = .ok (.getfield 117, 3) := by decide +kernel
theorem d_P_sendAccept_14 : decode b_P_sendAccept 14 = .ok (.getfield 121, 3) := by decide +kernel
theorem d_P_sendAccept_17 : decode b_P_sendAccept 17 = .ok (.iconst 1, 1) := by decide +kernel
theorem d_P_sendAccept_18 : decode b_P_sendAccept 18 = .ok (.iadd, 1) := by decide +kernel
theorem d_P_sendAccept_19 : decode b_P_sendAccept 19 = .ok (.aload_n 1, 1) := by decide +kernel
theorem d_P_sendAccept_20 : decode b_P_sendAccept 20 = .ok (.getfield 173, 3) := by decide +kernel
theorem d_P_sendAccept_23 : decode b_P_sendAccept 23 = .ok (.invokevirtual 285, 3) := by decide +kernel
theorem d_P_sendAccept_26 : decode b_P_sendAccept 26 = .ok (.return_, 1) := by decide +kernel
theorem d_P_sendPromise_0 : decode b_P_sendPromise 0 = .ok (.aload_n 1, 1) := by decide +kernel
theorem d_P_sendPromise_1 : decode b_P_sendPromise 1 = .ok (.aload_n 2, 1) := by decide +kernel
theorem d_P_sendPromise_2 : decode b_P_sendPromise 2 = .ok (.getfield 225, 3) := by decide +kernel
theorem d_P_sendPromise_5 : decode b_P_sendPromise 5 = .ok (.invokevirtual 245, 3) := by decide +kernel
theorem d_P_sendPromise_8 : decode b_P_sendPromise 8 = .ok (.ifCond .eq 14, 3) := by decide +kernel
theorem d_P_sendPromise_11 : decode b_P_sendPromise 11 = .ok (.aload_n 1, 1) := by decide +kernel
theorem d_P_sendPromise_12 : decode b_P_sendPromise 12 = .ok (.invokevirtual 136, 3) := by decide +kernel
theorem d_P_sendPromise_15 : decode b_P_sendPromise 15 = .ok (.ifCond .eq 7, 3) := by decide +kernel
theorem d_P_sendPromise_18 : decode b_P_sendPromise 18 = .ok (.iconst 1, 1) := by decide +kernel
theorem d_P_sendPromise_19 : decode b_P_sendPromise 19 = .ok (.goto 4, 3) := by decide +kernel
theorem d_P_sendPromise_22 : decode b_P_sendPromise 22 = .ok (.iconst 0, 1) := by decide +kernel
theorem d_P_sendPromise_23 : decode b_P_sendPromise 23 = .ok (.istore_n 3, 1) := by decide +kernel
theorem d_P_sendPromise_24 : decode b_P_sendPromise 24 = .ok (.iload_n 3, 1) := by decide +kernel
theorem d_P_sendPromise_25 : decode b_P_sendPromise 25 = .ok (.ifCond .eq 10, 3) := by decide +kernel
theorem d_P_sendPromise_28 : decode b_P_sendPromise 28 = .ok (.aload_n 1, 1) := by decide +kernel
theorem d_P_sendPromise_29 : decode b_P_sendPromise 29 = .ok (.getfield 143, 3) := by decide +kernel
theorem d_P_sendPromise_32 : decode b_P_sendPromise 32 = .ok (.goto 4, 3) := by decide +kernel
theorem d_P_sendPromise_35 : decode b_P_sendPromise 35 = .ok (.iconst 0, 1) := by decide +kernel
theorem d_P_sendPromise_36 : decode b_P_sendPromise 36 = .ok (.istore 4, 2) := by decide +kernel
theorem d_P_sendPromise_38 : decode b_P_sendPromise 38 = .ok (.iload_n 3, 1) := by decide +kernel
theorem d_P_sendPromise_39 : decode b_P_sendPromise 39 = .ok (.ifCond .eq 10, 3) := by decide +kernel
theorem d_P_sendPromise_42 : decode b_P_sendPromise 42 = .ok (.aload_n 1, 1) := by decide +kernel
theorem d_P_sendPromise_43 : decode b_P_sendPromise 43 = .ok (.getfield 140, 3) := by decide +kernel
theorem d_P_sendPromise_46 : decode b_P_sendPromise 46 = .ok (.goto 4, 3) := by decide +kernel
theorem d_P_sendPromise_49 : decode b_P_sendPromise 49 = .ok (.iconst 0, 1) := by decide +kernel
theorem d_P_sendPromise_50 : decode b_P_sendPromise 50 = .ok (.istore 5, 2) := by decide +kernel
theorem d_P_sendPromise_52 : decode b_P_sendPromise 52 = .ok (.aload_n 0, 1) := by decide +kernel
theorem d_P_sendPromise_53 : decode b_P_sendPromise 53 = .ok (.getfield 37, 3) := by decide +kernel
theorem d_P_sendPromise_56 : decode b_P_sendPromise 56 = .ok (.iconst 2, 1) := by decide +kernel
theorem d_P_sendPromise_57 : decode b_P_sendPromise 57 = .ok (.aload_n 1, 1) := by decide +kernel
theorem d_P_sendPromise_58 : decode b_P_sendPromise 58 = .ok (.getfield 82, 3) := by decide +kernel
theorem d_P_sendPromise_61 : decode b_P_sendPromise 61 = .ok (.aload_n 2, 1) := by decide +kernel
theorem d_P_sendPromise_62 : decode b_P_sendPromise 62 = .ok (.getfield 228, 3) := by decide +kernel
theorem d_P_sendPromise_65 : decode b_P_sendPromise 65 = .ok (.aload_n 2, 1) := by decide +kernel
theorem d_P_sendPromise_66 : decode b_P_sendPromise 66 = .ok (.getfield 198, 3) := by decide +kernel
theorem d_P_sendPromise_69 : decode b_P_sendPromise 69 = .ok (.aload_n 2, 1) := by decide +kernel
theorem d_P_sendPromise_70 : decode b_P_sendPromise 70 = .ok (.getfield 225, 3) := by decide +kernel
theorem d_P_sendPromise_73 : decode b_P_sendPromise 73 = .ok (.iload 4, 2) := by decide +kernel
theorem d_P_sendPromise_75 : decode b_P_sendPromise 75 = .ok (.iload 5, 2) := by decide +kernel
theorem d_P_sendPromise_77 : decode b_P_sendPromise 77 = .ok (.invokevirtual 281, 3) := by decide +kernel
theorem d_P_sendPromise_80 : decode b_P_sendPromise 80 = .ok (.return_, 1) := by decide +kernel
theorem d_P_ask_0 : decode b_P_ask 0 = .ok (.aload_n 0, 1) := by decide +kernel
theorem d_P_ask_1 : decode b_P_ask 1 = .ok (.getfield 37, 3) := by decide +kernel
theorem d_P_ask_4 : decode b_P_ask 4 = .ok (.bipush 6, 2) := by decide +kernel
theorem d_P_ask_6 : decode b_P_ask 6 = .ok (.aload_n 1, 1) := by decide +kernel
theorem d_P_ask_7 : decode b_P_ask 7 = .ok (.getfield 82, 3) := by decide +kernel
theorem d_P_ask_10 : decode b_P_ask 10 = .ok (.iload_n 2, 1) := by decide +kernel
theorem d_P_ask_11 : decode b_P_ask 11 = .ok (.iconst 0, 1) := by decide +kernel
theorem d_P_ask_12 : decode b_P_ask 12 = .ok (.aload_n 1, 1) := by decide +kernel
theorem d_P_ask_13 : decode b_P_ask 13 = .ok (.getfield 117, 3) := by decide +kernel
theorem d_P_ask_16 : decode b_P_ask 16 = .ok (.getfield 121, 3) := by decide +kernel
theorem d_P_ask_19 : decode b_P_ask 19 = .ok (.iconst 1, 1) := by decide +kernel
theorem d_P_ask_20 : decode b_P_ask 20 = .ok (.iadd, 1) := by decide +kernel
theorem d_P_ask_21 : decode b_P_ask 21 = .ok (.iconst 0, 1) := by decide +kernel
theorem d_P_ask_22 : decode b_P_ask 22 = .ok (.iconst 0, 1) := by decide +kernel
theorem d_P_ask_23 : decode b_P_ask 23 = .ok (.invokevirtual 281, 3) := by decide +kernel
theorem d_P_ask_26 : decode b_P_ask 26 = .ok (.return_, 1) := by decide +kernel
theorem d_P_deny_0 : decode b_P_deny 0 = .ok (.aload_n 0, 1) := by decide +kernel
theorem d_P_deny_1 : decode b_P_deny 1 = .ok (.getfield 37, 3) := by decide +kernel
theorem d_P_deny_4 : decode b_P_deny 4 = .ok (.bipush 7, 2) := by decide +kernel
theorem d_P_deny_6 : decode b_P_deny 6 = .ok (.aload_n 1, 1) := by decide +kernel
theorem d_P_deny_7 : decode b_P_deny 7 = .ok (.getfield 82, 3) := by decide +kernel
theorem d_P_deny_10 : decode b_P_deny 10 = .ok (.iload_n 2, 1) := by decide +kernel
theorem d_P_deny_11 : decode b_P_deny 11 = .ok (.aload_n 1, 1) := by decide +kernel
theorem d_P_deny_12 : decode b_P_deny 12 = .ok (.getfield 133, 3) := by decide +kernel
theorem d_P_deny_15 : decode b_P_deny 15 = .ok (.iconst 0, 1) := by decide +kernel
theorem d_P_deny_16 : decode b_P_deny 16 = .ok (.iconst 0, 1) := by decide +kernel
theorem d_P_deny_17 : decode b_P_deny 17 = .ok (.iconst 0, 1) := by decide +kernel
theorem d_P_deny_18 : decode b_P_deny 18 = .ok (.invokevirtual 281, 3) := by decide +kernel
theorem d_P_deny_21 : decode b_P_deny 21 = .ok (.return_, 1) := by decide +kernel
theorem d_P_help_0 : decode b_P_help 0 = .ok (.aload_n 1, 1) := by decide +kernel
theorem d_P_help_1 : decode b_P_help 1 = .ok (.getfield 117, 3) := by decide +kernel
theorem d_P_help_4 : decode b_P_help 4 = .ok (.iload_n 3, 1) := by decide +kernel
theorem d_P_help_5 : decode b_P_help 5 = .ok (.invokevirtual 298, 3) := by decide +kernel
theorem d_P_help_8 : decode b_P_help 8 = .ok (.ifCond .eq 30, 3) := by decide +kernel
theorem d_P_help_11 : decode b_P_help 11 = .ok (.aload_n 0, 1) := by decide +kernel
theorem d_P_help_12 : decode b_P_help 12 = .ok (.getfield 37, 3) := by decide +kernel
theorem d_P_help_15 : decode b_P_help 15 = .ok (.iconst 5, 1) := by decide +kernel
theorem d_P_help_16 : decode b_P_help 16 = .ok (.aload_n 1, 1) := by decide +kernel
theorem d_P_help_17 : decode b_P_help 17 = .ok (.getfield 82, 3) := by decide +kernel
theorem d_P_help_20 : decode b_P_help 20 = .ok (.iload_n 2, 1) := by decide +kernel
theorem d_P_help_21 : decode b_P_help 21 = .ok (.iconst 0, 1) := by decide +kernel
theorem d_P_help_22 : decode b_P_help 22 = .ok (.iload_n 3, 1) := by decide +kernel
theorem d_P_help_23 : decode b_P_help 23 = .ok (.aload_n 1, 1) := by decide +kernel
theorem d_P_help_24 : decode b_P_help 24 = .ok (.getfield 117, 3) := by decide +kernel
theorem d_P_help_27 : decode b_P_help 27 = .ok (.iload_n 3, 1) := by decide +kernel
theorem d_P_help_28 : decode b_P_help 28 = .ok (.invokevirtual 150, 3) := by decide +kernel
theorem d_P_help_31 : decode b_P_help 31 = .ok (.iconst 0, 1) := by decide +kernel
theorem d_P_help_32 : decode b_P_help 32 = .ok (.invokevirtual 281, 3) := by decide +kernel
theorem d_P_help_35 : decode b_P_help 35 = .ok (.goto 33, 3) := by decide +kernel
theorem d_P_help_38 : decode b_P_help 38 = .ok (.aload_n 0, 1) := by decide +kernel
theorem d_P_help_39 : decode b_P_help 39 = .ok (.getfield 37, 3) := by decide +kernel
theorem d_P_help_42 : decode b_P_help 42 = .ok (.bipush 8, 2) := by decide +kernel
theorem d_P_help_44 : decode b_P_help 44 = .ok (.aload_n 1, 1) := by decide +kernel
theorem d_P_help_45 : decode b_P_help 45 = .ok (.getfield 82, 3) := by decide +kernel
theorem d_P_help_48 : decode b_P_help 48 = .ok (.iload_n 2, 1) := by decide +kernel
theorem d_P_help_49 : decode b_P_help 49 = .ok (.iconst 0, 1) := by decide +kernel
theorem d_P_help_50 : decode b_P_help 50 = .ok (.aload_n 1, 1) := by decide +kernel
theorem d_P_help_51 : decode b_P_help 51 = .ok (.getfield 117, 3) := by decide +kernel
theorem d_P_help_54 : decode b_P_help 54 = .ok (.getfield 121, 3) := by decide +kernel
theorem d_P_help_57 : decode b_P_help 57 = .ok (.aload_n 1, 1) := by decide +kernel
theorem d_P_help_58 : decode b_P_help 58 = .ok (.getfield 117, 3) := by decide +kernel
theorem d_P_help_61 : decode b_P_help 61 = .ok (.getfield 126, 3) := by decide +kernel
theorem d_P_help_64 : decode b_P_help 64 = .ok (.iconst 0, 1) := by decide +kernel
theorem d_P_help_65 : decode b_P_help 65 = .ok (.invokevirtual 281, 3) := by decide +kernel
theorem d_P_help_68 : decode b_P_help 68 = .ok (.return_, 1) := by decide +kernel
theorem d_P_sendToAll_0 : decode b_P_sendToAll 0 = .ok (.iconst 0, 1) := by decide +kernel
theorem d_P_sendToAll_1 : decode b_P_sendToAll 1 = .ok (.istore 6, 2) := by decide +kernel
theorem d_P_sendToAll_3 : decode b_P_sendToAll 3 = .ok (.iload 6, 2) := by decide +kernel
theorem d_P_sendToAll_5 : decode b_P_sendToAll 5 = .ok (.aload_n 0, 1) := by decide +kernel
theorem d_P_sendToAll_6 : decode b_P_sendToAll 6 = .ok (.getfield 18, 3) := by decide +kernel
theorem d_P_sendToAll_9 : decode b_P_sendToAll 9 = .ok (.if_icmp .ge 32, 3) := by decide +kernel
theorem d_P_sendToAll_12 : decode b_P_sendToAll 12 = .ok (.iload 6, 2) := by decide +kernel
theorem d_P_sendToAll_14 : decode b_P_sendToAll 14 = .ok (.iload_n 2, 1) := by decide +kernel
theorem d_P_sendToAll_15 : decode b_P_sendToAll 15 = .ok (.if_icmp .eq 20, 3) := by decide +kernel
end
section
theorem d_P_sendToAll_18 : decode b_P_sendToAll 18 = .ok (.aload_n 0, 1) := by decide +kernel
theorem d_P_sendToAll_19 : decode b_P_sendToAll 19 = .ok (.getfield 37, 3) := by decide +kernel
theorem d_P_sendToAll_22 : decode b_P_sendToAll 22 = .ok (.iload_n 1, 1) := by decide +kernel
theorem d_P_sendToAll_23 : decode b_P_sendToAll 23 = .ok (.iload_n 2, 1) := by decide +kernel
theorem d_P_sendToAll_24 : decode b_P_sendToAll 24 = .ok (.iload 6, 2) := by decide +kernel
theorem d_P_sendToAll_26 : decode b_P_sendToAll 26 = .ok (.iload_n 3, 1) := by decide +kernel
theorem d_P_sendToAll_27 : decode b_P_sendToAll 27 = .ok (.iload 4, 2) := by decide +kernel
theorem d_P_sendToAll_29 : decode b_P_sendToAll 29 = .ok (.iload 5, 2) := by decide +kernel
theorem d_P_sendToAll_31 : decode b_P_sendToAll 31 = .ok (.iconst 0, 1) := by decide +kernel
theorem d_P_sendToAll_32 : decode b_P_sendToAll 32 = .ok (.invokevirtual 281, 3) := by decide +kernel
theorem d_P_sendToAll_35 : decode b_P_sendToAll 35 = .ok (.iinc 6 1, 3) := by decide +kernel
theorem d_P_sendToAll_38 : decode b_P_sendToAll 38 = .ok (.goto (-35), 3) := by decide +kernel
theorem d_P_sendToAll_41 : decode b_P_sendToAll 41 = .ok (.return_, 1) := by decide +kernel
end
section
theorem d_T_init_0 : decode b_T_init 0 = .ok (.aload_n 0, 1) := by decide +kernel
theorem d_T_init_1 : decode b_T_init 1 = .ok (.invokespecial 1, 3) := by decide +kernel
theorem d_T_init_4 : decode b_T_init 4 = .ok (.aload_n 0, 1) := by decide +kernel
theorem d_T_init_5 : decode b_T_init 5 = .ok (.iconst 5, 1) := by decide +kernel
theorem d_T_init_6 : decode b_T_init 6 = .ok (.newarray .boolean, 2) := by decide +kernel
theorem d_T_init_8 : decode b_T_init 8 = .ok (.putfield 7, 3) := by decide +kernel
theorem d_T_init_11 : decode b_T_init 11 = .ok (.aload_n 0, 1) := by decide +kernel
theorem d_T_init_12 : decode b_T_init 12 = .ok (.iconst 5, 1) := by decide +kernel
theorem d_T_init_13 : decode b_T_init 13 = .ok (.newarray .int, 2) := by decide +kernel
theorem d_T_init_15 : decode b_T_init 15 = .ok (.putfield 13, 3) := by decide +kernel
theorem d_T_init_18 : decode b_T_init 18 = .ok (.aload_n 0, 1) := by decide +kernel
theorem d_T_init_19 : decode b_T_init 19 = .ok (.iconst 5, 1) := by decide +kernel
theorem d_T_init_20 : decode b_T_init 20 = .ok (.newarray .int, 2) := by decide +kernel
theorem d_T_init_22 : decode b_T_init 22 = .ok (.putfield 17, 3) := by decide +kernel
theorem d_T_init_25 : decode b_T_init 25 = .ok (.aload_n 0, 1) := by decide +kernel
theorem d_T_init_26 : decode b_T_init 26 = .ok (.iconst 5, 1) := by decide +kernel
theorem d_T_init_27 : decode b_T_init 27 = .ok (.newarray .int, 2) := by decide +kernel
theorem d_T_init_29 : decode b_T_init 29 = .ok (.putfield 20, 3) := by decide +kernel
theorem d_T_init_32 : decode b_T_init 32 = .ok (.aload_n 0, 1) := by decide +kernel
theorem d_T_init_33 : decode b_T_init 33 = .ok (.iconst 5, 1) := by decide +kernel
theorem d_T_init_34 : decode b_T_init 34 = .ok (.newarray .int, 2) := by decide +kernel
theorem d_T_init_36 : decode b_T_init 36 = .ok (.putfield 23, 3) := by decide +kernel
theorem d_T_init_39 : decode b_T_init 39 = .ok (.aload_n 0, 1) := by decide +kernel
theorem d_T_init_40 : decode b_T_init 40 = .ok (.iconst 5, 1) := by decide +kernel
theorem d_T_init_41 : decode b_T_init 41 = .ok (.newarray .int, 2) := by decide +kernel
theorem d_T_init_43 : decode b_T_init 43 = .ok (.putfield 26, 3) := by decide +kernel
theorem d_T_init_46 : decode b_T_init 46 = .ok (.aload_n 0, 1) := by decide +kernel
theorem d_T_init_47 : decode b_T_init 47 = .ok (.iconst 5, 1) := by decide +kernel
theorem d_T_init_48 : decode b_T_init 48 = .ok (.newarray .int, 2) := by decide +kernel
theorem d_T_init_50 : decode b_T_init 50 = .ok (.putfield 29, 3) := by decide +kernel
theorem d_T_init_53 : decode b_T_init 53 = .ok (.aload_n 0, 1) := by decide +kernel
theorem d_T_init_54 : decode b_T_init 54 = .ok (.sipush 200, 3) := by decide +kernel
theorem d_T_init_57 : decode b_T_init 57 = .ok (.newarray .int, 2) := by decide +kernel
theorem d_T_init_59 : decode b_T_init 59 = .ok (.putfield 32, 3) := by decide +kernel
theorem d_T_init_62 : decode b_T_init 62 = .ok (.aload_n 0, 1) := by decide +kernel
theorem d_T_init_63 : decode b_T_init 63 = .ok (.iconst 5, 1) := by decide +kernel
theorem d_T_init_64 : decode b_T_init 64 = .ok (.newarray .int, 2) := by decide +kernel
theorem d_T_init_66 : decode b_T_init 66 = .ok (.putfield 35, 3) := by decide +kernel
theorem d_T_init_69 : decode b_T_init 69 = .ok (.aload_n 0, 1) := by decide +kernel
theorem d_T_init_70 : decode b_T_init 70 = .ok (.iconst 5, 1) := by decide +kernel
theorem d_T_init_71 : decode b_T_init 71 = .ok (.newarray .int, 2) := by decide +kernel
theorem d_T_init_73 : decode b_T_init 73 = .ok (.putfield 38, 3) := by decide +kernel
theorem d_T_init_76 : decode b_T_init 76 = .ok (.aload_n 0, 1) := by decide +kernel
theorem d_T_init_77 : decode b_T_init 77 = .ok (.iconst 5, 1) := by decide +kernel
theorem d_T_init_78 : decode b_T_init 78 = .ok (.newarray .int, 2) := by decide +kernel
theorem d_T_init_80 : decode b_T_init 80 = .ok (.putfield 41, 3) := by decide +kernel
theorem d_T_init_83 : decode b_T_init 83 = .ok (.aload_n 0, 1) := by decide +kernel
theorem d_T_init_84 : decode b_T_init 84 = .ok (.iconst 5, 1) := by decide +kernel
theorem d_T_init_85 : decode b_T_init 85 = .ok (.newarray .int, 2) := by decide +kernel
theorem d_T_init_87 : decode b_T_init 87 = .ok (.putfield 44, 3) := by decide +kernel
theorem d_T_init_90 : decode b_T_init 90 = .ok (.aload_n 0, 1) := by decide +kernel
theorem d_T_init_91 : decode b_T_init 91 = .ok (.iconst 5, 1) := by decide +kernel
theorem d_T_init_92 : decode b_T_init 92 = .ok (.newarray .int, 2) := by decide +kernel
theorem d_T_init_94 : decode b_T_init 94 = .ok (.putfield 47, 3) := by decide +kernel
theorem d_T_init_97 : decode b_T_init 97 = .ok (.aload_n 0, 1) := by decide +kernel
theorem d_T_init_98 : decode b_T_init 98 = .ok (.iconst 5, 1) := by decide +kernel
theorem d_T_init_99 : decode b_T_init 99 = .ok (.newarray .int, 2) := by decide +kernel
theorem d_T_init_101 : decode b_T_init 101 = .ok (.putfield 50, 3) := by decide +kernel
theorem d_T_init_104 : decode b_T_init 104 = .ok (.aload_n 0, 1) := by decide +kernel
theorem d_T_init_105 : decode b_T_init 105 = .ok (.iconst 5, 1) := by decide +kernel
theorem d_T_init_106 : decode b_T_init 106 = .ok (.newarray .int, 2) := by decide +kernel
theorem d_T_init_108 : decode b_T_init 108 = .ok (.putfield 53, 3) := by decide +kernel
theorem d_T_init_111 : decode b_T_init 111 = .ok (.aload_n 0, 1) := by decide +kernel
theorem d_T_init_112 : decode b_T_init 112 = .ok (.bipush 40, 2) := by decide +kernel
theorem d_T_init_114 : decode b_T_init 114 = .ok (.newarray .int, 2) := by decide +kernel
theorem d_T_init_116 : decode b_T_init 116 = .ok (.putfield 56, 3) := by decide +kernel
theorem d_T_init_119 : decode b_T_init 119 = .ok (.aload_n 0, 1) := by decide +kernel
theorem d_T_init_120 : decode b_T_init 120 = .ok (.iconst 5, 1) := by decide +kernel
theorem d_T_init_121 : decode b_T_init 121 = .ok (.newarray .int, 2) := by decide +kernel
theorem d_T_init_123 : decode b_T_init 123 = .ok (.putfield 59, 3) := by decide +kernel
theorem d_T_init_126 : decode b_T_init 126 = .ok (.aload_n 0, 1) := by decide +kernel
theorem d_T_init_127 : decode b_T_init 127 = .ok (.sipush 1407, 3) := by decide +kernel
theorem d_T_init_130 : decode b_T_init 130 = .ok (.newarray .int, 2) := by decide +kernel
theorem d_T_init_132 : decode b_T_init 132 = .ok (.putfield 62, 3) := by decide +kernel
theorem d_T_init_135 : decode b_T_init 135 = .ok (.aload_n 0, 1) := by decide +kernel
theorem d_T_init_136 : decode b_T_init 136 = .ok (.iload_n 1, 1) := by decide +kernel
theorem d_T_init_137 : decode b_T_init 137 = .ok (.iconst 3, 1) := by decide +kernel
theorem d_T_init_138 : decode b_T_init 138 = .ok (.if_icmp .ge 7, 3) := by decide +kernel
theorem d_T_init_141 : decode b_T_init 141 = .ok (.iconst 3, 1) := by decide +kernel
theorem d_T_init_142 : decode b_T_init 142 = .ok (.goto 13, 3) := by decide +kernel
theorem d_T_init_145 : decode b_T_init 145 = .ok (.iload_n 1, 1) := by decide +kernel
theorem d_T_init_146 : decode b_T_init 146 = .ok (.iconst 5, 1) := by decide +kernel
theorem d_T_init_147 : decode b_T_init 147 = .ok (.if_icmp .le 7, 3) := by decide +kernel
theorem d_T_init_150 : decode b_T_init 150 = .ok (.iconst 5, 1) := by decide +kernel
theorem d_T_init_151 : decode b_T_init 151 = .ok (.goto 4, 3) := by decide +kernel
theorem d_T_init_154 : decode b_T_init 154 = .ok (.iload_n 1, 1) := by decide +kernel
theorem d_T_init_155 : decode b_T_init 155 = .ok (.putfield 65, 3) := by decide +kernel
theorem d_T_init_158 : decode b_T_init 158 = .ok (.aload_n 0, 1) := by decide +kernel
theorem d_T_init_159 : decode b_T_init 159 = .ok (.iload_n 2, 1) := by decide +kernel
theorem d_T_init_160 : decode b_T_init 160 = .ok (.iconst 1, 1) := by decide +kernel
theorem d_T_init_161 : decode b_T_init 161 = .ok (.if_icmp .ge 7, 3) := by decide +kernel
theorem d_T_init_164 : decode b_T_init 164 = .ok (.iconst 1, 1) := by decide +kernel
theorem d_T_init_165 : decode b_T_init 165 = .ok (.goto 15, 3) := by decide +kernel
theorem d_T_init_168 : decode b_T_init 168 = .ok (.iload_n 2, 1) := by decide +kernel
theorem d_T_init_169 : decode b_T_init 169 = .ok (.bipush 32, 2) := by decide +kernel
theorem d_T_init_171 : decode b_T_init 171 = .ok (.if_icmp .le 8, 3) := by decide +kernel
theorem d_T_init_174 : decode b_T_init 174 = .ok (.bipush 32, 2) := by decide +kernel
theorem d_T_init_176 : decode b_T_init 176 = .ok (.goto 4, 3) := by decide +kernel
theorem d_T_init_179 : decode b_T_init 179 = .ok (.iload_n 2, 1) := by decide +kernel
theorem d_T_init_180 : decode b_T_init 180 = .ok (.putfield 69, 3) := by decide +kernel
theorem d_T_init_183 : decode b_T_init 183 = .ok (.iconst 0, 1) := by decide +kernel
theorem d_T_init_184 : decode b_T_init 184 = .ok (.istore_n 3, 1) := by decide +kernel
theorem d_T_init_185 : decode b_T_init 185 = .ok (.iload_n 3, 1) := by decide +kernel
theorem d_T_init_186 : decode b_T_init 186 = .ok (.aload_n 0, 1) := by decide +kernel
theorem d_T_init_187 : decode b_T_init 187 = .ok (.getfield 65, 3) := by decide +kernel
theorem d_T_init_190 : decode b_T_init 190 = .ok (.if_icmp .ge 16, 3) := by decide +kernel
theorem d_T_init_193 : decode b_T_init 193 = .ok (.aload_n 0, 1) := by decide +kernel
theorem d_T_init_194 : decode b_T_init 194 = .ok (.getfield 7, 3) := by decide +kernel
theorem d_T_init_197 : decode b_T_init 197 = .ok (.iload_n 3, 1) := by decide +kernel
theorem d_T_init_198 : decode b_T_init 198 = .ok (.iconst 1, 1) := by decide +kernel
theorem d_T_init_199 : decode b_T_init 199 = .ok (.bastore, 1) := by decide +kernel
theorem d_T_init_200 : decode b_T_init 200 = .ok (.iinc 3 1, 3) := by decide +kernel
theorem d_T_init_203 : decode b_T_init 203 = .ok (.goto (-18), 3) := by decide +kernel
theorem d_T_init_206 : decode b_T_init 206 = .ok (.return_, 1) := by decide +kernel
theorem d_T_isReplica_0 : decode b_T_isReplica 0 = .ok (.iload_n 1, 1) := by decide +kernel
theorem d_T_isReplica_1 : decode b_T_isReplica 1 = .ok (.ifCond .lt 15, 3) := by decide +kernel
theorem d_T_isReplica_4 : decode b_T_isReplica 4 = .ok (.iload_n 1, 1) := by decide +kernel
theorem d_T_isReplica_5 : decode b_T_isReplica 5 = .ok (.aload_n 0, 1) := by decide +kernel
theorem d_T_isReplica_6 : decode b_T_isReplica 6 = .ok (.getfield 65, 3) := by decide +kernel
theorem d_T_isReplica_9 : decode b_T_isReplica 9 = .ok (.if_icmp .ge 7, 3) := by decide +kernel
theorem d_T_isReplica_12 : decode b_T_isReplica 12 = .ok (.iconst 1, 1) := by decide +kernel
theorem d_T_isReplica_13 : decode b_T_isReplica 13 = .ok (.goto 4, 3) := by decide +kernel
theorem d_T_isReplica_16 : decode b_T_isReplica 16 = .ok (.iconst 0, 1) := by decide +kernel
theorem d_T_isReplica_17 : decode b_T_isReplica 17 = .ok (.ireturn, 1) := by decide +kernel
theorem d_T_isUp_0 : decode b_T_isUp 0 = .ok (.aload_n 0, 1) := by decide +kernel
theorem d_T_isUp_1 : decode b_T_isUp 1 = .ok (.iload_n 1, 1) := by decide +kernel
theorem d_T_isUp_2 : decode b_T_isUp 2 = .ok (.invokevirtual 75, 3) := by decide +kernel
theorem d_T_isUp_5 : decode b_T_isUp 5 = .ok (.ifCond .eq 28, 3) := by decide +kernel
theorem d_T_isUp_8 : decode b_T_isUp 8 = .ok (.aload_n 0, 1) := by decide +kernel
theorem d_T_isUp_9 : decode b_T_isUp 9 = .ok (.getfield 7, 3) := by decide +kernel
theorem d_T_isUp_12 : decode b_T_isUp 12 = .ok (.aload_n 0, 1) := by decide +kernel
theorem d_T_isUp_13 : decode b_T_isUp 13 = .ok (.iload_n 1, 1) := by decide +kernel
theorem d_T_isUp_14 : decode b_T_isUp 14 = .ok (.invokevirtual 75, 3) := by decide +kernel
theorem d_T_isUp_17 : decode b_T_isUp 17 = .ok (.ifCond .eq 7, 3) := by decide +kernel
theorem d_T_isUp_20 : decode b_T_isUp 20 = .ok (.iload_n 1, 1) := by decide +kernel
theorem d_T_isUp_21 : decode b_T_isUp 21 = .ok (.goto 4, 3) := by decide +kernel
theorem d_T_isUp_24 : decode b_T_isUp 24 = .ok (.iconst 0, 1) := by decide +kernel
theorem d_T_isUp_25 : decode b_T_isUp 25 = .ok (.baload, 1) := by decide +kernel
theorem d_T_isUp_26 : decode b_T_isUp 26 = .ok (.ifCond .eq 7, 3) := by decide +kernel
theorem d_T_isUp_29 : decode b_T_isUp 29 = .ok (.iconst 1, 1) := by decide +kernel
theorem d_T_isUp_30 : decode b_T_isUp 30 = .ok (.goto 4, 3) := by decide +kernel
theorem d_T_isUp_33 : decode b_T_isUp 33 = .ok (.iconst 0, 1) := by decide +kernel
theorem d_T_isUp_34 : decode b_T_isUp 34 = .ok (.ireturn, 1) := by decide +kernel
theorem d_T_send_0 : decode b_T_send 0 = .ok (.aload_n 0, 1) := by decide +kernel
theorem d_T_send_1 : decode b_T_send 1 = .ok (.dup, 1) := by decide +kernel
theorem d_T_send_2 : decode b_T_send 2 = .ok (.getfield 79, 3) := by decide +kernel
theorem d_T_send_5 : decode b_T_send 5 = .ok (.iconst 1, 1) := by decide +kernel
theorem d_T_send_6 : decode b_T_send 6 = .ok (.iadd, 1) := by decide +kernel
theorem d_T_send_7 : decode b_T_send 7 = .ok (.putfield 79, 3) := by decide +kernel
theorem d_T_send_10 : decode b_T_send 10 = .ok (.aload_n 0, 1) := by decide +kernel
theorem d_T_send_11 : decode b_T_send 11 = .ok (.getfield 82, 3) := by decide +kernel
theorem d_T_send_14 : decode b_T_send 14 = .ok (.sipush 200, 3) := by decide +kernel
theorem d_T_send_17 : decode b_T_send 17 = .ok (.if_icmp .ne 14, 3) := by decide +kernel
theorem d_T_send_20 : decode b_T_send 20 = .ok (.aload_n 0, 1) := by decide +kernel
theorem d_T_send_21 : decode b_T_send 21 = .ok (.dup, 1) := by decide +kernel
theorem d_T_send_22 : decode b_T_send 22 = .ok (.getfield 85, 3) := by decide +kernel
theorem d_T_send_25 : decode b_T_send 25 = .ok (.iconst 1, 1) := by decide +kernel
theorem d_T_send_26 : decode b_T_send 26 = .ok (.iadd, 1) := by decide +kernel
theorem d_T_send_27 : decode b_T_send 27 = .ok (.putfield 85, 3) := by decide +kernel
theorem d_T_send_30 : decode b_T_send 30 = .ok (.return_, 1) := by decide +kernel
theorem d_T_send_31 : decode b_T_send 31 = .ok (.bipush 7, 2) := by decide +kernel
theorem d_T_send_33 : decode b_T_send 33 = .ok (.aload_n 0, 1) := by decide +kernel
theorem d_T_send_34 : decode b_T_send 34 = .ok (.getfield 82, 3) := by decide +kernel
theorem d_T_send_37 : decode b_T_send 37 = .ok (.imul, 1) := by decide +kernel
theorem d_T_send_38 : decode b_T_send 38 = .ok (.istore 8, 2) := by decide +kernel
theorem d_T_send_40 : decode b_T_send 40 = .ok (.aload_n 0, 1) := by decide +kernel
theorem d_T_send_41 : decode b_T_send 41 = .ok (.getfield 62, 3) := by decide +kernel
theorem d_T_send_44 : decode b_T_send 44 = .ok (.iload 8, 2) := by decide +kernel
theorem d_T_send_46 : decode b_T_send 46 = .ok (.iload_n 1, 1) := by decide +kernel
theorem d_T_send_47 : decode b_T_send 47 = .ok (.iastore, 1) := by decide +kernel
theorem d_T_send_48 : decode b_T_send 48 = .ok (.aload_n 0, 1) := by decide +kernel
theorem d_T_send_49 : decode b_T_send 49 = .ok (.getfield 62, 3) := by decide +kernel
theorem d_T_send_52 : decode b_T_send 52 = .ok (.iload 8, 2) := by decide +kernel
theorem d_T_send_54 : decode b_T_send 54 = .ok (.iconst 1, 1) := by decide +kernel
theorem d_T_send_55 : decode b_T_send 55 = .ok (.iadd, 1) := by decide +kernel
theorem d_T_send_56 : decode b_T_send 56 = .ok (.iload_n 2, 1) := by decide +kernel
theorem d_T_send_57 : decode b_T_send 57 = .ok (.iastore, 1) := by decide +kernel
theorem d_T_send_58 : decode b_T_send 58 = .ok (.aload_n 0, 1) := by decide +kernel
theorem d_T_send_59 : decode b_T_send 59 = .ok (.getfield 62, 3) := by decide +kernel
theorem d_T_send_62 : decode b_T_send 62 = .ok (.iload 8, 2) := by decide +kernel
theorem d_T_send_64 : decode b_T_send 64 = .ok (.iconst 2, 1) := by decide +kernel
theorem d_T_send_65 : decode b_T_send 65 = .ok (.iadd, 1) := by decide +kernel
theorem d_T_send_66 : decode b_T_send 66 = .ok (.iload_n 3, 1) := by decide +kernel
theorem d_T_send_67 : decode b_T_send 67 = .ok (.iastore, 1) := by decide +kernel
theorem d_T_send_68 : decode b_T_send 68 = .ok (.aload_n 0, 1) := by decide +kernel
theorem d_T_send_69 : decode b_T_send 69 = .ok (.getfield 62, 3) := by decide +kernel
theorem d_T_send_72 : decode b_T_send 72 = .ok (.iload 8, 2) := by decide +kernel
theorem d_T_send_74 : decode b_T_send 74 = .ok (.iconst 3, 1) := by decide +kernel
theorem d_T_send_75 : decode b_T_send 75 = .ok (.iadd, 1) := by decide +kernel
theorem d_T_send_76 : decode b_T_send 76 = .ok (.iload 4, 2) := by decide +kernel
theorem d_T_send_78 : decode b_T_send 78 = .ok (.iastore, 1) := by decide +kernel
theorem d_T_send_79 : decode b_T_send 79 = .ok (.aload_n 0, 1) := by decide +kernel
theorem d_T_send_80 : decode b_T_send 80 = .ok (.getfield 62, 3) := by decide +kernel
theorem d_T_send_83 : decode b_T_send 83 = .ok (.iload 8, 2) := by decide +kernel
theorem d_T_send_85 : decode b_T_send 85 = .ok (.iconst 4, 1) := by decide +kernel
theorem d_T_send_86 : decode b_T_send 86 = .ok (.iadd, 1) := by decide +kernel
theorem d_T_send_87 : decode b_T_send 87 = .ok (.iload 5, 2) := by decide +kernel
theorem d_T_send_89 : decode b_T_send 89 = .ok (.iastore, 1) := by decide +kernel
theorem d_T_send_90 : decode b_T_send 90 = .ok (.aload_n 0, 1) := by decide +kernel
theorem d_T_send_91 : decode b_T_send 91 = .ok (.getfield 62, 3) := by decide +kernel
theorem d_T_send_94 : decode b_T_send 94 = .ok (.iload 8, 2) := by decide +kernel
theorem d_T_send_96 : decode b_T_send 96 = .ok (.iconst 5, 1) := by decide +kernel
theorem d_T_send_97 : decode b_T_send 97 = .ok (.iadd, 1) := by decide +kernel
theorem d_T_send_98 : decode b_T_send 98 = .ok (.iload 6, 2) := by decide +kernel
theorem d_T_send_100 : decode b_T_send 100 = .ok (.iastore, 1) := by decide +kernel
theorem d_T_send_101 : decode b_T_send 101 = .ok (.aload_n 0, 1) := by decide +kernel
theorem d_T_send_102 : decode b_T_send 102 = .ok (.getfield 62, 3) := by decide +kernel
theorem d_T_send_105 : decode b_T_send 105 = .ok (.iload 8, 2) := by decide +kernel
theorem d_T_send_107 : decode b_T_send 107 = .ok (.bipush 6, 2) := by decide +kernel
theorem d_T_send_109 : decode b_T_send 109 = .ok (.iadd, 1) := by decide +kernel
theorem d_T_send_110 : decode b_T_send 110 = .ok (.iload 7, 2) := by decide +kernel
theorem d_T_send_112 : decode b_T_send 112 = .ok (.iastore, 1) := by decide +kernel
theorem d_T_send_113 : decode b_T_send 113 = .ok (.aload_n 0, 1) := by decide +kernel
theorem d_T_send_114 : decode b_T_send 114 = .ok (.dup, 1) := by decide +kernel
theorem d_T_send_115 : decode b_T_send 115 = .ok (.getfield 82, 3) := by decide +kernel
theorem d_T_send_118 : decode b_T_send 118 = .ok (.iconst 1, 1) := by decide +kernel
theorem d_T_send_119 : decode b_T_send 119 = .ok (.iadd, 1) := by decide +kernel
theorem d_T_send_120 : decode b_T_send 120 = .ok (.putfield 82, 3) := by decide +kernel
theorem d_T_send_123 : decode b_T_send 123 = .ok (.return_, 1) := by decide +kernel
theorem d_T_sendAll_0 : decode b_T_sendAll 0 = .ok (.iconst 0, 1) := by decide +kernel
theorem d_T_sendAll_1 : decode b_T_sendAll 1 = .ok (.istore 6, 2) := by decide +kernel
theorem d_T_sendAll_3 : decode b_T_sendAll 3 = .ok (.iload 6, 2) := by decide +kernel
theorem d_T_sendAll_5 : decode b_T_sendAll 5 = .ok (.aload_n 0, 1) := by decide +kernel
theorem d_T_sendAll_6 : decode b_T_sendAll 6 = .ok (.getfield 65, 3) := by decide +kernel
theorem d_T_sendAll_9 : decode b_T_sendAll 9 = .ok (.if_icmp .ge 29, 3) := by decide +kernel
theorem d_T_sendAll_12 : decode b_T_sendAll 12 = .ok (.iload 6, 2) := by decide +kernel
theorem d_T_sendAll_14 : decode b_T_sendAll 14 = .ok (.iload_n 2, 1) := by decide +kernel
theorem d_T_sendAll_15 : decode b_T_sendAll 15 = .ok (.if_icmp .eq 17, 3) := by decide +kernel
theorem d_T_sendAll_18 : decode b_T_sendAll 18 = .ok (.aload_n 0, 1) := by decide +kernel
theorem d_T_sendAll_19 : decode b_T_sendAll 19 = .ok (.iload_n 1, 1) := by decide +kernel
theorem d_T_sendAll_20 : decode b_T_sendAll 20 = .ok (.iload_n 2, 1) := by decide +kernel
theorem d_T_sendAll_21 : decode b_T_sendAll 21 = .ok (.iload 6, 2) := by decide +kernel
theorem d_T_sendAll_23 : decode b_T_sendAll 23 = .ok (.iload_n 3, 1) := by decide +kernel
theorem d_T_sendAll_24 : decode b_T_sendAll 24 = .ok (.iload 4, 2) := by decide +kernel
theorem d_T_sendAll_26 : decode b_T_sendAll 26 = .ok (.iload 5, 2) := by decide +kernel
theorem d_T_sendAll_28 : decode b_T_sendAll 28 = .ok (.iconst 0, 1) := by decide +kernel
theorem d_T_sendAll_29 : decode b_T_sendAll 29 = .ok (.invokevirtual 88, 3) := by decide +kernel
theorem d_T_sendAll_32 : decode b_T_sendAll 32 = .ok (.iinc 6 1, 3) := by decide +kernel
theorem d_T_sendAll_35 : decode b_T_sendAll 35 = .ok (.goto (-32), 3) := by decide +kernel
theorem d_T_sendAll_38 : decode b_T_sendAll 38 = .ok (.return_, 1) := by decide +kernel
theorem d_T_remove_0 : decode b_T_remove 0 = .ok (.aload_n 0, 1) := by decide +kernel
theorem d_T_remove_1 : decode b_T_remove 1 = .ok (.dup, 1) := by decide +kernel
theorem d_T_remove_2 : decode b_T_remove 2 = .ok (.getfield 82, 3) := by decide +kernel
theorem d_T_remove_5 : decode b_T_remove 5 = .ok (.iconst 1, 1) := by decide +kernel
theorem d_T_remove_6 : decode b_T_remove 6 = .ok (.isub, 1) := by decide +kernel
theorem d_T_remove_7 : decode b_T_remove 7 = .ok (.putfield 82, 3) := by decide +kernel
theorem d_T_remove_10 : decode b_T_remove 10 = .ok (.bipush 7, 2) := by decide +kernel
theorem d_T_remove_12 : decode b_T_remove 12 = .ok (.iload_n 1, 1) := by decide +kernel
theorem d_T_remove_13 : decode b_T_remove 13 = .ok (.imul, 1) := by decide +kernel
theorem d_T_remove_14 : decode b_T_remove 14 = .ok (.istore_n 2, 1) := by decide +kernel
theorem d_T_remove_15 : decode b_T_remove 15 = .ok (.iload_n 2, 1) := by decide +kernel
theorem d_T_remove_16 : decode b_T_remove 16 = .ok (.bipush 7, 2) := by decide +kernel
theorem d_T_remove_18 : decode b_T_remove 18 = .ok (.aload_n 0, 1) := by decide +kernel
theorem d_T_remove_19 : decode b_T_remove 19 = .ok (.getfield 82, 3) := by decide +kernel
theorem d_T_remove_22 : decode b_T_remove 22 = .ok (.imul, 1) := by decide +kernel
theorem d_T_remove_23 : decode b_T_remove 23 = .ok (.if_icmp .ge 24, 3) := by decide +kernel
theorem d_T_remove_26 : decode b_T_remove 26 = .ok (.aload_n 0, 1) := by decide +kernel
theorem d_T_remove_27 : decode b_T_remove 27 = .ok (.getfield 62, 3) := by decide +kernel
theorem d_T_remove_30 : decode b_T_remove 30 = .ok (.iload_n 2, 1) := by decide +kernel
theorem d_T_remove_31 : decode b_T_remove 31 = .ok (.aload_n 0, 1) := by decide +kernel
theorem d_T_remove_32 : decode b_T_remove 32 = .ok (.getfield 62, 3) := by decide +kernel
theorem d_T_remove_35 : decode b_T_remove 35 = .ok (.iload_n 2, 1) := by decide +kernel
theorem d_T_remove_36 : decode b_T_remove 36 = .ok (.bipush 7, 2) := by decide +kernel
theorem d_T_remove_38 : decode b_T_remove 38 = .ok (.iadd, 1) := by decide +kernel
theorem d_T_remove_39 : decode b_T_remove 39 = .ok (.iaload, 1) := by decide +kernel
theorem d_T_remove_40 : decode b_T_remove 40 = .ok (.iastore, 1) := by decide +kernel
theorem d_T_remove_41 : decode b_T_remove 41 = .ok (.iinc 2 1, 3) := by decide +kernel
theorem d_T_remove_44 : decode b_T_remove 44 = .ok (.goto (-29), 3) := by decide +kernel
theorem d_T_remove_47 : decode b_T_remove 47 = .ok (.return_, 1) := by decide +kernel
theorem d_T_follow_0 : decode b_T_follow 0 = .ok (.aload_n 0, 1) := by decide +kernel
theorem d_T_follow_1 : decode b_T_follow 1 = .ok (.getfield 35, 3) := by decide +kernel
theorem d_T_follow_4 : decode b_T_follow 4 = .ok (.iload_n 1, 1) := by decide +kernel
theorem d_T_follow_5 : decode b_T_follow 5 = .ok (.iconst 0, 1) := by decide +kernel
theorem d_T_follow_6 : decode b_T_follow 6 = .ok (.iastore, 1) := by decide +kernel
theorem d_T_follow_7 : decode b_T_follow 7 = .ok (.aload_n 0, 1) := by decide +kernel
theorem d_T_follow_8 : decode b_T_follow 8 = .ok (.getfield 38, 3) := by decide +kernel
theorem d_T_follow_11 : decode b_T_follow 11 = .ok (.iload_n 1, 1) := by decide +kernel
theorem d_T_follow_12 : decode b_T_follow 12 = .ok (.iconst 0, 1) := by decide +kernel
theorem d_T_follow_13 : decode b_T_follow 13 = .ok (.iastore, 1) := by decide +kernel
theorem d_T_follow_14 : decode b_T_follow 14 = .ok (.aload_n 0, 1) := by decide +kernel
theorem d_T_follow_15 : decode b_T_follow 15 = .ok (.getfield 41, 3) := by decide +kernel
theorem d_T_follow_18 : decode b_T_follow 18 = .ok (.iload_n 1, 1) := by decide +kernel
theorem d_T_follow_19 : decode b_T_follow 19 = .ok (.iconst 0, 1) := by decide +kernel
theorem d_T_follow_20 : decode b_T_follow 20 = .ok (.iastore, 1) := by decide +kernel
theorem d_T_follow_21 : decode b_T_follow 21 = .ok (.aload_n 0, 1) := by decide +kernel
theorem d_T_follow_22 : decode b_T_follow 22 = .ok (.getfield 44, 3) := by decide +kernel
theorem d_T_follow_25 : decode b_T_follow 25 = .ok (.iload_n 1, 1) := by decide +kernel
theorem d_T_follow_26 : decode b_T_follow 26 = .ok (.iconst 0, 1) := by decide +kernel
theorem d_T_follow_27 : decode b_T_follow 27 = .ok (.iastore, 1) := by decide +kernel
theorem d_T_follow_28 : decode b_T_follow 28 = .ok (.aload_n 0, 1) := by decide +kernel
theorem d_T_follow_29 : decode b_T_follow 29 = .ok (.getfield 47, 3) := by decide +kernel
theorem d_T_follow_32 : decode b_T_follow 32 = .ok (.iload_n 1, 1) := by decide +kernel
theorem d_T_follow_33 : decode b_T_follow 33 = .ok (.iconst 0, 1) := by decide +kernel
theorem d_T_follow_34 : decode b_T_follow 34 = .ok (.iastore, 1) := by decide +kernel
theorem d_T_follow_35 : decode b_T_follow 35 = .ok (.aload_n 0, 1) := by decide +kernel
theorem d_T_follow_36 : decode b_T_follow 36 = .ok (.getfield 50, 3) := by decide +kernel
theorem d_T_follow_39 : decode b_T_follow 39 = .ok (.iload_n 1, 1) := by decide +kernel
theorem d_T_follow_40 : decode b_T_follow 40 = .ok (.iconst 0, 1) := by decide +kernel
theorem d_T_follow_41 : decode b_T_follow 41 = .ok (.iastore, 1) := by decide +kernel
theorem d_T_follow_42 : decode b_T_follow 42 = .ok (.return_, 1) := by decide +kernel
theorem d_T_campaign_0 : decode b_T_campaign 0 = .ok (.aload_n 0, 1) := by decide +kernel
theorem d_T_campaign_1 : decode b_T_campaign 1 = .ok (.getfield 23, 3) := by decide +kernel
theorem d_T_campaign_4 : decode b_T_campaign 4 = .ok (.iload_n 1, 1) := by decide +kernel
theorem d_T_campaign_5 : decode b_T_campaign 5 = .ok (.iaload, 1) := by decide +kernel
theorem d_T_campaign_6 : decode b_T_campaign 6 = .ok (.aload_n 0, 1) := by decide +kernel
theorem d_T_campaign_7 : decode b_T_campaign 7 = .ok (.getfield 53, 3) := by decide +kernel
theorem d_T_campaign_10 : decode b_T_campaign 10 = .ok (.iload_n 1, 1) := by decide +kernel
theorem d_T_campaign_11 : decode b_T_campaign 11 = .ok (.iaload, 1) := by decide +kernel
theorem d_T_campaign_12 : decode b_T_campaign 12 = .ok (.if_icmp .le 12, 3) := by decide +kernel
theorem d_T_campaign_15 : decode b_T_campaign 15 = .ok (.aload_n 0, 1) := by decide +kernel
theorem d_T_campaign_16 : decode b_T_campaign 16 = .ok (.getfield 23, 3) := by decide +kernel
theorem d_T_campaign_19 : decode b_T_campaign 19 = .ok (.iload_n 1, 1) := by decide +kernel
theorem d_T_campaign_20 : decode b_T_campaign 20 = .ok (.iaload, 1) := by decide +kernel
theorem d_T_campaign_21 : decode b_T_campaign 21 = .ok (.goto 9, 3) := by decide +kernel
theorem d_T_campaign_24 : decode b_T_campaign 24 = .ok (.aload_n 0, 1) := by decide +kernel
theorem d_T_campaign_25 : decode b_T_campaign 25 = .ok (.getfield 53, 3) := by decide +kernel
theorem d_T_campaign_28 : decode b_T_campaign 28 = .ok (.iload_n 1, 1) := by decide +kernel
theorem d_T_campaign_29 : decode b_T_campaign 29 = .ok (.iaload, 1) := by decide +kernel
theorem d_T_campaign_30 : decode b_T_campaign 30 = .ok (.istore_n 2, 1) := by decide +kernel
theorem d_T_campaign_31 : decode b_T_campaign 31 = .ok (.iload_n 1, 1) := by decide +kernel
theorem d_T_campaign_32 : decode b_T_campaign 32 = .ok (.ifCond .ne 10, 3) := by decide +kernel
theorem d_T_campaign_35 : decode b_T_campaign 35 = .ok (.aload_n 0, 1) := by decide +kernel
theorem d_T_campaign_36 : decode b_T_campaign 36 = .ok (.getfield 65, 3) := by decide +kernel
theorem d_T_campaign_39 : decode b_T_campaign 39 = .ok (.goto 4, 3) := by decide +kernel
theorem d_T_campaign_42 : decode b_T_campaign 42 = .ok (.iload_n 1, 1) := by decide +kernel
theorem d_T_campaign_43 : decode b_T_campaign 43 = .ok (.istore_n 3, 1) := by decide +kernel
theorem d_T_campaign_44 : decode b_T_campaign 44 = .ok (.iload_n 3, 1) := by decide +kernel
theorem d_T_campaign_45 : decode b_T_campaign 45 = .ok (.iload_n 2, 1) := by decide +kernel
theorem d_T_campaign_46 : decode b_T_campaign 46 = .ok (.if_icmp .gt 13, 3) := by decide +kernel
theorem d_T_campaign_49 : decode b_T_campaign 49 = .ok (.iload_n 3, 1) := by decide +kernel
theorem d_T_campaign_50 : decode b_T_campaign 50 = .ok (.aload_n 0, 1) := by decide +kernel
theorem d_T_campaign_51 : decode b_T_campaign 51 = .ok (.getfield 65, 3) := by decide +kernel
theorem d_T_campaign_54 : decode b_T_campaign 54 = .ok (.iadd, 1) := by decide +kernel
theorem d_T_campaign_55 : decode b_T_campaign 55 = .ok (.istore_n 3, 1) := by decide +kernel
theorem d_T_campaign_56 : decode b_T_campaign 56 = .ok (.goto (-12), 3) := by decide +kernel
theorem d_T_campaign_59 : decode b_T_campaign 59 = .ok (.aload_n 0, 1) := by decide +kernel
theorem d_T_campaign_60 : decode b_T_campaign 60 = .ok (.iload_n 1, 1) := by decide +kernel
theorem d_T_campaign_61 : decode b_T_campaign 61 = .ok (.invokevirtual 92, 3) := by decide +kernel
theorem d_T_campaign_64 : decode b_T_campaign 64 = .ok (.aload_n 0, 1) := by decide +kernel
theorem d_T_campaign_65 : decode b_T_campaign 65 = .ok (.getfield 23, 3) := by decide +kernel
theorem d_T_campaign_68 : decode b_T_campaign 68 = .ok (.iload_n 1, 1) := by decide +kernel
theorem d_T_campaign_69 : decode b_T_campaign 69 = .ok (.iload_n 3, 1) := by decide +kernel
theorem d_T_campaign_70 : decode b_T_campaign 70 = .ok (.iastore, 1) := by decide +kernel
theorem d_T_campaign_71 : decode b_T_campaign 71 = .ok (.aload_n 0, 1) := by decide +kernel
theorem d_T_campaign_72 : decode b_T_campaign 72 = .ok (.getfield 35, 3) := by decide +kernel
theorem d_T_campaign_75 : decode b_T_campaign 75 = .ok (.iload_n 1, 1) := by decide +kernel
theorem d_T_campaign_76 : decode b_T_campaign 76 = .ok (.iconst 1, 1) := by decide +kernel
theorem d_T_campaign_77 : decode b_T_campaign 77 = .ok (.iastore, 1) := by decide +kernel
theorem d_T_campaign_78 : decode b_T_campaign 78 = .ok (.aload_n 0, 1) := by decide +kernel
theorem d_T_campaign_79 : decode b_T_campaign 79 = .ok (.getfield 38, 3) := by decide +kernel
theorem d_T_campaign_82 : decode b_T_campaign 82 = .ok (.iload_n 1, 1) := by decide +kernel
theorem d_T_campaign_83 : decode b_T_campaign 83 = .ok (.iload_n 3, 1) := by decide +kernel
theorem d_T_campaign_84 : decode b_T_campaign 84 = .ok (.iastore, 1) := by decide +kernel
theorem d_T_campaign_85 : decode b_T_campaign 85 = .ok (.aload_n 0, 1) := by decide +kernel
theorem d_T_campaign_86 : decode b_T_campaign 86 = .ok (.getfield 41, 3) := by decide +kernel
theorem d_T_campaign_89 : decode b_T_campaign 89 = .ok (.iload_n 1, 1) := by decide +kernel
theorem d_T_campaign_90 : decode b_T_campaign 90 = .ok (.iconst 1, 1) := by decide +kernel
theorem d_T_campaign_91 : decode b_T_campaign 91 = .ok (.iload_n 1, 1) := by decide +kernel
theorem d_T_campaign_92 : decode b_T_campaign 92 = .ok (.ishl, 1) := by decide +kernel
theorem d_T_campaign_93 : decode b_T_campaign 93 = .ok (.iastore, 1) := by decide +kernel
theorem d_T_campaign_94 : decode b_T_campaign 94 = .ok (.aload_n 0, 1) := by decide +kernel
theorem d_T_campaign_95 : decode b_T_campaign 95 = .ok (.getfield 47, 3) := by decide +kernel
theorem d_T_campaign_98 : decode b_T_campaign 98 = .ok (.iload_n 1, 1) := by decide +kernel
theorem d_T_campaign_99 : decode b_T_campaign 99 = .ok (.aload_n 0, 1) := by decide +kernel
theorem d_T_campaign_100 : decode b_T_campaign 100 = .ok (.getfield 29, 3) := by decide +kernel
theorem d_T_campaign_103 : decode b_T_campaign 103 = .ok (.iload_n 1, 1) := by decide +kernel
theorem d_T_campaign_104 : decode b_T_campaign 104 = .ok (.iaload, 1) := by decide +kernel
theorem d_T_campaign_105 : decode b_T_campaign 105 = .ok (.iastore, 1) := by decide +kernel
theorem d_T_campaign_106 : decode b_T_campaign 106 = .ok (.aload_n 0, 1) := by decide +kernel
theorem d_T_campaign_107 : decode b_T_campaign 107 = .ok (.getfield 50, 3) := by decide +kernel
theorem d_T_campaign_110 : decode b_T_campaign 110 = .ok (.iload_n 1, 1) := by decide +kernel
theorem d_T_campaign_111 : decode b_T_campaign 111 = .ok (.aload_n 0, 1) := by decide +kernel
theorem d_T_campaign_112 : decode b_T_campaign 112 = .ok (.getfield 26, 3) := by decide +kernel
theorem d_T_campaign_115 : decode b_T_campaign 115 = .ok (.iload_n 1, 1) := by decide +kernel
theorem d_T_campaign_116 : decode b_T_campaign 116 = .ok (.iaload, 1) := by decide +kernel
theorem d_T_campaign_117 : decode b_T_campaign 117 = .ok (.iastore, 1) := by decide +kernel
theorem d_T_campaign_118 : decode b_T_campaign 118 = .ok (.aload_n 0, 1) := by decide +kernel
theorem d_T_campaign_119 : decode b_T_campaign 119 = .ok (.iconst 1, 1) := by decide +kernel
theorem d_T_campaign_120 : decode b_T_campaign 120 = .ok (.iload_n 1, 1) := by decide +kernel
theorem d_T_campaign_121 : decode b_T_campaign 121 = .ok (.iload_n 3, 1) := by decide +kernel
theorem d_T_campaign_122 : decode b_T_campaign 122 = .ok (.aload_n 0, 1) := by decide +kernel
theorem d_T_campaign_123 : decode b_T_campaign 123 = .ok (.getfield 13, 3) := by decide +kernel
theorem d_T_campaign_126 : decode b_T_campaign 126 = .ok (.iload_n 1, 1) := by decide +kernel
theorem d_T_campaign_127 : decode b_T_campaign 127 = .ok (.iaload, 1) := by decide +kernel
theorem d_T_campaign_128 : decode b_T_campaign 128 = .ok (.iconst 1, 1) := by decide +kernel
theorem d_T_campaign_129 : decode b_T_campaign 129 = .ok (.iadd, 1) := by decide +kernel
theorem d_T_campaign_130 : decode b_T_campaign 130 = .ok (.iconst 0, 1) := by decide +kernel
theorem d_T_campaign_131 : decode b_T_campaign 131 = .ok (.invokevirtual 96, 3) := by decide +kernel
theorem d_T_campaign_134 : decode b_T_campaign 134 = .ok (.return_, 1) := by decide +kernel
theorem d_T_proposeIt_0 : decode b_T_proposeIt 0 = .ok (.aload_n 0, 1) := by decide +kernel
theorem d_T_proposeIt_1 : decode b_T_proposeIt 1 = .ok (.getfield 44, 3) := by decide +kernel
theorem d_T_proposeIt_4 : decode b_T_proposeIt 4 = .ok (.iload_n 1, 1) := by decide +kernel
theorem d_T_proposeIt_5 : decode b_T_proposeIt 5 = .ok (.iload_n 2, 1) := by decide +kernel
theorem d_T_proposeIt_6 : decode b_T_proposeIt 6 = .ok (.iastore, 1) := by decide +kernel
theorem d_T_proposeIt_7 : decode b_T_proposeIt 7 = .ok (.aload_n 0, 1) := by decide +kernel
theorem d_T_proposeIt_8 : decode b_T_proposeIt 8 = .ok (.getfield 29, 3) := by decide +kernel
theorem d_T_proposeIt_11 : decode b_T_proposeIt 11 = .ok (.iload_n 1, 1) := by decide +kernel
theorem d_T_proposeIt_12 : decode b_T_proposeIt 12 = .ok (.iload_n 2, 1) := by decide +kernel
theorem d_T_proposeIt_13 : decode b_T_proposeIt 13 = .ok (.iastore, 1) := by decide +kernel
theorem d_T_proposeIt_14 : decode b_T_proposeIt 14 = .ok (.aload_n 0, 1) := by decide +kernel
theorem d_T_proposeIt_15 : decode b_T_proposeIt 15 = .ok (.getfield 26, 3) := by decide +kernel
theorem d_T_proposeIt_18 : decode b_T_proposeIt 18 = .ok (.iload_n 1, 1) := by decide +kernel
theorem d_T_proposeIt_19 : decode b_T_proposeIt 19 = .ok (.aload_n 0, 1) := by decide +kernel
theorem d_T_proposeIt_20 : decode b_T_proposeIt 20 = .ok (.getfield 38, 3) := by decide +kernel
theorem d_T_proposeIt_23 : decode b_T_proposeIt 23 = .ok (.iload_n 1, 1) := by decide +kernel
theorem d_T_proposeIt_24 : decode b_T_proposeIt 24 = .ok (.iaload, 1) := by decide +kernel
theorem d_T_proposeIt_25 : decode b_T_proposeIt 25 = .ok (.iastore, 1) := by decide +kernel
theorem d_T_proposeIt_26 : decode b_T_proposeIt 26 = .ok (.aload_n 0, 1) := by decide +kernel
theorem d_T_proposeIt_27 : decode b_T_proposeIt 27 = .ok (.getfield 41, 3) := by decide +kernel
theorem d_T_proposeIt_30 : decode b_T_proposeIt 30 = .ok (.iload_n 1, 1) := by decide +kernel
theorem d_T_proposeIt_31 : decode b_T_proposeIt 31 = .ok (.iconst 1, 1) := by decide +kernel
theorem d_T_proposeIt_32 : decode b_T_proposeIt 32 = .ok (.iload_n 1, 1) := by decide +kernel
theorem d_T_proposeIt_33 : decode b_T_proposeIt 33 = .ok (.ishl, 1) := by decide +kernel
theorem d_T_proposeIt_34 : decode b_T_proposeIt 34 = .ok (.iastore, 1) := by decide +kernel
theorem d_T_proposeIt_35 : decode b_T_proposeIt 35 = .ok (.aload_n 0, 1) := by decide +kernel
theorem d_T_proposeIt_36 : decode b_T_proposeIt 36 = .ok (.iconst 3, 1) := by decide +kernel
theorem d_T_proposeIt_37 : decode b_T_proposeIt 37 = .ok (.iload_n 1, 1) := by decide +kernel
theorem d_T_proposeIt_38 : decode b_T_proposeIt 38 = .ok (.aload_n 0, 1) := by decide +kernel
theorem d_T_proposeIt_39 : decode b_T_proposeIt 39 = .ok (.getfield 38, 3) := by decide +kernel
theorem d_T_proposeIt_42 : decode b_T_proposeIt 42 = .ok (.iload_n 1, 1) := by decide +kernel
theorem d_T_proposeIt_43 : decode b_T_proposeIt 43 = .ok (.iaload, 1) := by decide +kernel
theorem d_T_proposeIt_44 : decode b_T_proposeIt 44 = .ok (.aload_n 0, 1) := by decide +kernel
theorem d_T_proposeIt_45 : decode b_T_proposeIt 45 = .ok (.getfield 13, 3) := by decide +kernel
theorem d_T_proposeIt_48 : decode b_T_proposeIt 48 = .ok (.iload_n 1, 1) := by decide +kernel
theorem d_T_proposeIt_49 : decode b_T_proposeIt 49 = .ok (.iaload, 1) := by decide +kernel
theorem d_T_proposeIt_50 : decode b_T_proposeIt 50 = .ok (.iconst 1, 1) := by decide +kernel
theorem d_T_proposeIt_51 : decode b_T_proposeIt 51 = .ok (.iadd, 1) := by decide +kernel
theorem d_T_proposeIt_52 : decode b_T_proposeIt 52 = .ok (.iload_n 2, 1) := by decide +kernel
theorem d_T_proposeIt_53 : decode b_T_proposeIt 53 = .ok (.invokevirtual 96, 3) := by decide +kernel
theorem d_T_proposeIt_56 : decode b_T_proposeIt 56 = .ok (.return_, 1) := by decide +kernel
theorem d_T_propose_0 : decode b_T_propose 0 = .ok (.aload_n 0, 1) := by decide +kernel
theorem d_T_propose_1 : decode b_T_propose 1 = .ok (.getfield 59, 3) := by decide +kernel
theorem d_T_propose_4 : decode b_T_propose 4 = .ok (.iload_n 1, 1) := by decide +kernel
theorem d_T_propose_5 : decode b_T_propose 5 = .ok (.iaload, 1) := by decide +kernel
theorem d_T_propose_6 : decode b_T_propose 6 = .ok (.ifCond .le 17, 3) := by decide +kernel
theorem d_T_propose_9 : decode b_T_propose 9 = .ok (.aload_n 0, 1) := by decide +kernel
theorem d_T_propose_10 : decode b_T_propose 10 = .ok (.iload_n 1, 1) := by decide +kernel
theorem d_T_propose_11 : decode b_T_propose 11 = .ok (.aload_n 0, 1) := by decide +kernel
theorem d_T_propose_12 : decode b_T_propose 12 = .ok (.getfield 56, 3) := by decide +kernel
theorem d_T_propose_15 : decode b_T_propose 15 = .ok (.bipush 8, 2) := by decide +kernel
theorem d_T_propose_17 : decode b_T_propose 17 = .ok (.iload_n 1, 1) := by decide +kernel
theorem d_T_propose_18 : decode b_T_propose 18 = .ok (.imul, 1) := by decide +kernel
theorem d_T_propose_19 : decode b_T_propose 19 = .ok (.iaload, 1) := by decide +kernel
theorem d_T_propose_20 : decode b_T_propose 20 = .ok (.invokevirtual 100, 3) := by decide +kernel
theorem d_T_propose_23 : decode b_T_propose 23 = .ok (.return_, 1) := by decide +kernel
theorem d_T_learn_0 : decode b_T_learn 0 = .ok (.aload_n 0, 1) := by decide +kernel
theorem d_T_learn_1 : decode b_T_learn 1 = .ok (.getfield 13, 3) := by decide +kernel
theorem d_T_learn_4 : decode b_T_learn 4 = .ok (.iload_n 1, 1) := by decide +kernel
theorem d_T_learn_5 : decode b_T_learn 5 = .ok (.dup2, 1) := by decide +kernel
theorem d_T_learn_6 : decode b_T_learn 6 = .ok (.iaload, 1) := by decide +kernel
end
section
theorem d_T_learn_7 : decode b_T_learn 7 = .ok (.iconst 1, 1) := by decide +kernel
theorem d_T_learn_8 : decode b_T_learn 8 = .ok (.iadd, 1) := by decide +kernel
theorem d_T_learn_9 : decode b_T_learn 9 = .ok (.iastore, 1) := by decide +kernel
theorem d_T_learn_10 : decode b_T_learn 10 = .ok (.aload_n 0, 1) := by decide +kernel
theorem d_T_learn_11 : decode b_T_learn 11 = .ok (.getfield 17, 3) := by decide +kernel
theorem d_T_learn_14 : decode b_T_learn 14 = .ok (.iload_n 1, 1) := by decide +kernel
theorem d_T_learn_15 : decode b_T_learn 15 = .ok (.bipush 31, 2) := by decide +kernel
theorem d_T_learn_17 : decode b_T_learn 17 = .ok (.aload_n 0, 1) := by decide +kernel
theorem d_T_learn_18 : decode b_T_learn 18 = .ok (.getfield 17, 3) := by decide +kernel
theorem d_T_learn_21 : decode b_T_learn 21 = .ok (.iload_n 1, 1) := by decide +kernel
theorem d_T_learn_22 : decode b_T_learn 22 = .ok (.iaload, 1) := by decide +kernel
theorem d_T_learn_23 : decode b_T_learn 23 = .ok (.imul, 1) := by decide +kernel
theorem d_T_learn_24 : decode b_T_learn 24 = .ok (.iload_n 2, 1) := by decide +kernel
theorem d_T_learn_25 : decode b_T_learn 25 = .ok (.iadd, 1) := by decide +kernel
theorem d_T_learn_26 : decode b_T_learn 26 = .ok (.iastore, 1) := by decide +kernel
theorem d_T_learn_27 : decode b_T_learn 27 = .ok (.aload_n 0, 1) := by decide +kernel
theorem d_T_learn_28 : decode b_T_learn 28 = .ok (.getfield 32, 3) := by decide +kernel
theorem d_T_learn_31 : decode b_T_learn 31 = .ok (.bipush 40, 2) := by decide +kernel
theorem d_T_learn_33 : decode b_T_learn 33 = .ok (.iload_n 1, 1) := by decide +kernel
theorem d_T_learn_34 : decode b_T_learn 34 = .ok (.imul, 1) := by decide +kernel
theorem d_T_learn_35 : decode b_T_learn 35 = .ok (.aload_n 0, 1) := by decide +kernel
theorem d_T_learn_36 : decode b_T_learn 36 = .ok (.getfield 13, 3) := by decide +kernel
theorem d_T_learn_39 : decode b_T_learn 39 = .ok (.iload_n 1, 1) := by decide +kernel
theorem d_T_learn_40 : decode b_T_learn 40 = .ok (.iaload, 1) := by decide +kernel
theorem d_T_learn_41 : decode b_T_learn 41 = .ok (.bipush 40, 2) := by decide +kernel
theorem d_T_learn_43 : decode b_T_learn 43 = .ok (.irem, 1) := by decide +kernel
theorem d_T_learn_44 : decode b_T_learn 44 = .ok (.iadd, 1) := by decide +kernel
theorem d_T_learn_45 : decode b_T_learn 45 = .ok (.iload_n 2, 1) := by decide +kernel
theorem d_T_learn_46 : decode b_T_learn 46 = .ok (.iastore, 1) := by decide +kernel
theorem d_T_learn_47 : decode b_T_learn 47 = .ok (.aload_n 0, 1) := by decide +kernel
theorem d_T_learn_48 : decode b_T_learn 48 = .ok (.getfield 20, 3) := by decide +kernel
theorem d_T_learn_51 : decode b_T_learn 51 = .ok (.iload_n 1, 1) := by decide +kernel
theorem d_T_learn_52 : decode b_T_learn 52 = .ok (.iaload, 1) := by decide +kernel
theorem d_T_learn_53 : decode b_T_learn 53 = .ok (.aload_n 0, 1) := by decide +kernel
theorem d_T_learn_54 : decode b_T_learn 54 = .ok (.getfield 13, 3) := by decide +kernel
theorem d_T_learn_57 : decode b_T_learn 57 = .ok (.iload_n 1, 1) := by decide +kernel
theorem d_T_learn_58 : decode b_T_learn 58 = .ok (.iaload, 1) := by decide +kernel
theorem d_T_learn_59 : decode b_T_learn 59 = .ok (.aload_n 0, 1) := by decide +kernel
theorem d_T_learn_60 : decode b_T_learn 60 = .ok (.getfield 69, 3) := by decide +kernel
theorem d_T_learn_63 : decode b_T_learn 63 = .ok (.isub, 1) := by decide +kernel
theorem d_T_learn_64 : decode b_T_learn 64 = .ok (.if_icmp .ge 20, 3) := by decide +kernel
theorem d_T_learn_67 : decode b_T_learn 67 = .ok (.aload_n 0, 1) := by decide +kernel
theorem d_T_learn_68 : decode b_T_learn 68 = .ok (.getfield 20, 3) := by decide +kernel
theorem d_T_learn_71 : decode b_T_learn 71 = .ok (.iload_n 1, 1) := by decide +kernel
theorem d_T_learn_72 : decode b_T_learn 72 = .ok (.aload_n 0, 1) := by decide +kernel
theorem d_T_learn_73 : decode b_T_learn 73 = .ok (.getfield 13, 3) := by decide +kernel
theorem d_T_learn_76 : decode b_T_learn 76 = .ok (.iload_n 1, 1) := by decide +kernel
theorem d_T_learn_77 : decode b_T_learn 77 = .ok (.iaload, 1) := by decide +kernel
theorem d_T_learn_78 : decode b_T_learn 78 = .ok (.aload_n 0, 1) := by decide +kernel
theorem d_T_learn_79 : decode b_T_learn 79 = .ok (.getfield 69, 3) := by decide +kernel
theorem d_T_learn_82 : decode b_T_learn 82 = .ok (.isub, 1) := by decide +kernel
theorem d_T_learn_83 : decode b_T_learn 83 = .ok (.iastore, 1) := by decide +kernel
theorem d_T_learn_84 : decode b_T_learn 84 = .ok (.aload_n 0, 1) := by decide +kernel
theorem d_T_learn_85 : decode b_T_learn 85 = .ok (.getfield 29, 3) := by decide +kernel
theorem d_T_learn_88 : decode b_T_learn 88 = .ok (.iload_n 1, 1) := by decide +kernel
theorem d_T_learn_89 : decode b_T_learn 89 = .ok (.iconst 0, 1) := by decide +kernel
theorem d_T_learn_90 : decode b_T_learn 90 = .ok (.iastore, 1) := by decide +kernel
theorem d_T_learn_91 : decode b_T_learn 91 = .ok (.aload_n 0, 1) := by decide +kernel
theorem d_T_learn_92 : decode b_T_learn 92 = .ok (.getfield 26, 3) := by decide +kernel
theorem d_T_learn_95 : decode b_T_learn 95 = .ok (.iload_n 1, 1) := by decide +kernel
theorem d_T_learn_96 : decode b_T_learn 96 = .ok (.iconst 0, 1) := by decide +kernel
theorem d_T_learn_97 : decode b_T_learn 97 = .ok (.iastore, 1) := by decide +kernel
theorem d_T_learn_98 : decode b_T_learn 98 = .ok (.aload_n 0, 1) := by decide +kernel
theorem d_T_learn_99 : decode b_T_learn 99 = .ok (.getfield 35, 3) := by decide +kernel
theorem d_T_learn_102 : decode b_T_learn 102 = .ok (.iload_n 1, 1) := by decide +kernel
theorem d_T_learn_103 : decode b_T_learn 103 = .ok (.iaload, 1) := by decide +kernel
theorem d_T_learn_104 : decode b_T_learn 104 = .ok (.iconst 1, 1) := by decide +kernel
theorem d_T_learn_105 : decode b_T_learn 105 = .ok (.if_icmp .ne 8, 3) := by decide +kernel
theorem d_T_learn_108 : decode b_T_learn 108 = .ok (.aload_n 0, 1) := by decide +kernel
theorem d_T_learn_109 : decode b_T_learn 109 = .ok (.iload_n 1, 1) := by decide +kernel
theorem d_T_learn_110 : decode b_T_learn 110 = .ok (.invokevirtual 92, 3) := by decide +kernel
theorem d_T_learn_113 : decode b_T_learn 113 = .ok (.aload_n 0, 1) := by decide +kernel
theorem d_T_learn_114 : decode b_T_learn 114 = .ok (.getfield 44, 3) := by decide +kernel
theorem d_T_learn_117 : decode b_T_learn 117 = .ok (.iload_n 1, 1) := by decide +kernel
theorem d_T_learn_118 : decode b_T_learn 118 = .ok (.iconst 0, 1) := by decide +kernel
theorem d_T_learn_119 : decode b_T_learn 119 = .ok (.iastore, 1) := by decide +kernel
theorem d_T_learn_120 : decode b_T_learn 120 = .ok (.aload_n 0, 1) := by decide +kernel
theorem d_T_learn_121 : decode b_T_learn 121 = .ok (.getfield 41, 3) := by decide +kernel
theorem d_T_learn_124 : decode b_T_learn 124 = .ok (.iload_n 1, 1) := by decide +kernel
theorem d_T_learn_125 : decode b_T_learn 125 = .ok (.iconst 0, 1) := by decide +kernel
theorem d_T_learn_126 : decode b_T_learn 126 = .ok (.iastore, 1) := by decide +kernel
theorem d_T_learn_127 : decode b_T_learn 127 = .ok (.iconst 0, 1) := by decide +kernel
theorem d_T_learn_128 : decode b_T_learn 128 = .ok (.istore_n 3, 1) := by decide +kernel
theorem d_T_learn_129 : decode b_T_learn 129 = .ok (.iconst 0, 1) := by decide +kernel
theorem d_T_learn_130 : decode b_T_learn 130 = .ok (.istore 4, 2) := by decide +kernel
theorem d_T_learn_132 : decode b_T_learn 132 = .ok (.iload 4, 2) := by decide +kernel
theorem d_T_learn_134 : decode b_T_learn 134 = .ok (.aload_n 0, 1) := by decide +kernel
theorem d_T_learn_135 : decode b_T_learn 135 = .ok (.getfield 59, 3) := by decide +kernel
theorem d_T_learn_138 : decode b_T_learn 138 = .ok (.iload_n 1, 1) := by decide +kernel
theorem d_T_learn_139 : decode b_T_learn 139 = .ok (.iaload, 1) := by decide +kernel
theorem d_T_learn_140 : decode b_T_learn 140 = .ok (.if_icmp .ge 51, 3) := by decide +kernel
theorem d_T_learn_143 : decode b_T_learn 143 = .ok (.aload_n 0, 1) := by decide +kernel
theorem d_T_learn_144 : decode b_T_learn 144 = .ok (.getfield 56, 3) := by decide +kernel
theorem d_T_learn_147 : decode b_T_learn 147 = .ok (.bipush 8, 2) := by decide +kernel
theorem d_T_learn_149 : decode b_T_learn 149 = .ok (.iload_n 1, 1) := by decide +kernel
theorem d_T_learn_150 : decode b_T_learn 150 = .ok (.imul, 1) := by decide +kernel
theorem d_T_learn_151 : decode b_T_learn 151 = .ok (.iload 4, 2) := by decide +kernel
theorem d_T_learn_153 : decode b_T_learn 153 = .ok (.iadd, 1) := by decide +kernel
theorem d_T_learn_154 : decode b_T_learn 154 = .ok (.iaload, 1) := by decide +kernel
theorem d_T_learn_155 : decode b_T_learn 155 = .ok (.iload_n 2, 1) := by decide +kernel
theorem d_T_learn_156 : decode b_T_learn 156 = .ok (.if_icmp .eq 29, 3) := by decide +kernel
theorem d_T_learn_159 : decode b_T_learn 159 = .ok (.aload_n 0, 1) := by decide +kernel
theorem d_T_learn_160 : decode b_T_learn 160 = .ok (.getfield 56, 3) := by decide +kernel
theorem d_T_learn_163 : decode b_T_learn 163 = .ok (.bipush 8, 2) := by decide +kernel
theorem d_T_learn_165 : decode b_T_learn 165 = .ok (.iload_n 1, 1) := by decide +kernel
theorem d_T_learn_166 : decode b_T_learn 166 = .ok (.imul, 1) := by decide +kernel
theorem d_T_learn_167 : decode b_T_learn 167 = .ok (.iload_n 3, 1) := by decide +kernel
theorem d_T_learn_168 : decode b_T_learn 168 = .ok (.iadd, 1) := by decide +kernel
theorem d_T_learn_169 : decode b_T_learn 169 = .ok (.aload_n 0, 1) := by decide +kernel
theorem d_T_learn_170 : decode b_T_learn 170 = .ok (.getfield 56, 3) := by decide +kernel
theorem d_T_learn_173 : decode b_T_learn 173 = .ok (.bipush 8, 2) := by decide +kernel
theorem d_T_learn_175 : decode b_T_learn 175 = .ok (.iload_n 1, 1) := by decide +kernel
theorem d_T_learn_176 : decode b_T_learn 176 = .ok (.imul, 1) := by decide +kernel
theorem d_T_learn_177 : decode b_T_learn 177 = .ok (.iload 4, 2) := by decide +kernel
theorem d_T_learn_179 : decode b_T_learn 179 = .ok (.iadd, 1) := by decide +kernel
theorem d_T_learn_180 : decode b_T_learn 180 = .ok (.iaload, 1) := by decide +kernel
theorem d_T_learn_181 : decode b_T_learn 181 = .ok (.iastore, 1) := by decide +kernel
theorem d_T_learn_182 : decode b_T_learn 182 = .ok (.iinc 3 1, 3) := by decide +kernel
theorem d_T_learn_185 : decode b_T_learn 185 = .ok (.iinc 4 1, 3) := by decide +kernel
theorem d_T_learn_188 : decode b_T_learn 188 = .ok (.goto (-56), 3) := by decide +kernel
theorem d_T_learn_191 : decode b_T_learn 191 = .ok (.aload_n 0, 1) := by decide +kernel
theorem d_T_learn_192 : decode b_T_learn 192 = .ok (.getfield 59, 3) := by decide +kernel
theorem d_T_learn_195 : decode b_T_learn 195 = .ok (.iload_n 1, 1) := by decide +kernel
theorem d_T_learn_196 : decode b_T_learn 196 = .ok (.iload_n 3, 1) := by decide +kernel
theorem d_T_learn_197 : decode b_T_learn 197 = .ok (.iastore, 1) := by decide +kernel
theorem d_T_learn_198 : decode b_T_learn 198 = .ok (.return_, 1) := by decide +kernel
theorem d_T_help_0 : decode b_T_help 0 = .ok (.iload_n 3, 1) := by decide +kernel
theorem d_T_help_1 : decode b_T_help 1 = .ok (.aload_n 0, 1) := by decide +kernel
theorem d_T_help_2 : decode b_T_help 2 = .ok (.getfield 20, 3) := by decide +kernel
theorem d_T_help_5 : decode b_T_help 5 = .ok (.iload_n 1, 1) := by decide +kernel
theorem d_T_help_6 : decode b_T_help 6 = .ok (.iaload, 1) := by decide +kernel
theorem d_T_help_7 : decode b_T_help 7 = .ok (.if_icmp .le 40, 3) := by decide +kernel
theorem d_T_help_10 : decode b_T_help 10 = .ok (.iload_n 3, 1) := by decide +kernel
theorem d_T_help_11 : decode b_T_help 11 = .ok (.aload_n 0, 1) := by decide +kernel
theorem d_T_help_12 : decode b_T_help 12 = .ok (.getfield 13, 3) := by decide +kernel
theorem d_T_help_15 : decode b_T_help 15 = .ok (.iload_n 1, 1) := by decide +kernel
theorem d_T_help_16 : decode b_T_help 16 = .ok (.iaload, 1) := by decide +kernel
theorem d_T_help_17 : decode b_T_help 17 = .ok (.if_icmp .gt 30, 3) := by decide +kernel
theorem d_T_help_20 : decode b_T_help 20 = .ok (.aload_n 0, 1) := by decide +kernel
theorem d_T_help_21 : decode b_T_help 21 = .ok (.iconst 5, 1) := by decide +kernel
theorem d_T_help_22 : decode b_T_help 22 = .ok (.iload_n 1, 1) := by decide +kernel
theorem d_T_help_23 : decode b_T_help 23 = .ok (.iload_n 2, 1) := by decide +kernel
theorem d_T_help_24 : decode b_T_help 24 = .ok (.iconst 0, 1) := by decide +kernel
theorem d_T_help_25 : decode b_T_help 25 = .ok (.iload_n 3, 1) := by decide +kernel
theorem d_T_help_26 : decode b_T_help 26 = .ok (.aload_n 0, 1) := by decide +kernel
theorem d_T_help_27 : decode b_T_help 27 = .ok (.getfield 32, 3) := by decide +kernel
theorem d_T_help_30 : decode b_T_help 30 = .ok (.bipush 40, 2) := by decide +kernel
theorem d_T_help_32 : decode b_T_help 32 = .ok (.iload_n 1, 1) := by decide +kernel
theorem d_T_help_33 : decode b_T_help 33 = .ok (.imul, 1) := by decide +kernel
theorem d_T_help_34 : decode b_T_help 34 = .ok (.iload_n 3, 1) := by decide +kernel
theorem d_T_help_35 : decode b_T_help 35 = .ok (.bipush 40, 2) := by decide +kernel
theorem d_T_help_37 : decode b_T_help 37 = .ok (.irem, 1) := by decide +kernel
theorem d_T_help_38 : decode b_T_help 38 = .ok (.iadd, 1) := by decide +kernel
theorem d_T_help_39 : decode b_T_help 39 = .ok (.iaload, 1) := by decide +kernel
theorem d_T_help_40 : decode b_T_help 40 = .ok (.iconst 0, 1) := by decide +kernel
theorem d_T_help_41 : decode b_T_help 41 = .ok (.invokevirtual 88, 3) := by decide +kernel
theorem d_T_help_44 : decode b_T_help 44 = .ok (.goto 25, 3) := by decide +kernel
theorem d_T_help_47 : decode b_T_help 47 = .ok (.aload_n 0, 1) := by decide +kernel
theorem d_T_help_48 : decode b_T_help 48 = .ok (.bipush 8, 2) := by decide +kernel
theorem d_T_help_50 : decode b_T_help 50 = .ok (.iload_n 1, 1) := by decide +kernel
theorem d_T_help_51 : decode b_T_help 51 = .ok (.iload_n 2, 1) := by decide +kernel
theorem d_T_help_52 : decode b_T_help 52 = .ok (.iconst 0, 1) := by decide +kernel
theorem d_T_help_53 : decode b_T_help 53 = .ok (.aload_n 0, 1) := by decide +kernel
theorem d_T_help_54 : decode b_T_help 54 = .ok (.getfield 13, 3) := by decide +kernel
theorem d_T_help_57 : decode b_T_help 57 = .ok (.iload_n 1, 1) := by decide +kernel
theorem d_T_help_58 : decode b_T_help 58 = .ok (.iaload, 1) := by decide +kernel
theorem d_T_help_59 : decode b_T_help 59 = .ok (.aload_n 0, 1) := by decide +kernel
theorem d_T_help_60 : decode b_T_help 60 = .ok (.getfield 17, 3) := by decide +kernel
theorem d_T_help_63 : decode b_T_help 63 = .ok (.iload_n 1, 1) := by decide +kernel
theorem d_T_help_64 : decode b_T_help 64 = .ok (.iaload, 1) := by decide +kernel
theorem d_T_help_65 : decode b_T_help 65 = .ok (.iconst 0, 1) := by decide +kernel
theorem d_T_help_66 : decode b_T_help 66 = .ok (.invokevirtual 88, 3) := by decide +kernel
theorem d_T_help_69 : decode b_T_help 69 = .ok (.return_, 1) := by decide +kernel
theorem d_T_count_0 : decode b_T_count 0 = .ok (.iconst 0, 1) := by decide +kernel
theorem d_T_count_1 : decode b_T_count 1 = .ok (.istore_n 2, 1) := by decide +kernel
theorem d_T_count_2 : decode b_T_count 2 = .ok (.iconst 0, 1) := by decide +kernel
theorem d_T_count_3 : decode b_T_count 3 = .ok (.istore_n 3, 1) := by decide +kernel
theorem d_T_count_4 : decode b_T_count 4 = .ok (.iload_n 3, 1) := by decide +kernel
theorem d_T_count_5 : decode b_T_count 5 = .ok (.aload_n 0, 1) := by decide +kernel
theorem d_T_count_6 : decode b_T_count 6 = .ok (.getfield 65, 3) := by decide +kernel
theorem d_T_count_9 : decode b_T_count 9 = .ok (.if_icmp .ge 17, 3) := by decide +kernel
theorem d_T_count_12 : decode b_T_count 12 = .ok (.iload_n 2, 1) := by decide +kernel
theorem d_T_count_13 : decode b_T_count 13 = .ok (.iload_n 1, 1) := by decide +kernel
theorem d_T_count_14 : decode b_T_count 14 = .ok (.iload_n 3, 1) := by decide +kernel
theorem d_T_count_15 : decode b_T_count 15 = .ok (.ishr, 1) := by decide +kernel
theorem d_T_count_16 : decode b_T_count 16 = .ok (.iconst 1, 1) := by decide +kernel
theorem d_T_count_17 : decode b_T_count 17 = .ok (.iand, 1) := by decide +kernel
theorem d_T_count_18 : decode b_T_count 18 = .ok (.iadd, 1) := by decide +kernel
theorem d_T_count_19 : decode b_T_count 19 = .ok (.istore_n 2, 1) := by decide +kernel
theorem d_T_count_20 : decode b_T_count 20 = .ok (.iinc 3 1, 3) := by decide +kernel
theorem d_T_count_23 : decode b_T_count 23 = .ok (.goto (-19), 3) := by decide +kernel
theorem d_T_count_26 : decode b_T_count 26 = .ok (.iload_n 2, 1) := by decide +kernel
theorem d_T_count_27 : decode b_T_count 27 = .ok (.ireturn, 1) := by decide +kernel
theorem d_T_prepared_0 : decode b_T_prepared 0 = .ok (.iload 4, 2) := by decide +kernel
theorem d_T_prepared_2 : decode b_T_prepared 2 = .ok (.aload_n 0, 1) := by decide +kernel
theorem d_T_prepared_3 : decode b_T_prepared 3 = .ok (.getfield 13, 3) := by decide +kernel
theorem d_T_prepared_6 : decode b_T_prepared 6 = .ok (.iload_n 1, 1) := by decide +kernel
theorem d_T_prepared_7 : decode b_T_prepared 7 = .ok (.iaload, 1) := by decide +kernel
theorem d_T_prepared_8 : decode b_T_prepared 8 = .ok (.if_icmp .gt 14, 3) := by decide +kernel
theorem d_T_prepared_11 : decode b_T_prepared 11 = .ok (.aload_n 0, 1) := by decide +kernel
theorem d_T_prepared_12 : decode b_T_prepared 12 = .ok (.iload_n 1, 1) := by decide +kernel
theorem d_T_prepared_13 : decode b_T_prepared 13 = .ok (.iload_n 2, 1) := by decide +kernel
theorem d_T_prepared_14 : decode b_T_prepared 14 = .ok (.iload 4, 2) := by decide +kernel
theorem d_T_prepared_16 : decode b_T_prepared 16 = .ok (.invokevirtual 104, 3) := by decide +kernel
theorem d_T_prepared_19 : decode b_T_prepared 19 = .ok (.goto 114, 3) := by decide +kernel
theorem d_T_prepared_22 : decode b_T_prepared 22 = .ok (.iload_n 3, 1) := by decide +kernel
theorem d_T_prepared_23 : decode b_T_prepared 23 = .ok (.aload_n 0, 1) := by decide +kernel
theorem d_T_prepared_24 : decode b_T_prepared 24 = .ok (.getfield 23, 3) := by decide +kernel
theorem d_T_prepared_27 : decode b_T_prepared 27 = .ok (.iload_n 1, 1) := by decide +kernel
theorem d_T_prepared_28 : decode b_T_prepared 28 = .ok (.iaload, 1) := by decide +kernel
theorem d_T_prepared_29 : decode b_T_prepared 29 = .ok (.if_icmp .lt 87, 3) := by decide +kernel
theorem d_T_prepared_32 : decode b_T_prepared 32 = .ok (.aload_n 0, 1) := by decide +kernel
theorem d_T_prepared_33 : decode b_T_prepared 33 = .ok (.getfield 23, 3) := by decide +kernel
theorem d_T_prepared_36 : decode b_T_prepared 36 = .ok (.iload_n 1, 1) := by decide +kernel
theorem d_T_prepared_37 : decode b_T_prepared 37 = .ok (.iload_n 3, 1) := by decide +kernel
theorem d_T_prepared_38 : decode b_T_prepared 38 = .ok (.iastore, 1) := by decide +kernel
theorem d_T_prepared_39 : decode b_T_prepared 39 = .ok (.aload_n 0, 1) := by decide +kernel
theorem d_T_prepared_40 : decode b_T_prepared 40 = .ok (.iload_n 1, 1) := by decide +kernel
theorem d_T_prepared_41 : decode b_T_prepared 41 = .ok (.invokevirtual 92, 3) := by decide +kernel
theorem d_T_prepared_44 : decode b_T_prepared 44 = .ok (.iload 4, 2) := by decide +kernel
theorem d_T_prepared_46 : decode b_T_prepared 46 = .ok (.aload_n 0, 1) := by decide +kernel
theorem d_T_prepared_47 : decode b_T_prepared 47 = .ok (.getfield 13, 3) := by decide +kernel
theorem d_T_prepared_50 : decode b_T_prepared 50 = .ok (.iload_n 1, 1) := by decide +kernel
theorem d_T_prepared_51 : decode b_T_prepared 51 = .ok (.iaload, 1) := by decide +kernel
theorem d_T_prepared_52 : decode b_T_prepared 52 = .ok (.iconst 1, 1) := by decide +kernel
theorem d_T_prepared_53 : decode b_T_prepared 53 = .ok (.iadd, 1) := by decide +kernel
theorem d_T_prepared_54 : decode b_T_prepared 54 = .ok (.if_icmp .ne 16, 3) := by decide +kernel
theorem d_T_prepared_57 : decode b_T_prepared 57 = .ok (.aload_n 0, 1) := by decide +kernel
theorem d_T_prepared_58 : decode b_T_prepared 58 = .ok (.getfield 29, 3) := by decide +kernel
theorem d_T_prepared_61 : decode b_T_prepared 61 = .ok (.iload_n 1, 1) := by decide +kernel
theorem d_T_prepared_62 : decode b_T_prepared 62 = .ok (.iaload, 1) := by decide +kernel
theorem d_T_prepared_63 : decode b_T_prepared 63 = .ok (.ifCond .le 7, 3) := by decide +kernel
theorem d_T_prepared_66 : decode b_T_prepared 66 = .ok (.iconst 1, 1) := by decide +kernel
theorem d_T_prepared_67 : decode b_T_prepared 67 = .ok (.goto 4, 3) := by decide +kernel
theorem d_T_prepared_70 : decode b_T_prepared 70 = .ok (.iconst 0, 1) := by decide +kernel
theorem d_T_prepared_71 : decode b_T_prepared 71 = .ok (.istore 5, 2) := by decide +kernel
theorem d_T_prepared_73 : decode b_T_prepared 73 = .ok (.aload_n 0, 1) := by decide +kernel
theorem d_T_prepared_74 : decode b_T_prepared 74 = .ok (.iconst 2, 1) := by decide +kernel
theorem d_T_prepared_75 : decode b_T_prepared 75 = .ok (.iload_n 1, 1) := by decide +kernel
theorem d_T_prepared_76 : decode b_T_prepared 76 = .ok (.iload_n 2, 1) := by decide +kernel
theorem d_T_prepared_77 : decode b_T_prepared 77 = .ok (.iload_n 3, 1) := by decide +kernel
theorem d_T_prepared_78 : decode b_T_prepared 78 = .ok (.iload 4, 2) := by decide +kernel
theorem d_T_prepared_80 : decode b_T_prepared 80 = .ok (.iload 5, 2) := by decide +kernel
theorem d_T_prepared_82 : decode b_T_prepared 82 = .ok (.ifCond .eq 12, 3) := by decide +kernel
theorem d_T_prepared_85 : decode b_T_prepared 85 = .ok (.aload_n 0, 1) := by decide +kernel
theorem d_T_prepared_86 : decode b_T_prepared 86 = .ok (.getfield 29, 3) := by decide +kernel
theorem d_T_prepared_89 : decode b_T_prepared 89 = .ok (.iload_n 1, 1) := by decide +kernel
theorem d_T_prepared_90 : decode b_T_prepared 90 = .ok (.iaload, 1) := by decide +kernel
theorem d_T_prepared_91 : decode b_T_prepared 91 = .ok (.goto 4, 3) := by decide +kernel
theorem d_T_prepared_94 : decode b_T_prepared 94 = .ok (.iconst 0, 1) := by decide +kernel
theorem d_T_prepared_95 : decode b_T_prepared 95 = .ok (.iload 5, 2) := by decide +kernel
theorem d_T_prepared_97 : decode b_T_prepared 97 = .ok (.ifCond .eq 12, 3) := by decide +kernel
theorem d_T_prepared_100 : decode b_T_prepared 100 = .ok (.aload_n 0, 1) := by decide +kernel
theorem d_T_prepared_101 : decode b_T_prepared 101 = .ok (.getfield 26, 3) := by decide +kernel
theorem d_T_prepared_104 : decode b_T_prepared 104 = .ok (.iload_n 1, 1) := by decide +kernel
theorem d_T_prepared_105 : decode b_T_prepared 105 = .ok (.iaload, 1) := by decide +kernel
theorem d_T_prepared_106 : decode b_T_prepared 106 = .ok (.goto 4, 3) := by decide +kernel
theorem d_T_prepared_109 : decode b_T_prepared 109 = .ok (.iconst 0, 1) := by decide +kernel
theorem d_T_prepared_110 : decode b_T_prepared 110 = .ok (.invokevirtual 88, 3) := by decide +kernel
theorem d_T_prepared_113 : decode b_T_prepared 113 = .ok (.goto 20, 3) := by decide +kernel
theorem d_T_prepared_116 : decode b_T_prepared 116 = .ok (.aload_n 0, 1) := by decide +kernel
theorem d_T_prepared_117 : decode b_T_prepared 117 = .ok (.bipush 7, 2) := by decide +kernel
theorem d_T_prepared_119 : decode b_T_prepared 119 = .ok (.iload_n 1, 1) := by decide +kernel
theorem d_T_prepared_120 : decode b_T_prepared 120 = .ok (.iload_n 2, 1) := by decide +kernel
theorem d_T_prepared_121 : decode b_T_prepared 121 = .ok (.aload_n 0, 1) := by decide +kernel
theorem d_T_prepared_122 : decode b_T_prepared 122 = .ok (.getfield 23, 3) := by decide +kernel
theorem d_T_prepared_125 : decode b_T_prepared 125 = .ok (.iload_n 1, 1) := by decide +kernel
theorem d_T_prepared_126 : decode b_T_prepared 126 = .ok (.iaload, 1) := by decide +kernel
theorem d_T_prepared_127 : decode b_T_prepared 127 = .ok (.iconst 0, 1) := by decide +kernel
theorem d_T_prepared_128 : decode b_T_prepared 128 = .ok (.iconst 0, 1) := by decide +kernel
theorem d_T_prepared_129 : decode b_T_prepared 129 = .ok (.iconst 0, 1) := by decide +kernel
theorem d_T_prepared_130 : decode b_T_prepared 130 = .ok (.invokevirtual 88, 3) := by decide +kernel
theorem d_T_prepared_133 : decode b_T_prepared 133 = .ok (.return_, 1) := by decide +kernel
theorem d_T_gotPromise_0 : decode b_T_gotPromise 0 = .ok (.aload_n 0, 1) := by decide +kernel
theorem d_T_gotPromise_1 : decode b_T_gotPromise 1 = .ok (.getfield 35, 3) := by decide +kernel
theorem d_T_gotPromise_4 : decode b_T_gotPromise 4 = .ok (.iload_n 1, 1) := by decide +kernel
theorem d_T_gotPromise_5 : decode b_T_gotPromise 5 = .ok (.iaload, 1) := by decide +kernel
theorem d_T_gotPromise_6 : decode b_T_gotPromise 6 = .ok (.iconst 1, 1) := by decide +kernel
theorem d_T_gotPromise_7 : decode b_T_gotPromise 7 = .ok (.if_icmp .ne 40, 3) := by decide +kernel
theorem d_T_gotPromise_10 : decode b_T_gotPromise 10 = .ok (.aload_n 0, 1) := by decide +kernel
theorem d_T_gotPromise_11 : decode b_T_gotPromise 11 = .ok (.getfield 38, 3) := by decide +kernel
theorem d_T_gotPromise_14 : decode b_T_gotPromise 14 = .ok (.iload_n 1, 1) := by decide +kernel
theorem d_T_gotPromise_15 : decode b_T_gotPromise 15 = .ok (.iaload, 1) := by decide +kernel
theorem d_T_gotPromise_16 : decode b_T_gotPromise 16 = .ok (.iload_n 3, 1) := by decide +kernel
theorem d_T_gotPromise_17 : decode b_T_gotPromise 17 = .ok (.if_icmp .ne 30, 3) := by decide +kernel
theorem d_T_gotPromise_20 : decode b_T_gotPromise 20 = .ok (.iload 4, 2) := by decide +kernel
theorem d_T_gotPromise_22 : decode b_T_gotPromise 22 = .ok (.aload_n 0, 1) := by decide +kernel
theorem d_T_gotPromise_23 : decode b_T_gotPromise 23 = .ok (.getfield 13, 3) := by decide +kernel
theorem d_T_gotPromise_26 : decode b_T_gotPromise 26 = .ok (.iload_n 1, 1) := by decide +kernel
theorem d_T_gotPromise_27 : decode b_T_gotPromise 27 = .ok (.iaload, 1) := by decide +kernel
theorem d_T_gotPromise_28 : decode b_T_gotPromise 28 = .ok (.iconst 1, 1) := by decide +kernel
theorem d_T_gotPromise_29 : decode b_T_gotPromise 29 = .ok (.iadd, 1) := by decide +kernel
theorem d_T_gotPromise_30 : decode b_T_gotPromise 30 = .ok (.if_icmp .ne 17, 3) := by decide +kernel
theorem d_T_gotPromise_33 : decode b_T_gotPromise 33 = .ok (.aload_n 0, 1) := by decide +kernel
theorem d_T_gotPromise_34 : decode b_T_gotPromise 34 = .ok (.getfield 41, 3) := by decide +kernel
theorem d_T_gotPromise_37 : decode b_T_gotPromise 37 = .ok (.iload_n 1, 1) := by decide +kernel
theorem d_T_gotPromise_38 : decode b_T_gotPromise 38 = .ok (.iaload, 1) := by decide +kernel
theorem d_T_gotPromise_39 : decode b_T_gotPromise 39 = .ok (.iload_n 2, 1) := by decide +kernel
theorem d_T_gotPromise_40 : decode b_T_gotPromise 40 = .ok (.ishr, 1) := by decide +kernel
theorem d_T_gotPromise_41 : decode b_T_gotPromise 41 = .ok (.iconst 1, 1) := by decide +kernel
theorem d_T_gotPromise_42 : decode b_T_gotPromise 42 = .ok (.iand, 1) := by decide +kernel
theorem d_T_gotPromise_43 : decode b_T_gotPromise 43 = .ok (.iconst 1, 1) := by decide +kernel
theorem d_T_gotPromise_44 : decode b_T_gotPromise 44 = .ok (.if_icmp .ne 4, 3) := by decide +kernel
theorem d_T_gotPromise_47 : decode b_T_gotPromise 47 = .ok (.return_, 1) := by decide +kernel
theorem d_T_gotPromise_48 : decode b_T_gotPromise 48 = .ok (.aload_n 0, 1) := by decide +kernel
theorem d_T_gotPromise_49 : decode b_T_gotPromise 49 = .ok (.getfield 41, 3) := by decide +kernel
theorem d_T_gotPromise_52 : decode b_T_gotPromise 52 = .ok (.iload_n 1, 1) := by decide +kernel
theorem d_T_gotPromise_53 : decode b_T_gotPromise 53 = .ok (.dup2, 1) := by decide +kernel
theorem d_T_gotPromise_54 : decode b_T_gotPromise 54 = .ok (.iaload, 1) := by decide +kernel
theorem d_T_gotPromise_55 : decode b_T_gotPromise 55 = .ok (.iconst 1, 1) := by decide +kernel
theorem d_T_gotPromise_56 : decode b_T_gotPromise 56 = .ok (.iload_n 2, 1) := by decide +kernel
theorem d_T_gotPromise_57 : decode b_T_gotPromise 57 = .ok (.ishl, 1) := by decide +kernel
theorem d_T_gotPromise_58 : decode b_T_gotPromise 58 = .ok (.ior, 1) := by decide +kernel
theorem d_T_gotPromise_59 : decode b_T_gotPromise 59 = .ok (.iastore, 1) := by decide +kernel
theorem d_T_gotPromise_60 : decode b_T_gotPromise 60 = .ok (.iload 6, 2) := by decide +kernel
theorem d_T_gotPromise_62 : decode b_T_gotPromise 62 = .ok (.aload_n 0, 1) := by decide +kernel
theorem d_T_gotPromise_63 : decode b_T_gotPromise 63 = .ok (.getfield 50, 3) := by decide +kernel
theorem d_T_gotPromise_66 : decode b_T_gotPromise 66 = .ok (.iload_n 1, 1) := by decide +kernel
theorem d_T_gotPromise_67 : decode b_T_gotPromise 67 = .ok (.iaload, 1) := by decide +kernel
theorem d_T_gotPromise_68 : decode b_T_gotPromise 68 = .ok (.if_icmp .le 19, 3) := by decide +kernel
theorem d_T_gotPromise_71 : decode b_T_gotPromise 71 = .ok (.aload_n 0, 1) := by decide +kernel
theorem d_T_gotPromise_72 : decode b_T_gotPromise 72 = .ok (.getfield 47, 3) := by decide +kernel
theorem d_T_gotPromise_75 : decode b_T_gotPromise 75 = .ok (.iload_n 1, 1) := by decide +kernel
theorem d_T_gotPromise_76 : decode b_T_gotPromise 76 = .ok (.iload 5, 2) := by decide +kernel
theorem d_T_gotPromise_78 : decode b_T_gotPromise 78 = .ok (.iastore, 1) := by decide +kernel
theorem d_T_gotPromise_79 : decode b_T_gotPromise 79 = .ok (.aload_n 0, 1) := by decide +kernel
theorem d_T_gotPromise_80 : decode b_T_gotPromise 80 = .ok (.getfield 50, 3) := by decide +kernel
theorem d_T_gotPromise_83 : decode b_T_gotPromise 83 = .ok (.iload_n 1, 1) := by decide +kernel
theorem d_T_gotPromise_84 : decode b_T_gotPromise 84 = .ok (.iload 6, 2) := by decide +kernel
theorem d_T_gotPromise_86 : decode b_T_gotPromise 86 = .ok (.iastore, 1) := by decide +kernel
theorem d_T_gotPromise_87 : decode b_T_gotPromise 87 = .ok (.iconst 2, 1) := by decide +kernel
theorem d_T_gotPromise_88 : decode b_T_gotPromise 88 = .ok (.aload_n 0, 1) := by decide +kernel
theorem d_T_gotPromise_89 : decode b_T_gotPromise 89 = .ok (.aload_n 0, 1) := by decide +kernel
theorem d_T_gotPromise_90 : decode b_T_gotPromise 90 = .ok (.getfield 41, 3) := by decide +kernel
theorem d_T_gotPromise_93 : decode b_T_gotPromise 93 = .ok (.iload_n 1, 1) := by decide +kernel
theorem d_T_gotPromise_94 : decode b_T_gotPromise 94 = .ok (.iaload, 1) := by decide +kernel
theorem d_T_gotPromise_95 : decode b_T_gotPromise 95 = .ok (.invokevirtual 108, 3) := by decide +kernel
theorem d_T_gotPromise_98 : decode b_T_gotPromise 98 = .ok (.imul, 1) := by decide +kernel
theorem d_T_gotPromise_99 : decode b_T_gotPromise 99 = .ok (.aload_n 0, 1) := by decide +kernel
theorem d_T_gotPromise_100 : decode b_T_gotPromise 100 = .ok (.getfield 65, 3) := by decide +kernel
theorem d_T_gotPromise_103 : decode b_T_gotPromise 103 = .ok (.if_icmp .le 45, 3) := by decide +kernel
theorem d_T_gotPromise_106 : decode b_T_gotPromise 106 = .ok (.aload_n 0, 1) := by decide +kernel
theorem d_T_gotPromise_107 : decode b_T_gotPromise 107 = .ok (.getfield 35, 3) := by decide +kernel
theorem d_T_gotPromise_110 : decode b_T_gotPromise 110 = .ok (.iload_n 1, 1) := by decide +kernel
theorem d_T_gotPromise_111 : decode b_T_gotPromise 111 = .ok (.iconst 2, 1) := by decide +kernel
theorem d_T_gotPromise_112 : decode b_T_gotPromise 112 = .ok (.iastore, 1) := by decide +kernel
theorem d_T_gotPromise_113 : decode b_T_gotPromise 113 = .ok (.aload_n 0, 1) := by decide +kernel
theorem d_T_gotPromise_114 : decode b_T_gotPromise 114 = .ok (.getfield 41, 3) := by decide +kernel
theorem d_T_gotPromise_117 : decode b_T_gotPromise 117 = .ok (.iload_n 1, 1) := by decide +kernel
theorem d_T_gotPromise_118 : decode b_T_gotPromise 118 = .ok (.iconst 0, 1) := by decide +kernel
theorem d_T_gotPromise_119 : decode b_T_gotPromise 119 = .ok (.iastore, 1) := by decide +kernel
theorem d_T_gotPromise_120 : decode b_T_gotPromise 120 = .ok (.aload_n 0, 1) := by decide +kernel
theorem d_T_gotPromise_121 : decode b_T_gotPromise 121 = .ok (.getfield 47, 3) := by decide +kernel
theorem d_T_gotPromise_124 : decode b_T_gotPromise 124 = .ok (.iload_n 1, 1) := by decide +kernel
theorem d_T_gotPromise_125 : decode b_T_gotPromise 125 = .ok (.iaload, 1) := by decide +kernel
theorem d_T_gotPromise_126 : decode b_T_gotPromise 126 = .ok (.ifCond .le 17, 3) := by decide +kernel
theorem d_T_gotPromise_129 : decode b_T_gotPromise 129 = .ok (.aload_n 0, 1) := by decide +kernel
theorem d_T_gotPromise_130 : decode b_T_gotPromise 130 = .ok (.iload_n 1, 1) := by decide +kernel
theorem d_T_gotPromise_131 : decode b_T_gotPromise 131 = .ok (.aload_n 0, 1) := by decide +kernel
theorem d_T_gotPromise_132 : decode b_T_gotPromise 132 = .ok (.getfield 47, 3) := by decide +kernel
theorem d_T_gotPromise_135 : decode b_T_gotPromise 135 = .ok (.iload_n 1, 1) := by decide +kernel
theorem d_T_gotPromise_136 : decode b_T_gotPromise 136 = .ok (.iaload, 1) := by decide +kernel
theorem d_T_gotPromise_137 : decode b_T_gotPromise 137 = .ok (.invokevirtual 100, 3) := by decide +kernel
theorem d_T_gotPromise_140 : decode b_T_gotPromise 140 = .ok (.goto 8, 3) := by decide +kernel
theorem d_T_gotPromise_143 : decode b_T_gotPromise 143 = .ok (.aload_n 0, 1) := by decide +kernel
theorem d_T_gotPromise_144 : decode b_T_gotPromise 144 = .ok (.iload_n 1, 1) := by decide +kernel
theorem d_T_gotPromise_145 : decode b_T_gotPromise 145 = .ok (.invokevirtual 112, 3) := by decide +kernel
theorem d_T_gotPromise_148 : decode b_T_gotPromise 148 = .ok (.return_, 1) := by decide +kernel
theorem d_T_gotAccept_0 : decode b_T_gotAccept 0 = .ok (.iload 4, 2) := by decide +kernel
theorem d_T_gotAccept_2 : decode b_T_gotAccept 2 = .ok (.aload_n 0, 1) := by decide +kernel
theorem d_T_gotAccept_3 : decode b_T_gotAccept 3 = .ok (.getfield 13, 3) := by decide +kernel
theorem d_T_gotAccept_6 : decode b_T_gotAccept 6 = .ok (.iload_n 1, 1) := by decide +kernel
theorem d_T_gotAccept_7 : decode b_T_gotAccept 7 = .ok (.iaload, 1) := by decide +kernel
theorem d_T_gotAccept_8 : decode b_T_gotAccept 8 = .ok (.if_icmp .gt 14, 3) := by decide +kernel
theorem d_T_gotAccept_11 : decode b_T_gotAccept 11 = .ok (.aload_n 0, 1) := by decide +kernel
theorem d_T_gotAccept_12 : decode b_T_gotAccept 12 = .ok (.iload_n 1, 1) := by decide +kernel
theorem d_T_gotAccept_13 : decode b_T_gotAccept 13 = .ok (.iload_n 2, 1) := by decide +kernel
theorem d_T_gotAccept_14 : decode b_T_gotAccept 14 = .ok (.iload 4, 2) := by decide +kernel
theorem d_T_gotAccept_16 : decode b_T_gotAccept 16 = .ok (.invokevirtual 104, 3) := by decide +kernel
theorem d_T_gotAccept_19 : decode b_T_gotAccept 19 = .ok (.goto 137, 3) := by decide +kernel
theorem d_T_gotAccept_22 : decode b_T_gotAccept 22 = .ok (.iload 4, 2) := by decide +kernel
theorem d_T_gotAccept_24 : decode b_T_gotAccept 24 = .ok (.aload_n 0, 1) := by decide +kernel
theorem d_T_gotAccept_25 : decode b_T_gotAccept 25 = .ok (.getfield 13, 3) := by decide +kernel
theorem d_T_gotAccept_28 : decode b_T_gotAccept 28 = .ok (.iload_n 1, 1) := by decide +kernel
theorem d_T_gotAccept_29 : decode b_T_gotAccept 29 = .ok (.iaload, 1) := by decide +kernel
theorem d_T_gotAccept_30 : decode b_T_gotAccept 30 = .ok (.iconst 1, 1) := by decide +kernel
theorem d_T_gotAccept_31 : decode b_T_gotAccept 31 = .ok (.iadd, 1) := by decide +kernel
theorem d_T_gotAccept_32 : decode b_T_gotAccept 32 = .ok (.if_icmp .le 25, 3) := by decide +kernel
theorem d_T_gotAccept_35 : decode b_T_gotAccept 35 = .ok (.aload_n 0, 1) := by decide +kernel
theorem d_T_gotAccept_36 : decode b_T_gotAccept 36 = .ok (.bipush 6, 2) := by decide +kernel
theorem d_T_gotAccept_38 : decode b_T_gotAccept 38 = .ok (.iload_n 1, 1) := by decide +kernel
theorem d_T_gotAccept_39 : decode b_T_gotAccept 39 = .ok (.iload_n 2, 1) := by decide +kernel
theorem d_T_gotAccept_40 : decode b_T_gotAccept 40 = .ok (.iconst 0, 1) := by decide +kernel
theorem d_T_gotAccept_41 : decode b_T_gotAccept 41 = .ok (.aload_n 0, 1) := by decide +kernel
theorem d_T_gotAccept_42 : decode b_T_gotAccept 42 = .ok (.getfield 13, 3) := by decide +kernel
theorem d_T_gotAccept_45 : decode b_T_gotAccept 45 = .ok (.iload_n 1, 1) := by decide +kernel
theorem d_T_gotAccept_46 : decode b_T_gotAccept 46 = .ok (.iaload, 1) := by decide +kernel
theorem d_T_gotAccept_47 : decode b_T_gotAccept 47 = .ok (.iconst 1, 1) := by decide +kernel
theorem d_T_gotAccept_48 : decode b_T_gotAccept 48 = .ok (.iadd, 1) := by decide +kernel
theorem d_T_gotAccept_49 : decode b_T_gotAccept 49 = .ok (.iconst 0, 1) := by decide +kernel
theorem d_T_gotAccept_50 : decode b_T_gotAccept 50 = .ok (.iconst 0, 1) := by decide +kernel
theorem d_T_gotAccept_51 : decode b_T_gotAccept 51 = .ok (.invokevirtual 88, 3) := by decide +kernel
theorem d_T_gotAccept_54 : decode b_T_gotAccept 54 = .ok (.goto 102, 3) := by decide +kernel
theorem d_T_gotAccept_57 : decode b_T_gotAccept 57 = .ok (.iload_n 3, 1) := by decide +kernel
theorem d_T_gotAccept_58 : decode b_T_gotAccept 58 = .ok (.aload_n 0, 1) := by decide +kernel
theorem d_T_gotAccept_59 : decode b_T_gotAccept 59 = .ok (.getfield 23, 3) := by decide +kernel
theorem d_T_gotAccept_62 : decode b_T_gotAccept 62 = .ok (.iload_n 1, 1) := by decide +kernel
theorem d_T_gotAccept_63 : decode b_T_gotAccept 63 = .ok (.iaload, 1) := by decide +kernel
theorem d_T_gotAccept_64 : decode b_T_gotAccept 64 = .ok (.if_icmp .lt 75, 3) := by decide +kernel
theorem d_T_gotAccept_67 : decode b_T_gotAccept 67 = .ok (.aload_n 0, 1) := by decide +kernel
theorem d_T_gotAccept_68 : decode b_T_gotAccept 68 = .ok (.getfield 23, 3) := by decide +kernel
theorem d_T_gotAccept_71 : decode b_T_gotAccept 71 = .ok (.iload_n 1, 1) := by decide +kernel
theorem d_T_gotAccept_72 : decode b_T_gotAccept 72 = .ok (.iload_n 3, 1) := by decide +kernel
theorem d_T_gotAccept_73 : decode b_T_gotAccept 73 = .ok (.iastore, 1) := by decide +kernel
theorem d_T_gotAccept_74 : decode b_T_gotAccept 74 = .ok (.aload_n 0, 1) := by decide +kernel
theorem d_T_gotAccept_75 : decode b_T_gotAccept 75 = .ok (.getfield 35, 3) := by decide +kernel
theorem d_T_gotAccept_78 : decode b_T_gotAccept 78 = .ok (.iload_n 1, 1) := by decide +kernel
theorem d_T_gotAccept_79 : decode b_T_gotAccept 79 = .ok (.iaload, 1) := by decide +kernel
theorem d_T_gotAccept_80 : decode b_T_gotAccept 80 = .ok (.iconst 1, 1) := by decide +kernel
theorem d_T_gotAccept_81 : decode b_T_gotAccept 81 = .ok (.if_icmp .eq 23, 3) := by decide +kernel
theorem d_T_gotAccept_84 : decode b_T_gotAccept 84 = .ok (.aload_n 0, 1) := by decide +kernel
theorem d_T_gotAccept_85 : decode b_T_gotAccept 85 = .ok (.getfield 35, 3) := by decide +kernel
theorem d_T_gotAccept_88 : decode b_T_gotAccept 88 = .ok (.iload_n 1, 1) := by decide +kernel
theorem d_T_gotAccept_89 : decode b_T_gotAccept 89 = .ok (.iaload, 1) := by decide +kernel
theorem d_T_gotAccept_90 : decode b_T_gotAccept 90 = .ok (.iconst 2, 1) := by decide +kernel
theorem d_T_gotAccept_91 : decode b_T_gotAccept 91 = .ok (.if_icmp .ne 18, 3) := by decide +kernel
theorem d_T_gotAccept_94 : decode b_T_gotAccept 94 = .ok (.aload_n 0, 1) := by decide +kernel
theorem d_T_gotAccept_95 : decode b_T_gotAccept 95 = .ok (.getfield 38, 3) := by decide +kernel
theorem d_T_gotAccept_98 : decode b_T_gotAccept 98 = .ok (.iload_n 1, 1) := by decide +kernel
theorem d_T_gotAccept_99 : decode b_T_gotAccept 99 = .ok (.iaload, 1) := by decide +kernel
theorem d_T_gotAccept_100 : decode b_T_gotAccept 100 = .ok (.iload_n 3, 1) := by decide +kernel
theorem d_T_gotAccept_101 : decode b_T_gotAccept 101 = .ok (.if_icmp .eq 8, 3) := by decide +kernel
theorem d_T_gotAccept_104 : decode b_T_gotAccept 104 = .ok (.aload_n 0, 1) := by decide +kernel
theorem d_T_gotAccept_105 : decode b_T_gotAccept 105 = .ok (.iload_n 1, 1) := by decide +kernel
theorem d_T_gotAccept_106 : decode b_T_gotAccept 106 = .ok (.invokevirtual 92, 3) := by decide +kernel
theorem d_T_gotAccept_109 : decode b_T_gotAccept 109 = .ok (.aload_n 0, 1) := by decide +kernel
theorem d_T_gotAccept_110 : decode b_T_gotAccept 110 = .ok (.getfield 29, 3) := by decide +kernel
theorem d_T_gotAccept_113 : decode b_T_gotAccept 113 = .ok (.iload_n 1, 1) := by decide +kernel
theorem d_T_gotAccept_114 : decode b_T_gotAccept 114 = .ok (.iload 5, 2) := by decide +kernel
theorem d_T_gotAccept_116 : decode b_T_gotAccept 116 = .ok (.iastore, 1) := by decide +kernel
theorem d_T_gotAccept_117 : decode b_T_gotAccept 117 = .ok (.aload_n 0, 1) := by decide +kernel
theorem d_T_gotAccept_118 : decode b_T_gotAccept 118 = .ok (.getfield 26, 3) := by decide +kernel
theorem d_T_gotAccept_121 : decode b_T_gotAccept 121 = .ok (.iload_n 1, 1) := by decide +kernel
theorem d_T_gotAccept_122 : decode b_T_gotAccept 122 = .ok (.iload_n 3, 1) := by decide +kernel
theorem d_T_gotAccept_123 : decode b_T_gotAccept 123 = .ok (.iastore, 1) := by decide +kernel
theorem d_T_gotAccept_124 : decode b_T_gotAccept 124 = .ok (.aload_n 0, 1) := by decide +kernel
theorem d_T_gotAccept_125 : decode b_T_gotAccept 125 = .ok (.iconst 4, 1) := by decide +kernel
theorem d_T_gotAccept_126 : decode b_T_gotAccept 126 = .ok (.iload_n 1, 1) := by decide +kernel
theorem d_T_gotAccept_127 : decode b_T_gotAccept 127 = .ok (.iload_n 2, 1) := by decide +kernel
theorem d_T_gotAccept_128 : decode b_T_gotAccept 128 = .ok (.iload_n 3, 1) := by decide +kernel
end
section
theorem d_T_gotAccept_129 : decode b_T_gotAccept 129 = .ok (.iload 4, 2) := by decide +kernel
theorem d_T_gotAccept_131 : decode b_T_gotAccept 131 = .ok (.iconst 0, 1) := by decide +kernel
theorem d_T_gotAccept_132 : decode b_T_gotAccept 132 = .ok (.iconst 0, 1) := by decide +kernel
theorem d_T_gotAccept_133 : decode b_T_gotAccept 133 = .ok (.invokevirtual 88, 3) := by decide +kernel
theorem d_T_gotAccept_136 : decode b_T_gotAccept 136 = .ok (.goto 20, 3) := by decide +kernel
theorem d_T_gotAccept_139 : decode b_T_gotAccept 139 = .ok (.aload_n 0, 1) := by decide +kernel
theorem d_T_gotAccept_140 : decode b_T_gotAccept 140 = .ok (.bipush 7, 2) := by decide +kernel
theorem d_T_gotAccept_142 : decode b_T_gotAccept 142 = .ok (.iload_n 1, 1) := by decide +kernel
theorem d_T_gotAccept_143 : decode b_T_gotAccept 143 = .ok (.iload_n 2, 1) := by decide +kernel
theorem d_T_gotAccept_144 : decode b_T_gotAccept 144 = .ok (.aload_n 0, 1) := by decide +kernel
theorem d_T_gotAccept_145 : decode b_T_gotAccept 145 = .ok (.getfield 23, 3) := by decide +kernel
theorem d_T_gotAccept_148 : decode b_T_gotAccept 148 = .ok (.iload_n 1, 1) := by decide +kernel
theorem d_T_gotAccept_149 : decode b_T_gotAccept 149 = .ok (.iaload, 1) := by decide +kernel
theorem d_T_gotAccept_150 : decode b_T_gotAccept 150 = .ok (.iconst 0, 1) := by decide +kernel
theorem d_T_gotAccept_151 : decode b_T_gotAccept 151 = .ok (.iconst 0, 1) := by decide +kernel
theorem d_T_gotAccept_152 : decode b_T_gotAccept 152 = .ok (.iconst 0, 1) := by decide +kernel
theorem d_T_gotAccept_153 : decode b_T_gotAccept 153 = .ok (.invokevirtual 88, 3) := by decide +kernel
theorem d_T_gotAccept_156 : decode b_T_gotAccept 156 = .ok (.return_, 1) := by decide +kernel
theorem d_T_gotAccepted_0 : decode b_T_gotAccepted 0 = .ok (.aload_n 0, 1) := by decide +kernel
theorem d_T_gotAccepted_1 : decode b_T_gotAccepted 1 = .ok (.getfield 35, 3) := by decide +kernel
theorem d_T_gotAccepted_4 : decode b_T_gotAccepted 4 = .ok (.iload_n 1, 1) := by decide +kernel
theorem d_T_gotAccepted_5 : decode b_T_gotAccepted 5 = .ok (.iaload, 1) := by decide +kernel
theorem d_T_gotAccepted_6 : decode b_T_gotAccepted 6 = .ok (.iconst 2, 1) := by decide +kernel
theorem d_T_gotAccepted_7 : decode b_T_gotAccepted 7 = .ok (.if_icmp .ne 49, 3) := by decide +kernel
theorem d_T_gotAccepted_10 : decode b_T_gotAccepted 10 = .ok (.aload_n 0, 1) := by decide +kernel
theorem d_T_gotAccepted_11 : decode b_T_gotAccepted 11 = .ok (.getfield 38, 3) := by decide +kernel
theorem d_T_gotAccepted_14 : decode b_T_gotAccepted 14 = .ok (.iload_n 1, 1) := by decide +kernel
theorem d_T_gotAccepted_15 : decode b_T_gotAccepted 15 = .ok (.iaload, 1) := by decide +kernel
theorem d_T_gotAccepted_16 : decode b_T_gotAccepted 16 = .ok (.iload_n 3, 1) := by decide +kernel
theorem d_T_gotAccepted_17 : decode b_T_gotAccepted 17 = .ok (.if_icmp .ne 39, 3) := by decide +kernel
theorem d_T_gotAccepted_20 : decode b_T_gotAccepted 20 = .ok (.aload_n 0, 1) := by decide +kernel
theorem d_T_gotAccepted_21 : decode b_T_gotAccepted 21 = .ok (.getfield 44, 3) := by decide +kernel
theorem d_T_gotAccepted_24 : decode b_T_gotAccepted 24 = .ok (.iload_n 1, 1) := by decide +kernel
theorem d_T_gotAccepted_25 : decode b_T_gotAccepted 25 = .ok (.iaload, 1) := by decide +kernel
theorem d_T_gotAccepted_26 : decode b_T_gotAccepted 26 = .ok (.ifCond .eq 30, 3) := by decide +kernel
theorem d_T_gotAccepted_29 : decode b_T_gotAccepted 29 = .ok (.iload 4, 2) := by decide +kernel
theorem d_T_gotAccepted_31 : decode b_T_gotAccepted 31 = .ok (.aload_n 0, 1) := by decide +kernel
theorem d_T_gotAccepted_32 : decode b_T_gotAccepted 32 = .ok (.getfield 13, 3) := by decide +kernel
theorem d_T_gotAccepted_35 : decode b_T_gotAccepted 35 = .ok (.iload_n 1, 1) := by decide +kernel
theorem d_T_gotAccepted_36 : decode b_T_gotAccepted 36 = .ok (.iaload, 1) := by decide +kernel
theorem d_T_gotAccepted_37 : decode b_T_gotAccepted 37 = .ok (.iconst 1, 1) := by decide +kernel
theorem d_T_gotAccepted_38 : decode b_T_gotAccepted 38 = .ok (.iadd, 1) := by decide +kernel
theorem d_T_gotAccepted_39 : decode b_T_gotAccepted 39 = .ok (.if_icmp .ne 17, 3) := by decide +kernel
theorem d_T_gotAccepted_42 : decode b_T_gotAccepted 42 = .ok (.aload_n 0, 1) := by decide +kernel
theorem d_T_gotAccepted_43 : decode b_T_gotAccepted 43 = .ok (.getfield 41, 3) := by decide +kernel
theorem d_T_gotAccepted_46 : decode b_T_gotAccepted 46 = .ok (.iload_n 1, 1) := by decide +kernel
theorem d_T_gotAccepted_47 : decode b_T_gotAccepted 47 = .ok (.iaload, 1) := by decide +kernel
theorem d_T_gotAccepted_48 : decode b_T_gotAccepted 48 = .ok (.iload_n 2, 1) := by decide +kernel
theorem d_T_gotAccepted_49 : decode b_T_gotAccepted 49 = .ok (.ishr, 1) := by decide +kernel
theorem d_T_gotAccepted_50 : decode b_T_gotAccepted 50 = .ok (.iconst 1, 1) := by decide +kernel
theorem d_T_gotAccepted_51 : decode b_T_gotAccepted 51 = .ok (.iand, 1) := by decide +kernel
theorem d_T_gotAccepted_52 : decode b_T_gotAccepted 52 = .ok (.iconst 1, 1) := by decide +kernel
theorem d_T_gotAccepted_53 : decode b_T_gotAccepted 53 = .ok (.if_icmp .ne 4, 3) := by decide +kernel
theorem d_T_gotAccepted_56 : decode b_T_gotAccepted 56 = .ok (.return_, 1) := by decide +kernel
theorem d_T_gotAccepted_57 : decode b_T_gotAccepted 57 = .ok (.aload_n 0, 1) := by decide +kernel
theorem d_T_gotAccepted_58 : decode b_T_gotAccepted 58 = .ok (.getfield 41, 3) := by decide +kernel
theorem d_T_gotAccepted_61 : decode b_T_gotAccepted 61 = .ok (.iload_n 1, 1) := by decide +kernel
theorem d_T_gotAccepted_62 : decode b_T_gotAccepted 62 = .ok (.dup2, 1) := by decide +kernel
theorem d_T_gotAccepted_63 : decode b_T_gotAccepted 63 = .ok (.iaload, 1) := by decide +kernel
theorem d_T_gotAccepted_64 : decode b_T_gotAccepted 64 = .ok (.iconst 1, 1) := by decide +kernel
theorem d_T_gotAccepted_65 : decode b_T_gotAccepted 65 = .ok (.iload_n 2, 1) := by decide +kernel
theorem d_T_gotAccepted_66 : decode b_T_gotAccepted 66 = .ok (.ishl, 1) := by decide +kernel
theorem d_T_gotAccepted_67 : decode b_T_gotAccepted 67 = .ok (.ior, 1) := by decide +kernel
theorem d_T_gotAccepted_68 : decode b_T_gotAccepted 68 = .ok (.iastore, 1) := by decide +kernel
theorem d_T_gotAccepted_69 : decode b_T_gotAccepted 69 = .ok (.iconst 2, 1) := by decide +kernel
theorem d_T_gotAccepted_70 : decode b_T_gotAccepted 70 = .ok (.aload_n 0, 1) := by decide +kernel
theorem d_T_gotAccepted_71 : decode b_T_gotAccepted 71 = .ok (.aload_n 0, 1) := by decide +kernel
theorem d_T_gotAccepted_72 : decode b_T_gotAccepted 72 = .ok (.getfield 41, 3) := by decide +kernel
theorem d_T_gotAccepted_75 : decode b_T_gotAccepted 75 = .ok (.iload_n 1, 1) := by decide +kernel
theorem d_T_gotAccepted_76 : decode b_T_gotAccepted 76 = .ok (.iaload, 1) := by decide +kernel
theorem d_T_gotAccepted_77 : decode b_T_gotAccepted 77 = .ok (.invokevirtual 108, 3) := by decide +kernel
theorem d_T_gotAccepted_80 : decode b_T_gotAccepted 80 = .ok (.imul, 1) := by decide +kernel
theorem d_T_gotAccepted_81 : decode b_T_gotAccepted 81 = .ok (.aload_n 0, 1) := by decide +kernel
theorem d_T_gotAccepted_82 : decode b_T_gotAccepted 82 = .ok (.getfield 65, 3) := by decide +kernel
theorem d_T_gotAccepted_85 : decode b_T_gotAccepted 85 = .ok (.if_icmp .le 34, 3) := by decide +kernel
theorem d_T_gotAccepted_88 : decode b_T_gotAccepted 88 = .ok (.aload_n 0, 1) := by decide +kernel
theorem d_T_gotAccepted_89 : decode b_T_gotAccepted 89 = .ok (.getfield 44, 3) := by decide +kernel
theorem d_T_gotAccepted_92 : decode b_T_gotAccepted 92 = .ok (.iload_n 1, 1) := by decide +kernel
theorem d_T_gotAccepted_93 : decode b_T_gotAccepted 93 = .ok (.iaload, 1) := by decide +kernel
theorem d_T_gotAccepted_94 : decode b_T_gotAccepted 94 = .ok (.istore 5, 2) := by decide +kernel
theorem d_T_gotAccepted_96 : decode b_T_gotAccepted 96 = .ok (.aload_n 0, 1) := by decide +kernel
theorem d_T_gotAccepted_97 : decode b_T_gotAccepted 97 = .ok (.iconst 5, 1) := by decide +kernel
theorem d_T_gotAccepted_98 : decode b_T_gotAccepted 98 = .ok (.iload_n 1, 1) := by decide +kernel
theorem d_T_gotAccepted_99 : decode b_T_gotAccepted 99 = .ok (.iconst 0, 1) := by decide +kernel
theorem d_T_gotAccepted_100 : decode b_T_gotAccepted 100 = .ok (.iload 4, 2) := by decide +kernel
theorem d_T_gotAccepted_102 : decode b_T_gotAccepted 102 = .ok (.iload 5, 2) := by decide +kernel
theorem d_T_gotAccepted_104 : decode b_T_gotAccepted 104 = .ok (.invokevirtual 96, 3) := by decide +kernel
theorem d_T_gotAccepted_107 : decode b_T_gotAccepted 107 = .ok (.aload_n 0, 1) := by decide +kernel
theorem d_T_gotAccepted_108 : decode b_T_gotAccepted 108 = .ok (.iload_n 1, 1) := by decide +kernel
theorem d_T_gotAccepted_109 : decode b_T_gotAccepted 109 = .ok (.iload 5, 2) := by decide +kernel
theorem d_T_gotAccepted_111 : decode b_T_gotAccepted 111 = .ok (.invokevirtual 115, 3) := by decide +kernel
theorem d_T_gotAccepted_114 : decode b_T_gotAccepted 114 = .ok (.aload_n 0, 1) := by decide +kernel
theorem d_T_gotAccepted_115 : decode b_T_gotAccepted 115 = .ok (.iload_n 1, 1) := by decide +kernel
theorem d_T_gotAccepted_116 : decode b_T_gotAccepted 116 = .ok (.invokevirtual 112, 3) := by decide +kernel
theorem d_T_gotAccepted_119 : decode b_T_gotAccepted 119 = .ok (.return_, 1) := by decide +kernel
theorem d_T_gotState_0 : decode b_T_gotState 0 = .ok (.iload_n 2, 1) := by decide +kernel
theorem d_T_gotState_1 : decode b_T_gotState 1 = .ok (.aload_n 0, 1) := by decide +kernel
theorem d_T_gotState_2 : decode b_T_gotState 2 = .ok (.getfield 13, 3) := by decide +kernel
theorem d_T_gotState_5 : decode b_T_gotState 5 = .ok (.iload_n 1, 1) := by decide +kernel
theorem d_T_gotState_6 : decode b_T_gotState 6 = .ok (.iaload, 1) := by decide +kernel
theorem d_T_gotState_7 : decode b_T_gotState 7 = .ok (.if_icmp .le 43, 3) := by decide +kernel
theorem d_T_gotState_10 : decode b_T_gotState 10 = .ok (.aload_n 0, 1) := by decide +kernel
theorem d_T_gotState_11 : decode b_T_gotState 11 = .ok (.getfield 13, 3) := by decide +kernel
theorem d_T_gotState_14 : decode b_T_gotState 14 = .ok (.iload_n 1, 1) := by decide +kernel
theorem d_T_gotState_15 : decode b_T_gotState 15 = .ok (.iload_n 2, 1) := by decide +kernel
theorem d_T_gotState_16 : decode b_T_gotState 16 = .ok (.iastore, 1) := by decide +kernel
theorem d_T_gotState_17 : decode b_T_gotState 17 = .ok (.aload_n 0, 1) := by decide +kernel
theorem d_T_gotState_18 : decode b_T_gotState 18 = .ok (.getfield 17, 3) := by decide +kernel
theorem d_T_gotState_21 : decode b_T_gotState 21 = .ok (.iload_n 1, 1) := by decide +kernel
theorem d_T_gotState_22 : decode b_T_gotState 22 = .ok (.iload_n 3, 1) := by decide +kernel
theorem d_T_gotState_23 : decode b_T_gotState 23 = .ok (.iastore, 1) := by decide +kernel
theorem d_T_gotState_24 : decode b_T_gotState 24 = .ok (.aload_n 0, 1) := by decide +kernel
theorem d_T_gotState_25 : decode b_T_gotState 25 = .ok (.getfield 20, 3) := by decide +kernel
theorem d_T_gotState_28 : decode b_T_gotState 28 = .ok (.iload_n 1, 1) := by decide +kernel
theorem d_T_gotState_29 : decode b_T_gotState 29 = .ok (.iload_n 2, 1) := by decide +kernel
theorem d_T_gotState_30 : decode b_T_gotState 30 = .ok (.iastore, 1) := by decide +kernel
theorem d_T_gotState_31 : decode b_T_gotState 31 = .ok (.aload_n 0, 1) := by decide +kernel
theorem d_T_gotState_32 : decode b_T_gotState 32 = .ok (.getfield 29, 3) := by decide +kernel
theorem d_T_gotState_35 : decode b_T_gotState 35 = .ok (.iload_n 1, 1) := by decide +kernel
theorem d_T_gotState_36 : decode b_T_gotState 36 = .ok (.iconst 0, 1) := by decide +kernel
theorem d_T_gotState_37 : decode b_T_gotState 37 = .ok (.iastore, 1) := by decide +kernel
theorem d_T_gotState_38 : decode b_T_gotState 38 = .ok (.aload_n 0, 1) := by decide +kernel
theorem d_T_gotState_39 : decode b_T_gotState 39 = .ok (.getfield 26, 3) := by decide +kernel
theorem d_T_gotState_42 : decode b_T_gotState 42 = .ok (.iload_n 1, 1) := by decide +kernel
theorem d_T_gotState_43 : decode b_T_gotState 43 = .ok (.iconst 0, 1) := by decide +kernel
theorem d_T_gotState_44 : decode b_T_gotState 44 = .ok (.iastore, 1) := by decide +kernel
theorem d_T_gotState_45 : decode b_T_gotState 45 = .ok (.aload_n 0, 1) := by decide +kernel
theorem d_T_gotState_46 : decode b_T_gotState 46 = .ok (.iload_n 1, 1) := by decide +kernel
theorem d_T_gotState_47 : decode b_T_gotState 47 = .ok (.invokevirtual 92, 3) := by decide +kernel
theorem d_T_gotState_50 : decode b_T_gotState 50 = .ok (.return_, 1) := by decide +kernel
theorem d_T_comes_0 : decode b_T_comes 0 = .ok (.aload_n 0, 1) := by decide +kernel
theorem d_T_comes_1 : decode b_T_comes 1 = .ok (.getfield 53, 3) := by decide +kernel
theorem d_T_comes_4 : decode b_T_comes 4 = .ok (.iload_n 3, 1) := by decide +kernel
theorem d_T_comes_5 : decode b_T_comes 5 = .ok (.iload 4, 2) := by decide +kernel
theorem d_T_comes_7 : decode b_T_comes 7 = .ok (.aload_n 0, 1) := by decide +kernel
theorem d_T_comes_8 : decode b_T_comes 8 = .ok (.getfield 53, 3) := by decide +kernel
theorem d_T_comes_11 : decode b_T_comes 11 = .ok (.iload_n 3, 1) := by decide +kernel
theorem d_T_comes_12 : decode b_T_comes 12 = .ok (.iaload, 1) := by decide +kernel
theorem d_T_comes_13 : decode b_T_comes 13 = .ok (.if_icmp .le 8, 3) := by decide +kernel
theorem d_T_comes_16 : decode b_T_comes 16 = .ok (.iload 4, 2) := by decide +kernel
theorem d_T_comes_18 : decode b_T_comes 18 = .ok (.goto 9, 3) := by decide +kernel
theorem d_T_comes_21 : decode b_T_comes 21 = .ok (.aload_n 0, 1) := by decide +kernel
theorem d_T_comes_22 : decode b_T_comes 22 = .ok (.getfield 53, 3) := by decide +kernel
theorem d_T_comes_25 : decode b_T_comes 25 = .ok (.iload_n 3, 1) := by decide +kernel
theorem d_T_comes_26 : decode b_T_comes 26 = .ok (.iaload, 1) := by decide +kernel
theorem d_T_comes_27 : decode b_T_comes 27 = .ok (.iastore, 1) := by decide +kernel
theorem d_T_comes_28 : decode b_T_comes 28 = .ok (.iload_n 1, 1) := by decide +kernel
theorem d_T_comes_29 : decode b_T_comes 29 = .ok (.tableswitch 209 1 7 #[43, 56, 73, 88, 101, 159, 181], 43) := by decide +kernel
theorem d_T_comes_72 : decode b_T_comes 72 = .ok (.aload_n 0, 1) := by decide +kernel
theorem d_T_comes_73 : decode b_T_comes 73 = .ok (.iload_n 3, 1) := by decide +kernel
theorem d_T_comes_74 : decode b_T_comes 74 = .ok (.iload_n 2, 1) := by decide +kernel
theorem d_T_comes_75 : decode b_T_comes 75 = .ok (.iload 4, 2) := by decide +kernel
theorem d_T_comes_77 : decode b_T_comes 77 = .ok (.iload 5, 2) := by decide +kernel
theorem d_T_comes_79 : decode b_T_comes 79 = .ok (.invokevirtual 118, 3) := by decide +kernel
theorem d_T_comes_82 : decode b_T_comes 82 = .ok (.goto 165, 3) := by decide +kernel
theorem d_T_comes_85 : decode b_T_comes 85 = .ok (.aload_n 0, 1) := by decide +kernel
theorem d_T_comes_86 : decode b_T_comes 86 = .ok (.iload_n 3, 1) := by decide +kernel
theorem d_T_comes_87 : decode b_T_comes 87 = .ok (.iload_n 2, 1) := by decide +kernel
theorem d_T_comes_88 : decode b_T_comes 88 = .ok (.iload 4, 2) := by decide +kernel
theorem d_T_comes_90 : decode b_T_comes 90 = .ok (.iload 5, 2) := by decide +kernel
theorem d_T_comes_92 : decode b_T_comes 92 = .ok (.iload 6, 2) := by decide +kernel
theorem d_T_comes_94 : decode b_T_comes 94 = .ok (.iload 7, 2) := by decide +kernel
theorem d_T_comes_96 : decode b_T_comes 96 = .ok (.invokevirtual 122, 3) := by decide +kernel
theorem d_T_comes_99 : decode b_T_comes 99 = .ok (.goto 148, 3) := by decide +kernel
theorem d_T_comes_102 : decode b_T_comes 102 = .ok (.aload_n 0, 1) := by decide +kernel
theorem d_T_comes_103 : decode b_T_comes 103 = .ok (.iload_n 3, 1) := by decide +kernel
theorem d_T_comes_104 : decode b_T_comes 104 = .ok (.iload_n 2, 1) := by decide +kernel
theorem d_T_comes_105 : decode b_T_comes 105 = .ok (.iload 4, 2) := by decide +kernel
theorem d_T_comes_107 : decode b_T_comes 107 = .ok (.iload 5, 2) := by decide +kernel
theorem d_T_comes_109 : decode b_T_comes 109 = .ok (.iload 6, 2) := by decide +kernel
theorem d_T_comes_111 : decode b_T_comes 111 = .ok (.invokevirtual 126, 3) := by decide +kernel
theorem d_T_comes_114 : decode b_T_comes 114 = .ok (.goto 133, 3) := by decide +kernel
theorem d_T_comes_117 : decode b_T_comes 117 = .ok (.aload_n 0, 1) := by decide +kernel
theorem d_T_comes_118 : decode b_T_comes 118 = .ok (.iload_n 3, 1) := by decide +kernel
theorem d_T_comes_119 : decode b_T_comes 119 = .ok (.iload_n 2, 1) := by decide +kernel
theorem d_T_comes_120 : decode b_T_comes 120 = .ok (.iload 4, 2) := by decide +kernel
theorem d_T_comes_122 : decode b_T_comes 122 = .ok (.iload 5, 2) := by decide +kernel
theorem d_T_comes_124 : decode b_T_comes 124 = .ok (.invokevirtual 129, 3) := by decide +kernel
theorem d_T_comes_127 : decode b_T_comes 127 = .ok (.goto 120, 3) := by decide +kernel
theorem d_T_comes_130 : decode b_T_comes 130 = .ok (.iload 5, 2) := by decide +kernel
theorem d_T_comes_132 : decode b_T_comes 132 = .ok (.aload_n 0, 1) := by decide +kernel
theorem d_T_comes_133 : decode b_T_comes 133 = .ok (.getfield 13, 3) := by decide +kernel
theorem d_T_comes_136 : decode b_T_comes 136 = .ok (.iload_n 3, 1) := by decide +kernel
theorem d_T_comes_137 : decode b_T_comes 137 = .ok (.iaload, 1) := by decide +kernel
theorem d_T_comes_138 : decode b_T_comes 138 = .ok (.iconst 1, 1) := by decide +kernel
theorem d_T_comes_139 : decode b_T_comes 139 = .ok (.iadd, 1) := by decide +kernel
theorem d_T_comes_140 : decode b_T_comes 140 = .ok (.if_icmp .ne 13, 3) := by decide +kernel
theorem d_T_comes_143 : decode b_T_comes 143 = .ok (.aload_n 0, 1) := by decide +kernel
theorem d_T_comes_144 : decode b_T_comes 144 = .ok (.iload_n 3, 1) := by decide +kernel
theorem d_T_comes_145 : decode b_T_comes 145 = .ok (.iload 6, 2) := by decide +kernel
theorem d_T_comes_147 : decode b_T_comes 147 = .ok (.invokevirtual 115, 3) := by decide +kernel
theorem d_T_comes_150 : decode b_T_comes 150 = .ok (.goto 97, 3) := by decide +kernel
theorem d_T_comes_153 : decode b_T_comes 153 = .ok (.iload 5, 2) := by decide +kernel
theorem d_T_comes_155 : decode b_T_comes 155 = .ok (.aload_n 0, 1) := by decide +kernel
theorem d_T_comes_156 : decode b_T_comes 156 = .ok (.getfield 13, 3) := by decide +kernel
theorem d_T_comes_159 : decode b_T_comes 159 = .ok (.iload_n 3, 1) := by decide +kernel
theorem d_T_comes_160 : decode b_T_comes 160 = .ok (.iaload, 1) := by decide +kernel
theorem d_T_comes_161 : decode b_T_comes 161 = .ok (.iconst 1, 1) := by decide +kernel
theorem d_T_comes_162 : decode b_T_comes 162 = .ok (.iadd, 1) := by decide +kernel
theorem d_T_comes_163 : decode b_T_comes 163 = .ok (.if_icmp .le 84, 3) := by decide +kernel
theorem d_T_comes_166 : decode b_T_comes 166 = .ok (.aload_n 0, 1) := by decide +kernel
theorem d_T_comes_167 : decode b_T_comes 167 = .ok (.bipush 6, 2) := by decide +kernel
theorem d_T_comes_169 : decode b_T_comes 169 = .ok (.iload_n 3, 1) := by decide +kernel
theorem d_T_comes_170 : decode b_T_comes 170 = .ok (.iload_n 2, 1) := by decide +kernel
theorem d_T_comes_171 : decode b_T_comes 171 = .ok (.iconst 0, 1) := by decide +kernel
theorem d_T_comes_172 : decode b_T_comes 172 = .ok (.aload_n 0, 1) := by decide +kernel
theorem d_T_comes_173 : decode b_T_comes 173 = .ok (.getfield 13, 3) := by decide +kernel
theorem d_T_comes_176 : decode b_T_comes 176 = .ok (.iload_n 3, 1) := by decide +kernel
theorem d_T_comes_177 : decode b_T_comes 177 = .ok (.iaload, 1) := by decide +kernel
theorem d_T_comes_178 : decode b_T_comes 178 = .ok (.iconst 1, 1) := by decide +kernel
theorem d_T_comes_179 : decode b_T_comes 179 = .ok (.iadd, 1) := by decide +kernel
theorem d_T_comes_180 : decode b_T_comes 180 = .ok (.iconst 0, 1) := by decide +kernel
theorem d_T_comes_181 : decode b_T_comes 181 = .ok (.iconst 0, 1) := by decide +kernel
theorem d_T_comes_182 : decode b_T_comes 182 = .ok (.invokevirtual 88, 3) := by decide +kernel
theorem d_T_comes_185 : decode b_T_comes 185 = .ok (.goto 62, 3) := by decide +kernel
theorem d_T_comes_188 : decode b_T_comes 188 = .ok (.iload 5, 2) := by decide +kernel
theorem d_T_comes_190 : decode b_T_comes 190 = .ok (.aload_n 0, 1) := by decide +kernel
theorem d_T_comes_191 : decode b_T_comes 191 = .ok (.getfield 13, 3) := by decide +kernel
theorem d_T_comes_194 : decode b_T_comes 194 = .ok (.iload_n 3, 1) := by decide +kernel
theorem d_T_comes_195 : decode b_T_comes 195 = .ok (.iaload, 1) := by decide +kernel
theorem d_T_comes_196 : decode b_T_comes 196 = .ok (.if_icmp .gt 51, 3) := by decide +kernel
theorem d_T_comes_199 : decode b_T_comes 199 = .ok (.aload_n 0, 1) := by decide +kernel
theorem d_T_comes_200 : decode b_T_comes 200 = .ok (.iload_n 3, 1) := by decide +kernel
theorem d_T_comes_201 : decode b_T_comes 201 = .ok (.iload_n 2, 1) := by decide +kernel
theorem d_T_comes_202 : decode b_T_comes 202 = .ok (.iload 5, 2) := by decide +kernel
theorem d_T_comes_204 : decode b_T_comes 204 = .ok (.invokevirtual 104, 3) := by decide +kernel
theorem d_T_comes_207 : decode b_T_comes 207 = .ok (.goto 40, 3) := by decide +kernel
theorem d_T_comes_210 : decode b_T_comes 210 = .ok (.aload_n 0, 1) := by decide +kernel
theorem d_T_comes_211 : decode b_T_comes 211 = .ok (.getfield 35, 3) := by decide +kernel
theorem d_T_comes_214 : decode b_T_comes 214 = .ok (.iload_n 3, 1) := by decide +kernel
theorem d_T_comes_215 : decode b_T_comes 215 = .ok (.iaload, 1) := by decide +kernel
theorem d_T_comes_216 : decode b_T_comes 216 = .ok (.ifCond .le 31, 3) := by decide +kernel
theorem d_T_comes_219 : decode b_T_comes 219 = .ok (.aload_n 0, 1) := by decide +kernel
theorem d_T_comes_220 : decode b_T_comes 220 = .ok (.getfield 38, 3) := by decide +kernel
theorem d_T_comes_223 : decode b_T_comes 223 = .ok (.iload_n 3, 1) := by decide +kernel
theorem d_T_comes_224 : decode b_T_comes 224 = .ok (.iaload, 1) := by decide +kernel
theorem d_T_comes_225 : decode b_T_comes 225 = .ok (.iload 4, 2) := by decide +kernel
theorem d_T_comes_227 : decode b_T_comes 227 = .ok (.if_icmp .ge 20, 3) := by decide +kernel
theorem d_T_comes_230 : decode b_T_comes 230 = .ok (.aload_n 0, 1) := by decide +kernel
theorem d_T_comes_231 : decode b_T_comes 231 = .ok (.iload_n 3, 1) := by decide +kernel
theorem d_T_comes_232 : decode b_T_comes 232 = .ok (.invokevirtual 92, 3) := by decide +kernel
theorem d_T_comes_235 : decode b_T_comes 235 = .ok (.goto 12, 3) := by decide +kernel
theorem d_T_comes_238 : decode b_T_comes 238 = .ok (.aload_n 0, 1) := by decide +kernel
theorem d_T_comes_239 : decode b_T_comes 239 = .ok (.iload_n 3, 1) := by decide +kernel
theorem d_T_comes_240 : decode b_T_comes 240 = .ok (.iload 5, 2) := by decide +kernel
theorem d_T_comes_242 : decode b_T_comes 242 = .ok (.iload 6, 2) := by decide +kernel
theorem d_T_comes_244 : decode b_T_comes 244 = .ok (.invokevirtual 132, 3) := by decide +kernel
theorem d_T_comes_247 : decode b_T_comes 247 = .ok (.return_, 1) := by decide +kernel
theorem d_T_request_0 : decode b_T_request 0 = .ok (.aload_n 0, 1) := by decide +kernel
theorem d_T_request_1 : decode b_T_request 1 = .ok (.iconst 0, 1) := by decide +kernel
theorem d_T_request_2 : decode b_T_request 2 = .ok (.putfield 72, 3) := by decide +kernel
theorem d_T_request_5 : decode b_T_request 5 = .ok (.aload_n 0, 1) := by decide +kernel
theorem d_T_request_6 : decode b_T_request 6 = .ok (.iload_n 1, 1) := by decide +kernel
theorem d_T_request_7 : decode b_T_request 7 = .ok (.invokevirtual 135, 3) := by decide +kernel
theorem d_T_request_10 : decode b_T_request 10 = .ok (.ifCond .eq 31, 3) := by decide +kernel
theorem d_T_request_13 : decode b_T_request 13 = .ok (.aload_n 0, 1) := by decide +kernel
theorem d_T_request_14 : decode b_T_request 14 = .ok (.getfield 59, 3) := by decide +kernel
theorem d_T_request_17 : decode b_T_request 17 = .ok (.aload_n 0, 1) := by decide +kernel
theorem d_T_request_18 : decode b_T_request 18 = .ok (.iload_n 1, 1) := by decide +kernel
theorem d_T_request_19 : decode b_T_request 19 = .ok (.invokevirtual 135, 3) := by decide +kernel
theorem d_T_request_22 : decode b_T_request 22 = .ok (.ifCond .eq 7, 3) := by decide +kernel
theorem d_T_request_25 : decode b_T_request 25 = .ok (.iload_n 1, 1) := by decide +kernel
theorem d_T_request_26 : decode b_T_request 26 = .ok (.goto 4, 3) := by decide +kernel
theorem d_T_request_29 : decode b_T_request 29 = .ok (.iconst 0, 1) := by decide +kernel
theorem d_T_request_30 : decode b_T_request 30 = .ok (.iaload, 1) := by decide +kernel
theorem d_T_request_31 : decode b_T_request 31 = .ok (.bipush 8, 2) := by decide +kernel
theorem d_T_request_33 : decode b_T_request 33 = .ok (.if_icmp .eq 8, 3) := by decide +kernel
theorem d_T_request_36 : decode b_T_request 36 = .ok (.iload_n 2, 1) := by decide +kernel
theorem d_T_request_37 : decode b_T_request 37 = .ok (.iconst 1, 1) := by decide +kernel
theorem d_T_request_38 : decode b_T_request 38 = .ok (.if_icmp .ge 5, 3) := by decide +kernel
theorem d_T_request_41 : decode b_T_request 41 = .ok (.iconst 0, 1) := by decide +kernel
theorem d_T_request_42 : decode b_T_request 42 = .ok (.ireturn, 1) := by decide +kernel
theorem d_T_request_43 : decode b_T_request 43 = .ok (.aload_n 0, 1) := by decide +kernel
theorem d_T_request_44 : decode b_T_request 44 = .ok (.getfield 56, 3) := by decide +kernel
theorem d_T_request_47 : decode b_T_request 47 = .ok (.bipush 8, 2) := by decide +kernel
theorem d_T_request_49 : decode b_T_request 49 = .ok (.iload_n 1, 1) := by decide +kernel
theorem d_T_request_50 : decode b_T_request 50 = .ok (.imul, 1) := by decide +kernel
theorem d_T_request_51 : decode b_T_request 51 = .ok (.aload_n 0, 1) := by decide +kernel
theorem d_T_request_52 : decode b_T_request 52 = .ok (.getfield 59, 3) := by decide +kernel
theorem d_T_request_55 : decode b_T_request 55 = .ok (.iload_n 1, 1) := by decide +kernel
theorem d_T_request_56 : decode b_T_request 56 = .ok (.iaload, 1) := by decide +kernel
theorem d_T_request_57 : decode b_T_request 57 = .ok (.iadd, 1) := by decide +kernel
theorem d_T_request_58 : decode b_T_request 58 = .ok (.iload_n 2, 1) := by decide +kernel
theorem d_T_request_59 : decode b_T_request 59 = .ok (.iastore, 1) := by decide +kernel
theorem d_T_request_60 : decode b_T_request 60 = .ok (.aload_n 0, 1) := by decide +kernel
theorem d_T_request_61 : decode b_T_request 61 = .ok (.getfield 59, 3) := by decide +kernel
theorem d_T_request_64 : decode b_T_request 64 = .ok (.iload_n 1, 1) := by decide +kernel
theorem d_T_request_65 : decode b_T_request 65 = .ok (.dup2, 1) := by decide +kernel
theorem d_T_request_66 : decode b_T_request 66 = .ok (.iaload, 1) := by decide +kernel
theorem d_T_request_67 : decode b_T_request 67 = .ok (.iconst 1, 1) := by decide +kernel
theorem d_T_request_68 : decode b_T_request 68 = .ok (.iadd, 1) := by decide +kernel
theorem d_T_request_69 : decode b_T_request 69 = .ok (.iastore, 1) := by decide +kernel
theorem d_T_request_70 : decode b_T_request 70 = .ok (.iconst 1, 1) := by decide +kernel
theorem d_T_request_71 : decode b_T_request 71 = .ok (.ireturn, 1) := by decide +kernel
theorem d_T_tick_0 : decode b_T_tick 0 = .ok (.aload_n 0, 1) := by decide +kernel
theorem d_T_tick_1 : decode b_T_tick 1 = .ok (.iconst 0, 1) := by decide +kernel
theorem d_T_tick_2 : decode b_T_tick 2 = .ok (.putfield 72, 3) := by decide +kernel
theorem d_T_tick_5 : decode b_T_tick 5 = .ok (.aload_n 0, 1) := by decide +kernel
theorem d_T_tick_6 : decode b_T_tick 6 = .ok (.iload_n 1, 1) := by decide +kernel
theorem d_T_tick_7 : decode b_T_tick 7 = .ok (.invokevirtual 135, 3) := by decide +kernel
theorem d_T_tick_10 : decode b_T_tick 10 = .ok (.ifCond .ne 5, 3) := by decide +kernel
theorem d_T_tick_13 : decode b_T_tick 13 = .ok (.iconst (-1), 1) := by decide +kernel
theorem d_T_tick_14 : decode b_T_tick 14 = .ok (.ireturn, 1) := by decide +kernel
theorem d_T_tick_15 : decode b_T_tick 15 = .ok (.aload_n 0, 1) := by decide +kernel
theorem d_T_tick_16 : decode b_T_tick 16 = .ok (.getfield 35, 3) := by decide +kernel
theorem d_T_tick_19 : decode b_T_tick 19 = .ok (.iload_n 1, 1) := by decide +kernel
theorem d_T_tick_20 : decode b_T_tick 20 = .ok (.iaload, 1) := by decide +kernel
theorem d_T_tick_21 : decode b_T_tick 21 = .ok (.iconst 2, 1) := by decide +kernel
theorem d_T_tick_22 : decode b_T_tick 22 = .ok (.if_icmp .ne 41, 3) := by decide +kernel
theorem d_T_tick_25 : decode b_T_tick 25 = .ok (.aload_n 0, 1) := by decide +kernel
theorem d_T_tick_26 : decode b_T_tick 26 = .ok (.getfield 44, 3) := by decide +kernel
theorem d_T_tick_29 : decode b_T_tick 29 = .ok (.iload_n 1, 1) := by decide +kernel
theorem d_T_tick_30 : decode b_T_tick 30 = .ok (.iaload, 1) := by decide +kernel
theorem d_T_tick_31 : decode b_T_tick 31 = .ok (.ifCond .le 32, 3) := by decide +kernel
theorem d_T_tick_34 : decode b_T_tick 34 = .ok (.aload_n 0, 1) := by decide +kernel
theorem d_T_tick_35 : decode b_T_tick 35 = .ok (.iconst 3, 1) := by decide +kernel
theorem d_T_tick_36 : decode b_T_tick 36 = .ok (.iload_n 1, 1) := by decide +kernel
theorem d_T_tick_37 : decode b_T_tick 37 = .ok (.aload_n 0, 1) := by decide +kernel
theorem d_T_tick_38 : decode b_T_tick 38 = .ok (.getfield 38, 3) := by decide +kernel
theorem d_T_tick_41 : decode b_T_tick 41 = .ok (.iload_n 1, 1) := by decide +kernel
theorem d_T_tick_42 : decode b_T_tick 42 = .ok (.iaload, 1) := by decide +kernel
theorem d_T_tick_43 : decode b_T_tick 43 = .ok (.aload_n 0, 1) := by decide +kernel
theorem d_T_tick_44 : decode b_T_tick 44 = .ok (.getfield 13, 3) := by decide +kernel
theorem d_T_tick_47 : decode b_T_tick 47 = .ok (.iload_n 1, 1) := by decide +kernel
theorem d_T_tick_48 : decode b_T_tick 48 = .ok (.iaload, 1) := by decide +kernel
theorem d_T_tick_49 : decode b_T_tick 49 = .ok (.iconst 1, 1) := by decide +kernel
theorem d_T_tick_50 : decode b_T_tick 50 = .ok (.iadd, 1) := by decide +kernel
theorem d_T_tick_51 : decode b_T_tick 51 = .ok (.aload_n 0, 1) := by decide +kernel
theorem d_T_tick_52 : decode b_T_tick 52 = .ok (.getfield 44, 3) := by decide +kernel
theorem d_T_tick_55 : decode b_T_tick 55 = .ok (.iload_n 1, 1) := by decide +kernel
theorem d_T_tick_56 : decode b_T_tick 56 = .ok (.iaload, 1) := by decide +kernel
theorem d_T_tick_57 : decode b_T_tick 57 = .ok (.invokevirtual 96, 3) := by decide +kernel
theorem d_T_tick_60 : decode b_T_tick 60 = .ok (.goto 98, 3) := by decide +kernel
theorem d_T_tick_63 : decode b_T_tick 63 = .ok (.aload_n 0, 1) := by decide +kernel
theorem d_T_tick_64 : decode b_T_tick 64 = .ok (.getfield 35, 3) := by decide +kernel
theorem d_T_tick_67 : decode b_T_tick 67 = .ok (.iload_n 1, 1) := by decide +kernel
theorem d_T_tick_68 : decode b_T_tick 68 = .ok (.iaload, 1) := by decide +kernel
theorem d_T_tick_69 : decode b_T_tick 69 = .ok (.iconst 2, 1) := by decide +kernel
theorem d_T_tick_70 : decode b_T_tick 70 = .ok (.if_icmp .ne 11, 3) := by decide +kernel
theorem d_T_tick_73 : decode b_T_tick 73 = .ok (.aload_n 0, 1) := by decide +kernel
theorem d_T_tick_74 : decode b_T_tick 74 = .ok (.iload_n 1, 1) := by decide +kernel
theorem d_T_tick_75 : decode b_T_tick 75 = .ok (.invokevirtual 112, 3) := by decide +kernel
theorem d_T_tick_78 : decode b_T_tick 78 = .ok (.goto 80, 3) := by decide +kernel
theorem d_T_tick_81 : decode b_T_tick 81 = .ok (.aload_n 0, 1) := by decide +kernel
theorem d_T_tick_82 : decode b_T_tick 82 = .ok (.getfield 35, 3) := by decide +kernel
theorem d_T_tick_85 : decode b_T_tick 85 = .ok (.iload_n 1, 1) := by decide +kernel
theorem d_T_tick_86 : decode b_T_tick 86 = .ok (.iaload, 1) := by decide +kernel
theorem d_T_tick_87 : decode b_T_tick 87 = .ok (.iconst 1, 1) := by decide +kernel
theorem d_T_tick_88 : decode b_T_tick 88 = .ok (.if_icmp .ne 27, 3) := by decide +kernel
theorem d_T_tick_91 : decode b_T_tick 91 = .ok (.aload_n 0, 1) := by decide +kernel
theorem d_T_tick_92 : decode b_T_tick 92 = .ok (.iconst 1, 1) := by decide +kernel
theorem d_T_tick_93 : decode b_T_tick 93 = .ok (.iload_n 1, 1) := by decide +kernel
theorem d_T_tick_94 : decode b_T_tick 94 = .ok (.aload_n 0, 1) := by decide +kernel
theorem d_T_tick_95 : decode b_T_tick 95 = .ok (.getfield 38, 3) := by decide +kernel
theorem d_T_tick_98 : decode b_T_tick 98 = .ok (.iload_n 1, 1) := by decide +kernel
theorem d_T_tick_99 : decode b_T_tick 99 = .ok (.iaload, 1) := by decide +kernel
theorem d_T_tick_100 : decode b_T_tick 100 = .ok (.aload_n 0, 1) := by decide +kernel
theorem d_T_tick_101 : decode b_T_tick 101 = .ok (.getfield 13, 3) := by decide +kernel
theorem d_T_tick_104 : decode b_T_tick 104 = .ok (.iload_n 1, 1) := by decide +kernel
theorem d_T_tick_105 : decode b_T_tick 105 = .ok (.iaload, 1) := by decide +kernel
theorem d_T_tick_106 : decode b_T_tick 106 = .ok (.iconst 1, 1) := by decide +kernel
theorem d_T_tick_107 : decode b_T_tick 107 = .ok (.iadd, 1) := by decide +kernel
theorem d_T_tick_108 : decode b_T_tick 108 = .ok (.iconst 0, 1) := by decide +kernel
theorem d_T_tick_109 : decode b_T_tick 109 = .ok (.invokevirtual 96, 3) := by decide +kernel
theorem d_T_tick_112 : decode b_T_tick 112 = .ok (.goto 46, 3) := by decide +kernel
theorem d_T_tick_115 : decode b_T_tick 115 = .ok (.aload_n 0, 1) := by decide +kernel
theorem d_T_tick_116 : decode b_T_tick 116 = .ok (.getfield 59, 3) := by decide +kernel
theorem d_T_tick_119 : decode b_T_tick 119 = .ok (.iload_n 1, 1) := by decide +kernel
theorem d_T_tick_120 : decode b_T_tick 120 = .ok (.iaload, 1) := by decide +kernel
theorem d_T_tick_121 : decode b_T_tick 121 = .ok (.ifCond .le 11, 3) := by decide +kernel
theorem d_T_tick_124 : decode b_T_tick 124 = .ok (.aload_n 0, 1) := by decide +kernel
theorem d_T_tick_125 : decode b_T_tick 125 = .ok (.iload_n 1, 1) := by decide +kernel
theorem d_T_tick_126 : decode b_T_tick 126 = .ok (.invokevirtual 138, 3) := by decide +kernel
theorem d_T_tick_129 : decode b_T_tick 129 = .ok (.goto 29, 3) := by decide +kernel
theorem d_T_tick_132 : decode b_T_tick 132 = .ok (.aload_n 0, 1) := by decide +kernel
theorem d_T_tick_133 : decode b_T_tick 133 = .ok (.bipush 6, 2) := by decide +kernel
theorem d_T_tick_135 : decode b_T_tick 135 = .ok (.iload_n 1, 1) := by decide +kernel
theorem d_T_tick_136 : decode b_T_tick 136 = .ok (.iload_n 1, 1) := by decide +kernel
theorem d_T_tick_137 : decode b_T_tick 137 = .ok (.iconst 1, 1) := by decide +kernel
theorem d_T_tick_138 : decode b_T_tick 138 = .ok (.iadd, 1) := by decide +kernel
theorem d_T_tick_139 : decode b_T_tick 139 = .ok (.aload_n 0, 1) := by decide +kernel
theorem d_T_tick_140 : decode b_T_tick 140 = .ok (.getfield 65, 3) := by decide +kernel
theorem d_T_tick_143 : decode b_T_tick 143 = .ok (.irem, 1) := by decide +kernel
theorem d_T_tick_144 : decode b_T_tick 144 = .ok (.iconst 0, 1) := by decide +kernel
theorem d_T_tick_145 : decode b_T_tick 145 = .ok (.aload_n 0, 1) := by decide +kernel
theorem d_T_tick_146 : decode b_T_tick 146 = .ok (.getfield 13, 3) := by decide +kernel
theorem d_T_tick_149 : decode b_T_tick 149 = .ok (.iload_n 1, 1) := by decide +kernel
theorem d_T_tick_150 : decode b_T_tick 150 = .ok (.iaload, 1) := by decide +kernel
theorem d_T_tick_151 : decode b_T_tick 151 = .ok (.iconst 1, 1) := by decide +kernel
theorem d_T_tick_152 : decode b_T_tick 152 = .ok (.iadd, 1) := by decide +kernel
theorem d_T_tick_153 : decode b_T_tick 153 = .ok (.iconst 0, 1) := by decide +kernel
theorem d_T_tick_154 : decode b_T_tick 154 = .ok (.iconst 0, 1) := by decide +kernel
theorem d_T_tick_155 : decode b_T_tick 155 = .ok (.invokevirtual 88, 3) := by decide +kernel
theorem d_T_tick_158 : decode b_T_tick 158 = .ok (.aload_n 0, 1) := by decide +kernel
theorem d_T_tick_159 : decode b_T_tick 159 = .ok (.getfield 82, 3) := by decide +kernel
theorem d_T_tick_162 : decode b_T_tick 162 = .ok (.ireturn, 1) := by decide +kernel
theorem d_T_deliver_0 : decode b_T_deliver 0 = .ok (.aload_n 0, 1) := by decide +kernel
theorem d_T_deliver_1 : decode b_T_deliver 1 = .ok (.iconst 0, 1) := by decide +kernel
theorem d_T_deliver_2 : decode b_T_deliver 2 = .ok (.putfield 72, 3) := by decide +kernel
theorem d_T_deliver_5 : decode b_T_deliver 5 = .ok (.iload_n 1, 1) := by decide +kernel
theorem d_T_deliver_6 : decode b_T_deliver 6 = .ok (.ifCond .lt 11, 3) := by decide +kernel
theorem d_T_deliver_9 : decode b_T_deliver 9 = .ok (.iload_n 1, 1) := by decide +kernel
theorem d_T_deliver_10 : decode b_T_deliver 10 = .ok (.aload_n 0, 1) := by decide +kernel
theorem d_T_deliver_11 : decode b_T_deliver 11 = .ok (.getfield 82, 3) := by decide +kernel
theorem d_T_deliver_14 : decode b_T_deliver 14 = .ok (.if_icmp .lt 5, 3) := by decide +kernel
theorem d_T_deliver_17 : decode b_T_deliver 17 = .ok (.iconst (-1), 1) := by decide +kernel
theorem d_T_deliver_18 : decode b_T_deliver 18 = .ok (.ireturn, 1) := by decide +kernel
theorem d_T_deliver_19 : decode b_T_deliver 19 = .ok (.bipush 7, 2) := by decide +kernel
theorem d_T_deliver_21 : decode b_T_deliver 21 = .ok (.iload_n 1, 1) := by decide +kernel
theorem d_T_deliver_22 : decode b_T_deliver 22 = .ok (.imul, 1) := by decide +kernel
theorem d_T_deliver_23 : decode b_T_deliver 23 = .ok (.istore_n 2, 1) := by decide +kernel
theorem d_T_deliver_24 : decode b_T_deliver 24 = .ok (.aload_n 0, 1) := by decide +kernel
theorem d_T_deliver_25 : decode b_T_deliver 25 = .ok (.getfield 62, 3) := by decide +kernel
theorem d_T_deliver_28 : decode b_T_deliver 28 = .ok (.iload_n 2, 1) := by decide +kernel
theorem d_T_deliver_29 : decode b_T_deliver 29 = .ok (.iaload, 1) := by decide +kernel
theorem d_T_deliver_30 : decode b_T_deliver 30 = .ok (.istore_n 3, 1) := by decide +kernel
theorem d_T_deliver_31 : decode b_T_deliver 31 = .ok (.aload_n 0, 1) := by decide +kernel
theorem d_T_deliver_32 : decode b_T_deliver 32 = .ok (.getfield 62, 3) := by decide +kernel
theorem d_T_deliver_35 : decode b_T_deliver 35 = .ok (.iload_n 2, 1) := by decide +kernel
theorem d_T_deliver_36 : decode b_T_deliver 36 = .ok (.iconst 1, 1) := by decide +kernel
theorem d_T_deliver_37 : decode b_T_deliver 37 = .ok (.iadd, 1) := by decide +kernel
theorem d_T_deliver_38 : decode b_T_deliver 38 = .ok (.iaload, 1) := by decide +kernel
theorem d_T_deliver_39 : decode b_T_deliver 39 = .ok (.istore 4, 2) := by decide +kernel
theorem d_T_deliver_41 : decode b_T_deliver 41 = .ok (.aload_n 0, 1) := by decide +kernel
theorem d_T_deliver_42 : decode b_T_deliver 42 = .ok (.getfield 62, 3) := by decide +kernel
theorem d_T_deliver_45 : decode b_T_deliver 45 = .ok (.iload_n 2, 1) := by decide +kernel
theorem d_T_deliver_46 : decode b_T_deliver 46 = .ok (.iconst 2, 1) := by decide +kernel
theorem d_T_deliver_47 : decode b_T_deliver 47 = .ok (.iadd, 1) := by decide +kernel
theorem d_T_deliver_48 : decode b_T_deliver 48 = .ok (.iaload, 1) := by decide +kernel
theorem d_T_deliver_49 : decode b_T_deliver 49 = .ok (.istore 5, 2) := by decide +kernel
theorem d_T_deliver_51 : decode b_T_deliver 51 = .ok (.aload_n 0, 1) := by decide +kernel
theorem d_T_deliver_52 : decode b_T_deliver 52 = .ok (.getfield 62, 3) := by decide +kernel
theorem d_T_deliver_55 : decode b_T_deliver 55 = .ok (.iload_n 2, 1) := by decide +kernel
theorem d_T_deliver_56 : decode b_T_deliver 56 = .ok (.iconst 3, 1) := by decide +kernel
theorem d_T_deliver_57 : decode b_T_deliver 57 = .ok (.iadd, 1) := by decide +kernel
theorem d_T_deliver_58 : decode b_T_deliver 58 = .ok (.iaload, 1) := by decide +kernel
theorem d_T_deliver_59 : decode b_T_deliver 59 = .ok (.istore 6, 2) := by decide +kernel
theorem d_T_deliver_61 : decode b_T_deliver 61 = .ok (.aload_n 0, 1) := by decide +kernel
theorem d_T_deliver_62 : decode b_T_deliver 62 = .ok (.getfield 62, 3) := by decide +kernel
theorem d_T_deliver_65 : decode b_T_deliver 65 = .ok (.iload_n 2, 1) := by decide +kernel
theorem d_T_deliver_66 : decode b_T_deliver 66 = .ok (.iconst 4, 1) := by decide +kernel
theorem d_T_deliver_67 : decode b_T_deliver 67 = .ok (.iadd, 1) := by decide +kernel
theorem d_T_deliver_68 : decode b_T_deliver 68 = .ok (.iaload, 1) := by decide +kernel
theorem d_T_deliver_69 : decode b_T_deliver 69 = .ok (.istore 7, 2) := by decide +kernel
theorem d_T_deliver_71 : decode b_T_deliver 71 = .ok (.aload_n 0, 1) := by decide +kernel
theorem d_T_deliver_72 : decode b_T_deliver 72 = .ok (.getfield 62, 3) := by decide +kernel
theorem d_T_deliver_75 : decode b_T_deliver 75 = .ok (.iload_n 2, 1) := by decide +kernel
theorem d_T_deliver_76 : decode b_T_deliver 76 = .ok (.iconst 5, 1) := by decide +kernel
theorem d_T_deliver_77 : decode b_T_deliver 77 = .ok (.iadd, 1) := by decide +kernel
theorem d_T_deliver_78 : decode b_T_deliver 78 = .ok (.iaload, 1) := by decide +kernel
end
section
theorem d_T_deliver_79 : decode b_T_deliver 79 = .ok (.istore 8, 2) := by decide +kernel
theorem d_T_deliver_81 : decode b_T_deliver 81 = .ok (.aload_n 0, 1) := by decide +kernel
theorem d_T_deliver_82 : decode b_T_deliver 82 = .ok (.getfield 62, 3) := by decide +kernel
theorem d_T_deliver_85 : decode b_T_deliver 85 = .ok (.iload_n 2, 1) := by decide +kernel
theorem d_T_deliver_86 : decode b_T_deliver 86 = .ok (.bipush 6, 2) := by decide +kernel
theorem d_T_deliver_88 : decode b_T_deliver 88 = .ok (.iadd, 1) := by decide +kernel
theorem d_T_deliver_89 : decode b_T_deliver 89 = .ok (.iaload, 1) := by decide +kernel
theorem d_T_deliver_90 : decode b_T_deliver 90 = .ok (.istore 9, 2) := by decide +kernel
theorem d_T_deliver_92 : decode b_T_deliver 92 = .ok (.aload_n 0, 1) := by decide +kernel
theorem d_T_deliver_93 : decode b_T_deliver 93 = .ok (.iload_n 1, 1) := by decide +kernel
theorem d_T_deliver_94 : decode b_T_deliver 94 = .ok (.invokevirtual 141, 3) := by decide +kernel
theorem d_T_deliver_97 : decode b_T_deliver 97 = .ok (.aload_n 0, 1) := by decide +kernel
theorem d_T_deliver_98 : decode b_T_deliver 98 = .ok (.getfield 7, 3) := by decide +kernel
theorem d_T_deliver_101 : decode b_T_deliver 101 = .ok (.iload 5, 2) := by decide +kernel
theorem d_T_deliver_103 : decode b_T_deliver 103 = .ok (.baload, 1) := by decide +kernel
theorem d_T_deliver_104 : decode b_T_deliver 104 = .ok (.ifCond .eq 20, 3) := by decide +kernel
theorem d_T_deliver_107 : decode b_T_deliver 107 = .ok (.aload_n 0, 1) := by decide +kernel
theorem d_T_deliver_108 : decode b_T_deliver 108 = .ok (.iload_n 3, 1) := by decide +kernel
theorem d_T_deliver_109 : decode b_T_deliver 109 = .ok (.iload 4, 2) := by decide +kernel
theorem d_T_deliver_111 : decode b_T_deliver 111 = .ok (.iload 5, 2) := by decide +kernel
theorem d_T_deliver_113 : decode b_T_deliver 113 = .ok (.iload 6, 2) := by decide +kernel
theorem d_T_deliver_115 : decode b_T_deliver 115 = .ok (.iload 7, 2) := by decide +kernel
theorem d_T_deliver_117 : decode b_T_deliver 117 = .ok (.iload 8, 2) := by decide +kernel
theorem d_T_deliver_119 : decode b_T_deliver 119 = .ok (.iload 9, 2) := by decide +kernel
theorem d_T_deliver_121 : decode b_T_deliver 121 = .ok (.invokevirtual 144, 3) := by decide +kernel
theorem d_T_deliver_124 : decode b_T_deliver 124 = .ok (.iload_n 3, 1) := by decide +kernel
theorem d_T_deliver_125 : decode b_T_deliver 125 = .ok (.ireturn, 1) := by decide +kernel
theorem d_T_lose_0 : decode b_T_lose 0 = .ok (.aload_n 0, 1) := by decide +kernel
theorem d_T_lose_1 : decode b_T_lose 1 = .ok (.iconst 0, 1) := by decide +kernel
theorem d_T_lose_2 : decode b_T_lose 2 = .ok (.putfield 72, 3) := by decide +kernel
theorem d_T_lose_5 : decode b_T_lose 5 = .ok (.iload_n 1, 1) := by decide +kernel
theorem d_T_lose_6 : decode b_T_lose 6 = .ok (.ifCond .lt 11, 3) := by decide +kernel
theorem d_T_lose_9 : decode b_T_lose 9 = .ok (.iload_n 1, 1) := by decide +kernel
theorem d_T_lose_10 : decode b_T_lose 10 = .ok (.aload_n 0, 1) := by decide +kernel
theorem d_T_lose_11 : decode b_T_lose 11 = .ok (.getfield 82, 3) := by decide +kernel
theorem d_T_lose_14 : decode b_T_lose 14 = .ok (.if_icmp .lt 5, 3) := by decide +kernel
theorem d_T_lose_17 : decode b_T_lose 17 = .ok (.iconst 0, 1) := by decide +kernel
theorem d_T_lose_18 : decode b_T_lose 18 = .ok (.ireturn, 1) := by decide +kernel
theorem d_T_lose_19 : decode b_T_lose 19 = .ok (.aload_n 0, 1) := by decide +kernel
theorem d_T_lose_20 : decode b_T_lose 20 = .ok (.iload_n 1, 1) := by decide +kernel
theorem d_T_lose_21 : decode b_T_lose 21 = .ok (.invokevirtual 141, 3) := by decide +kernel
theorem d_T_lose_24 : decode b_T_lose 24 = .ok (.iconst 1, 1) := by decide +kernel
theorem d_T_lose_25 : decode b_T_lose 25 = .ok (.ireturn, 1) := by decide +kernel
theorem d_T_twice_0 : decode b_T_twice 0 = .ok (.aload_n 0, 1) := by decide +kernel
theorem d_T_twice_1 : decode b_T_twice 1 = .ok (.iconst 0, 1) := by decide +kernel
theorem d_T_twice_2 : decode b_T_twice 2 = .ok (.putfield 72, 3) := by decide +kernel
theorem d_T_twice_5 : decode b_T_twice 5 = .ok (.iload_n 1, 1) := by decide +kernel
theorem d_T_twice_6 : decode b_T_twice 6 = .ok (.ifCond .lt 21, 3) := by decide +kernel
theorem d_T_twice_9 : decode b_T_twice 9 = .ok (.iload_n 1, 1) := by decide +kernel
theorem d_T_twice_10 : decode b_T_twice 10 = .ok (.aload_n 0, 1) := by decide +kernel
theorem d_T_twice_11 : decode b_T_twice 11 = .ok (.getfield 82, 3) := by decide +kernel
theorem d_T_twice_14 : decode b_T_twice 14 = .ok (.if_icmp .ge 13, 3) := by decide +kernel
theorem d_T_twice_17 : decode b_T_twice 17 = .ok (.aload_n 0, 1) := by decide +kernel
theorem d_T_twice_18 : decode b_T_twice 18 = .ok (.getfield 82, 3) := by decide +kernel
theorem d_T_twice_21 : decode b_T_twice 21 = .ok (.sipush 200, 3) := by decide +kernel
theorem d_T_twice_24 : decode b_T_twice 24 = .ok (.if_icmp .ne 5, 3) := by decide +kernel
theorem d_T_twice_27 : decode b_T_twice 27 = .ok (.iconst 0, 1) := by decide +kernel
theorem d_T_twice_28 : decode b_T_twice 28 = .ok (.ireturn, 1) := by decide +kernel
theorem d_T_twice_29 : decode b_T_twice 29 = .ok (.iconst 0, 1) := by decide +kernel
theorem d_T_twice_30 : decode b_T_twice 30 = .ok (.istore_n 2, 1) := by decide +kernel
theorem d_T_twice_31 : decode b_T_twice 31 = .ok (.iload_n 2, 1) := by decide +kernel
theorem d_T_twice_32 : decode b_T_twice 32 = .ok (.bipush 7, 2) := by decide +kernel
theorem d_T_twice_34 : decode b_T_twice 34 = .ok (.if_icmp .ge 34, 3) := by decide +kernel
theorem d_T_twice_37 : decode b_T_twice 37 = .ok (.aload_n 0, 1) := by decide +kernel
theorem d_T_twice_38 : decode b_T_twice 38 = .ok (.getfield 62, 3) := by decide +kernel
theorem d_T_twice_41 : decode b_T_twice 41 = .ok (.bipush 7, 2) := by decide +kernel
theorem d_T_twice_43 : decode b_T_twice 43 = .ok (.aload_n 0, 1) := by decide +kernel
theorem d_T_twice_44 : decode b_T_twice 44 = .ok (.getfield 82, 3) := by decide +kernel
theorem d_T_twice_47 : decode b_T_twice 47 = .ok (.imul, 1) := by decide +kernel
theorem d_T_twice_48 : decode b_T_twice 48 = .ok (.iload_n 2, 1) := by decide +kernel
theorem d_T_twice_49 : decode b_T_twice 49 = .ok (.iadd, 1) := by decide +kernel
theorem d_T_twice_50 : decode b_T_twice 50 = .ok (.aload_n 0, 1) := by decide +kernel
theorem d_T_twice_51 : decode b_T_twice 51 = .ok (.getfield 62, 3) := by decide +kernel
theorem d_T_twice_54 : decode b_T_twice 54 = .ok (.bipush 7, 2) := by decide +kernel
theorem d_T_twice_56 : decode b_T_twice 56 = .ok (.iload_n 1, 1) := by decide +kernel
theorem d_T_twice_57 : decode b_T_twice 57 = .ok (.imul, 1) := by decide +kernel
theorem d_T_twice_58 : decode b_T_twice 58 = .ok (.iload_n 2, 1) := by decide +kernel
theorem d_T_twice_59 : decode b_T_twice 59 = .ok (.iadd, 1) := by decide +kernel
theorem d_T_twice_60 : decode b_T_twice 60 = .ok (.iaload, 1) := by decide +kernel
theorem d_T_twice_61 : decode b_T_twice 61 = .ok (.iastore, 1) := by decide +kernel
theorem d_T_twice_62 : decode b_T_twice 62 = .ok (.iinc 2 1, 3) := by decide +kernel
theorem d_T_twice_65 : decode b_T_twice 65 = .ok (.goto (-34), 3) := by decide +kernel
theorem d_T_twice_68 : decode b_T_twice 68 = .ok (.aload_n 0, 1) := by decide +kernel
theorem d_T_twice_69 : decode b_T_twice 69 = .ok (.dup, 1) := by decide +kernel
theorem d_T_twice_70 : decode b_T_twice 70 = .ok (.getfield 82, 3) := by decide +kernel
theorem d_T_twice_73 : decode b_T_twice 73 = .ok (.iconst 1, 1) := by decide +kernel
theorem d_T_twice_74 : decode b_T_twice 74 = .ok (.iadd, 1) := by decide +kernel
theorem d_T_twice_75 : decode b_T_twice 75 = .ok (.putfield 82, 3) := by decide +kernel
theorem d_T_twice_78 : decode b_T_twice 78 = .ok (.iconst 1, 1) := by decide +kernel
theorem d_T_twice_79 : decode b_T_twice 79 = .ok (.ireturn, 1) := by decide +kernel
theorem d_T_turn_0 : decode b_T_turn 0 = .ok (.aload_n 0, 1) := by decide +kernel
theorem d_T_turn_1 : decode b_T_turn 1 = .ok (.iconst 0, 1) := by decide +kernel
theorem d_T_turn_2 : decode b_T_turn 2 = .ok (.putfield 72, 3) := by decide +kernel
theorem d_T_turn_5 : decode b_T_turn 5 = .ok (.aload_n 0, 1) := by decide +kernel
theorem d_T_turn_6 : decode b_T_turn 6 = .ok (.iload_n 1, 1) := by decide +kernel
theorem d_T_turn_7 : decode b_T_turn 7 = .ok (.invokevirtual 75, 3) := by decide +kernel
theorem d_T_turn_10 : decode b_T_turn 10 = .ok (.ifCond .eq 25, 3) := by decide +kernel
theorem d_T_turn_13 : decode b_T_turn 13 = .ok (.aload_n 0, 1) := by decide +kernel
theorem d_T_turn_14 : decode b_T_turn 14 = .ok (.getfield 7, 3) := by decide +kernel
theorem d_T_turn_17 : decode b_T_turn 17 = .ok (.aload_n 0, 1) := by decide +kernel
theorem d_T_turn_18 : decode b_T_turn 18 = .ok (.iload_n 1, 1) := by decide +kernel
theorem d_T_turn_19 : decode b_T_turn 19 = .ok (.invokevirtual 75, 3) := by decide +kernel
theorem d_T_turn_22 : decode b_T_turn 22 = .ok (.ifCond .eq 7, 3) := by decide +kernel
theorem d_T_turn_25 : decode b_T_turn 25 = .ok (.iload_n 1, 1) := by decide +kernel
theorem d_T_turn_26 : decode b_T_turn 26 = .ok (.goto 4, 3) := by decide +kernel
theorem d_T_turn_29 : decode b_T_turn 29 = .ok (.iconst 0, 1) := by decide +kernel
theorem d_T_turn_30 : decode b_T_turn 30 = .ok (.baload, 1) := by decide +kernel
theorem d_T_turn_31 : decode b_T_turn 31 = .ok (.iload_n 2, 1) := by decide +kernel
theorem d_T_turn_32 : decode b_T_turn 32 = .ok (.if_icmp .ne 5, 3) := by decide +kernel
theorem d_T_turn_35 : decode b_T_turn 35 = .ok (.iconst 0, 1) := by decide +kernel
theorem d_T_turn_36 : decode b_T_turn 36 = .ok (.ireturn, 1) := by decide +kernel
theorem d_T_turn_37 : decode b_T_turn 37 = .ok (.aload_n 0, 1) := by decide +kernel
theorem d_T_turn_38 : decode b_T_turn 38 = .ok (.getfield 7, 3) := by decide +kernel
theorem d_T_turn_41 : decode b_T_turn 41 = .ok (.iload_n 1, 1) := by decide +kernel
theorem d_T_turn_42 : decode b_T_turn 42 = .ok (.iload_n 2, 1) := by decide +kernel
theorem d_T_turn_43 : decode b_T_turn 43 = .ok (.bastore, 1) := by decide +kernel
theorem d_T_turn_44 : decode b_T_turn 44 = .ok (.aload_n 0, 1) := by decide +kernel
theorem d_T_turn_45 : decode b_T_turn 45 = .ok (.iload_n 1, 1) := by decide +kernel
theorem d_T_turn_46 : decode b_T_turn 46 = .ok (.invokevirtual 92, 3) := by decide +kernel
theorem d_T_turn_49 : decode b_T_turn 49 = .ok (.aload_n 0, 1) := by decide +kernel
theorem d_T_turn_50 : decode b_T_turn 50 = .ok (.getfield 59, 3) := by decide +kernel
theorem d_T_turn_53 : decode b_T_turn 53 = .ok (.iload_n 1, 1) := by decide +kernel
theorem d_T_turn_54 : decode b_T_turn 54 = .ok (.iconst 0, 1) := by decide +kernel
theorem d_T_turn_55 : decode b_T_turn 55 = .ok (.iastore, 1) := by decide +kernel
theorem d_T_turn_56 : decode b_T_turn 56 = .ok (.aload_n 0, 1) := by decide +kernel
theorem d_T_turn_57 : decode b_T_turn 57 = .ok (.getfield 53, 3) := by decide +kernel
theorem d_T_turn_60 : decode b_T_turn 60 = .ok (.iload_n 1, 1) := by decide +kernel
theorem d_T_turn_61 : decode b_T_turn 61 = .ok (.aload_n 0, 1) := by decide +kernel
theorem d_T_turn_62 : decode b_T_turn 62 = .ok (.getfield 23, 3) := by decide +kernel
theorem d_T_turn_65 : decode b_T_turn 65 = .ok (.iload_n 1, 1) := by decide +kernel
theorem d_T_turn_66 : decode b_T_turn 66 = .ok (.iaload, 1) := by decide +kernel
theorem d_T_turn_67 : decode b_T_turn 67 = .ok (.iastore, 1) := by decide +kernel
theorem d_T_turn_68 : decode b_T_turn 68 = .ok (.iconst 1, 1) := by decide +kernel
theorem d_T_turn_69 : decode b_T_turn 69 = .ok (.ireturn, 1) := by decide +kernel
theorem d_T_replica_0 : decode b_T_replica 0 = .ok (.aload_n 0, 1) := by decide +kernel
theorem d_T_replica_1 : decode b_T_replica 1 = .ok (.iconst 0, 1) := by decide +kernel
theorem d_T_replica_2 : decode b_T_replica 2 = .ok (.putfield 72, 3) := by decide +kernel
theorem d_T_replica_5 : decode b_T_replica 5 = .ok (.aload_n 0, 1) := by decide +kernel
theorem d_T_replica_6 : decode b_T_replica 6 = .ok (.iload_n 1, 1) := by decide +kernel
theorem d_T_replica_7 : decode b_T_replica 7 = .ok (.invokevirtual 75, 3) := by decide +kernel
theorem d_T_replica_10 : decode b_T_replica 10 = .ok (.ifCond .eq 40, 3) := by decide +kernel
theorem d_T_replica_13 : decode b_T_replica 13 = .ok (.iload_n 2, 1) := by decide +kernel
theorem d_T_replica_14 : decode b_T_replica 14 = .ok (.ifCond .lt 36, 3) := by decide +kernel
theorem d_T_replica_17 : decode b_T_replica 17 = .ok (.iload_n 2, 1) := by decide +kernel
theorem d_T_replica_18 : decode b_T_replica 18 = .ok (.bipush 12, 2) := by decide +kernel
theorem d_T_replica_20 : decode b_T_replica 20 = .ok (.if_icmp .gt 30, 3) := by decide +kernel
theorem d_T_replica_23 : decode b_T_replica 23 = .ok (.iload_n 2, 1) := by decide +kernel
theorem d_T_replica_24 : decode b_T_replica 24 = .ok (.bipush 6, 2) := by decide +kernel
theorem d_T_replica_26 : decode b_T_replica 26 = .ok (.if_icmp .le 26, 3) := by decide +kernel
theorem d_T_replica_29 : decode b_T_replica 29 = .ok (.aload_n 0, 1) := by decide +kernel
theorem d_T_replica_30 : decode b_T_replica 30 = .ok (.getfield 7, 3) := by decide +kernel
theorem d_T_replica_33 : decode b_T_replica 33 = .ok (.aload_n 0, 1) := by decide +kernel
theorem d_T_replica_34 : decode b_T_replica 34 = .ok (.iload_n 1, 1) := by decide +kernel
theorem d_T_replica_35 : decode b_T_replica 35 = .ok (.invokevirtual 75, 3) := by decide +kernel
theorem d_T_replica_38 : decode b_T_replica 38 = .ok (.ifCond .eq 7, 3) := by decide +kernel
theorem d_T_replica_41 : decode b_T_replica 41 = .ok (.iload_n 1, 1) := by decide +kernel
theorem d_T_replica_42 : decode b_T_replica 42 = .ok (.goto 4, 3) := by decide +kernel
theorem d_T_replica_45 : decode b_T_replica 45 = .ok (.iconst 0, 1) := by decide +kernel
theorem d_T_replica_46 : decode b_T_replica 46 = .ok (.baload, 1) := by decide +kernel
theorem d_T_replica_47 : decode b_T_replica 47 = .ok (.ifCond .ne 5, 3) := by decide +kernel
theorem d_T_replica_50 : decode b_T_replica 50 = .ok (.iconst (-1), 1) := by decide +kernel
theorem d_T_replica_51 : decode b_T_replica 51 = .ok (.ireturn, 1) := by decide +kernel
theorem d_T_replica_52 : decode b_T_replica 52 = .ok (.iload_n 2, 1) := by decide +kernel
theorem d_T_replica_53 : decode b_T_replica 53 = .ok (.tableswitch 191 0 11 #[63, 78, 85, 92, 99, 106, 126, 133, 140, 147, 177, 184], 63) := by decide +kernel
theorem d_T_replica_116 : decode b_T_replica 116 = .ok (.aload_n 0, 1) := by decide +kernel
theorem d_T_replica_117 : decode b_T_replica 117 = .ok (.getfield 7, 3) := by decide +kernel
theorem d_T_replica_120 : decode b_T_replica 120 = .ok (.iload_n 1, 1) := by decide +kernel
theorem d_T_replica_121 : decode b_T_replica 121 = .ok (.baload, 1) := by decide +kernel
theorem d_T_replica_122 : decode b_T_replica 122 = .ok (.ifCond .eq 7, 3) := by decide +kernel
theorem d_T_replica_125 : decode b_T_replica 125 = .ok (.iconst 1, 1) := by decide +kernel
theorem d_T_replica_126 : decode b_T_replica 126 = .ok (.goto 4, 3) := by decide +kernel
theorem d_T_replica_129 : decode b_T_replica 129 = .ok (.iconst 0, 1) := by decide +kernel
theorem d_T_replica_130 : decode b_T_replica 130 = .ok (.ireturn, 1) := by decide +kernel
theorem d_T_replica_131 : decode b_T_replica 131 = .ok (.aload_n 0, 1) := by decide +kernel
theorem d_T_replica_132 : decode b_T_replica 132 = .ok (.getfield 13, 3) := by decide +kernel
theorem d_T_replica_135 : decode b_T_replica 135 = .ok (.iload_n 1, 1) := by decide +kernel
theorem d_T_replica_136 : decode b_T_replica 136 = .ok (.iaload, 1) := by decide +kernel
theorem d_T_replica_137 : decode b_T_replica 137 = .ok (.ireturn, 1) := by decide +kernel
theorem d_T_replica_138 : decode b_T_replica 138 = .ok (.aload_n 0, 1) := by decide +kernel
theorem d_T_replica_139 : decode b_T_replica 139 = .ok (.getfield 17, 3) := by decide +kernel
theorem d_T_replica_142 : decode b_T_replica 142 = .ok (.iload_n 1, 1) := by decide +kernel
theorem d_T_replica_143 : decode b_T_replica 143 = .ok (.iaload, 1) := by decide +kernel
theorem d_T_replica_144 : decode b_T_replica 144 = .ok (.ireturn, 1) := by decide +kernel
theorem d_T_replica_145 : decode b_T_replica 145 = .ok (.aload_n 0, 1) := by decide +kernel
theorem d_T_replica_146 : decode b_T_replica 146 = .ok (.getfield 20, 3) := by decide +kernel
theorem d_T_replica_149 : decode b_T_replica 149 = .ok (.iload_n 1, 1) := by decide +kernel
theorem d_T_replica_150 : decode b_T_replica 150 = .ok (.iaload, 1) := by decide +kernel
theorem d_T_replica_151 : decode b_T_replica 151 = .ok (.ireturn, 1) := by decide +kernel
theorem d_T_replica_152 : decode b_T_replica 152 = .ok (.aload_n 0, 1) := by decide +kernel
theorem d_T_replica_153 : decode b_T_replica 153 = .ok (.getfield 23, 3) := by decide +kernel
theorem d_T_replica_156 : decode b_T_replica 156 = .ok (.iload_n 1, 1) := by decide +kernel
theorem d_T_replica_157 : decode b_T_replica 157 = .ok (.iaload, 1) := by decide +kernel
theorem d_T_replica_158 : decode b_T_replica 158 = .ok (.ireturn, 1) := by decide +kernel
theorem d_T_replica_159 : decode b_T_replica 159 = .ok (.aload_n 0, 1) := by decide +kernel
theorem d_T_replica_160 : decode b_T_replica 160 = .ok (.getfield 29, 3) := by decide +kernel
theorem d_T_replica_163 : decode b_T_replica 163 = .ok (.iload_n 1, 1) := by decide +kernel
theorem d_T_replica_164 : decode b_T_replica 164 = .ok (.iaload, 1) := by decide +kernel
theorem d_T_replica_165 : decode b_T_replica 165 = .ok (.ifCond .le 12, 3) := by decide +kernel
theorem d_T_replica_168 : decode b_T_replica 168 = .ok (.aload_n 0, 1) := by decide +kernel
theorem d_T_replica_169 : decode b_T_replica 169 = .ok (.getfield 26, 3) := by decide +kernel
theorem d_T_replica_172 : decode b_T_replica 172 = .ok (.iload_n 1, 1) := by decide +kernel
theorem d_T_replica_173 : decode b_T_replica 173 = .ok (.iaload, 1) := by decide +kernel
theorem d_T_replica_174 : decode b_T_replica 174 = .ok (.goto 4, 3) := by decide +kernel
theorem d_T_replica_177 : decode b_T_replica 177 = .ok (.iconst (-1), 1) := by decide +kernel
theorem d_T_replica_178 : decode b_T_replica 178 = .ok (.ireturn, 1) := by decide +kernel
theorem d_T_replica_179 : decode b_T_replica 179 = .ok (.aload_n 0, 1) := by decide +kernel
theorem d_T_replica_180 : decode b_T_replica 180 = .ok (.getfield 29, 3) := by decide +kernel
theorem d_T_replica_183 : decode b_T_replica 183 = .ok (.iload_n 1, 1) := by decide +kernel
theorem d_T_replica_184 : decode b_T_replica 184 = .ok (.iaload, 1) := by decide +kernel
theorem d_T_replica_185 : decode b_T_replica 185 = .ok (.ireturn, 1) := by decide +kernel
theorem d_T_replica_186 : decode b_T_replica 186 = .ok (.aload_n 0, 1) := by decide +kernel
theorem d_T_replica_187 : decode b_T_replica 187 = .ok (.getfield 35, 3) := by decide +kernel
theorem d_T_replica_190 : decode b_T_replica 190 = .ok (.iload_n 1, 1) := by decide +kernel
theorem d_T_replica_191 : decode b_T_replica 191 = .ok (.iaload, 1) := by decide +kernel
theorem d_T_replica_192 : decode b_T_replica 192 = .ok (.ireturn, 1) := by decide +kernel
theorem d_T_replica_193 : decode b_T_replica 193 = .ok (.aload_n 0, 1) := by decide +kernel
theorem d_T_replica_194 : decode b_T_replica 194 = .ok (.getfield 38, 3) := by decide +kernel
theorem d_T_replica_197 : decode b_T_replica 197 = .ok (.iload_n 1, 1) := by decide +kernel
theorem d_T_replica_198 : decode b_T_replica 198 = .ok (.iaload, 1) := by decide +kernel
theorem d_T_replica_199 : decode b_T_replica 199 = .ok (.ireturn, 1) := by decide +kernel
theorem d_T_replica_200 : decode b_T_replica 200 = .ok (.aload_n 0, 1) := by decide +kernel
theorem d_T_replica_201 : decode b_T_replica 201 = .ok (.getfield 35, 3) := by decide +kernel
theorem d_T_replica_204 : decode b_T_replica 204 = .ok (.iload_n 1, 1) := by decide +kernel
theorem d_T_replica_205 : decode b_T_replica 205 = .ok (.iaload, 1) := by decide +kernel
theorem d_T_replica_206 : decode b_T_replica 206 = .ok (.iconst 2, 1) := by decide +kernel
theorem d_T_replica_207 : decode b_T_replica 207 = .ok (.if_icmp .ne 16, 3) := by decide +kernel
theorem d_T_replica_210 : decode b_T_replica 210 = .ok (.aload_n 0, 1) := by decide +kernel
theorem d_T_replica_211 : decode b_T_replica 211 = .ok (.getfield 44, 3) := by decide +kernel
theorem d_T_replica_214 : decode b_T_replica 214 = .ok (.iload_n 1, 1) := by decide +kernel
theorem d_T_replica_215 : decode b_T_replica 215 = .ok (.iaload, 1) := by decide +kernel
theorem d_T_replica_216 : decode b_T_replica 216 = .ok (.ifCond .ne 7, 3) := by decide +kernel
theorem d_T_replica_219 : decode b_T_replica 219 = .ok (.iconst 0, 1) := by decide +kernel
theorem d_T_replica_220 : decode b_T_replica 220 = .ok (.goto 9, 3) := by decide +kernel
theorem d_T_replica_223 : decode b_T_replica 223 = .ok (.aload_n 0, 1) := by decide +kernel
theorem d_T_replica_224 : decode b_T_replica 224 = .ok (.getfield 41, 3) := by decide +kernel
theorem d_T_replica_227 : decode b_T_replica 227 = .ok (.iload_n 1, 1) := by decide +kernel
theorem d_T_replica_228 : decode b_T_replica 228 = .ok (.iaload, 1) := by decide +kernel
theorem d_T_replica_229 : decode b_T_replica 229 = .ok (.ireturn, 1) := by decide +kernel
theorem d_T_replica_230 : decode b_T_replica 230 = .ok (.aload_n 0, 1) := by decide +kernel
theorem d_T_replica_231 : decode b_T_replica 231 = .ok (.getfield 53, 3) := by decide +kernel
theorem d_T_replica_234 : decode b_T_replica 234 = .ok (.iload_n 1, 1) := by decide +kernel
theorem d_T_replica_235 : decode b_T_replica 235 = .ok (.iaload, 1) := by decide +kernel
theorem d_T_replica_236 : decode b_T_replica 236 = .ok (.ireturn, 1) := by decide +kernel
theorem d_T_replica_237 : decode b_T_replica 237 = .ok (.aload_n 0, 1) := by decide +kernel
theorem d_T_replica_238 : decode b_T_replica 238 = .ok (.getfield 59, 3) := by decide +kernel
theorem d_T_replica_241 : decode b_T_replica 241 = .ok (.iload_n 1, 1) := by decide +kernel
theorem d_T_replica_242 : decode b_T_replica 242 = .ok (.iaload, 1) := by decide +kernel
theorem d_T_replica_243 : decode b_T_replica 243 = .ok (.ireturn, 1) := by decide +kernel
theorem d_T_replica_244 : decode b_T_replica 244 = .ok (.aload_n 0, 1) := by decide +kernel
theorem d_T_replica_245 : decode b_T_replica 245 = .ok (.getfield 44, 3) := by decide +kernel
theorem d_T_replica_248 : decode b_T_replica 248 = .ok (.iload_n 1, 1) := by decide +kernel
theorem d_T_replica_249 : decode b_T_replica 249 = .ok (.iaload, 1) := by decide +kernel
theorem d_T_replica_250 : decode b_T_replica 250 = .ok (.ireturn, 1) := by decide +kernel
theorem d_T_slot_0 : decode b_T_slot 0 = .ok (.aload_n 0, 1) := by decide +kernel
theorem d_T_slot_1 : decode b_T_slot 1 = .ok (.iconst 0, 1) := by decide +kernel
theorem d_T_slot_2 : decode b_T_slot 2 = .ok (.putfield 72, 3) := by decide +kernel
theorem d_T_slot_5 : decode b_T_slot 5 = .ok (.aload_n 0, 1) := by decide +kernel
theorem d_T_slot_6 : decode b_T_slot 6 = .ok (.iload_n 1, 1) := by decide +kernel
theorem d_T_slot_7 : decode b_T_slot 7 = .ok (.invokevirtual 75, 3) := by decide +kernel
theorem d_T_slot_10 : decode b_T_slot 10 = .ok (.ifCond .eq 51, 3) := by decide +kernel
theorem d_T_slot_13 : decode b_T_slot 13 = .ok (.iload_n 2, 1) := by decide +kernel
theorem d_T_slot_14 : decode b_T_slot 14 = .ok (.aload_n 0, 1) := by decide +kernel
theorem d_T_slot_15 : decode b_T_slot 15 = .ok (.getfield 20, 3) := by decide +kernel
theorem d_T_slot_18 : decode b_T_slot 18 = .ok (.aload_n 0, 1) := by decide +kernel
theorem d_T_slot_19 : decode b_T_slot 19 = .ok (.iload_n 1, 1) := by decide +kernel
theorem d_T_slot_20 : decode b_T_slot 20 = .ok (.invokevirtual 75, 3) := by decide +kernel
theorem d_T_slot_23 : decode b_T_slot 23 = .ok (.ifCond .eq 7, 3) := by decide +kernel
theorem d_T_slot_26 : decode b_T_slot 26 = .ok (.iload_n 1, 1) := by decide +kernel
theorem d_T_slot_27 : decode b_T_slot 27 = .ok (.goto 4, 3) := by decide +kernel
theorem d_T_slot_30 : decode b_T_slot 30 = .ok (.iconst 0, 1) := by decide +kernel
theorem d_T_slot_31 : decode b_T_slot 31 = .ok (.iaload, 1) := by decide +kernel
theorem d_T_slot_32 : decode b_T_slot 32 = .ok (.if_icmp .le 29, 3) := by decide +kernel
theorem d_T_slot_35 : decode b_T_slot 35 = .ok (.iload_n 2, 1) := by decide +kernel
theorem d_T_slot_36 : decode b_T_slot 36 = .ok (.aload_n 0, 1) := by decide +kernel
theorem d_T_slot_37 : decode b_T_slot 37 = .ok (.getfield 13, 3) := by decide +kernel
theorem d_T_slot_40 : decode b_T_slot 40 = .ok (.aload_n 0, 1) := by decide +kernel
theorem d_T_slot_41 : decode b_T_slot 41 = .ok (.iload_n 1, 1) := by decide +kernel
theorem d_T_slot_42 : decode b_T_slot 42 = .ok (.invokevirtual 75, 3) := by decide +kernel
theorem d_T_slot_45 : decode b_T_slot 45 = .ok (.ifCond .eq 7, 3) := by decide +kernel
theorem d_T_slot_48 : decode b_T_slot 48 = .ok (.iload_n 1, 1) := by decide +kernel
theorem d_T_slot_49 : decode b_T_slot 49 = .ok (.goto 4, 3) := by decide +kernel
theorem d_T_slot_52 : decode b_T_slot 52 = .ok (.iconst 0, 1) := by decide +kernel
theorem d_T_slot_53 : decode b_T_slot 53 = .ok (.iaload, 1) := by decide +kernel
theorem d_T_slot_54 : decode b_T_slot 54 = .ok (.if_icmp .gt 7, 3) := by decide +kernel
theorem d_T_slot_57 : decode b_T_slot 57 = .ok (.iconst 1, 1) := by decide +kernel
theorem d_T_slot_58 : decode b_T_slot 58 = .ok (.goto 4, 3) := by decide +kernel
theorem d_T_slot_61 : decode b_T_slot 61 = .ok (.iconst 0, 1) := by decide +kernel
theorem d_T_slot_62 : decode b_T_slot 62 = .ok (.istore_n 3, 1) := by decide +kernel
theorem d_T_slot_63 : decode b_T_slot 63 = .ok (.iload_n 3, 1) := by decide +kernel
theorem d_T_slot_64 : decode b_T_slot 64 = .ok (.ifCond .eq 20, 3) := by decide +kernel
theorem d_T_slot_67 : decode b_T_slot 67 = .ok (.aload_n 0, 1) := by decide +kernel
theorem d_T_slot_68 : decode b_T_slot 68 = .ok (.getfield 32, 3) := by decide +kernel
theorem d_T_slot_71 : decode b_T_slot 71 = .ok (.bipush 40, 2) := by decide +kernel
theorem d_T_slot_73 : decode b_T_slot 73 = .ok (.iload_n 1, 1) := by decide +kernel
theorem d_T_slot_74 : decode b_T_slot 74 = .ok (.imul, 1) := by decide +kernel
theorem d_T_slot_75 : decode b_T_slot 75 = .ok (.iload_n 2, 1) := by decide +kernel
theorem d_T_slot_76 : decode b_T_slot 76 = .ok (.bipush 40, 2) := by decide +kernel
theorem d_T_slot_78 : decode b_T_slot 78 = .ok (.irem, 1) := by decide +kernel
theorem d_T_slot_79 : decode b_T_slot 79 = .ok (.iadd, 1) := by decide +kernel
theorem d_T_slot_80 : decode b_T_slot 80 = .ok (.iaload, 1) := by decide +kernel
theorem d_T_slot_81 : decode b_T_slot 81 = .ok (.goto 4, 3) := by decide +kernel
theorem d_T_slot_84 : decode b_T_slot 84 = .ok (.iconst 0, 1) := by decide +kernel
theorem d_T_slot_85 : decode b_T_slot 85 = .ok (.ireturn, 1) := by decide +kernel
theorem d_T_waiting_0 : decode b_T_waiting 0 = .ok (.aload_n 0, 1) := by decide +kernel
theorem d_T_waiting_1 : decode b_T_waiting 1 = .ok (.iconst 0, 1) := by decide +kernel
theorem d_T_waiting_2 : decode b_T_waiting 2 = .ok (.putfield 72, 3) := by decide +kernel
theorem d_T_waiting_5 : decode b_T_waiting 5 = .ok (.aload_n 0, 1) := by decide +kernel
theorem d_T_waiting_6 : decode b_T_waiting 6 = .ok (.iload_n 1, 1) := by decide +kernel
theorem d_T_waiting_7 : decode b_T_waiting 7 = .ok (.invokevirtual 135, 3) := by decide +kernel
theorem d_T_waiting_10 : decode b_T_waiting 10 = .ok (.ifCond .eq 43, 3) := by decide +kernel
theorem d_T_waiting_13 : decode b_T_waiting 13 = .ok (.iload_n 2, 1) := by decide +kernel
theorem d_T_waiting_14 : decode b_T_waiting 14 = .ok (.ifCond .lt 39, 3) := by decide +kernel
theorem d_T_waiting_17 : decode b_T_waiting 17 = .ok (.iload_n 2, 1) := by decide +kernel
theorem d_T_waiting_18 : decode b_T_waiting 18 = .ok (.aload_n 0, 1) := by decide +kernel
theorem d_T_waiting_19 : decode b_T_waiting 19 = .ok (.getfield 59, 3) := by decide +kernel
theorem d_T_waiting_22 : decode b_T_waiting 22 = .ok (.aload_n 0, 1) := by decide +kernel
theorem d_T_waiting_23 : decode b_T_waiting 23 = .ok (.iload_n 1, 1) := by decide +kernel
theorem d_T_waiting_24 : decode b_T_waiting 24 = .ok (.invokevirtual 135, 3) := by decide +kernel
theorem d_T_waiting_27 : decode b_T_waiting 27 = .ok (.ifCond .eq 7, 3) := by decide +kernel
theorem d_T_waiting_30 : decode b_T_waiting 30 = .ok (.iload_n 1, 1) := by decide +kernel
theorem d_T_waiting_31 : decode b_T_waiting 31 = .ok (.goto 4, 3) := by decide +kernel
theorem d_T_waiting_34 : decode b_T_waiting 34 = .ok (.iconst 0, 1) := by decide +kernel
theorem d_T_waiting_35 : decode b_T_waiting 35 = .ok (.iaload, 1) := by decide +kernel
theorem d_T_waiting_36 : decode b_T_waiting 36 = .ok (.if_icmp .ge 17, 3) := by decide +kernel
theorem d_T_waiting_39 : decode b_T_waiting 39 = .ok (.aload_n 0, 1) := by decide +kernel
theorem d_T_waiting_40 : decode b_T_waiting 40 = .ok (.getfield 56, 3) := by decide +kernel
theorem d_T_waiting_43 : decode b_T_waiting 43 = .ok (.bipush 8, 2) := by decide +kernel
theorem d_T_waiting_45 : decode b_T_waiting 45 = .ok (.iload_n 1, 1) := by decide +kernel
theorem d_T_waiting_46 : decode b_T_waiting 46 = .ok (.imul, 1) := by decide +kernel
theorem d_T_waiting_47 : decode b_T_waiting 47 = .ok (.iload_n 2, 1) := by decide +kernel
theorem d_T_waiting_48 : decode b_T_waiting 48 = .ok (.iadd, 1) := by decide +kernel
theorem d_T_waiting_49 : decode b_T_waiting 49 = .ok (.iaload, 1) := by decide +kernel
theorem d_T_waiting_50 : decode b_T_waiting 50 = .ok (.goto 4, 3) := by decide +kernel
theorem d_T_waiting_53 : decode b_T_waiting 53 = .ok (.iconst 0, 1) := by decide +kernel
theorem d_T_waiting_54 : decode b_T_waiting 54 = .ok (.ireturn, 1) := by decide +kernel
theorem d_T_message_0 : decode b_T_message 0 = .ok (.aload_n 0, 1) := by decide +kernel
theorem d_T_message_1 : decode b_T_message 1 = .ok (.iconst 0, 1) := by decide +kernel
theorem d_T_message_2 : decode b_T_message 2 = .ok (.putfield 72, 3) := by decide +kernel
theorem d_T_message_5 : decode b_T_message 5 = .ok (.iload_n 1, 1) := by decide +kernel
theorem d_T_message_6 : decode b_T_message 6 = .ok (.ifCond .lt 21, 3) := by decide +kernel
theorem d_T_message_9 : decode b_T_message 9 = .ok (.iload_n 1, 1) := by decide +kernel
theorem d_T_message_10 : decode b_T_message 10 = .ok (.aload_n 0, 1) := by decide +kernel
theorem d_T_message_11 : decode b_T_message 11 = .ok (.getfield 82, 3) := by decide +kernel
theorem d_T_message_14 : decode b_T_message 14 = .ok (.if_icmp .ge 13, 3) := by decide +kernel
theorem d_T_message_17 : decode b_T_message 17 = .ok (.iload_n 2, 1) := by decide +kernel
theorem d_T_message_18 : decode b_T_message 18 = .ok (.ifCond .lt 9, 3) := by decide +kernel
theorem d_T_message_21 : decode b_T_message 21 = .ok (.iload_n 2, 1) := by decide +kernel
theorem d_T_message_22 : decode b_T_message 22 = .ok (.bipush 6, 2) := by decide +kernel
theorem d_T_message_24 : decode b_T_message 24 = .ok (.if_icmp .le 7, 3) := by decide +kernel
theorem d_T_message_27 : decode b_T_message 27 = .ok (.iconst (-1), 1) := by decide +kernel
theorem d_T_message_28 : decode b_T_message 28 = .ok (.goto 14, 3) := by decide +kernel
theorem d_T_message_31 : decode b_T_message 31 = .ok (.aload_n 0, 1) := by decide +kernel
theorem d_T_message_32 : decode b_T_message 32 = .ok (.getfield 62, 3) := by decide +kernel
theorem d_T_message_35 : decode b_T_message 35 = .ok (.bipush 7, 2) := by decide +kernel
theorem d_T_message_37 : decode b_T_message 37 = .ok (.iload_n 1, 1) := by decide +kernel
theorem d_T_message_38 : decode b_T_message 38 = .ok (.imul, 1) := by decide +kernel
theorem d_T_message_39 : decode b_T_message 39 = .ok (.iload_n 2, 1) := by decide +kernel
theorem d_T_message_40 : decode b_T_message 40 = .ok (.iadd, 1) := by decide +kernel
theorem d_T_message_41 : decode b_T_message 41 = .ok (.iaload, 1) := by decide +kernel
theorem d_T_message_42 : decode b_T_message 42 = .ok (.ireturn, 1) := by decide +kernel
theorem d_T_look_0 : decode b_T_look 0 = .ok (.aload_n 0, 1) := by decide +kernel
theorem d_T_look_1 : decode b_T_look 1 = .ok (.iconst 0, 1) := by decide +kernel
theorem d_T_look_2 : decode b_T_look 2 = .ok (.putfield 72, 3) := by decide +kernel
theorem d_T_look_5 : decode b_T_look 5 = .ok (.iconst 0, 1) := by decide +kernel
theorem d_T_look_6 : decode b_T_look 6 = .ok (.istore_n 2, 1) := by decide +kernel
theorem d_T_look_7 : decode b_T_look 7 = .ok (.iconst 0, 1) := by decide +kernel
theorem d_T_look_8 : decode b_T_look 8 = .ok (.istore_n 3, 1) := by decide +kernel
theorem d_T_look_9 : decode b_T_look 9 = .ok (.iload_n 3, 1) := by decide +kernel
theorem d_T_look_10 : decode b_T_look 10 = .ok (.aload_n 0, 1) := by decide +kernel
theorem d_T_look_11 : decode b_T_look 11 = .ok (.getfield 65, 3) := by decide +kernel
theorem d_T_look_14 : decode b_T_look 14 = .ok (.if_icmp .ge 30, 3) := by decide +kernel
theorem d_T_look_17 : decode b_T_look 17 = .ok (.aload_n 0, 1) := by decide +kernel
theorem d_T_look_18 : decode b_T_look 18 = .ok (.getfield 13, 3) := by decide +kernel
theorem d_T_look_21 : decode b_T_look 21 = .ok (.iload_n 3, 1) := by decide +kernel
theorem d_T_look_22 : decode b_T_look 22 = .ok (.iaload, 1) := by decide +kernel
theorem d_T_look_23 : decode b_T_look 23 = .ok (.iload_n 2, 1) := by decide +kernel
theorem d_T_look_24 : decode b_T_look 24 = .ok (.if_icmp .le 12, 3) := by decide +kernel
theorem d_T_look_27 : decode b_T_look 27 = .ok (.aload_n 0, 1) := by decide +kernel
theorem d_T_look_28 : decode b_T_look 28 = .ok (.getfield 13, 3) := by decide +kernel
theorem d_T_look_31 : decode b_T_look 31 = .ok (.iload_n 3, 1) := by decide +kernel
theorem d_T_look_32 : decode b_T_look 32 = .ok (.iaload, 1) := by decide +kernel
theorem d_T_look_33 : decode b_T_look 33 = .ok (.goto 4, 3) := by decide +kernel
theorem d_T_look_36 : decode b_T_look 36 = .ok (.iload_n 2, 1) := by decide +kernel
theorem d_T_look_37 : decode b_T_look 37 = .ok (.istore_n 2, 1) := by decide +kernel
theorem d_T_look_38 : decode b_T_look 38 = .ok (.iinc 3 1, 3) := by decide +kernel
theorem d_T_look_41 : decode b_T_look 41 = .ok (.goto (-32), 3) := by decide +kernel
theorem d_T_look_44 : decode b_T_look 44 = .ok (.iload_n 1, 1) := by decide +kernel
theorem d_T_look_45 : decode b_T_look 45 = .ok (.tableswitch 66 0 5 #[39, 44, 49, 54, 59, 64], 39) := by decide +kernel
theorem d_T_look_84 : decode b_T_look 84 = .ok (.aload_n 0, 1) := by decide +kernel
theorem d_T_look_85 : decode b_T_look 85 = .ok (.getfield 65, 3) := by decide +kernel
theorem d_T_look_88 : decode b_T_look 88 = .ok (.ireturn, 1) := by decide +kernel
theorem d_T_look_89 : decode b_T_look 89 = .ok (.aload_n 0, 1) := by decide +kernel
theorem d_T_look_90 : decode b_T_look 90 = .ok (.getfield 69, 3) := by decide +kernel
theorem d_T_look_93 : decode b_T_look 93 = .ok (.ireturn, 1) := by decide +kernel
theorem d_T_look_94 : decode b_T_look 94 = .ok (.aload_n 0, 1) := by decide +kernel
theorem d_T_look_95 : decode b_T_look 95 = .ok (.getfield 82, 3) := by decide +kernel
theorem d_T_look_98 : decode b_T_look 98 = .ok (.ireturn, 1) := by decide +kernel
theorem d_T_look_99 : decode b_T_look 99 = .ok (.aload_n 0, 1) := by decide +kernel
theorem d_T_look_100 : decode b_T_look 100 = .ok (.getfield 79, 3) := by decide +kernel
theorem d_T_look_103 : decode b_T_look 103 = .ok (.ireturn, 1) := by decide +kernel
theorem d_T_look_104 : decode b_T_look 104 = .ok (.aload_n 0, 1) := by decide +kernel
theorem d_T_look_105 : decode b_T_look 105 = .ok (.getfield 85, 3) := by decide +kernel
theorem d_T_look_108 : decode b_T_look 108 = .ok (.ireturn, 1) := by decide +kernel
theorem d_T_look_109 : decode b_T_look 109 = .ok (.iload_n 2, 1) := by decide +kernel
theorem d_T_look_110 : decode b_T_look 110 = .ok (.ireturn, 1) := by decide +kernel
theorem d_T_look_111 : decode b_T_look 111 = .ok (.iconst (-1), 1) := by decide +kernel
theorem d_T_look_112 : decode b_T_look 112 = .ok (.ireturn, 1) := by decide +kernel
end
section
theorem d_F_init_0 : decode b_F_init 0 = .ok (.aload_n 0, 1) := by decide +kernel
theorem d_F_init_1 : decode b_F_init 1 = .ok (.invokespecial 3, 3) := by decide +kernel
theorem d_F_init_4 : decode b_F_init 4 = .ok (.aload_n 0, 1) := by decide +kernel
theorem d_F_init_5 : decode b_F_init 5 = .ok (.sipush 1400, 3) := by decide +kernel
theorem d_F_init_8 : decode b_F_init 8 = .ok (.newarray .int, 2) := by decide +kernel
theorem d_F_init_10 : decode b_F_init 10 = .ok (.putfield 11, 3) := by decide +kernel
theorem d_F_init_13 : decode b_F_init 13 = .ok (.return_, 1) := by decide +kernel
theorem d_F_has_0 : decode b_F_has 0 = .ok (.iload_n 1, 1) := by decide +kernel
theorem d_F_has_1 : decode b_F_has 1 = .ok (.ifCond .lt 15, 3) := by decide +kernel
theorem d_F_has_4 : decode b_F_has 4 = .ok (.iload_n 1, 1) := by decide +kernel
theorem d_F_has_5 : decode b_F_has 5 = .ok (.aload_n 0, 1) := by decide +kernel
theorem d_F_has_6 : decode b_F_has 6 = .ok (.getfield 15, 3) := by decide +kernel
theorem d_F_has_9 : decode b_F_has 9 = .ok (.if_icmp .ge 7, 3) := by decide +kernel
theorem d_F_has_12 : decode b_F_has 12 = .ok (.iconst 1, 1) := by decide +kernel
theorem d_F_has_13 : decode b_F_has 13 = .ok (.goto 4, 3) := by decide +kernel
theorem d_F_has_16 : decode b_F_has 16 = .ok (.iconst 0, 1) := by decide +kernel
theorem d_F_has_17 : decode b_F_has 17 = .ok (.ireturn, 1) := by decide +kernel
theorem d_F_cell_0 : decode b_F_cell 0 = .ok (.aload_n 0, 1) := by decide +kernel
theorem d_F_cell_1 : decode b_F_cell 1 = .ok (.iload_n 1, 1) := by decide +kernel
theorem d_F_cell_2 : decode b_F_cell 2 = .ok (.invokevirtual 19, 3) := by decide +kernel
theorem d_F_cell_5 : decode b_F_cell 5 = .ok (.ifCond .eq 27, 3) := by decide +kernel
theorem d_F_cell_8 : decode b_F_cell 8 = .ok (.iload_n 2, 1) := by decide +kernel
theorem d_F_cell_9 : decode b_F_cell 9 = .ok (.ifCond .lt 23, 3) := by decide +kernel
theorem d_F_cell_12 : decode b_F_cell 12 = .ok (.iload_n 2, 1) := by decide +kernel
theorem d_F_cell_13 : decode b_F_cell 13 = .ok (.bipush 7, 2) := by decide +kernel
theorem d_F_cell_15 : decode b_F_cell 15 = .ok (.if_icmp .ge 17, 3) := by decide +kernel
theorem d_F_cell_18 : decode b_F_cell 18 = .ok (.aload_n 0, 1) := by decide +kernel
theorem d_F_cell_19 : decode b_F_cell 19 = .ok (.getfield 11, 3) := by decide +kernel
theorem d_F_cell_22 : decode b_F_cell 22 = .ok (.iload_n 1, 1) := by decide +kernel
theorem d_F_cell_23 : decode b_F_cell 23 = .ok (.bipush 7, 2) := by decide +kernel
theorem d_F_cell_25 : decode b_F_cell 25 = .ok (.imul, 1) := by decide +kernel
theorem d_F_cell_26 : decode b_F_cell 26 = .ok (.iload_n 2, 1) := by decide +kernel
theorem d_F_cell_27 : decode b_F_cell 27 = .ok (.iadd, 1) := by decide +kernel
theorem d_F_cell_28 : decode b_F_cell 28 = .ok (.iaload, 1) := by decide +kernel
theorem d_F_cell_29 : decode b_F_cell 29 = .ok (.goto 4, 3) := by decide +kernel
theorem d_F_cell_32 : decode b_F_cell 32 = .ok (.iconst (-1), 1) := by decide +kernel
theorem d_F_cell_33 : decode b_F_cell 33 = .ok (.ireturn, 1) := by decide +kernel
theorem d_F_send_0 : decode b_F_send 0 = .ok (.aload_n 0, 1) := by decide +kernel
theorem d_F_send_1 : decode b_F_send 1 = .ok (.dup, 1) := by decide +kernel
theorem d_F_send_2 : decode b_F_send 2 = .ok (.getfield 23, 3) := by decide +kernel
theorem d_F_send_5 : decode b_F_send 5 = .ok (.iconst 1, 1) := by decide +kernel
theorem d_F_send_6 : decode b_F_send 6 = .ok (.iadd, 1) := by decide +kernel
theorem d_F_send_7 : decode b_F_send 7 = .ok (.putfield 23, 3) := by decide +kernel
theorem d_F_send_10 : decode b_F_send 10 = .ok (.aload_n 0, 1) := by decide +kernel
theorem d_F_send_11 : decode b_F_send 11 = .ok (.getfield 15, 3) := by decide +kernel
theorem d_F_send_14 : decode b_F_send 14 = .ok (.sipush 200, 3) := by decide +kernel
theorem d_F_send_17 : decode b_F_send 17 = .ok (.if_icmp .lt 14, 3) := by decide +kernel
theorem d_F_send_20 : decode b_F_send 20 = .ok (.aload_n 0, 1) := by decide +kernel
theorem d_F_send_21 : decode b_F_send 21 = .ok (.dup, 1) := by decide +kernel
theorem d_F_send_22 : decode b_F_send 22 = .ok (.getfield 26, 3) := by decide +kernel
theorem d_F_send_25 : decode b_F_send 25 = .ok (.iconst 1, 1) := by decide +kernel
theorem d_F_send_26 : decode b_F_send 26 = .ok (.iadd, 1) := by decide +kernel
theorem d_F_send_27 : decode b_F_send 27 = .ok (.putfield 26, 3) := by decide +kernel
theorem d_F_send_30 : decode b_F_send 30 = .ok (.return_, 1) := by decide +kernel
theorem d_F_send_31 : decode b_F_send 31 = .ok (.aload_n 0, 1) := by decide +kernel
theorem d_F_send_32 : decode b_F_send 32 = .ok (.getfield 15, 3) := by decide +kernel
theorem d_F_send_35 : decode b_F_send 35 = .ok (.bipush 7, 2) := by decide +kernel
theorem d_F_send_37 : decode b_F_send 37 = .ok (.imul, 1) := by decide +kernel
theorem d_F_send_38 : decode b_F_send 38 = .ok (.istore 8, 2) := by decide +kernel
theorem d_F_send_40 : decode b_F_send 40 = .ok (.aload_n 0, 1) := by decide +kernel
theorem d_F_send_41 : decode b_F_send 41 = .ok (.getfield 11, 3) := by decide +kernel
theorem d_F_send_44 : decode b_F_send 44 = .ok (.iload 8, 2) := by decide +kernel
theorem d_F_send_46 : decode b_F_send 46 = .ok (.iload_n 1, 1) := by decide +kernel
theorem d_F_send_47 : decode b_F_send 47 = .ok (.iastore, 1) := by decide +kernel
theorem d_F_send_48 : decode b_F_send 48 = .ok (.aload_n 0, 1) := by decide +kernel
theorem d_F_send_49 : decode b_F_send 49 = .ok (.getfield 11, 3) := by decide +kernel
theorem d_F_send_52 : decode b_F_send 52 = .ok (.iload 8, 2) := by decide +kernel
theorem d_F_send_54 : decode b_F_send 54 = .ok (.iconst 1, 1) := by decide +kernel
theorem d_F_send_55 : decode b_F_send 55 = .ok (.iadd, 1) := by decide +kernel
theorem d_F_send_56 : decode b_F_send 56 = .ok (.iload_n 2, 1) := by decide +kernel
theorem d_F_send_57 : decode b_F_send 57 = .ok (.iastore, 1) := by decide +kernel
theorem d_F_send_58 : decode b_F_send 58 = .ok (.aload_n 0, 1) := by decide +kernel
theorem d_F_send_59 : decode b_F_send 59 = .ok (.getfield 11, 3) := by decide +kernel
theorem d_F_send_62 : decode b_F_send 62 = .ok (.iload 8, 2) := by decide +kernel
theorem d_F_send_64 : decode b_F_send 64 = .ok (.iconst 2, 1) := by decide +kernel
theorem d_F_send_65 : decode b_F_send 65 = .ok (.iadd, 1) := by decide +kernel
theorem d_F_send_66 : decode b_F_send 66 = .ok (.iload_n 3, 1) := by decide +kernel
theorem d_F_send_67 : decode b_F_send 67 = .ok (.iastore, 1) := by decide +kernel
theorem d_F_send_68 : decode b_F_send 68 = .ok (.aload_n 0, 1) := by decide +kernel
theorem d_F_send_69 : decode b_F_send 69 = .ok (.getfield 11, 3) := by decide +kernel
theorem d_F_send_72 : decode b_F_send 72 = .ok (.iload 8, 2) := by decide +kernel
theorem d_F_send_74 : decode b_F_send 74 = .ok (.iconst 3, 1) := by decide +kernel
theorem d_F_send_75 : decode b_F_send 75 = .ok (.iadd, 1) := by decide +kernel
theorem d_F_send_76 : decode b_F_send 76 = .ok (.iload 4, 2) := by decide +kernel
theorem d_F_send_78 : decode b_F_send 78 = .ok (.iastore, 1) := by decide +kernel
theorem d_F_send_79 : decode b_F_send 79 = .ok (.aload_n 0, 1) := by decide +kernel
theorem d_F_send_80 : decode b_F_send 80 = .ok (.getfield 11, 3) := by decide +kernel
theorem d_F_send_83 : decode b_F_send 83 = .ok (.iload 8, 2) := by decide +kernel
theorem d_F_send_85 : decode b_F_send 85 = .ok (.iconst 4, 1) := by decide +kernel
theorem d_F_send_86 : decode b_F_send 86 = .ok (.iadd, 1) := by decide +kernel
theorem d_F_send_87 : decode b_F_send 87 = .ok (.iload 5, 2) := by decide +kernel
theorem d_F_send_89 : decode b_F_send 89 = .ok (.iastore, 1) := by decide +kernel
theorem d_F_send_90 : decode b_F_send 90 = .ok (.aload_n 0, 1) := by decide +kernel
theorem d_F_send_91 : decode b_F_send 91 = .ok (.getfield 11, 3) := by decide +kernel
theorem d_F_send_94 : decode b_F_send 94 = .ok (.iload 8, 2) := by decide +kernel
theorem d_F_send_96 : decode b_F_send 96 = .ok (.iconst 5, 1) := by decide +kernel
theorem d_F_send_97 : decode b_F_send 97 = .ok (.iadd, 1) := by decide +kernel
theorem d_F_send_98 : decode b_F_send 98 = .ok (.iload 6, 2) := by decide +kernel
theorem d_F_send_100 : decode b_F_send 100 = .ok (.iastore, 1) := by decide +kernel
theorem d_F_send_101 : decode b_F_send 101 = .ok (.aload_n 0, 1) := by decide +kernel
theorem d_F_send_102 : decode b_F_send 102 = .ok (.getfield 11, 3) := by decide +kernel
theorem d_F_send_105 : decode b_F_send 105 = .ok (.iload 8, 2) := by decide +kernel
theorem d_F_send_107 : decode b_F_send 107 = .ok (.bipush 6, 2) := by decide +kernel
theorem d_F_send_109 : decode b_F_send 109 = .ok (.iadd, 1) := by decide +kernel
theorem d_F_send_110 : decode b_F_send 110 = .ok (.iload 7, 2) := by decide +kernel
theorem d_F_send_112 : decode b_F_send 112 = .ok (.iastore, 1) := by decide +kernel
theorem d_F_send_113 : decode b_F_send 113 = .ok (.aload_n 0, 1) := by decide +kernel
theorem d_F_send_114 : decode b_F_send 114 = .ok (.dup, 1) := by decide +kernel
theorem d_F_send_115 : decode b_F_send 115 = .ok (.getfield 15, 3) := by decide +kernel
theorem d_F_send_118 : decode b_F_send 118 = .ok (.iconst 1, 1) := by decide +kernel
theorem d_F_send_119 : decode b_F_send 119 = .ok (.iadd, 1) := by decide +kernel
theorem d_F_send_120 : decode b_F_send 120 = .ok (.putfield 15, 3) := by decide +kernel
theorem d_F_send_123 : decode b_F_send 123 = .ok (.return_, 1) := by decide +kernel
theorem d_F_read_0 : decode b_F_read 0 = .ok (.aload_n 2, 1) := by decide +kernel
theorem d_F_read_1 : decode b_F_read 1 = .ok (.aload_n 0, 1) := by decide +kernel
theorem d_F_read_2 : decode b_F_read 2 = .ok (.iload_n 1, 1) := by decide +kernel
theorem d_F_read_3 : decode b_F_read 3 = .ok (.iconst 0, 1) := by decide +kernel
theorem d_F_read_4 : decode b_F_read 4 = .ok (.invokevirtual 29, 3) := by decide +kernel
theorem d_F_read_7 : decode b_F_read 7 = .ok (.putfield 33, 3) := by decide +kernel
theorem d_F_read_10 : decode b_F_read 10 = .ok (.aload_n 2, 1) := by decide +kernel
theorem d_F_read_11 : decode b_F_read 11 = .ok (.aload_n 0, 1) := by decide +kernel
theorem d_F_read_12 : decode b_F_read 12 = .ok (.iload_n 1, 1) := by decide +kernel
theorem d_F_read_13 : decode b_F_read 13 = .ok (.iconst 1, 1) := by decide +kernel
theorem d_F_read_14 : decode b_F_read 14 = .ok (.invokevirtual 29, 3) := by decide +kernel
theorem d_F_read_17 : decode b_F_read 17 = .ok (.putfield 38, 3) := by decide +kernel
theorem d_F_read_20 : decode b_F_read 20 = .ok (.aload_n 2, 1) := by decide +kernel
theorem d_F_read_21 : decode b_F_read 21 = .ok (.aload_n 0, 1) := by decide +kernel
theorem d_F_read_22 : decode b_F_read 22 = .ok (.iload_n 1, 1) := by decide +kernel
theorem d_F_read_23 : decode b_F_read 23 = .ok (.iconst 2, 1) := by decide +kernel
theorem d_F_read_24 : decode b_F_read 24 = .ok (.invokevirtual 29, 3) := by decide +kernel
theorem d_F_read_27 : decode b_F_read 27 = .ok (.putfield 41, 3) := by decide +kernel
theorem d_F_read_30 : decode b_F_read 30 = .ok (.aload_n 2, 1) := by decide +kernel
theorem d_F_read_31 : decode b_F_read 31 = .ok (.aload_n 0, 1) := by decide +kernel
theorem d_F_read_32 : decode b_F_read 32 = .ok (.iload_n 1, 1) := by decide +kernel
theorem d_F_read_33 : decode b_F_read 33 = .ok (.iconst 3, 1) := by decide +kernel
theorem d_F_read_34 : decode b_F_read 34 = .ok (.invokevirtual 29, 3) := by decide +kernel
theorem d_F_read_37 : decode b_F_read 37 = .ok (.putfield 44, 3) := by decide +kernel
theorem d_F_read_40 : decode b_F_read 40 = .ok (.aload_n 2, 1) := by decide +kernel
theorem d_F_read_41 : decode b_F_read 41 = .ok (.aload_n 0, 1) := by decide +kernel
theorem d_F_read_42 : decode b_F_read 42 = .ok (.iload_n 1, 1) := by decide +kernel
theorem d_F_read_43 : decode b_F_read 43 = .ok (.iconst 4, 1) := by decide +kernel
theorem d_F_read_44 : decode b_F_read 44 = .ok (.invokevirtual 29, 3) := by decide +kernel
theorem d_F_read_47 : decode b_F_read 47 = .ok (.putfield 47, 3) := by decide +kernel
theorem d_F_read_50 : decode b_F_read 50 = .ok (.aload_n 2, 1) := by decide +kernel
theorem d_F_read_51 : decode b_F_read 51 = .ok (.aload_n 0, 1) := by decide +kernel
theorem d_F_read_52 : decode b_F_read 52 = .ok (.iload_n 1, 1) := by decide +kernel
theorem d_F_read_53 : decode b_F_read 53 = .ok (.iconst 5, 1) := by decide +kernel
theorem d_F_read_54 : decode b_F_read 54 = .ok (.invokevirtual 29, 3) := by decide +kernel
theorem d_F_read_57 : decode b_F_read 57 = .ok (.putfield 50, 3) := by decide +kernel
theorem d_F_read_60 : decode b_F_read 60 = .ok (.aload_n 2, 1) := by decide +kernel
theorem d_F_read_61 : decode b_F_read 61 = .ok (.aload_n 0, 1) := by decide +kernel
theorem d_F_read_62 : decode b_F_read 62 = .ok (.iload_n 1, 1) := by decide +kernel
theorem d_F_read_63 : decode b_F_read 63 = .ok (.bipush 6, 2) := by decide +kernel
theorem d_F_read_65 : decode b_F_read 65 = .ok (.invokevirtual 29, 3) := by decide +kernel
theorem d_F_read_68 : decode b_F_read 68 = .ok (.putfield 53, 3) := by decide +kernel
theorem d_F_read_71 : decode b_F_read 71 = .ok (.return_, 1) := by decide +kernel
theorem d_F_remove_0 : decode b_F_remove 0 = .ok (.aload_n 0, 1) := by decide +kernel
theorem d_F_remove_1 : decode b_F_remove 1 = .ok (.iload_n 1, 1) := by decide +kernel
theorem d_F_remove_2 : decode b_F_remove 2 = .ok (.invokevirtual 19, 3) := by decide +kernel
theorem d_F_remove_5 : decode b_F_remove 5 = .ok (.ifCond .ne 4, 3) := by decide +kernel
theorem d_F_remove_8 : decode b_F_remove 8 = .ok (.return_, 1) := by decide +kernel
theorem d_F_remove_9 : decode b_F_remove 9 = .ok (.aload_n 0, 1) := by decide +kernel
theorem d_F_remove_10 : decode b_F_remove 10 = .ok (.getfield 15, 3) := by decide +kernel
theorem d_F_remove_13 : decode b_F_remove 13 = .ok (.iload_n 1, 1) := by decide +kernel
theorem d_F_remove_14 : decode b_F_remove 14 = .ok (.isub, 1) := by decide +kernel
theorem d_F_remove_15 : decode b_F_remove 15 = .ok (.iconst 1, 1) := by decide +kernel
theorem d_F_remove_16 : decode b_F_remove 16 = .ok (.isub, 1) := by decide +kernel
theorem d_F_remove_17 : decode b_F_remove 17 = .ok (.istore_n 2, 1) := by decide +kernel
theorem d_F_remove_18 : decode b_F_remove 18 = .ok (.aload_n 0, 1) := by decide +kernel
theorem d_F_remove_19 : decode b_F_remove 19 = .ok (.getfield 11, 3) := by decide +kernel
theorem d_F_remove_22 : decode b_F_remove 22 = .ok (.iload_n 1, 1) := by decide +kernel
theorem d_F_remove_23 : decode b_F_remove 23 = .ok (.iconst 1, 1) := by decide +kernel
theorem d_F_remove_24 : decode b_F_remove 24 = .ok (.iadd, 1) := by decide +kernel
theorem d_F_remove_25 : decode b_F_remove 25 = .ok (.bipush 7, 2) := by decide +kernel
theorem d_F_remove_27 : decode b_F_remove 27 = .ok (.imul, 1) := by decide +kernel
theorem d_F_remove_28 : decode b_F_remove 28 = .ok (.aload_n 0, 1) := by decide +kernel
theorem d_F_remove_29 : decode b_F_remove 29 = .ok (.getfield 11, 3) := by decide +kernel
theorem d_F_remove_32 : decode b_F_remove 32 = .ok (.iload_n 1, 1) := by decide +kernel
theorem d_F_remove_33 : decode b_F_remove 33 = .ok (.bipush 7, 2) := by decide +kernel
theorem d_F_remove_35 : decode b_F_remove 35 = .ok (.imul, 1) := by decide +kernel
theorem d_F_remove_36 : decode b_F_remove 36 = .ok (.iload_n 2, 1) := by decide +kernel
theorem d_F_remove_37 : decode b_F_remove 37 = .ok (.bipush 7, 2) := by decide +kernel
theorem d_F_remove_39 : decode b_F_remove 39 = .ok (.imul, 1) := by decide +kernel
theorem d_F_remove_40 : decode b_F_remove 40 = .ok (.invokestatic 56, 3) := by decide +kernel
theorem d_F_remove_43 : decode b_F_remove 43 = .ok (.aload_n 0, 1) := by decide +kernel
theorem d_F_remove_44 : decode b_F_remove 44 = .ok (.dup, 1) := by decide +kernel
theorem d_F_remove_45 : decode b_F_remove 45 = .ok (.getfield 15, 3) := by decide +kernel
theorem d_F_remove_48 : decode b_F_remove 48 = .ok (.iconst 1, 1) := by decide +kernel
theorem d_F_remove_49 : decode b_F_remove 49 = .ok (.isub, 1) := by decide +kernel
theorem d_F_remove_50 : decode b_F_remove 50 = .ok (.putfield 15, 3) := by decide +kernel
theorem d_F_remove_53 : decode b_F_remove 53 = .ok (.return_, 1) := by decide +kernel
theorem d_F_repeat_0 : decode b_F_repeat 0 = .ok (.aload_n 0, 1) := by decide +kernel
theorem d_F_repeat_1 : decode b_F_repeat 1 = .ok (.iload_n 1, 1) := by decide +kernel
theorem d_F_repeat_2 : decode b_F_repeat 2 = .ok (.invokevirtual 19, 3) := by decide +kernel
theorem d_F_repeat_5 : decode b_F_repeat 5 = .ok (.ifCond .eq 13, 3) := by decide +kernel
theorem d_F_repeat_8 : decode b_F_repeat 8 = .ok (.aload_n 0, 1) := by decide +kernel
theorem d_F_repeat_9 : decode b_F_repeat 9 = .ok (.getfield 15, 3) := by decide +kernel
theorem d_F_repeat_12 : decode b_F_repeat 12 = .ok (.sipush 200, 3) := by decide +kernel
theorem d_F_repeat_15 : decode b_F_repeat 15 = .ok (.if_icmp .lt 5, 3) := by decide +kernel
theorem d_F_repeat_18 : decode b_F_repeat 18 = .ok (.iconst 0, 1) := by decide +kernel
theorem d_F_repeat_19 : decode b_F_repeat 19 = .ok (.ireturn, 1) := by decide +kernel
theorem d_F_repeat_20 : decode b_F_repeat 20 = .ok (.aload_n 0, 1) := by decide +kernel
theorem d_F_repeat_21 : decode b_F_repeat 21 = .ok (.getfield 11, 3) := by decide +kernel
theorem d_F_repeat_24 : decode b_F_repeat 24 = .ok (.iload_n 1, 1) := by decide +kernel
theorem d_F_repeat_25 : decode b_F_repeat 25 = .ok (.bipush 7, 2) := by decide +kernel
theorem d_F_repeat_27 : decode b_F_repeat 27 = .ok (.imul, 1) := by decide +kernel
theorem d_F_repeat_28 : decode b_F_repeat 28 = .ok (.aload_n 0, 1) := by decide +kernel
theorem d_F_repeat_29 : decode b_F_repeat 29 = .ok (.getfield 11, 3) := by decide +kernel
theorem d_F_repeat_32 : decode b_F_repeat 32 = .ok (.aload_n 0, 1) := by decide +kernel
theorem d_F_repeat_33 : decode b_F_repeat 33 = .ok (.getfield 15, 3) := by decide +kernel
theorem d_F_repeat_36 : decode b_F_repeat 36 = .ok (.bipush 7, 2) := by decide +kernel
theorem d_F_repeat_38 : decode b_F_repeat 38 = .ok (.imul, 1) := by decide +kernel
theorem d_F_repeat_39 : decode b_F_repeat 39 = .ok (.bipush 7, 2) := by decide +kernel
theorem d_F_repeat_41 : decode b_F_repeat 41 = .ok (.invokestatic 56, 3) := by decide +kernel
theorem d_F_repeat_44 : decode b_F_repeat 44 = .ok (.aload_n 0, 1) := by decide +kernel
theorem d_F_repeat_45 : decode b_F_repeat 45 = .ok (.dup, 1) := by decide +kernel
theorem d_F_repeat_46 : decode b_F_repeat 46 = .ok (.getfield 15, 3) := by decide +kernel
theorem d_F_repeat_49 : decode b_F_repeat 49 = .ok (.iconst 1, 1) := by decide +kernel
theorem d_F_repeat_50 : decode b_F_repeat 50 = .ok (.iadd, 1) := by decide +kernel
theorem d_F_repeat_51 : decode b_F_repeat 51 = .ok (.putfield 15, 3) := by decide +kernel
theorem d_F_repeat_54 : decode b_F_repeat 54 = .ok (.iconst 1, 1) := by decide +kernel
theorem d_F_repeat_55 : decode b_F_repeat 55 = .ok (.ireturn, 1) := by decide +kernel
theorem d_L_init_0 : decode b_L_init 0 = .ok (.aload_n 0, 1) := by decide +kernel
theorem d_L_init_1 : decode b_L_init 1 = .ok (.invokespecial 3, 3) := by decide +kernel
theorem d_L_init_4 : decode b_L_init 4 = .ok (.aload_n 0, 1) := by decide +kernel
theorem d_L_init_5 : decode b_L_init 5 = .ok (.bipush 8, 2) := by decide +kernel
theorem d_L_init_7 : decode b_L_init 7 = .ok (.newarray .int, 2) := by decide +kernel
theorem d_L_init_9 : decode b_L_init 9 = .ok (.putfield 9, 3) := by decide +kernel
theorem d_L_init_12 : decode b_L_init 12 = .ok (.return_, 1) := by decide +kernel
theorem d_L_add_0 : decode b_L_add 0 = .ok (.aload_n 0, 1) := by decide +kernel
theorem d_L_add_1 : decode b_L_add 1 = .ok (.getfield 15, 3) := by decide +kernel
theorem d_L_add_4 : decode b_L_add 4 = .ok (.bipush 8, 2) := by decide +kernel
theorem d_L_add_6 : decode b_L_add 6 = .ok (.if_icmp .lt 5, 3) := by decide +kernel
theorem d_L_add_9 : decode b_L_add 9 = .ok (.iconst 0, 1) := by decide +kernel
theorem d_L_add_10 : decode b_L_add 10 = .ok (.ireturn, 1) := by decide +kernel
theorem d_L_add_11 : decode b_L_add 11 = .ok (.aload_n 0, 1) := by decide +kernel
theorem d_L_add_12 : decode b_L_add 12 = .ok (.getfield 9, 3) := by decide +kernel
theorem d_L_add_15 : decode b_L_add 15 = .ok (.aload_n 0, 1) := by decide +kernel
theorem d_L_add_16 : decode b_L_add 16 = .ok (.getfield 15, 3) := by decide +kernel
theorem d_L_add_19 : decode b_L_add 19 = .ok (.iload_n 1, 1) := by decide +kernel
theorem d_L_add_20 : decode b_L_add 20 = .ok (.iastore, 1) := by decide +kernel
theorem d_L_add_21 : decode b_L_add 21 = .ok (.aload_n 0, 1) := by decide +kernel
theorem d_L_add_22 : decode b_L_add 22 = .ok (.dup, 1) := by decide +kernel
theorem d_L_add_23 : decode b_L_add 23 = .ok (.getfield 15, 3) := by decide +kernel
theorem d_L_add_26 : decode b_L_add 26 = .ok (.iconst 1, 1) := by decide +kernel
theorem d_L_add_27 : decode b_L_add 27 = .ok (.iadd, 1) := by decide +kernel
theorem d_L_add_28 : decode b_L_add 28 = .ok (.putfield 15, 3) := by decide +kernel
theorem d_L_add_31 : decode b_L_add 31 = .ok (.iconst 1, 1) := by decide +kernel
theorem d_L_add_32 : decode b_L_add 32 = .ok (.ireturn, 1) := by decide +kernel
theorem d_L_at_0 : decode b_L_at 0 = .ok (.iload_n 1, 1) := by decide +kernel
theorem d_L_at_1 : decode b_L_at 1 = .ok (.ifCond .lt 20, 3) := by decide +kernel
theorem d_L_at_4 : decode b_L_at 4 = .ok (.iload_n 1, 1) := by decide +kernel
theorem d_L_at_5 : decode b_L_at 5 = .ok (.aload_n 0, 1) := by decide +kernel
theorem d_L_at_6 : decode b_L_at 6 = .ok (.getfield 15, 3) := by decide +kernel
theorem d_L_at_9 : decode b_L_at 9 = .ok (.if_icmp .ge 12, 3) := by decide +kernel
theorem d_L_at_12 : decode b_L_at 12 = .ok (.aload_n 0, 1) := by decide +kernel
theorem d_L_at_13 : decode b_L_at 13 = .ok (.getfield 9, 3) := by decide +kernel
theorem d_L_at_16 : decode b_L_at 16 = .ok (.iload_n 1, 1) := by decide +kernel
theorem d_L_at_17 : decode b_L_at 17 = .ok (.iaload, 1) := by decide +kernel
theorem d_L_at_18 : decode b_L_at 18 = .ok (.goto 4, 3) := by decide +kernel
theorem d_L_at_21 : decode b_L_at 21 = .ok (.iconst 0, 1) := by decide +kernel
theorem d_L_at_22 : decode b_L_at 22 = .ok (.ireturn, 1) := by decide +kernel
theorem d_L_drop_0 : decode b_L_drop 0 = .ok (.iconst 0, 1) := by decide +kernel
theorem d_L_drop_1 : decode b_L_drop 1 = .ok (.istore_n 2, 1) := by decide +kernel
theorem d_L_drop_2 : decode b_L_drop 2 = .ok (.iconst 0, 1) := by decide +kernel
theorem d_L_drop_3 : decode b_L_drop 3 = .ok (.istore_n 3, 1) := by decide +kernel
theorem d_L_drop_4 : decode b_L_drop 4 = .ok (.iload_n 3, 1) := by decide +kernel
theorem d_L_drop_5 : decode b_L_drop 5 = .ok (.aload_n 0, 1) := by decide +kernel
theorem d_L_drop_6 : decode b_L_drop 6 = .ok (.getfield 15, 3) := by decide +kernel
theorem d_L_drop_9 : decode b_L_drop 9 = .ok (.if_icmp .ge 34, 3) := by decide +kernel
theorem d_L_drop_12 : decode b_L_drop 12 = .ok (.aload_n 0, 1) := by decide +kernel
theorem d_L_drop_13 : decode b_L_drop 13 = .ok (.getfield 9, 3) := by decide +kernel
theorem d_L_drop_16 : decode b_L_drop 16 = .ok (.iload_n 3, 1) := by decide +kernel
theorem d_L_drop_17 : decode b_L_drop 17 = .ok (.iaload, 1) := by decide +kernel
theorem d_L_drop_18 : decode b_L_drop 18 = .ok (.iload_n 1, 1) := by decide +kernel
theorem d_L_drop_19 : decode b_L_drop 19 = .ok (.if_icmp .eq 18, 3) := by decide +kernel
theorem d_L_drop_22 : decode b_L_drop 22 = .ok (.aload_n 0, 1) := by decide +kernel
theorem d_L_drop_23 : decode b_L_drop 23 = .ok (.getfield 9, 3) := by decide +kernel
theorem d_L_drop_26 : decode b_L_drop 26 = .ok (.iload_n 2, 1) := by decide +kernel
theorem d_L_drop_27 : decode b_L_drop 27 = .ok (.aload_n 0, 1) := by decide +kernel
theorem d_L_drop_28 : decode b_L_drop 28 = .ok (.getfield 9, 3) := by decide +kernel
theorem d_L_drop_31 : decode b_L_drop 31 = .ok (.iload_n 3, 1) := by decide +kernel
theorem d_L_drop_32 : decode b_L_drop 32 = .ok (.iaload, 1) := by decide +kernel
theorem d_L_drop_33 : decode b_L_drop 33 = .ok (.iastore, 1) := by decide +kernel
theorem d_L_drop_34 : decode b_L_drop 34 = .ok (.iinc 2 1, 3) := by decide +kernel
theorem d_L_drop_37 : decode b_L_drop 37 = .ok (.iinc 3 1, 3) := by decide +kernel
theorem d_L_drop_40 : decode b_L_drop 40 = .ok (.goto (-36), 3) := by decide +kernel
theorem d_L_drop_43 : decode b_L_drop 43 = .ok (.aload_n 0, 1) := by decide +kernel
theorem d_L_drop_44 : decode b_L_drop 44 = .ok (.iload_n 2, 1) := by decide +kernel
theorem d_L_drop_45 : decode b_L_drop 45 = .ok (.putfield 15, 3) := by decide +kernel
theorem d_L_drop_48 : decode b_L_drop 48 = .ok (.return_, 1) := by decide +kernel
theorem d_G_init_0 : decode b_G_init 0 = .ok (.aload_n 0, 1) := by decide +kernel
theorem d_G_init_1 : decode b_G_init 1 = .ok (.invokespecial 3, 3) := by decide +kernel
theorem d_G_init_4 : decode b_G_init 4 = .ok (.aload_n 0, 1) := by decide +kernel
theorem d_G_init_5 : decode b_G_init 5 = .ok (.iload_n 1, 1) := by decide +kernel
theorem d_G_init_6 : decode b_G_init 6 = .ok (.putfield 9, 3) := by decide +kernel
theorem d_G_init_9 : decode b_G_init 9 = .ok (.aload_n 0, 1) := by decide +kernel
theorem d_G_init_10 : decode b_G_init 10 = .ok (.bipush 32, 2) := by decide +kernel
theorem d_G_init_12 : decode b_G_init 12 = .ok (.newarray .int, 2) := by decide +kernel
theorem d_G_init_14 : decode b_G_init 14 = .ok (.putfield 15, 3) := by decide +kernel
theorem d_G_init_17 : decode b_G_init 17 = .ok (.return_, 1) := by decide +kernel
theorem d_G_ahead_0 : decode b_G_ahead 0 = .ok (.aload_n 0, 1) := by decide +kernel
theorem d_G_ahead_1 : decode b_G_ahead 1 = .ok (.getfield 19, 3) := by decide +kernel
theorem d_G_ahead_4 : decode b_G_ahead 4 = .ok (.aload_n 0, 1) := by decide +kernel
theorem d_G_ahead_5 : decode b_G_ahead 5 = .ok (.getfield 22, 3) := by decide +kernel
theorem d_G_ahead_8 : decode b_G_ahead 8 = .ok (.aload_n 0, 1) := by decide +kernel
theorem d_G_ahead_9 : decode b_G_ahead 9 = .ok (.getfield 9, 3) := by decide +kernel
theorem d_G_ahead_12 : decode b_G_ahead 12 = .ok (.isub, 1) := by decide +kernel
theorem d_G_ahead_13 : decode b_G_ahead 13 = .ok (.invokestatic 25, 3) := by decide +kernel
theorem d_G_ahead_16 : decode b_G_ahead 16 = .ok (.ireturn, 1) := by decide +kernel
theorem d_G_keeps_0 : decode b_G_keeps 0 = .ok (.iload_n 1, 1) := by decide +kernel
theorem d_G_keeps_1 : decode b_G_keeps 1 = .ok (.aload_n 0, 1) := by decide +kernel
theorem d_G_keeps_2 : decode b_G_keeps 2 = .ok (.invokevirtual 31, 3) := by decide +kernel
theorem d_G_keeps_5 : decode b_G_keeps 5 = .ok (.if_icmp .le 15, 3) := by decide +kernel
theorem d_G_keeps_8 : decode b_G_keeps 8 = .ok (.iload_n 1, 1) := by decide +kernel
theorem d_G_keeps_9 : decode b_G_keeps 9 = .ok (.aload_n 0, 1) := by decide +kernel
theorem d_G_keeps_10 : decode b_G_keeps 10 = .ok (.getfield 22, 3) := by decide +kernel
theorem d_G_keeps_13 : decode b_G_keeps 13 = .ok (.if_icmp .gt 7, 3) := by decide +kernel
theorem d_G_keeps_16 : decode b_G_keeps 16 = .ok (.iconst 1, 1) := by decide +kernel
theorem d_G_keeps_17 : decode b_G_keeps 17 = .ok (.goto 4, 3) := by decide +kernel
theorem d_G_keeps_20 : decode b_G_keeps 20 = .ok (.iconst 0, 1) := by decide +kernel
theorem d_G_keeps_21 : decode b_G_keeps 21 = .ok (.ireturn, 1) := by decide +kernel
theorem d_G_numberOf_0 : decode b_G_numberOf 0 = .ok (.aload_n 0, 1) := by decide +kernel
theorem d_G_numberOf_1 : decode b_G_numberOf 1 = .ok (.iload_n 1, 1) := by decide +kernel
theorem d_G_numberOf_2 : decode b_G_numberOf 2 = .ok (.invokevirtual 35, 3) := by decide +kernel
theorem d_G_numberOf_5 : decode b_G_numberOf 5 = .ok (.ifCond .eq 15, 3) := by decide +kernel
theorem d_G_numberOf_8 : decode b_G_numberOf 8 = .ok (.aload_n 0, 1) := by decide +kernel
theorem d_G_numberOf_9 : decode b_G_numberOf 9 = .ok (.getfield 15, 3) := by decide +kernel
theorem d_G_numberOf_12 : decode b_G_numberOf 12 = .ok (.iload_n 1, 1) := by decide +kernel
theorem d_G_numberOf_13 : decode b_G_numberOf 13 = .ok (.bipush 31, 2) := by decide +kernel
theorem d_G_numberOf_15 : decode b_G_numberOf 15 = .ok (.iand, 1) := by decide +kernel
theorem d_G_numberOf_16 : decode b_G_numberOf 16 = .ok (.iaload, 1) := by decide +kernel
theorem d_G_numberOf_17 : decode b_G_numberOf 17 = .ok (.goto 4, 3) := by decide +kernel
theorem d_G_numberOf_20 : decode b_G_numberOf 20 = .ok (.iconst 0, 1) := by decide +kernel
theorem d_G_numberOf_21 : decode b_G_numberOf 21 = .ok (.ireturn, 1) := by decide +kernel
theorem d_G_append_0 : decode b_G_append 0 = .ok (.aload_n 0, 1) := by decide +kernel
theorem d_G_append_1 : decode b_G_append 1 = .ok (.dup, 1) := by decide +kernel
theorem d_G_append_2 : decode b_G_append 2 = .ok (.getfield 22, 3) := by decide +kernel
theorem d_G_append_5 : decode b_G_append 5 = .ok (.iconst 1, 1) := by decide +kernel
theorem d_G_append_6 : decode b_G_append 6 = .ok (.iadd, 1) := by decide +kernel
theorem d_G_append_7 : decode b_G_append 7 = .ok (.putfield 22, 3) := by decide +kernel
theorem d_G_append_10 : decode b_G_append 10 = .ok (.aload_n 0, 1) := by decide +kernel
theorem d_G_append_11 : decode b_G_append 11 = .ok (.bipush 31, 2) := by decide +kernel
theorem d_G_append_13 : decode b_G_append 13 = .ok (.aload_n 0, 1) := by decide +kernel
theorem d_G_append_14 : decode b_G_append 14 = .ok (.getfield 39, 3) := by decide +kernel
theorem d_G_append_17 : decode b_G_append 17 = .ok (.imul, 1) := by decide +kernel
theorem d_G_append_18 : decode b_G_append 18 = .ok (.iload_n 1, 1) := by decide +kernel
theorem d_G_append_19 : decode b_G_append 19 = .ok (.iadd, 1) := by decide +kernel
theorem d_G_append_20 : decode b_G_append 20 = .ok (.putfield 39, 3) := by decide +kernel
theorem d_G_append_23 : decode b_G_append 23 = .ok (.aload_n 0, 1) := by decide +kernel
theorem d_G_append_24 : decode b_G_append 24 = .ok (.getfield 15, 3) := by decide +kernel
theorem d_G_append_27 : decode b_G_append 27 = .ok (.aload_n 0, 1) := by decide +kernel
theorem d_G_append_28 : decode b_G_append 28 = .ok (.getfield 22, 3) := by decide +kernel
theorem d_G_append_31 : decode b_G_append 31 = .ok (.bipush 31, 2) := by decide +kernel
theorem d_G_append_33 : decode b_G_append 33 = .ok (.iand, 1) := by decide +kernel
theorem d_G_append_34 : decode b_G_append 34 = .ok (.iload_n 1, 1) := by decide +kernel
theorem d_G_append_35 : decode b_G_append 35 = .ok (.iastore, 1) := by decide +kernel
theorem d_G_append_36 : decode b_G_append 36 = .ok (.return_, 1) := by decide +kernel
theorem d_G_jump_0 : decode b_G_jump 0 = .ok (.aload_n 0, 1) := by decide +kernel
theorem d_G_jump_1 : decode b_G_jump 1 = .ok (.iload_n 1, 1) := by decide +kernel
theorem d_G_jump_2 : decode b_G_jump 2 = .ok (.putfield 22, 3) := by decide +kernel
theorem d_G_jump_5 : decode b_G_jump 5 = .ok (.aload_n 0, 1) := by decide +kernel
theorem d_G_jump_6 : decode b_G_jump 6 = .ok (.iload_n 2, 1) := by decide +kernel
theorem d_G_jump_7 : decode b_G_jump 7 = .ok (.putfield 39, 3) := by decide +kernel
theorem d_G_jump_10 : decode b_G_jump 10 = .ok (.aload_n 0, 1) := by decide +kernel
theorem d_G_jump_11 : decode b_G_jump 11 = .ok (.iload_n 1, 1) := by decide +kernel
theorem d_G_jump_12 : decode b_G_jump 12 = .ok (.putfield 19, 3) := by decide +kernel
theorem d_G_jump_15 : decode b_G_jump 15 = .ok (.return_, 1) := by decide +kernel
theorem d_M_init_0 : decode b_M_init 0 = .ok (.aload_n 0, 1) := by decide +kernel
theorem d_M_init_1 : decode b_M_init 1 = .ok (.invokespecial 1, 3) := by decide +kernel
theorem d_M_init_4 : decode b_M_init 4 = .ok (.return_, 1) := by decide +kernel
theorem d_R_init_0 : decode b_R_init 0 = .ok (.aload_n 0, 1) := by decide +kernel
theorem d_R_init_1 : decode b_R_init 1 = .ok (.invokespecial 3, 3) := by decide +kernel
theorem d_R_init_4 : decode b_R_init 4 = .ok (.aload_n 0, 1) := by decide +kernel
theorem d_R_init_5 : decode b_R_init 5 = .ok (.iload_n 1, 1) := by decide +kernel
theorem d_R_init_6 : decode b_R_init 6 = .ok (.putfield 9, 3) := by decide +kernel
theorem d_R_init_9 : decode b_R_init 9 = .ok (.aload_n 0, 1) := by decide +kernel
theorem d_R_init_10 : decode b_R_init 10 = .ok (.new 15, 3) := by decide +kernel
theorem d_R_init_13 : decode b_R_init 13 = .ok (.dup, 1) := by decide +kernel
theorem d_R_init_14 : decode b_R_init 14 = .ok (.iload_n 2, 1) := by decide +kernel
theorem d_R_init_15 : decode b_R_init 15 = .ok (.invokespecial 17, 3) := by decide +kernel
theorem d_R_init_18 : decode b_R_init 18 = .ok (.putfield 20, 3) := by decide +kernel
theorem d_R_init_21 : decode b_R_init 21 = .ok (.aload_n 0, 1) := by decide +kernel
theorem d_R_init_22 : decode b_R_init 22 = .ok (.new 24, 3) := by decide +kernel
theorem d_R_init_25 : decode b_R_init 25 = .ok (.dup, 1) := by decide +kernel
theorem d_R_init_26 : decode b_R_init 26 = .ok (.invokespecial 26, 3) := by decide +kernel
theorem d_R_init_29 : decode b_R_init 29 = .ok (.putfield 27, 3) := by decide +kernel
theorem d_R_init_32 : decode b_R_init 32 = .ok (.aload_n 0, 1) := by decide +kernel
theorem d_R_init_33 : decode b_R_init 33 = .ok (.iconst 1, 1) := by decide +kernel
theorem d_R_init_34 : decode b_R_init 34 = .ok (.putfield 31, 3) := by decide +kernel
theorem d_R_init_37 : decode b_R_init 37 = .ok (.return_, 1) := by decide +kernel
theorem d_R_forget_0 : decode b_R_forget 0 = .ok (.aload_n 0, 1) := by decide +kernel
theorem d_R_forget_1 : decode b_R_forget 1 = .ok (.invokevirtual 35, 3) := by decide +kernel
theorem d_R_forget_4 : decode b_R_forget 4 = .ok (.aload_n 0, 1) := by decide +kernel
theorem d_R_forget_5 : decode b_R_forget 5 = .ok (.aload_n 0, 1) := by decide +kernel
theorem d_R_forget_6 : decode b_R_forget 6 = .ok (.getfield 38, 3) := by decide +kernel
theorem d_R_forget_9 : decode b_R_forget 9 = .ok (.putfield 41, 3) := by decide +kernel
theorem d_R_forget_12 : decode b_R_forget 12 = .ok (.aload_n 0, 1) := by decide +kernel
theorem d_R_forget_13 : decode b_R_forget 13 = .ok (.getfield 27, 3) := by decide +kernel
theorem d_R_forget_16 : decode b_R_forget 16 = .ok (.iconst 0, 1) := by decide +kernel
theorem d_R_forget_17 : decode b_R_forget 17 = .ok (.putfield 44, 3) := by decide +kernel
theorem d_R_forget_20 : decode b_R_forget 20 = .ok (.return_, 1) := by decide +kernel
theorem d_R_becomeFollower_0 : decode b_R_becomeFollower 0 = .ok (.aload_n 0, 1) := by decide +kernel
theorem d_R_becomeFollower_1 : decode b_R_becomeFollower 1 = .ok (.iconst 0, 1) := by decide +kernel
theorem d_R_becomeFollower_2 : decode b_R_becomeFollower 2 = .ok (.putfield 47, 3) := by decide +kernel
theorem d_R_becomeFollower_5 : decode b_R_becomeFollower 5 = .ok (.aload_n 0, 1) := by decide +kernel
theorem d_R_becomeFollower_6 : decode b_R_becomeFollower 6 = .ok (.iconst 0, 1) := by decide +kernel
theorem d_R_becomeFollower_7 : decode b_R_becomeFollower 7 = .ok (.putfield 50, 3) := by decide +kernel
theorem d_R_becomeFollower_10 : decode b_R_becomeFollower 10 = .ok (.aload_n 0, 1) := by decide +kernel
theorem d_R_becomeFollower_11 : decode b_R_becomeFollower 11 = .ok (.iconst 0, 1) := by decide +kernel
theorem d_R_becomeFollower_12 : decode b_R_becomeFollower 12 = .ok (.putfield 53, 3) := by decide +kernel
theorem d_R_becomeFollower_15 : decode b_R_becomeFollower 15 = .ok (.aload_n 0, 1) := by decide +kernel
theorem d_R_becomeFollower_16 : decode b_R_becomeFollower 16 = .ok (.iconst 0, 1) := by decide +kernel
theorem d_R_becomeFollower_17 : decode b_R_becomeFollower 17 = .ok (.putfield 56, 3) := by decide +kernel
theorem d_R_becomeFollower_20 : decode b_R_becomeFollower 20 = .ok (.return_, 1) := by decide +kernel
theorem d_R_becomeCandidate_0 : decode b_R_becomeCandidate 0 = .ok (.aload_n 0, 1) := by decide +kernel
theorem d_R_becomeCandidate_1 : decode b_R_becomeCandidate 1 = .ok (.iload_n 1, 1) := by decide +kernel
theorem d_R_becomeCandidate_2 : decode b_R_becomeCandidate 2 = .ok (.putfield 38, 3) := by decide +kernel
theorem d_R_becomeCandidate_5 : decode b_R_becomeCandidate 5 = .ok (.aload_n 0, 1) := by decide +kernel
theorem d_R_becomeCandidate_6 : decode b_R_becomeCandidate 6 = .ok (.iconst 1, 1) := by decide +kernel
theorem d_R_becomeCandidate_7 : decode b_R_becomeCandidate 7 = .ok (.putfield 47, 3) := by decide +kernel
theorem d_R_becomeCandidate_10 : decode b_R_becomeCandidate 10 = .ok (.aload_n 0, 1) := by decide +kernel
theorem d_R_becomeCandidate_11 : decode b_R_becomeCandidate 11 = .ok (.iload_n 1, 1) := by decide +kernel
theorem d_R_becomeCandidate_12 : decode b_R_becomeCandidate 12 = .ok (.putfield 50, 3) := by decide +kernel
theorem d_R_becomeCandidate_15 : decode b_R_becomeCandidate 15 = .ok (.aload_n 0, 1) := by decide +kernel
theorem d_R_becomeCandidate_16 : decode b_R_becomeCandidate 16 = .ok (.iconst 1, 1) := by decide +kernel
theorem d_R_becomeCandidate_17 : decode b_R_becomeCandidate 17 = .ok (.aload_n 0, 1) := by decide +kernel
theorem d_R_becomeCandidate_18 : decode b_R_becomeCandidate 18 = .ok (.getfield 9, 3) := by decide +kernel
theorem d_R_becomeCandidate_21 : decode b_R_becomeCandidate 21 = .ok (.ishl, 1) := by decide +kernel
theorem d_R_becomeCandidate_22 : decode b_R_becomeCandidate 22 = .ok (.putfield 53, 3) := by decide +kernel
theorem d_R_becomeCandidate_25 : decode b_R_becomeCandidate 25 = .ok (.aload_n 0, 1) := by decide +kernel
theorem d_R_becomeCandidate_26 : decode b_R_becomeCandidate 26 = .ok (.aload_n 0, 1) := by decide +kernel
theorem d_R_becomeCandidate_27 : decode b_R_becomeCandidate 27 = .ok (.getfield 59, 3) := by decide +kernel
theorem d_R_becomeCandidate_30 : decode b_R_becomeCandidate 30 = .ok (.putfield 62, 3) := by decide +kernel
theorem d_R_becomeCandidate_33 : decode b_R_becomeCandidate 33 = .ok (.aload_n 0, 1) := by decide +kernel
theorem d_R_becomeCandidate_34 : decode b_R_becomeCandidate 34 = .ok (.aload_n 0, 1) := by decide +kernel
theorem d_R_becomeCandidate_35 : decode b_R_becomeCandidate 35 = .ok (.getfield 65, 3) := by decide +kernel
theorem d_R_becomeCandidate_38 : decode b_R_becomeCandidate 38 = .ok (.putfield 68, 3) := by decide +kernel
theorem d_R_becomeCandidate_41 : decode b_R_becomeCandidate 41 = .ok (.return_, 1) := by decide +kernel
theorem d_R_becomeLeader_0 : decode b_R_becomeLeader 0 = .ok (.aload_n 0, 1) := by decide +kernel
theorem d_R_becomeLeader_1 : decode b_R_becomeLeader 1 = .ok (.iconst 2, 1) := by decide +kernel
theorem d_R_becomeLeader_2 : decode b_R_becomeLeader 2 = .ok (.putfield 47, 3) := by decide +kernel
theorem d_R_becomeLeader_5 : decode b_R_becomeLeader 5 = .ok (.aload_n 0, 1) := by decide +kernel
theorem d_R_becomeLeader_6 : decode b_R_becomeLeader 6 = .ok (.iconst 0, 1) := by decide +kernel
theorem d_R_becomeLeader_7 : decode b_R_becomeLeader 7 = .ok (.putfield 53, 3) := by decide +kernel
theorem d_R_becomeLeader_10 : decode b_R_becomeLeader 10 = .ok (.return_, 1) := by decide +kernel
theorem d_R_isNext_0 : decode b_R_isNext 0 = .ok (.iload_n 1, 1) := by decide +kernel
theorem d_R_isNext_1 : decode b_R_isNext 1 = .ok (.aload_n 0, 1) := by decide +kernel
theorem d_R_isNext_2 : decode b_R_isNext 2 = .ok (.getfield 20, 3) := by decide +kernel
theorem d_R_isNext_5 : decode b_R_isNext 5 = .ok (.getfield 71, 3) := by decide +kernel
end
section
theorem d_R_isNext_8 : decode b_R_isNext 8 = .ok (.iconst 1, 1) := by decide +kernel
theorem d_R_isNext_9 : decode b_R_isNext 9 = .ok (.iadd, 1) := by decide +kernel
theorem d_R_isNext_10 : decode b_R_isNext 10 = .ok (.if_icmp .ne 7, 3) := by decide +kernel
theorem d_R_isNext_13 : decode b_R_isNext 13 = .ok (.iconst 1, 1) := by decide +kernel
theorem d_R_isNext_14 : decode b_R_isNext 14 = .ok (.goto 4, 3) := by decide +kernel
theorem d_R_isNext_17 : decode b_R_isNext 17 = .ok (.iconst 0, 1) := by decide +kernel
theorem d_R_isNext_18 : decode b_R_isNext 18 = .ok (.ireturn, 1) := by decide +kernel
theorem d_R_hasAnswer_0 : decode b_R_hasAnswer 0 = .ok (.aload_n 0, 1) := by decide +kernel
theorem d_R_hasAnswer_1 : decode b_R_hasAnswer 1 = .ok (.getfield 53, 3) := by decide +kernel
theorem d_R_hasAnswer_4 : decode b_R_hasAnswer 4 = .ok (.iconst 1, 1) := by decide +kernel
theorem d_R_hasAnswer_5 : decode b_R_hasAnswer 5 = .ok (.iload_n 1, 1) := by decide +kernel
theorem d_R_hasAnswer_6 : decode b_R_hasAnswer 6 = .ok (.ishl, 1) := by decide +kernel
theorem d_R_hasAnswer_7 : decode b_R_hasAnswer 7 = .ok (.iand, 1) := by decide +kernel
theorem d_R_hasAnswer_8 : decode b_R_hasAnswer 8 = .ok (.ifCond .eq 7, 3) := by decide +kernel
theorem d_R_hasAnswer_11 : decode b_R_hasAnswer 11 = .ok (.iconst 1, 1) := by decide +kernel
theorem d_R_hasAnswer_12 : decode b_R_hasAnswer 12 = .ok (.goto 4, 3) := by decide +kernel
theorem d_R_hasAnswer_15 : decode b_R_hasAnswer 15 = .ok (.iconst 0, 1) := by decide +kernel
theorem d_R_hasAnswer_16 : decode b_R_hasAnswer 16 = .ok (.ireturn, 1) := by decide +kernel
theorem d_R_addAnswer_0 : decode b_R_addAnswer 0 = .ok (.aload_n 0, 1) := by decide +kernel
theorem d_R_addAnswer_1 : decode b_R_addAnswer 1 = .ok (.dup, 1) := by decide +kernel
theorem d_R_addAnswer_2 : decode b_R_addAnswer 2 = .ok (.getfield 53, 3) := by decide +kernel
theorem d_R_addAnswer_5 : decode b_R_addAnswer 5 = .ok (.iconst 1, 1) := by decide +kernel
theorem d_R_addAnswer_6 : decode b_R_addAnswer 6 = .ok (.iload_n 1, 1) := by decide +kernel
theorem d_R_addAnswer_7 : decode b_R_addAnswer 7 = .ok (.ishl, 1) := by decide +kernel
theorem d_R_addAnswer_8 : decode b_R_addAnswer 8 = .ok (.ior, 1) := by decide +kernel
theorem d_R_addAnswer_9 : decode b_R_addAnswer 9 = .ok (.putfield 53, 3) := by decide +kernel
theorem d_R_addAnswer_12 : decode b_R_addAnswer 12 = .ok (.return_, 1) := by decide +kernel
theorem d_R_keepGreatest_0 : decode b_R_keepGreatest 0 = .ok (.iload_n 1, 1) := by decide +kernel
theorem d_R_keepGreatest_1 : decode b_R_keepGreatest 1 = .ok (.aload_n 0, 1) := by decide +kernel
theorem d_R_keepGreatest_2 : decode b_R_keepGreatest 2 = .ok (.getfield 62, 3) := by decide +kernel
theorem d_R_keepGreatest_5 : decode b_R_keepGreatest 5 = .ok (.if_icmp .le 13, 3) := by decide +kernel
theorem d_R_keepGreatest_8 : decode b_R_keepGreatest 8 = .ok (.aload_n 0, 1) := by decide +kernel
theorem d_R_keepGreatest_9 : decode b_R_keepGreatest 9 = .ok (.iload_n 1, 1) := by decide +kernel
theorem d_R_keepGreatest_10 : decode b_R_keepGreatest 10 = .ok (.putfield 62, 3) := by decide +kernel
theorem d_R_keepGreatest_13 : decode b_R_keepGreatest 13 = .ok (.aload_n 0, 1) := by decide +kernel
theorem d_R_keepGreatest_14 : decode b_R_keepGreatest 14 = .ok (.iload_n 2, 1) := by decide +kernel
theorem d_R_keepGreatest_15 : decode b_R_keepGreatest 15 = .ok (.putfield 68, 3) := by decide +kernel
theorem d_R_keepGreatest_18 : decode b_R_keepGreatest 18 = .ok (.return_, 1) := by decide +kernel
theorem d_R_hasAccepted_0 : decode b_R_hasAccepted 0 = .ok (.aload_n 0, 1) := by decide +kernel
theorem d_R_hasAccepted_1 : decode b_R_hasAccepted 1 = .ok (.getfield 59, 3) := by decide +kernel
theorem d_R_hasAccepted_4 : decode b_R_hasAccepted 4 = .ok (.ifCond .eq 7, 3) := by decide +kernel
theorem d_R_hasAccepted_7 : decode b_R_hasAccepted 7 = .ok (.iconst 1, 1) := by decide +kernel
theorem d_R_hasAccepted_8 : decode b_R_hasAccepted 8 = .ok (.goto 4, 3) := by decide +kernel
theorem d_R_hasAccepted_11 : decode b_R_hasAccepted 11 = .ok (.iconst 0, 1) := by decide +kernel
theorem d_R_hasAccepted_12 : decode b_R_hasAccepted 12 = .ok (.ireturn, 1) := by decide +kernel
theorem d_R_accept_0 : decode b_R_accept 0 = .ok (.aload_n 0, 1) := by decide +kernel
theorem d_R_accept_1 : decode b_R_accept 1 = .ok (.iload_n 1, 1) := by decide +kernel
theorem d_R_accept_2 : decode b_R_accept 2 = .ok (.putfield 59, 3) := by decide +kernel
theorem d_R_accept_5 : decode b_R_accept 5 = .ok (.aload_n 0, 1) := by decide +kernel
theorem d_R_accept_6 : decode b_R_accept 6 = .ok (.iload_n 2, 1) := by decide +kernel
theorem d_R_accept_7 : decode b_R_accept 7 = .ok (.putfield 65, 3) := by decide +kernel
theorem d_R_accept_10 : decode b_R_accept 10 = .ok (.return_, 1) := by decide +kernel
theorem d_R_dropAccepted_0 : decode b_R_dropAccepted 0 = .ok (.aload_n 0, 1) := by decide +kernel
theorem d_R_dropAccepted_1 : decode b_R_dropAccepted 1 = .ok (.iconst 0, 1) := by decide +kernel
theorem d_R_dropAccepted_2 : decode b_R_dropAccepted 2 = .ok (.putfield 59, 3) := by decide +kernel
theorem d_R_dropAccepted_5 : decode b_R_dropAccepted 5 = .ok (.aload_n 0, 1) := by decide +kernel
theorem d_R_dropAccepted_6 : decode b_R_dropAccepted 6 = .ok (.iconst 0, 1) := by decide +kernel
theorem d_R_dropAccepted_7 : decode b_R_dropAccepted 7 = .ok (.putfield 65, 3) := by decide +kernel
theorem d_R_dropAccepted_10 : decode b_R_dropAccepted 10 = .ok (.return_, 1) := by decide +kernel
theorem d_R_proposeAndAccept_0 : decode b_R_proposeAndAccept 0 = .ok (.aload_n 0, 1) := by decide +kernel
theorem d_R_proposeAndAccept_1 : decode b_R_proposeAndAccept 1 = .ok (.iload_n 1, 1) := by decide +kernel
theorem d_R_proposeAndAccept_2 : decode b_R_proposeAndAccept 2 = .ok (.putfield 56, 3) := by decide +kernel
theorem d_R_proposeAndAccept_5 : decode b_R_proposeAndAccept 5 = .ok (.aload_n 0, 1) := by decide +kernel
theorem d_R_proposeAndAccept_6 : decode b_R_proposeAndAccept 6 = .ok (.iconst 1, 1) := by decide +kernel
theorem d_R_proposeAndAccept_7 : decode b_R_proposeAndAccept 7 = .ok (.aload_n 0, 1) := by decide +kernel
theorem d_R_proposeAndAccept_8 : decode b_R_proposeAndAccept 8 = .ok (.getfield 9, 3) := by decide +kernel
theorem d_R_proposeAndAccept_11 : decode b_R_proposeAndAccept 11 = .ok (.ishl, 1) := by decide +kernel
theorem d_R_proposeAndAccept_12 : decode b_R_proposeAndAccept 12 = .ok (.putfield 53, 3) := by decide +kernel
theorem d_R_proposeAndAccept_15 : decode b_R_proposeAndAccept 15 = .ok (.aload_n 0, 1) := by decide +kernel
theorem d_R_proposeAndAccept_16 : decode b_R_proposeAndAccept 16 = .ok (.aload_n 0, 1) := by decide +kernel
theorem d_R_proposeAndAccept_17 : decode b_R_proposeAndAccept 17 = .ok (.getfield 50, 3) := by decide +kernel
theorem d_R_proposeAndAccept_20 : decode b_R_proposeAndAccept 20 = .ok (.iload_n 1, 1) := by decide +kernel
theorem d_R_proposeAndAccept_21 : decode b_R_proposeAndAccept 21 = .ok (.invokevirtual 74, 3) := by decide +kernel
theorem d_R_proposeAndAccept_24 : decode b_R_proposeAndAccept 24 = .ok (.return_, 1) := by decide +kernel
theorem d_R_learn_0 : decode b_R_learn 0 = .ok (.aload_n 0, 1) := by decide +kernel
theorem d_R_learn_1 : decode b_R_learn 1 = .ok (.getfield 20, 3) := by decide +kernel
theorem d_R_learn_4 : decode b_R_learn 4 = .ok (.iload_n 1, 1) := by decide +kernel
theorem d_R_learn_5 : decode b_R_learn 5 = .ok (.invokevirtual 78, 3) := by decide +kernel
theorem d_R_learn_8 : decode b_R_learn 8 = .ok (.aload_n 0, 1) := by decide +kernel
theorem d_R_learn_9 : decode b_R_learn 9 = .ok (.invokevirtual 81, 3) := by decide +kernel
theorem d_R_learn_12 : decode b_R_learn 12 = .ok (.aload_n 0, 1) := by decide +kernel
theorem d_R_learn_13 : decode b_R_learn 13 = .ok (.getfield 47, 3) := by decide +kernel
theorem d_R_learn_16 : decode b_R_learn 16 = .ok (.iconst 1, 1) := by decide +kernel
theorem d_R_learn_17 : decode b_R_learn 17 = .ok (.if_icmp .ne 7, 3) := by decide +kernel
theorem d_R_learn_20 : decode b_R_learn 20 = .ok (.aload_n 0, 1) := by decide +kernel
theorem d_R_learn_21 : decode b_R_learn 21 = .ok (.invokevirtual 35, 3) := by decide +kernel
theorem d_R_learn_24 : decode b_R_learn 24 = .ok (.aload_n 0, 1) := by decide +kernel
theorem d_R_learn_25 : decode b_R_learn 25 = .ok (.iconst 0, 1) := by decide +kernel
theorem d_R_learn_26 : decode b_R_learn 26 = .ok (.putfield 56, 3) := by decide +kernel
theorem d_R_learn_29 : decode b_R_learn 29 = .ok (.aload_n 0, 1) := by decide +kernel
theorem d_R_learn_30 : decode b_R_learn 30 = .ok (.iconst 0, 1) := by decide +kernel
theorem d_R_learn_31 : decode b_R_learn 31 = .ok (.putfield 53, 3) := by decide +kernel
theorem d_R_learn_34 : decode b_R_learn 34 = .ok (.aload_n 0, 1) := by decide +kernel
theorem d_R_learn_35 : decode b_R_learn 35 = .ok (.getfield 27, 3) := by decide +kernel
theorem d_R_learn_38 : decode b_R_learn 38 = .ok (.iload_n 1, 1) := by decide +kernel
theorem d_R_learn_39 : decode b_R_learn 39 = .ok (.invokevirtual 84, 3) := by decide +kernel
theorem d_R_learn_42 : decode b_R_learn 42 = .ok (.return_, 1) := by decide +kernel
theorem d_R_passing_0 : decode b_R_passing 0 = .ok (.iload_n 1, 1) := by decide +kernel
theorem d_R_passing_1 : decode b_R_passing 1 = .ok (.tableswitch 72 7 12 #[39, 44, 49, 54, 59, 67], 39) := by decide +kernel
theorem d_R_passing_40 : decode b_R_passing 40 = .ok (.aload_n 0, 1) := by decide +kernel
theorem d_R_passing_41 : decode b_R_passing 41 = .ok (.getfield 47, 3) := by decide +kernel
theorem d_R_passing_44 : decode b_R_passing 44 = .ok (.ireturn, 1) := by decide +kernel
theorem d_R_passing_45 : decode b_R_passing 45 = .ok (.aload_n 0, 1) := by decide +kernel
theorem d_R_passing_46 : decode b_R_passing 46 = .ok (.getfield 50, 3) := by decide +kernel
theorem d_R_passing_49 : decode b_R_passing 49 = .ok (.ireturn, 1) := by decide +kernel
theorem d_R_passing_50 : decode b_R_passing 50 = .ok (.aload_n 0, 1) := by decide +kernel
theorem d_R_passing_51 : decode b_R_passing 51 = .ok (.getfield 53, 3) := by decide +kernel
theorem d_R_passing_54 : decode b_R_passing 54 = .ok (.ireturn, 1) := by decide +kernel
theorem d_R_passing_55 : decode b_R_passing 55 = .ok (.aload_n 0, 1) := by decide +kernel
theorem d_R_passing_56 : decode b_R_passing 56 = .ok (.getfield 41, 3) := by decide +kernel
theorem d_R_passing_59 : decode b_R_passing 59 = .ok (.ireturn, 1) := by decide +kernel
theorem d_R_passing_60 : decode b_R_passing 60 = .ok (.aload_n 0, 1) := by decide +kernel
theorem d_R_passing_61 : decode b_R_passing 61 = .ok (.getfield 27, 3) := by decide +kernel
theorem d_R_passing_64 : decode b_R_passing 64 = .ok (.getfield 44, 3) := by decide +kernel
theorem d_R_passing_67 : decode b_R_passing 67 = .ok (.ireturn, 1) := by decide +kernel
theorem d_R_passing_68 : decode b_R_passing 68 = .ok (.aload_n 0, 1) := by decide +kernel
theorem d_R_passing_69 : decode b_R_passing 69 = .ok (.getfield 56, 3) := by decide +kernel
theorem d_R_passing_72 : decode b_R_passing 72 = .ok (.ireturn, 1) := by decide +kernel
theorem d_R_passing_73 : decode b_R_passing 73 = .ok (.iconst (-1), 1) := by decide +kernel
theorem d_R_passing_74 : decode b_R_passing 74 = .ok (.ireturn, 1) := by decide +kernel
theorem d_J_bitCount_0 : decode b_J_bitCount 0 = .ok (.iload_n 0, 1) := by decide +kernel
theorem d_J_bitCount_1 : decode b_J_bitCount 1 = .ok (.iload_n 0, 1) := by decide +kernel
theorem d_J_bitCount_2 : decode b_J_bitCount 2 = .ok (.iconst 1, 1) := by decide +kernel
theorem d_J_bitCount_3 : decode b_J_bitCount 3 = .ok (.iushr, 1) := by decide +kernel
theorem d_J_bitCount_4 : decode b_J_bitCount 4 = .ok (.ldc_w 265, 3) := by decide +kernel
theorem d_J_bitCount_7 : decode b_J_bitCount 7 = .ok (.iand, 1) := by decide +kernel
theorem d_J_bitCount_8 : decode b_J_bitCount 8 = .ok (.isub, 1) := by decide +kernel
theorem d_J_bitCount_9 : decode b_J_bitCount 9 = .ok (.istore_n 0, 1) := by decide +kernel
theorem d_J_bitCount_10 : decode b_J_bitCount 10 = .ok (.iload_n 0, 1) := by decide +kernel
theorem d_J_bitCount_11 : decode b_J_bitCount 11 = .ok (.ldc_w 266, 3) := by decide +kernel
theorem d_J_bitCount_14 : decode b_J_bitCount 14 = .ok (.iand, 1) := by decide +kernel
theorem d_J_bitCount_15 : decode b_J_bitCount 15 = .ok (.iload_n 0, 1) := by decide +kernel
theorem d_J_bitCount_16 : decode b_J_bitCount 16 = .ok (.iconst 2, 1) := by decide +kernel
theorem d_J_bitCount_17 : decode b_J_bitCount 17 = .ok (.iushr, 1) := by decide +kernel
theorem d_J_bitCount_18 : decode b_J_bitCount 18 = .ok (.ldc_w 266, 3) := by decide +kernel
theorem d_J_bitCount_21 : decode b_J_bitCount 21 = .ok (.iand, 1) := by decide +kernel
theorem d_J_bitCount_22 : decode b_J_bitCount 22 = .ok (.iadd, 1) := by decide +kernel
theorem d_J_bitCount_23 : decode b_J_bitCount 23 = .ok (.istore_n 0, 1) := by decide +kernel
theorem d_J_bitCount_24 : decode b_J_bitCount 24 = .ok (.iload_n 0, 1) := by decide +kernel
theorem d_J_bitCount_25 : decode b_J_bitCount 25 = .ok (.iload_n 0, 1) := by decide +kernel
theorem d_J_bitCount_26 : decode b_J_bitCount 26 = .ok (.iconst 4, 1) := by decide +kernel
theorem d_J_bitCount_27 : decode b_J_bitCount 27 = .ok (.iushr, 1) := by decide +kernel
theorem d_J_bitCount_28 : decode b_J_bitCount 28 = .ok (.iadd, 1) := by decide +kernel
theorem d_J_bitCount_29 : decode b_J_bitCount 29 = .ok (.ldc_w 267, 3) := by decide +kernel
theorem d_J_bitCount_32 : decode b_J_bitCount 32 = .ok (.iand, 1) := by decide +kernel
theorem d_J_bitCount_33 : decode b_J_bitCount 33 = .ok (.istore_n 0, 1) := by decide +kernel
theorem d_J_bitCount_34 : decode b_J_bitCount 34 = .ok (.iload_n 0, 1) := by decide +kernel
theorem d_J_bitCount_35 : decode b_J_bitCount 35 = .ok (.iload_n 0, 1) := by decide +kernel
theorem d_J_bitCount_36 : decode b_J_bitCount 36 = .ok (.bipush 8, 2) := by decide +kernel
theorem d_J_bitCount_38 : decode b_J_bitCount 38 = .ok (.iushr, 1) := by decide +kernel
theorem d_J_bitCount_39 : decode b_J_bitCount 39 = .ok (.iadd, 1) := by decide +kernel
theorem d_J_bitCount_40 : decode b_J_bitCount 40 = .ok (.istore_n 0, 1) := by decide +kernel
theorem d_J_bitCount_41 : decode b_J_bitCount 41 = .ok (.iload_n 0, 1) := by decide +kernel
theorem d_J_bitCount_42 : decode b_J_bitCount 42 = .ok (.iload_n 0, 1) := by decide +kernel
theorem d_J_bitCount_43 : decode b_J_bitCount 43 = .ok (.bipush 16, 2) := by decide +kernel
theorem d_J_bitCount_45 : decode b_J_bitCount 45 = .ok (.iushr, 1) := by decide +kernel
theorem d_J_bitCount_46 : decode b_J_bitCount 46 = .ok (.iadd, 1) := by decide +kernel
theorem d_J_bitCount_47 : decode b_J_bitCount 47 = .ok (.istore_n 0, 1) := by decide +kernel
theorem d_J_bitCount_48 : decode b_J_bitCount 48 = .ok (.iload_n 0, 1) := by decide +kernel
theorem d_J_bitCount_49 : decode b_J_bitCount 49 = .ok (.bipush 63, 2) := by decide +kernel
theorem d_J_bitCount_51 : decode b_J_bitCount 51 = .ok (.iand, 1) := by decide +kernel
theorem d_J_bitCount_52 : decode b_J_bitCount 52 = .ok (.ireturn, 1) := by decide +kernel
end
section
theorem d_W_cell_0 : decode b_W_cell 0 = .ok (.iload_n 1, 1) := by decide +kernel
theorem d_W_cell_1 : decode b_W_cell 1 = .ok (.aload_n 0, 1) := by decide +kernel
theorem d_W_cell_2 : decode b_W_cell 2 = .ok (.arraylength, 1) := by decide +kernel
theorem d_W_cell_3 : decode b_W_cell 3 = .ok (.if_icmp .ge 9, 3) := by decide +kernel
theorem d_W_cell_6 : decode b_W_cell 6 = .ok (.aload_n 0, 1) := by decide +kernel
theorem d_W_cell_7 : decode b_W_cell 7 = .ok (.iload_n 1, 1) := by decide +kernel
theorem d_W_cell_8 : decode b_W_cell 8 = .ok (.iaload, 1) := by decide +kernel
theorem d_W_cell_9 : decode b_W_cell 9 = .ok (.goto 4, 3) := by decide +kernel
theorem d_W_cell_12 : decode b_W_cell 12 = .ok (.iconst 0, 1) := by decide +kernel
theorem d_W_cell_13 : decode b_W_cell 13 = .ok (.ireturn, 1) := by decide +kernel
theorem d_W_law_0 : decode b_W_law 0 = .ok (.new 7, 3) := by decide +kernel
theorem d_W_law_3 : decode b_W_law 3 = .ok (.dup, 1) := by decide +kernel
theorem d_W_law_4 : decode b_W_law 4 = .ok (.aload_n 0, 1) := by decide +kernel
theorem d_W_law_5 : decode b_W_law 5 = .ok (.iconst 0, 1) := by decide +kernel
theorem d_W_law_6 : decode b_W_law 6 = .ok (.invokestatic 9, 3) := by decide +kernel
theorem d_W_law_9 : decode b_W_law 9 = .ok (.aload_n 0, 1) := by decide +kernel
theorem d_W_law_10 : decode b_W_law 10 = .ok (.iconst 1, 1) := by decide +kernel
theorem d_W_law_11 : decode b_W_law 11 = .ok (.invokestatic 9, 3) := by decide +kernel
theorem d_W_law_14 : decode b_W_law 14 = .ok (.invokespecial 15, 3) := by decide +kernel
theorem d_W_law_17 : decode b_W_law 17 = .ok (.astore_n 1, 1) := by decide +kernel
theorem d_W_law_18 : decode b_W_law 18 = .ok (.new 18, 3) := by decide +kernel
theorem d_W_law_21 : decode b_W_law 21 = .ok (.dup, 1) := by decide +kernel
theorem d_W_law_22 : decode b_W_law 22 = .ok (.aload_n 0, 1) := by decide +kernel
theorem d_W_law_23 : decode b_W_law 23 = .ok (.iconst 0, 1) := by decide +kernel
theorem d_W_law_24 : decode b_W_law 24 = .ok (.invokestatic 9, 3) := by decide +kernel
theorem d_W_law_27 : decode b_W_law 27 = .ok (.aload_n 0, 1) := by decide +kernel
theorem d_W_law_28 : decode b_W_law 28 = .ok (.iconst 1, 1) := by decide +kernel
theorem d_W_law_29 : decode b_W_law 29 = .ok (.invokestatic 9, 3) := by decide +kernel
theorem d_W_law_32 : decode b_W_law 32 = .ok (.invokespecial 20, 3) := by decide +kernel
theorem d_W_law_35 : decode b_W_law 35 = .ok (.astore_n 2, 1) := by decide +kernel
theorem d_W_law_36 : decode b_W_law 36 = .ok (.iconst 2, 1) := by decide +kernel
theorem d_W_law_37 : decode b_W_law 37 = .ok (.istore_n 3, 1) := by decide +kernel
theorem d_W_law_38 : decode b_W_law 38 = .ok (.iload_n 3, 1) := by decide +kernel
theorem d_W_law_39 : decode b_W_law 39 = .ok (.aload_n 0, 1) := by decide +kernel
theorem d_W_law_40 : decode b_W_law 40 = .ok (.arraylength, 1) := by decide +kernel
theorem d_W_law_41 : decode b_W_law 41 = .ok (.iconst 3, 1) := by decide +kernel
theorem d_W_law_42 : decode b_W_law 42 = .ok (.isub, 1) := by decide +kernel
theorem d_W_law_43 : decode b_W_law 43 = .ok (.if_icmp .gt 404, 3) := by decide +kernel
theorem d_W_law_46 : decode b_W_law 46 = .ok (.aload_n 0, 1) := by decide +kernel
theorem d_W_law_47 : decode b_W_law 47 = .ok (.iload_n 3, 1) := by decide +kernel
theorem d_W_law_48 : decode b_W_law 48 = .ok (.iaload, 1) := by decide +kernel
theorem d_W_law_49 : decode b_W_law 49 = .ok (.bipush 15, 2) := by decide +kernel
theorem d_W_law_51 : decode b_W_law 51 = .ok (.iand, 1) := by decide +kernel
theorem d_W_law_52 : decode b_W_law 52 = .ok (.tableswitch 389 0 10 #[60, 93, 116, 139, 162, 185, 234, 267, 300, 333, 366], 60) := by decide +kernel
theorem d_W_law_112 : decode b_W_law 112 = .ok (.aload_n 1, 1) := by decide +kernel
theorem d_W_law_113 : decode b_W_law 113 = .ok (.aload_n 0, 1) := by decide +kernel
theorem d_W_law_114 : decode b_W_law 114 = .ok (.iload_n 3, 1) := by decide +kernel
theorem d_W_law_115 : decode b_W_law 115 = .ok (.iconst 1, 1) := by decide +kernel
theorem d_W_law_116 : decode b_W_law 116 = .ok (.iadd, 1) := by decide +kernel
theorem d_W_law_117 : decode b_W_law 117 = .ok (.iaload, 1) := by decide +kernel
theorem d_W_law_118 : decode b_W_law 118 = .ok (.aload_n 0, 1) := by decide +kernel
theorem d_W_law_119 : decode b_W_law 119 = .ok (.iload_n 3, 1) := by decide +kernel
theorem d_W_law_120 : decode b_W_law 120 = .ok (.iconst 2, 1) := by decide +kernel
theorem d_W_law_121 : decode b_W_law 121 = .ok (.iadd, 1) := by decide +kernel
theorem d_W_law_122 : decode b_W_law 122 = .ok (.iaload, 1) := by decide +kernel
theorem d_W_law_123 : decode b_W_law 123 = .ok (.invokevirtual 21, 3) := by decide +kernel
theorem d_W_law_126 : decode b_W_law 126 = .ok (.aload_n 2, 1) := by decide +kernel
theorem d_W_law_127 : decode b_W_law 127 = .ok (.aload_n 0, 1) := by decide +kernel
theorem d_W_law_128 : decode b_W_law 128 = .ok (.iload_n 3, 1) := by decide +kernel
theorem d_W_law_129 : decode b_W_law 129 = .ok (.iconst 1, 1) := by decide +kernel
theorem d_W_law_130 : decode b_W_law 130 = .ok (.iadd, 1) := by decide +kernel
theorem d_W_law_131 : decode b_W_law 131 = .ok (.iaload, 1) := by decide +kernel
theorem d_W_law_132 : decode b_W_law 132 = .ok (.aload_n 0, 1) := by decide +kernel
theorem d_W_law_133 : decode b_W_law 133 = .ok (.iload_n 3, 1) := by decide +kernel
theorem d_W_law_134 : decode b_W_law 134 = .ok (.iconst 2, 1) := by decide +kernel
theorem d_W_law_135 : decode b_W_law 135 = .ok (.iadd, 1) := by decide +kernel
theorem d_W_law_136 : decode b_W_law 136 = .ok (.iaload, 1) := by decide +kernel
theorem d_W_law_137 : decode b_W_law 137 = .ok (.invokevirtual 25, 3) := by decide +kernel
theorem d_W_law_140 : decode b_W_law 140 = .ok (.if_icmp .eq 301, 3) := by decide +kernel
theorem d_W_law_143 : decode b_W_law 143 = .ok (.iconst 0, 1) := by decide +kernel
theorem d_W_law_144 : decode b_W_law 144 = .ok (.ireturn, 1) := by decide +kernel
theorem d_W_law_145 : decode b_W_law 145 = .ok (.aload_n 1, 1) := by decide +kernel
theorem d_W_law_146 : decode b_W_law 146 = .ok (.aload_n 0, 1) := by decide +kernel
theorem d_W_law_147 : decode b_W_law 147 = .ok (.iload_n 3, 1) := by decide +kernel
theorem d_W_law_148 : decode b_W_law 148 = .ok (.iconst 1, 1) := by decide +kernel
theorem d_W_law_149 : decode b_W_law 149 = .ok (.iadd, 1) := by decide +kernel
theorem d_W_law_150 : decode b_W_law 150 = .ok (.iaload, 1) := by decide +kernel
theorem d_W_law_151 : decode b_W_law 151 = .ok (.invokevirtual 26, 3) := by decide +kernel
theorem d_W_law_154 : decode b_W_law 154 = .ok (.aload_n 2, 1) := by decide +kernel
theorem d_W_law_155 : decode b_W_law 155 = .ok (.aload_n 0, 1) := by decide +kernel
theorem d_W_law_156 : decode b_W_law 156 = .ok (.iload_n 3, 1) := by decide +kernel
theorem d_W_law_157 : decode b_W_law 157 = .ok (.iconst 1, 1) := by decide +kernel
theorem d_W_law_158 : decode b_W_law 158 = .ok (.iadd, 1) := by decide +kernel
theorem d_W_law_159 : decode b_W_law 159 = .ok (.iaload, 1) := by decide +kernel
theorem d_W_law_160 : decode b_W_law 160 = .ok (.invokevirtual 30, 3) := by decide +kernel
theorem d_W_law_163 : decode b_W_law 163 = .ok (.if_icmp .eq 278, 3) := by decide +kernel
theorem d_W_law_166 : decode b_W_law 166 = .ok (.iconst 0, 1) := by decide +kernel
theorem d_W_law_167 : decode b_W_law 167 = .ok (.ireturn, 1) := by decide +kernel
theorem d_W_law_168 : decode b_W_law 168 = .ok (.aload_n 1, 1) := by decide +kernel
theorem d_W_law_169 : decode b_W_law 169 = .ok (.aload_n 0, 1) := by decide +kernel
theorem d_W_law_170 : decode b_W_law 170 = .ok (.iload_n 3, 1) := by decide +kernel
theorem d_W_law_171 : decode b_W_law 171 = .ok (.iconst 1, 1) := by decide +kernel
theorem d_W_law_172 : decode b_W_law 172 = .ok (.iadd, 1) := by decide +kernel
theorem d_W_law_173 : decode b_W_law 173 = .ok (.iaload, 1) := by decide +kernel
theorem d_W_law_174 : decode b_W_law 174 = .ok (.invokevirtual 31, 3) := by decide +kernel
theorem d_W_law_177 : decode b_W_law 177 = .ok (.aload_n 2, 1) := by decide +kernel
theorem d_W_law_178 : decode b_W_law 178 = .ok (.aload_n 0, 1) := by decide +kernel
theorem d_W_law_179 : decode b_W_law 179 = .ok (.iload_n 3, 1) := by decide +kernel
theorem d_W_law_180 : decode b_W_law 180 = .ok (.iconst 1, 1) := by decide +kernel
theorem d_W_law_181 : decode b_W_law 181 = .ok (.iadd, 1) := by decide +kernel
theorem d_W_law_182 : decode b_W_law 182 = .ok (.iaload, 1) := by decide +kernel
theorem d_W_law_183 : decode b_W_law 183 = .ok (.invokevirtual 34, 3) := by decide +kernel
theorem d_W_law_186 : decode b_W_law 186 = .ok (.if_icmp .eq 255, 3) := by decide +kernel
theorem d_W_law_189 : decode b_W_law 189 = .ok (.iconst 0, 1) := by decide +kernel
theorem d_W_law_190 : decode b_W_law 190 = .ok (.ireturn, 1) := by decide +kernel
theorem d_W_law_191 : decode b_W_law 191 = .ok (.aload_n 1, 1) := by decide +kernel
theorem d_W_law_192 : decode b_W_law 192 = .ok (.aload_n 0, 1) := by decide +kernel
theorem d_W_law_193 : decode b_W_law 193 = .ok (.iload_n 3, 1) := by decide +kernel
theorem d_W_law_194 : decode b_W_law 194 = .ok (.iconst 1, 1) := by decide +kernel
theorem d_W_law_195 : decode b_W_law 195 = .ok (.iadd, 1) := by decide +kernel
theorem d_W_law_196 : decode b_W_law 196 = .ok (.iaload, 1) := by decide +kernel
theorem d_W_law_197 : decode b_W_law 197 = .ok (.invokevirtual 35, 3) := by decide +kernel
theorem d_W_law_200 : decode b_W_law 200 = .ok (.aload_n 2, 1) := by decide +kernel
theorem d_W_law_201 : decode b_W_law 201 = .ok (.aload_n 0, 1) := by decide +kernel
theorem d_W_law_202 : decode b_W_law 202 = .ok (.iload_n 3, 1) := by decide +kernel
theorem d_W_law_203 : decode b_W_law 203 = .ok (.iconst 1, 1) := by decide +kernel
theorem d_W_law_204 : decode b_W_law 204 = .ok (.iadd, 1) := by decide +kernel
theorem d_W_law_205 : decode b_W_law 205 = .ok (.iaload, 1) := by decide +kernel
theorem d_W_law_206 : decode b_W_law 206 = .ok (.invokevirtual 39, 3) := by decide +kernel
theorem d_W_law_209 : decode b_W_law 209 = .ok (.if_icmp .eq 232, 3) := by decide +kernel
theorem d_W_law_212 : decode b_W_law 212 = .ok (.iconst 0, 1) := by decide +kernel
theorem d_W_law_213 : decode b_W_law 213 = .ok (.ireturn, 1) := by decide +kernel
theorem d_W_law_214 : decode b_W_law 214 = .ok (.aload_n 1, 1) := by decide +kernel
theorem d_W_law_215 : decode b_W_law 215 = .ok (.aload_n 0, 1) := by decide +kernel
theorem d_W_law_216 : decode b_W_law 216 = .ok (.iload_n 3, 1) := by decide +kernel
theorem d_W_law_217 : decode b_W_law 217 = .ok (.iconst 1, 1) := by decide +kernel
theorem d_W_law_218 : decode b_W_law 218 = .ok (.iadd, 1) := by decide +kernel
theorem d_W_law_219 : decode b_W_law 219 = .ok (.iaload, 1) := by decide +kernel
theorem d_W_law_220 : decode b_W_law 220 = .ok (.invokevirtual 40, 3) := by decide +kernel
theorem d_W_law_223 : decode b_W_law 223 = .ok (.aload_n 2, 1) := by decide +kernel
theorem d_W_law_224 : decode b_W_law 224 = .ok (.aload_n 0, 1) := by decide +kernel
theorem d_W_law_225 : decode b_W_law 225 = .ok (.iload_n 3, 1) := by decide +kernel
theorem d_W_law_226 : decode b_W_law 226 = .ok (.iconst 1, 1) := by decide +kernel
theorem d_W_law_227 : decode b_W_law 227 = .ok (.iadd, 1) := by decide +kernel
theorem d_W_law_228 : decode b_W_law 228 = .ok (.iaload, 1) := by decide +kernel
theorem d_W_law_229 : decode b_W_law 229 = .ok (.invokevirtual 43, 3) := by decide +kernel
theorem d_W_law_232 : decode b_W_law 232 = .ok (.if_icmp .eq 209, 3) := by decide +kernel
theorem d_W_law_235 : decode b_W_law 235 = .ok (.iconst 0, 1) := by decide +kernel
theorem d_W_law_236 : decode b_W_law 236 = .ok (.ireturn, 1) := by decide +kernel
theorem d_W_law_237 : decode b_W_law 237 = .ok (.aload_n 1, 1) := by decide +kernel
theorem d_W_law_238 : decode b_W_law 238 = .ok (.aload_n 0, 1) := by decide +kernel
theorem d_W_law_239 : decode b_W_law 239 = .ok (.iload_n 3, 1) := by decide +kernel
theorem d_W_law_240 : decode b_W_law 240 = .ok (.iconst 1, 1) := by decide +kernel
theorem d_W_law_241 : decode b_W_law 241 = .ok (.iadd, 1) := by decide +kernel
theorem d_W_law_242 : decode b_W_law 242 = .ok (.iaload, 1) := by decide +kernel
theorem d_W_law_243 : decode b_W_law 243 = .ok (.aload_n 0, 1) := by decide +kernel
theorem d_W_law_244 : decode b_W_law 244 = .ok (.iload_n 3, 1) := by decide +kernel
theorem d_W_law_245 : decode b_W_law 245 = .ok (.iconst 2, 1) := by decide +kernel
theorem d_W_law_246 : decode b_W_law 246 = .ok (.iadd, 1) := by decide +kernel
theorem d_W_law_247 : decode b_W_law 247 = .ok (.iaload, 1) := by decide +kernel
theorem d_W_law_248 : decode b_W_law 248 = .ok (.ifCond .eq 7, 3) := by decide +kernel
theorem d_W_law_251 : decode b_W_law 251 = .ok (.iconst 1, 1) := by decide +kernel
theorem d_W_law_252 : decode b_W_law 252 = .ok (.goto 4, 3) := by decide +kernel
theorem d_W_law_255 : decode b_W_law 255 = .ok (.iconst 0, 1) := by decide +kernel
theorem d_W_law_256 : decode b_W_law 256 = .ok (.invokevirtual 44, 3) := by decide +kernel
theorem d_W_law_259 : decode b_W_law 259 = .ok (.aload_n 2, 1) := by decide +kernel
theorem d_W_law_260 : decode b_W_law 260 = .ok (.aload_n 0, 1) := by decide +kernel
theorem d_W_law_261 : decode b_W_law 261 = .ok (.iload_n 3, 1) := by decide +kernel
theorem d_W_law_262 : decode b_W_law 262 = .ok (.iconst 1, 1) := by decide +kernel
theorem d_W_law_263 : decode b_W_law 263 = .ok (.iadd, 1) := by decide +kernel
theorem d_W_law_264 : decode b_W_law 264 = .ok (.iaload, 1) := by decide +kernel
theorem d_W_law_265 : decode b_W_law 265 = .ok (.aload_n 0, 1) := by decide +kernel
theorem d_W_law_266 : decode b_W_law 266 = .ok (.iload_n 3, 1) := by decide +kernel
theorem d_W_law_267 : decode b_W_law 267 = .ok (.iconst 2, 1) := by decide +kernel
theorem d_W_law_268 : decode b_W_law 268 = .ok (.iadd, 1) := by decide +kernel
theorem d_W_law_269 : decode b_W_law 269 = .ok (.iaload, 1) := by decide +kernel
theorem d_W_law_270 : decode b_W_law 270 = .ok (.ifCond .eq 7, 3) := by decide +kernel
theorem d_W_law_273 : decode b_W_law 273 = .ok (.iconst 1, 1) := by decide +kernel
theorem d_W_law_274 : decode b_W_law 274 = .ok (.goto 4, 3) := by decide +kernel
theorem d_W_law_277 : decode b_W_law 277 = .ok (.iconst 0, 1) := by decide +kernel
theorem d_W_law_278 : decode b_W_law 278 = .ok (.invokevirtual 48, 3) := by decide +kernel
theorem d_W_law_281 : decode b_W_law 281 = .ok (.if_icmp .eq 160, 3) := by decide +kernel
theorem d_W_law_284 : decode b_W_law 284 = .ok (.iconst 0, 1) := by decide +kernel
theorem d_W_law_285 : decode b_W_law 285 = .ok (.ireturn, 1) := by decide +kernel
theorem d_W_law_286 : decode b_W_law 286 = .ok (.aload_n 1, 1) := by decide +kernel
theorem d_W_law_287 : decode b_W_law 287 = .ok (.aload_n 0, 1) := by decide +kernel
theorem d_W_law_288 : decode b_W_law 288 = .ok (.iload_n 3, 1) := by decide +kernel
theorem d_W_law_289 : decode b_W_law 289 = .ok (.iconst 1, 1) := by decide +kernel
theorem d_W_law_290 : decode b_W_law 290 = .ok (.iadd, 1) := by decide +kernel
theorem d_W_law_291 : decode b_W_law 291 = .ok (.iaload, 1) := by decide +kernel
theorem d_W_law_292 : decode b_W_law 292 = .ok (.aload_n 0, 1) := by decide +kernel
theorem d_W_law_293 : decode b_W_law 293 = .ok (.iload_n 3, 1) := by decide +kernel
theorem d_W_law_294 : decode b_W_law 294 = .ok (.iconst 2, 1) := by decide +kernel
theorem d_W_law_295 : decode b_W_law 295 = .ok (.iadd, 1) := by decide +kernel
theorem d_W_law_296 : decode b_W_law 296 = .ok (.iaload, 1) := by decide +kernel
theorem d_W_law_297 : decode b_W_law 297 = .ok (.invokevirtual 49, 3) := by decide +kernel
theorem d_W_law_300 : decode b_W_law 300 = .ok (.aload_n 2, 1) := by decide +kernel
theorem d_W_law_301 : decode b_W_law 301 = .ok (.aload_n 0, 1) := by decide +kernel
theorem d_W_law_302 : decode b_W_law 302 = .ok (.iload_n 3, 1) := by decide +kernel
theorem d_W_law_303 : decode b_W_law 303 = .ok (.iconst 1, 1) := by decide +kernel
theorem d_W_law_304 : decode b_W_law 304 = .ok (.iadd, 1) := by decide +kernel
theorem d_W_law_305 : decode b_W_law 305 = .ok (.iaload, 1) := by decide +kernel
theorem d_W_law_306 : decode b_W_law 306 = .ok (.aload_n 0, 1) := by decide +kernel
theorem d_W_law_307 : decode b_W_law 307 = .ok (.iload_n 3, 1) := by decide +kernel
theorem d_W_law_308 : decode b_W_law 308 = .ok (.iconst 2, 1) := by decide +kernel
theorem d_W_law_309 : decode b_W_law 309 = .ok (.iadd, 1) := by decide +kernel
theorem d_W_law_310 : decode b_W_law 310 = .ok (.iaload, 1) := by decide +kernel
theorem d_W_law_311 : decode b_W_law 311 = .ok (.invokevirtual 53, 3) := by decide +kernel
theorem d_W_law_314 : decode b_W_law 314 = .ok (.if_icmp .eq 127, 3) := by decide +kernel
theorem d_W_law_317 : decode b_W_law 317 = .ok (.iconst 0, 1) := by decide +kernel
theorem d_W_law_318 : decode b_W_law 318 = .ok (.ireturn, 1) := by decide +kernel
theorem d_W_law_319 : decode b_W_law 319 = .ok (.aload_n 1, 1) := by decide +kernel
theorem d_W_law_320 : decode b_W_law 320 = .ok (.aload_n 0, 1) := by decide +kernel
theorem d_W_law_321 : decode b_W_law 321 = .ok (.iload_n 3, 1) := by decide +kernel
theorem d_W_law_322 : decode b_W_law 322 = .ok (.iconst 1, 1) := by decide +kernel
theorem d_W_law_323 : decode b_W_law 323 = .ok (.iadd, 1) := by decide +kernel
theorem d_W_law_324 : decode b_W_law 324 = .ok (.iaload, 1) := by decide +kernel
theorem d_W_law_325 : decode b_W_law 325 = .ok (.aload_n 0, 1) := by decide +kernel
theorem d_W_law_326 : decode b_W_law 326 = .ok (.iload_n 3, 1) := by decide +kernel
theorem d_W_law_327 : decode b_W_law 327 = .ok (.iconst 2, 1) := by decide +kernel
theorem d_W_law_328 : decode b_W_law 328 = .ok (.iadd, 1) := by decide +kernel
theorem d_W_law_329 : decode b_W_law 329 = .ok (.iaload, 1) := by decide +kernel
theorem d_W_law_330 : decode b_W_law 330 = .ok (.invokevirtual 54, 3) := by decide +kernel
theorem d_W_law_333 : decode b_W_law 333 = .ok (.aload_n 2, 1) := by decide +kernel
theorem d_W_law_334 : decode b_W_law 334 = .ok (.aload_n 0, 1) := by decide +kernel
theorem d_W_law_335 : decode b_W_law 335 = .ok (.iload_n 3, 1) := by decide +kernel
theorem d_W_law_336 : decode b_W_law 336 = .ok (.iconst 1, 1) := by decide +kernel
theorem d_W_law_337 : decode b_W_law 337 = .ok (.iadd, 1) := by decide +kernel
theorem d_W_law_338 : decode b_W_law 338 = .ok (.iaload, 1) := by decide +kernel
theorem d_W_law_339 : decode b_W_law 339 = .ok (.aload_n 0, 1) := by decide +kernel
theorem d_W_law_340 : decode b_W_law 340 = .ok (.iload_n 3, 1) := by decide +kernel
theorem d_W_law_341 : decode b_W_law 341 = .ok (.iconst 2, 1) := by decide +kernel
theorem d_W_law_342 : decode b_W_law 342 = .ok (.iadd, 1) := by decide +kernel
theorem d_W_law_343 : decode b_W_law 343 = .ok (.iaload, 1) := by decide +kernel
theorem d_W_law_344 : decode b_W_law 344 = .ok (.invokevirtual 57, 3) := by decide +kernel
theorem d_W_law_347 : decode b_W_law 347 = .ok (.if_icmp .eq 94, 3) := by decide +kernel
theorem d_W_law_350 : decode b_W_law 350 = .ok (.iconst 0, 1) := by decide +kernel
theorem d_W_law_351 : decode b_W_law 351 = .ok (.ireturn, 1) := by decide +kernel
theorem d_W_law_352 : decode b_W_law 352 = .ok (.aload_n 1, 1) := by decide +kernel
theorem d_W_law_353 : decode b_W_law 353 = .ok (.aload_n 0, 1) := by decide +kernel
theorem d_W_law_354 : decode b_W_law 354 = .ok (.iload_n 3, 1) := by decide +kernel
theorem d_W_law_355 : decode b_W_law 355 = .ok (.iconst 1, 1) := by decide +kernel
theorem d_W_law_356 : decode b_W_law 356 = .ok (.iadd, 1) := by decide +kernel
theorem d_W_law_357 : decode b_W_law 357 = .ok (.iaload, 1) := by decide +kernel
theorem d_W_law_358 : decode b_W_law 358 = .ok (.aload_n 0, 1) := by decide +kernel
theorem d_W_law_359 : decode b_W_law 359 = .ok (.iload_n 3, 1) := by decide +kernel
theorem d_W_law_360 : decode b_W_law 360 = .ok (.iconst 2, 1) := by decide +kernel
theorem d_W_law_361 : decode b_W_law 361 = .ok (.iadd, 1) := by decide +kernel
theorem d_W_law_362 : decode b_W_law 362 = .ok (.iaload, 1) := by decide +kernel
theorem d_W_law_363 : decode b_W_law 363 = .ok (.invokevirtual 58, 3) := by decide +kernel
theorem d_W_law_366 : decode b_W_law 366 = .ok (.aload_n 2, 1) := by decide +kernel
theorem d_W_law_367 : decode b_W_law 367 = .ok (.aload_n 0, 1) := by decide +kernel
theorem d_W_law_368 : decode b_W_law 368 = .ok (.iload_n 3, 1) := by decide +kernel
theorem d_W_law_369 : decode b_W_law 369 = .ok (.iconst 1, 1) := by decide +kernel
theorem d_W_law_370 : decode b_W_law 370 = .ok (.iadd, 1) := by decide +kernel
theorem d_W_law_371 : decode b_W_law 371 = .ok (.iaload, 1) := by decide +kernel
theorem d_W_law_372 : decode b_W_law 372 = .ok (.aload_n 0, 1) := by decide +kernel
theorem d_W_law_373 : decode b_W_law 373 = .ok (.iload_n 3, 1) := by decide +kernel
theorem d_W_law_374 : decode b_W_law 374 = .ok (.iconst 2, 1) := by decide +kernel
theorem d_W_law_375 : decode b_W_law 375 = .ok (.iadd, 1) := by decide +kernel
theorem d_W_law_376 : decode b_W_law 376 = .ok (.iaload, 1) := by decide +kernel
theorem d_W_law_377 : decode b_W_law 377 = .ok (.invokevirtual 61, 3) := by decide +kernel
theorem d_W_law_380 : decode b_W_law 380 = .ok (.if_icmp .eq 61, 3) := by decide +kernel
theorem d_W_law_383 : decode b_W_law 383 = .ok (.iconst 0, 1) := by decide +kernel
theorem d_W_law_384 : decode b_W_law 384 = .ok (.ireturn, 1) := by decide +kernel
theorem d_W_law_385 : decode b_W_law 385 = .ok (.aload_n 1, 1) := by decide +kernel
theorem d_W_law_386 : decode b_W_law 386 = .ok (.aload_n 0, 1) := by decide +kernel
theorem d_W_law_387 : decode b_W_law 387 = .ok (.iload_n 3, 1) := by decide +kernel
theorem d_W_law_388 : decode b_W_law 388 = .ok (.iconst 1, 1) := by decide +kernel
theorem d_W_law_389 : decode b_W_law 389 = .ok (.iadd, 1) := by decide +kernel
theorem d_W_law_390 : decode b_W_law 390 = .ok (.iaload, 1) := by decide +kernel
theorem d_W_law_391 : decode b_W_law 391 = .ok (.aload_n 0, 1) := by decide +kernel
theorem d_W_law_392 : decode b_W_law 392 = .ok (.iload_n 3, 1) := by decide +kernel
theorem d_W_law_393 : decode b_W_law 393 = .ok (.iconst 2, 1) := by decide +kernel
theorem d_W_law_394 : decode b_W_law 394 = .ok (.iadd, 1) := by decide +kernel
theorem d_W_law_395 : decode b_W_law 395 = .ok (.iaload, 1) := by decide +kernel
theorem d_W_law_396 : decode b_W_law 396 = .ok (.invokevirtual 62, 3) := by decide +kernel
theorem d_W_law_399 : decode b_W_law 399 = .ok (.aload_n 2, 1) := by decide +kernel
theorem d_W_law_400 : decode b_W_law 400 = .ok (.aload_n 0, 1) := by decide +kernel
theorem d_W_law_401 : decode b_W_law 401 = .ok (.iload_n 3, 1) := by decide +kernel
theorem d_W_law_402 : decode b_W_law 402 = .ok (.iconst 1, 1) := by decide +kernel
theorem d_W_law_403 : decode b_W_law 403 = .ok (.iadd, 1) := by decide +kernel
theorem d_W_law_404 : decode b_W_law 404 = .ok (.iaload, 1) := by decide +kernel
theorem d_W_law_405 : decode b_W_law 405 = .ok (.aload_n 0, 1) := by decide +kernel
theorem d_W_law_406 : decode b_W_law 406 = .ok (.iload_n 3, 1) := by decide +kernel
theorem d_W_law_407 : decode b_W_law 407 = .ok (.iconst 2, 1) := by decide +kernel
theorem d_W_law_408 : decode b_W_law 408 = .ok (.iadd, 1) := by decide +kernel
theorem d_W_law_409 : decode b_W_law 409 = .ok (.iaload, 1) := by decide +kernel
theorem d_W_law_410 : decode b_W_law 410 = .ok (.invokevirtual 65, 3) := by decide +kernel
theorem d_W_law_413 : decode b_W_law 413 = .ok (.if_icmp .eq 28, 3) := by decide +kernel
theorem d_W_law_416 : decode b_W_law 416 = .ok (.iconst 0, 1) := by decide +kernel
theorem d_W_law_417 : decode b_W_law 417 = .ok (.ireturn, 1) := by decide +kernel
theorem d_W_law_418 : decode b_W_law 418 = .ok (.aload_n 1, 1) := by decide +kernel
theorem d_W_law_419 : decode b_W_law 419 = .ok (.aload_n 0, 1) := by decide +kernel
theorem d_W_law_420 : decode b_W_law 420 = .ok (.iload_n 3, 1) := by decide +kernel
theorem d_W_law_421 : decode b_W_law 421 = .ok (.iconst 1, 1) := by decide +kernel
theorem d_W_law_422 : decode b_W_law 422 = .ok (.iadd, 1) := by decide +kernel
theorem d_W_law_423 : decode b_W_law 423 = .ok (.iaload, 1) := by decide +kernel
theorem d_W_law_424 : decode b_W_law 424 = .ok (.invokevirtual 66, 3) := by decide +kernel
theorem d_W_law_427 : decode b_W_law 427 = .ok (.aload_n 2, 1) := by decide +kernel
theorem d_W_law_428 : decode b_W_law 428 = .ok (.aload_n 0, 1) := by decide +kernel
theorem d_W_law_429 : decode b_W_law 429 = .ok (.iload_n 3, 1) := by decide +kernel
theorem d_W_law_430 : decode b_W_law 430 = .ok (.iconst 1, 1) := by decide +kernel
theorem d_W_law_431 : decode b_W_law 431 = .ok (.iadd, 1) := by decide +kernel
theorem d_W_law_432 : decode b_W_law 432 = .ok (.iaload, 1) := by decide +kernel
theorem d_W_law_433 : decode b_W_law 433 = .ok (.invokevirtual 69, 3) := by decide +kernel
theorem d_W_law_436 : decode b_W_law 436 = .ok (.if_icmp .eq 5, 3) := by decide +kernel
theorem d_W_law_439 : decode b_W_law 439 = .ok (.iconst 0, 1) := by decide +kernel
theorem d_W_law_440 : decode b_W_law 440 = .ok (.ireturn, 1) := by decide +kernel
theorem d_W_law_441 : decode b_W_law 441 = .ok (.iinc 3 3, 3) := by decide +kernel
theorem d_W_law_444 : decode b_W_law 444 = .ok (.goto (-406), 3) := by decide +kernel
theorem d_W_law_447 : decode b_W_law 447 = .ok (.iconst 1, 1) := by decide +kernel
theorem d_W_law_448 : decode b_W_law 448 = .ok (.ireturn, 1) := by decide +kernel
end
section
/-! rows with the place as the machine computes it -/
section CR
variable {X : mx_C} {Z : mx_Z} {own : String} {cc : ByteArray} {nL : Nat} {rm : Room} {n : Nat × Nat} {pc : Nat} {lv : List (Nat × Value)} {st : List Value} {B : sh_B} {c r : sh_S}
theorem cx_ialdC (ok : mx_ok X Z own cc nL rm) (hB : sh_F B) {kd i t0 N : Nat} {cA : ClassId} {x : Int32} (hk0 : Nat.blt kd 20 = true) (ht : B.2.2 kd i = some (.inl (cA, N))) (hty : Z.2.2[t0]? = some (cA, .int)) (hin : vp_in x N) (hd : decode cc pc = .ok (.iaload, 1)) (kk : sx B X n (pc + 1) lv (.int (c kd i x.toNatClampNeg) :: st) (jn c r)) : sx B X n pc lv (.int x :: .ref (B.2.1 kd i) :: st) (jn c r) :=
  sx_iald ok hB ht hty hin hd (by rw [jn_c hk0]; exact kk)
theorem cx_iastC (ok : mx_ok X Z own cc nL rm) (hB : sh_F B) {kd i t0 N : Nat} {cA : ClassId} {x v : Int32} (hk0 : Nat.blt kd 20 = true) (ht : B.2.2 kd i = some (.inl (cA, N))) (hty : Z.2.2[t0]? = some (cA, .int)) (hin : vp_in x N) (hd : decode cc pc = .ok (.iastore, 1)) (kk : sx B X n (pc + 1) lv st (jn (sU c kd i x.toNatClampNeg v) r)) : sx B X n pc lv (.int v :: .int x :: .ref (B.2.1 kd i) :: st) (jn c r) :=
  sx_iast ok hB ht hty hin hd (sx_S (sU_c hk0) kk)
theorem rx_ialdC (ok : mx_ok X Z own cc nL rm) (hB : sh_F B) {kd i t0 N : Nat} {cA : ClassId} {x : Int32} (hk0 : Nat.blt kd 20 = false) (ht : B.2.2 kd i = some (.inl (cA, N))) (hty : Z.2.2[t0]? = some (cA, .int)) (hin : vp_in x N) (hd : decode cc pc = .ok (.iaload, 1)) (kk : sx B X n (pc + 1) lv (.int (r kd i x.toNatClampNeg) :: st) (jn c r)) : sx B X n pc lv (.int x :: .ref (B.2.1 kd i) :: st) (jn c r) :=
  sx_iald ok hB ht hty hin hd (by rw [jn_r hk0]; exact kk)
theorem rx_iastC (ok : mx_ok X Z own cc nL rm) (hB : sh_F B) {kd i t0 N : Nat} {cA : ClassId} {x v : Int32} (hk0 : Nat.blt kd 20 = false) (ht : B.2.2 kd i = some (.inl (cA, N))) (hty : Z.2.2[t0]? = some (cA, .int)) (hin : vp_in x N) (hd : decode cc pc = .ok (.iastore, 1)) (kk : sx B X n (pc + 1) lv st (jn c (sU r kd i x.toNatClampNeg v))) : sx B X n pc lv (.int v :: .int x :: .ref (B.2.1 kd i) :: st) (jn c r) :=
  sx_iast ok hB ht hty hin hd (sx_S (sU_r hk0) kk)
theorem rx_zaldC (ok : mx_ok X Z own cc nL rm) (hB : sh_F B) {kd i t0 N : Nat} {cA : ClassId} {x : Int32} (hk0 : Nat.blt kd 20 = false) (ht : B.2.2 kd i = some (.inl (cA, N))) (hty : Z.2.2[t0]? = some (cA, .boolean)) (hin : vp_in x N) (hd : decode cc pc = .ok (.baload, 1)) (kk : sx B X n (pc + 1) lv (.int (r kd i x.toNatClampNeg) :: st) (jn c r)) : sx B X n pc lv (.int x :: .ref (B.2.1 kd i) :: st) (jn c r) := by
  obtain ⟨q0, h0⟩ := hB.2 kd i _ ht
  refine mr_zald ok q0 t0 (sh_at h0) hty hin hd ?_
  rw [jn_r hk0]
  exact kk
theorem rx_zastC (ok : mx_ok X Z own cc nL rm) (hB : sh_F B) {kd i t0 N : Nat} {cA : ClassId} {x v : Int32} (hk0 : Nat.blt kd 20 = false) (ht : B.2.2 kd i = some (.inl (cA, N))) (hty : Z.2.2[t0]? = some (cA, .boolean)) (hin : vp_in x N) (hv : vp_nar .boolean v = v) (hd : decode cc pc = .ok (.bastore, 1)) (kk : sx B X n (pc + 1) lv st (jn c (sU r kd i x.toNatClampNeg v))) : sx B X n pc lv (.int v :: .int x :: .ref (B.2.1 kd i) :: st) (jn c r) := by
  obtain ⟨q0, h0⟩ := hB.2 kd i _ ht
  refine mr_zast ok q0 t0 (sh_at h0) hty hin hd ?_
  rw [hv]
  have e := sh_set (S := jn c r) hB.1 h0 (upd (jn c r kd i) x.toNatClampNeg v)
  rw [sU_sA, sU_r hk0] at e
  exact mr_ws e kk
theorem cx_copyC (ok : mx_ok X Z own cc nL rm) (hB : sh_F B) {idx : Nat} (cw : Cond.methodLink own idx arraycopyName ∈ mx_tbl ∧ Cond.native arraycopyName ∈ mx_tbl ∧ Cond.static arraycopyName ∈ mx_tbl ∧ Cond.initialized "java/lang/System" ∈ mx_tbl) {kd i t0 N : Nat} {cA : ClassId} {sp dp k : Int32} (hk0 : Nat.blt kd 20 = true) (ht : B.2.2 kd i = some (.inl (cA, N))) (hty : Z.2.2[t0]? = some (cA, .int)) (hin : (¬ sp < 0 ∧ ¬ dp < 0 ∧ ¬ k < 0) ∧ sp.toNatClampNeg + k.toNatClampNeg ≤ N ∧ dp.toNatClampNeg + k.toNatClampNeg ≤ N) (hf : 1 ≤ rm.frames) (hlo : (st.map fun v => v.category).sum + (nativeFrameWords "java/lang/System" "arraycopy" 5 + 11) ≤ rm.locals) (hd : decode cc pc = .ok (.invokestatic idx, 3))
    (kk : sx B X n (pc + 3) lv st (jn (sA c kd i (va_cpy (c kd i) (c kd i) sp.toNatClampNeg dp.toNatClampNeg k.toNatClampNeg)) r)) : sx B X n pc lv (.int k :: .int dp :: .ref (B.2.1 kd i) :: .int sp :: .ref (B.2.1 kd i) :: st) (jn c r) := by
  refine sx_copy ok hB cw ht ht hty hin.1.1 hin.1.2.1 hin.1.2.2 hin.2.1 hin.2.2 hf hlo hd ?_
  exact sx_S (by rw [jn_c hk0, sA_c hk0]) kk
end CR
theorem and31v (x : Int32) : vp_in (x &&& 31) 32 := by
  rw [(and31 x).1]
  exact vp_in_nI (and31 x).2 (by decide)
theorem kl_add {c : sh_S} {i : Nat} (hc : ∃ q : Nat, q ≤ 8 ∧ c 3 i 1 = nI q) (h : c 3 i 1 < 8) : vp_in (c 3 i 1) 8 := by
  obtain ⟨q, hq, e⟩ := hc
  rw [e] at h ⊢
  have : q < 8 := (nI_ltI (by omega) (by decide)).mp h
  exact vp_in_nI this (by decide)
theorem kl_at {c : sh_S} {i : Nat} {x : Int32} (hc : ∃ q : Nat, q ≤ 8 ∧ c 3 i 1 = nI q) (h0 : ¬ x < 0) (h : ¬ c 3 i 1 ≤ x) : vp_in x 8 := by
  obtain ⟨q, hq, e⟩ := hc
  rw [e] at h
  obtain ⟨j, hj, rfl, -⟩ := pk_mu h0 h (by omega)
  exact vp_in_nI (by omega) (by decide)

def v_G_ahead (N L : Nat) (c : sh_S) (i : Nat) : Int32 := (if (c 1 i 4) < ((c 1 i 2) - (nI L)) then ((c 1 i 2) - (nI L)) else (c 1 i 4))
set_option maxHeartbeats 4000000 in
set_option maxRecDepth 100000 in
theorem c_G_ahead {B : sh_B} {Z : mx_Z} {N L : Nat} {cI cR cZ : ClassId} (hb : wB B Z N L cI cR cZ) {c r : sh_S} {i : Nat} (hi : i < N) : sc B Z y_G_ahead b_G_ahead 1 (some (.int)) (rmm 1 22) [.ref (B.2.1 1 i)] (jn c r) (qe (some (.int (v_G_ahead N L c i))) (jn c r)) := by
  refine ct_of (by decide) (Nat.le_of_ble_eq_true rfl) (cat_of rfl) ?_
  intro X ok en _
  have hB := hb.1
  refine mr_lv [(0, .ref (B.2.1 1 i))] ⟨rfl, trivial⟩ ?_
  refine mr_aload_n ok (i := 0) d_G_ahead_0 rfl rfl ?_
  refine cx_geti ok hB rfl fl_G_19 (tm_1 hb hi) rfl d_G_ahead_1 ?_
  refine mr_aload_n ok (i := 0) d_G_ahead_4 rfl rfl ?_
  refine cx_geti ok hB rfl fl_G_22 (tm_1 hb hi) rfl d_G_ahead_5 ?_
  refine mr_aload_n ok (i := 0) d_G_ahead_8 rfl rfl ?_
  refine sx_getr ok hB fl_G_9 (tm_1 hb hi) rfl d_G_ahead_9 ?_
  refine mr_isub ok d_G_ahead_12 ?_
  refine mr_max ok (mw 361 rfl rfl) (mw 65 rfl rfl) (mw 44 rfl rfl) (mw 66 rfl rfl) (by decide) (Nat.le_of_ble_eq_true rfl) (Nat.le_refl _) (Nat.le_refl _) d_G_ahead_13 ?_
  refine sx_iret ok en (Nat.le_refl _) (Nat.le_refl _) d_G_ahead_16 ?_
  exact ⟨(by first | rfl | simp only [v_G_ahead]), (by first | rfl | simp only [s_G_ahead])⟩
def v_G_keeps (N L : Nat) (c : sh_S) (i : Nat) (x : Int32) : Int32 := (if x ≤ (v_G_ahead N L c i) then 0 else (if (c 1 i 2) < x then 0 else 1))
set_option maxHeartbeats 4000000 in
set_option maxRecDepth 100000 in
theorem c_G_keeps {B : sh_B} {Z : mx_Z} {N L : Nat} {cI cR cZ : ClassId} (hb : wB B Z N L cI cR cZ) {c r : sh_S} {i : Nat} (hi : i < N) {x : Int32} : sc B Z y_G_keeps b_G_keeps 2 (some (.boolean)) (rmm 2 42) [.ref (B.2.1 1 i), .int x] (jn c r) (qe (some (.int (v_G_keeps N L c i x))) (jn c r)) := by
  refine ct_of (by decide) (Nat.le_of_ble_eq_true rfl) (cat_of rfl) ?_
  intro X ok en _
  have hB := hb.1
  refine mr_lv [(0, .ref (B.2.1 1 i)), (1, .int x)] ⟨rfl, rfl, trivial⟩ ?_
  refine mr_iload_n ok (i := 1) d_G_keeps_0 rfl rfl ?_
  refine mr_aload_n ok (i := 0) d_G_keeps_1 rfl rfl ?_
  refine sx_cVi ok hB [] rfl cb_G_31 cv_G_ahead (tm_1 hb hi) rfl rfl (c_G_ahead hb hi) rfl (Nat.le_of_ble_eq_true rfl) (by decide) ⟨Nat.le_refl _, Nat.le_refl _⟩ d_G_keeps_2 ?_
  refine mr_icmp_le ok 20 d_G_keeps_5 (by decide) (fun h5_0 => ?_) (fun h5_0 => ?_)
  · refine mr_iconst ok 0 d_G_keeps_20 (by decide) ?_
    refine sx_zret rfl ok en (Nat.le_refl _) (Nat.le_refl _) d_G_keeps_21 ?_
    exact ⟨(by first | rfl | simp only [v_G_keeps, if_pos h5_0]), (by first | rfl | simp only [s_G_keeps, if_pos h5_0])⟩
  · refine mr_iload_n ok (i := 1) d_G_keeps_8 rfl rfl ?_
    refine mr_aload_n ok (i := 0) d_G_keeps_9 rfl rfl ?_
    refine cx_geti ok hB rfl fl_G_22 (tm_1 hb hi) rfl d_G_keeps_10 ?_
    refine mr_icmp_gt ok 20 d_G_keeps_13 (by decide) (fun h13_1 => ?_) (fun h13_1 => ?_)
    · refine mr_iconst ok 0 d_G_keeps_20 (by decide) ?_
      refine sx_zret rfl ok en (Nat.le_refl _) (Nat.le_refl _) d_G_keeps_21 ?_
      exact ⟨(by first | rfl | simp only [v_G_keeps, if_neg h5_0, if_pos h13_1]), (by first | rfl | simp only [s_G_keeps, if_neg h5_0, if_pos h13_1])⟩
    · refine mr_iconst ok 1 d_G_keeps_16 (by decide) ?_
      refine mr_goto ok 21 d_G_keeps_17 (by decide) ?_
      refine sx_zret rfl ok en (Nat.le_refl _) (Nat.le_refl _) d_G_keeps_21 ?_
      exact ⟨(by first | rfl | simp only [v_G_keeps, if_neg h5_0, if_neg h13_1]), (by first | rfl | simp only [s_G_keeps, if_neg h5_0, if_neg h13_1])⟩
def v_G_numberOf (N L : Nat) (c : sh_S) (i : Nat) (x : Int32) : Int32 := (if (v_G_keeps N L c i x) = 0 then 0 else (c 2 i (((x &&& 31) : Int32).toNatClampNeg)))
set_option maxHeartbeats 4000000 in
set_option maxRecDepth 100000 in
theorem c_G_numberOf {B : sh_B} {Z : mx_Z} {N L : Nat} {cI cR cZ : ClassId} (hb : wB B Z N L cI cR cZ) {c r : sh_S} {i : Nat} (hi : i < N) {x : Int32} : sc B Z y_G_numberOf b_G_numberOf 2 (some (.int)) (rmm 3 63) [.ref (B.2.1 1 i), .int x] (jn c r) (qe (some (.int (v_G_numberOf N L c i x))) (jn c r)) := by
  refine ct_of (by decide) (Nat.le_of_ble_eq_true rfl) (cat_of rfl) ?_
  intro X ok en _
  have hB := hb.1
  refine mr_lv [(0, .ref (B.2.1 1 i)), (1, .int x)] ⟨rfl, rfl, trivial⟩ ?_
  refine mr_aload_n ok (i := 0) d_G_numberOf_0 rfl rfl ?_
  refine mr_iload_n ok (i := 1) d_G_numberOf_1 rfl rfl ?_
  refine sx_cVi ok hB [_] rfl cb_G_35 cv_G_keeps (tm_1 hb hi) rfl rfl (c_G_keeps hb hi) rfl (Nat.le_of_ble_eq_true rfl) (by decide) ⟨Nat.le_refl _, Nat.le_refl _⟩ d_G_numberOf_2 ?_
  refine mr_if_eq ok 20 d_G_numberOf_5 (by decide) (fun h5_0 => ?_) (fun h5_0 => ?_)
  · refine mr_iconst ok 0 d_G_numberOf_20 (by decide) ?_
    refine sx_iret ok en (Nat.le_refl _) (Nat.le_refl _) d_G_numberOf_21 ?_
    exact ⟨(by first | rfl | simp only [v_G_numberOf, if_pos h5_0]), (by first | rfl | simp only [s_G_numberOf, if_pos h5_0])⟩
  · refine mr_aload_n ok (i := 0) d_G_numberOf_8 rfl rfl ?_
    refine sx_getr ok hB fl_G_15 (tm_1 hb hi) rfl d_G_numberOf_9 ?_
    refine mr_iload_n ok (i := 1) d_G_numberOf_12 rfl rfl ?_
    refine mr_bipush ok 31 d_G_numberOf_13 (by decide) ?_
    refine mr_iand ok d_G_numberOf_15 ?_
    refine cx_ialdC ok hB rfl (tm_2 hb hi) (ty_0 hb) (and31v x) d_G_numberOf_16 ?_
    refine mr_goto ok 21 d_G_numberOf_17 (by decide) ?_
    refine sx_iret ok en (Nat.le_refl _) (Nat.le_refl _) d_G_numberOf_21 ?_
    exact ⟨(by first | rfl | simp only [v_G_numberOf, if_neg h5_0]), (by first | rfl | simp only [s_G_numberOf, if_neg h5_0])⟩
def s_G_append (N L : Nat) (c : sh_S) (i : Nat) (x : Int32) : sh_S := (let c1 := sU c 1 i 2 ((c 1 i 2) + 1); (let c2 := sU c1 1 i 3 ((31 * (c1 1 i 3)) + x); (let c3 := sU c2 2 i ((((c2 1 i 2) &&& 31) : Int32).toNatClampNeg) x; c3)))
set_option maxHeartbeats 4000000 in
set_option maxRecDepth 100000 in
theorem c_G_append {B : sh_B} {Z : mx_Z} {N L : Nat} {cI cR cZ : ClassId} (hb : wB B Z N L cI cR cZ) {c r : sh_S} {i : Nat} (hi : i < N) {x : Int32} : sc B Z y_G_append b_G_append 2 none (rmm 0 0) [.ref (B.2.1 1 i), .int x] (jn c r) (qe none (jn (s_G_append N L c i x) r)) := by
  refine ct_of (by decide) (Nat.le_of_ble_eq_true rfl) (cat_of rfl) ?_
  intro X ok en _
  have hB := hb.1
  refine mr_lv [(0, .ref (B.2.1 1 i)), (1, .int x)] ⟨rfl, rfl, trivial⟩ ?_
  refine mr_aload_n ok (i := 0) d_G_append_0 rfl rfl ?_
  refine mr_dup ok d_G_append_1 rfl ?_
  refine cx_geti ok hB rfl fl_G_22 (tm_1 hb hi) rfl d_G_append_2 ?_
  refine mr_iconst ok 1 d_G_append_5 (by decide) ?_
  refine mr_iadd ok d_G_append_6 ?_
  refine cx_put ok hB rfl fw_G_22 (tm_1 hb hi) rfl rfl rfl d_G_append_7 ?_
  refine mr_aload_n ok (i := 0) d_G_append_10 rfl rfl ?_
  refine mr_bipush ok 31 d_G_append_11 (by decide) ?_
  refine mr_aload_n ok (i := 0) d_G_append_13 rfl rfl ?_
  refine cx_geti ok hB rfl fl_G_39 (tm_1 hb hi) rfl d_G_append_14 ?_
  refine mr_imul ok d_G_append_17 ?_
  refine mr_iload_n ok (i := 1) d_G_append_18 rfl rfl ?_
  refine mr_iadd ok d_G_append_19 ?_
  refine cx_put ok hB rfl fw_G_39 (tm_1 hb hi) rfl rfl rfl d_G_append_20 ?_
  refine mr_aload_n ok (i := 0) d_G_append_23 rfl rfl ?_
  refine sx_getr ok hB fl_G_15 (tm_1 hb hi) rfl d_G_append_24 ?_
  refine mr_aload_n ok (i := 0) d_G_append_27 rfl rfl ?_
  refine cx_geti ok hB rfl fl_G_22 (tm_1 hb hi) rfl d_G_append_28 ?_
  refine mr_bipush ok 31 d_G_append_31 (by decide) ?_
  refine mr_iand ok d_G_append_33 ?_
  refine mr_iload_n ok (i := 1) d_G_append_34 rfl rfl ?_
  refine cx_iastC ok hB rfl (tm_2 hb hi) (ty_0 hb) (and31v _) d_G_append_35 ?_
  refine sx_vret ok en (Nat.le_refl _) (Nat.le_refl _) d_G_append_36 ?_
  exact ⟨rfl, (by first | rfl | simp only [s_G_append])⟩
def s_G_jump (N L : Nat) (c : sh_S) (i : Nat) (x : Int32) (y : Int32) : sh_S := (let c1 := sU c 1 i 2 x; (let c2 := sU c1 1 i 3 y; (let c3 := sU c2 1 i 4 x; c3)))
set_option maxHeartbeats 4000000 in
set_option maxRecDepth 100000 in
theorem c_G_jump {B : sh_B} {Z : mx_Z} {N L : Nat} {cI cR cZ : ClassId} (hb : wB B Z N L cI cR cZ) {c r : sh_S} {i : Nat} (hi : i < N) {x : Int32} {y : Int32} : sc B Z y_G_jump b_G_jump 3 none (rmm 0 0) [.ref (B.2.1 1 i), .int x, .int y] (jn c r) (qe none (jn (s_G_jump N L c i x y) r)) := by
  refine ct_of (by decide) (Nat.le_of_ble_eq_true rfl) (cat_of rfl) ?_
  intro X ok en _
  have hB := hb.1
  refine mr_lv [(0, .ref (B.2.1 1 i)), (1, .int x), (2, .int y)] ⟨rfl, rfl, rfl, trivial⟩ ?_
  refine mr_aload_n ok (i := 0) d_G_jump_0 rfl rfl ?_
  refine mr_iload_n ok (i := 1) d_G_jump_1 rfl rfl ?_
  refine cx_put ok hB rfl fw_G_22 (tm_1 hb hi) rfl rfl rfl d_G_jump_2 ?_
  refine mr_aload_n ok (i := 0) d_G_jump_5 rfl rfl ?_
  refine mr_iload_n ok (i := 2) d_G_jump_6 rfl rfl ?_
  refine cx_put ok hB rfl fw_G_39 (tm_1 hb hi) rfl rfl rfl d_G_jump_7 ?_
  refine mr_aload_n ok (i := 0) d_G_jump_10 rfl rfl ?_
  refine mr_iload_n ok (i := 1) d_G_jump_11 rfl rfl ?_
  refine cx_put ok hB rfl fw_G_19 (tm_1 hb hi) rfl rfl rfl d_G_jump_12 ?_
  refine sx_vret ok en (Nat.le_refl _) (Nat.le_refl _) d_G_jump_15 ?_
  exact ⟨rfl, (by first | rfl | simp only [s_G_jump])⟩
def v_L_add (N L : Nat) (c : sh_S) (i : Nat) (x : Int32) : Int32 := (if (c 3 i 1) < 8 then (let c1 := sU c 4 i (((c 3 i 1) : Int32).toNatClampNeg) x; (let c2 := sU c1 3 i 1 ((c1 3 i 1) + 1); 1)) else 0)
def s_L_add (N L : Nat) (c : sh_S) (i : Nat) (x : Int32) : sh_S := (if (c 3 i 1) < 8 then (let c1 := sU c 4 i (((c 3 i 1) : Int32).toNatClampNeg) x; (let c2 := sU c1 3 i 1 ((c1 3 i 1) + 1); c2)) else c)
set_option maxHeartbeats 4000000 in
set_option maxRecDepth 100000 in
theorem c_L_add {B : sh_B} {Z : mx_Z} {N L : Nat} {cI cR cZ : ClassId} (hb : wB B Z N L cI cR cZ) {c r : sh_S} {i : Nat} (hi : i < N) {x : Int32} (hc : ∃ q : Nat, q ≤ 8 ∧ c 3 i 1 = nI q) : sc B Z y_L_add b_L_add 2 (some (.boolean)) (rmm 0 0) [.ref (B.2.1 3 i), .int x] (jn c r) (qe (some (.int (v_L_add N L c i x))) (jn (s_L_add N L c i x) r)) := by
  refine ct_of (by decide) (Nat.le_of_ble_eq_true rfl) (cat_of rfl) ?_
  intro X ok en _
  have hB := hb.1
  refine mr_lv [(0, .ref (B.2.1 3 i)), (1, .int x)] ⟨rfl, rfl, trivial⟩ ?_
  refine mr_aload_n ok (i := 0) d_L_add_0 rfl rfl ?_
  refine cx_geti ok hB rfl fl_L_15 (tm_3 hb hi) rfl d_L_add_1 ?_
  refine mr_bipush ok 8 d_L_add_4 (by decide) ?_
  refine mr_icmp_lt ok 11 d_L_add_6 (by decide) (fun h6_0 => ?_) (fun h6_0 => ?_)
  · refine mr_aload_n ok (i := 0) d_L_add_11 rfl rfl ?_
    refine sx_getr ok hB fl_L_9 (tm_3 hb hi) rfl d_L_add_12 ?_
    refine mr_aload_n ok (i := 0) d_L_add_15 rfl rfl ?_
    refine cx_geti ok hB rfl fl_L_15 (tm_3 hb hi) rfl d_L_add_16 ?_
    refine mr_iload_n ok (i := 1) d_L_add_19 rfl rfl ?_
    refine cx_iastC ok hB rfl (tm_4 hb hi) (ty_0 hb) (kl_add hc ‹_›) d_L_add_20 ?_
    refine mr_aload_n ok (i := 0) d_L_add_21 rfl rfl ?_
    refine mr_dup ok d_L_add_22 rfl ?_
    refine cx_geti ok hB rfl fl_L_15 (tm_3 hb hi) rfl d_L_add_23 ?_
    refine mr_iconst ok 1 d_L_add_26 (by decide) ?_
    refine mr_iadd ok d_L_add_27 ?_
    refine cx_put ok hB rfl fw_L_15 (tm_3 hb hi) rfl rfl rfl d_L_add_28 ?_
    refine mr_iconst ok 1 d_L_add_31 (by decide) ?_
    refine sx_zret rfl ok en (Nat.le_refl _) (Nat.le_refl _) d_L_add_32 ?_
    exact ⟨(by first | rfl | simp only [v_L_add, if_pos h6_0]), (by first | rfl | simp only [s_L_add, if_pos h6_0])⟩
  · refine mr_iconst ok 0 d_L_add_9 (by decide) ?_
    refine sx_zret rfl ok en (Nat.le_refl _) (Nat.le_refl _) d_L_add_10 ?_
    exact ⟨(by first | rfl | simp only [v_L_add, if_neg h6_0]), (by first | rfl | simp only [s_L_add, if_neg h6_0])⟩
def v_L_at (N L : Nat) (c : sh_S) (i : Nat) (x : Int32) : Int32 := (if x < 0 then 0 else (if (c 3 i 1) ≤ x then 0 else (c 4 i ((x : Int32).toNatClampNeg))))
set_option maxHeartbeats 4000000 in
set_option maxRecDepth 100000 in
theorem c_L_at {B : sh_B} {Z : mx_Z} {N L : Nat} {cI cR cZ : ClassId} (hb : wB B Z N L cI cR cZ) {c r : sh_S} {i : Nat} (hi : i < N) {x : Int32} (hc : ∃ q : Nat, q ≤ 8 ∧ c 3 i 1 = nI q) : sc B Z y_L_at b_L_at 2 (some (.int)) (rmm 0 0) [.ref (B.2.1 3 i), .int x] (jn c r) (qe (some (.int (v_L_at N L c i x))) (jn c r)) := by
  refine ct_of (by decide) (Nat.le_of_ble_eq_true rfl) (cat_of rfl) ?_
  intro X ok en _
  have hB := hb.1
  refine mr_lv [(0, .ref (B.2.1 3 i)), (1, .int x)] ⟨rfl, rfl, trivial⟩ ?_
  refine mr_iload_n ok (i := 1) d_L_at_0 rfl rfl ?_
  refine mr_if_lt ok 21 d_L_at_1 (by decide) (fun h1_0 => ?_) (fun h1_0 => ?_)
  · refine mr_iconst ok 0 d_L_at_21 (by decide) ?_
    refine sx_iret ok en (Nat.le_refl _) (Nat.le_refl _) d_L_at_22 ?_
    exact ⟨(by first | rfl | simp only [v_L_at, if_pos h1_0]), (by first | rfl | simp only [s_L_at, if_pos h1_0])⟩
  · refine mr_iload_n ok (i := 1) d_L_at_4 rfl rfl ?_
    refine mr_aload_n ok (i := 0) d_L_at_5 rfl rfl ?_
    refine cx_geti ok hB rfl fl_L_15 (tm_3 hb hi) rfl d_L_at_6 ?_
    refine mr_icmp_ge ok 21 d_L_at_9 (by decide) (fun h9_1 => ?_) (fun h9_1 => ?_)
    · refine mr_iconst ok 0 d_L_at_21 (by decide) ?_
      refine sx_iret ok en (Nat.le_refl _) (Nat.le_refl _) d_L_at_22 ?_
      exact ⟨(by first | rfl | simp only [v_L_at, if_neg h1_0, if_pos h9_1]), (by first | rfl | simp only [s_L_at, if_neg h1_0, if_pos h9_1])⟩
    · refine mr_aload_n ok (i := 0) d_L_at_12 rfl rfl ?_
      refine sx_getr ok hB fl_L_9 (tm_3 hb hi) rfl d_L_at_13 ?_
      refine mr_iload_n ok (i := 1) d_L_at_16 rfl rfl ?_
      refine cx_ialdC ok hB rfl (tm_4 hb hi) (ty_0 hb) (kl_at hc ‹_› ‹_›) d_L_at_17 ?_
      refine mr_goto ok 22 d_L_at_18 (by decide) ?_
      refine sx_iret ok en (Nat.le_refl _) (Nat.le_refl _) d_L_at_22 ?_
      exact ⟨(by first | rfl | simp only [v_L_at, if_neg h1_0, if_neg h9_1]), (by first | rfl | simp only [s_L_at, if_neg h1_0, if_neg h9_1])⟩
def s_R_becomeFollower (N L : Nat) (c : sh_S) (i : Nat) : sh_S := (let c1 := sU c 0 i 7 0; (let c2 := sU c1 0 i 8 0; (let c3 := sU c2 0 i 9 0; (let c4 := sU c3 0 i 10 0; c4))))
set_option maxHeartbeats 4000000 in
set_option maxRecDepth 100000 in
theorem c_R_becomeFollower {B : sh_B} {Z : mx_Z} {N L : Nat} {cI cR cZ : ClassId} (hb : wB B Z N L cI cR cZ) {c r : sh_S} {i : Nat} (hi : i < N) : sc B Z y_R_becomeFollower b_R_becomeFollower 1 none (rmm 0 0) [.ref (B.2.1 0 i)] (jn c r) (qe none (jn (s_R_becomeFollower N L c i) r)) := by
  refine ct_of (by decide) (Nat.le_of_ble_eq_true rfl) (cat_of rfl) ?_
  intro X ok en _
  have hB := hb.1
  refine mr_lv [(0, .ref (B.2.1 0 i))] ⟨rfl, trivial⟩ ?_
  refine mr_aload_n ok (i := 0) d_R_becomeFollower_0 rfl rfl ?_
  refine mr_iconst ok 0 d_R_becomeFollower_1 (by decide) ?_
  refine cx_put ok hB rfl fw_R_47 (tm_0 hb hi) rfl rfl rfl d_R_becomeFollower_2 ?_
  refine mr_aload_n ok (i := 0) d_R_becomeFollower_5 rfl rfl ?_
  refine mr_iconst ok 0 d_R_becomeFollower_6 (by decide) ?_
  refine cx_put ok hB rfl fw_R_50 (tm_0 hb hi) rfl rfl rfl d_R_becomeFollower_7 ?_
  refine mr_aload_n ok (i := 0) d_R_becomeFollower_10 rfl rfl ?_
  refine mr_iconst ok 0 d_R_becomeFollower_11 (by decide) ?_
  refine cx_put ok hB rfl fw_R_53 (tm_0 hb hi) rfl rfl rfl d_R_becomeFollower_12 ?_
  refine mr_aload_n ok (i := 0) d_R_becomeFollower_15 rfl rfl ?_
  refine mr_iconst ok 0 d_R_becomeFollower_16 (by decide) ?_
  refine cx_put ok hB rfl fw_R_56 (tm_0 hb hi) rfl rfl rfl d_R_becomeFollower_17 ?_
  refine sx_vret ok en (Nat.le_refl _) (Nat.le_refl _) d_R_becomeFollower_20 ?_
  exact ⟨rfl, (by first | rfl | simp only [s_R_becomeFollower])⟩
def s_R_becomeLeader (N L : Nat) (c : sh_S) (i : Nat) : sh_S := (let c1 := sU c 0 i 7 2; (let c2 := sU c1 0 i 9 0; c2))
set_option maxHeartbeats 4000000 in
set_option maxRecDepth 100000 in
theorem c_R_becomeLeader {B : sh_B} {Z : mx_Z} {N L : Nat} {cI cR cZ : ClassId} (hb : wB B Z N L cI cR cZ) {c r : sh_S} {i : Nat} (hi : i < N) : sc B Z y_R_becomeLeader b_R_becomeLeader 1 none (rmm 0 0) [.ref (B.2.1 0 i)] (jn c r) (qe none (jn (s_R_becomeLeader N L c i) r)) := by
  refine ct_of (by decide) (Nat.le_of_ble_eq_true rfl) (cat_of rfl) ?_
  intro X ok en _
  have hB := hb.1
  refine mr_lv [(0, .ref (B.2.1 0 i))] ⟨rfl, trivial⟩ ?_
  refine mr_aload_n ok (i := 0) d_R_becomeLeader_0 rfl rfl ?_
  refine mr_iconst ok 2 d_R_becomeLeader_1 (by decide) ?_
  refine cx_put ok hB rfl fw_R_47 (tm_0 hb hi) rfl rfl rfl d_R_becomeLeader_2 ?_
  refine mr_aload_n ok (i := 0) d_R_becomeLeader_5 rfl rfl ?_
  refine mr_iconst ok 0 d_R_becomeLeader_6 (by decide) ?_
  refine cx_put ok hB rfl fw_R_53 (tm_0 hb hi) rfl rfl rfl d_R_becomeLeader_7 ?_
  refine sx_vret ok en (Nat.le_refl _) (Nat.le_refl _) d_R_becomeLeader_10 ?_
  exact ⟨rfl, (by first | rfl | simp only [s_R_becomeLeader])⟩
def s_R_becomeCandidate (N L : Nat) (c : sh_S) (i : Nat) (x : Int32) : sh_S := (let c1 := sU c 0 i 4 x; (let c2 := sU c1 0 i 7 1; (let c3 := sU c2 0 i 8 x; (let c4 := sU c3 0 i 9 (1 <<< ((nI i) &&& 31)); (let c5 := sU c4 0 i 12 (c4 0 i 5); (let c6 := sU c5 0 i 13 (c5 0 i 6); c6))))))
set_option maxHeartbeats 4000000 in
set_option maxRecDepth 100000 in
theorem c_R_becomeCandidate {B : sh_B} {Z : mx_Z} {N L : Nat} {cI cR cZ : ClassId} (hb : wB B Z N L cI cR cZ) {c r : sh_S} {i : Nat} (hi : i < N) {x : Int32} : sc B Z y_R_becomeCandidate b_R_becomeCandidate 2 none (rmm 0 0) [.ref (B.2.1 0 i), .int x] (jn c r) (qe none (jn (s_R_becomeCandidate N L c i x) r)) := by
  refine ct_of (by decide) (Nat.le_of_ble_eq_true rfl) (cat_of rfl) ?_
  intro X ok en _
  have hB := hb.1
  refine mr_lv [(0, .ref (B.2.1 0 i)), (1, .int x)] ⟨rfl, rfl, trivial⟩ ?_
  refine mr_aload_n ok (i := 0) d_R_becomeCandidate_0 rfl rfl ?_
  refine mr_iload_n ok (i := 1) d_R_becomeCandidate_1 rfl rfl ?_
  refine cx_put ok hB rfl fw_R_38 (tm_0 hb hi) rfl rfl rfl d_R_becomeCandidate_2 ?_
  refine mr_aload_n ok (i := 0) d_R_becomeCandidate_5 rfl rfl ?_
  refine mr_iconst ok 1 d_R_becomeCandidate_6 (by decide) ?_
  refine cx_put ok hB rfl fw_R_47 (tm_0 hb hi) rfl rfl rfl d_R_becomeCandidate_7 ?_
  refine mr_aload_n ok (i := 0) d_R_becomeCandidate_10 rfl rfl ?_
  refine mr_iload_n ok (i := 1) d_R_becomeCandidate_11 rfl rfl ?_
  refine cx_put ok hB rfl fw_R_50 (tm_0 hb hi) rfl rfl rfl d_R_becomeCandidate_12 ?_
  refine mr_aload_n ok (i := 0) d_R_becomeCandidate_15 rfl rfl ?_
  refine mr_iconst ok 1 d_R_becomeCandidate_16 (by decide) ?_
  refine mr_aload_n ok (i := 0) d_R_becomeCandidate_17 rfl rfl ?_
  refine sx_getr ok hB fl_R_9 (tm_0 hb hi) rfl d_R_becomeCandidate_18 ?_
  refine mr_ishl ok d_R_becomeCandidate_21 ?_
  refine cx_put ok hB rfl fw_R_53 (tm_0 hb hi) rfl rfl rfl d_R_becomeCandidate_22 ?_
  refine mr_aload_n ok (i := 0) d_R_becomeCandidate_25 rfl rfl ?_
  refine mr_aload_n ok (i := 0) d_R_becomeCandidate_26 rfl rfl ?_
  refine cx_geti ok hB rfl fl_R_59 (tm_0 hb hi) rfl d_R_becomeCandidate_27 ?_
  refine cx_put ok hB rfl fw_R_62 (tm_0 hb hi) rfl rfl rfl d_R_becomeCandidate_30 ?_
  refine mr_aload_n ok (i := 0) d_R_becomeCandidate_33 rfl rfl ?_
  refine mr_aload_n ok (i := 0) d_R_becomeCandidate_34 rfl rfl ?_
  refine cx_geti ok hB rfl fl_R_65 (tm_0 hb hi) rfl d_R_becomeCandidate_35 ?_
  refine cx_put ok hB rfl fw_R_68 (tm_0 hb hi) rfl rfl rfl d_R_becomeCandidate_38 ?_
  refine sx_vret ok en (Nat.le_refl _) (Nat.le_refl _) d_R_becomeCandidate_41 ?_
  exact ⟨rfl, (by first | rfl | simp only [s_R_becomeCandidate])⟩
def v_R_isNext (N L : Nat) (c : sh_S) (i : Nat) (x : Int32) : Int32 := (if x = ((c 1 i 2) + 1) then 1 else 0)
set_option maxHeartbeats 4000000 in
set_option maxRecDepth 100000 in
theorem c_R_isNext {B : sh_B} {Z : mx_Z} {N L : Nat} {cI cR cZ : ClassId} (hb : wB B Z N L cI cR cZ) {c r : sh_S} {i : Nat} (hi : i < N) {x : Int32} : sc B Z y_R_isNext b_R_isNext 2 (some (.boolean)) (rmm 0 0) [.ref (B.2.1 0 i), .int x] (jn c r) (qe (some (.int (v_R_isNext N L c i x))) (jn c r)) := by
  refine ct_of (by decide) (Nat.le_of_ble_eq_true rfl) (cat_of rfl) ?_
  intro X ok en _
  have hB := hb.1
  refine mr_lv [(0, .ref (B.2.1 0 i)), (1, .int x)] ⟨rfl, rfl, trivial⟩ ?_
  refine mr_iload_n ok (i := 1) d_R_isNext_0 rfl rfl ?_
  refine mr_aload_n ok (i := 0) d_R_isNext_1 rfl rfl ?_
  refine sx_getr ok hB fl_R_20 (tm_0 hb hi) rfl d_R_isNext_2 ?_
  refine cx_geti ok hB rfl fl_R_71 (tm_1 hb hi) rfl d_R_isNext_5 ?_
  refine mr_iconst ok 1 d_R_isNext_8 (by decide) ?_
  refine mr_iadd ok d_R_isNext_9 ?_
  refine mr_icmp_ne ok 17 d_R_isNext_10 (by decide) (fun h10_0 => ?_) (fun h10_0 => ?_)
  · refine mr_iconst ok 0 d_R_isNext_17 (by decide) ?_
    refine sx_zret rfl ok en (Nat.le_refl _) (Nat.le_refl _) d_R_isNext_18 ?_
    exact ⟨(by first | rfl | simp only [v_R_isNext, if_neg h10_0]), (by first | rfl | simp only [s_R_isNext, if_neg h10_0])⟩
  · refine mr_iconst ok 1 d_R_isNext_13 (by decide) ?_
    refine mr_goto ok 18 d_R_isNext_14 (by decide) ?_
    refine sx_zret rfl ok en (Nat.le_refl _) (Nat.le_refl _) d_R_isNext_18 ?_
    exact ⟨(by first | rfl | simp only [v_R_isNext, if_pos h10_0]), (by first | rfl | simp only [s_R_isNext, if_pos h10_0])⟩
def v_R_hasAnswer (N L : Nat) (c : sh_S) (i : Nat) (x : Int32) : Int32 := (if ((c 0 i 9) &&& (1 <<< (x &&& 31))) = 0 then 0 else 1)
set_option maxHeartbeats 4000000 in
set_option maxRecDepth 100000 in
theorem c_R_hasAnswer {B : sh_B} {Z : mx_Z} {N L : Nat} {cI cR cZ : ClassId} (hb : wB B Z N L cI cR cZ) {c r : sh_S} {i : Nat} (hi : i < N) {x : Int32} : sc B Z y_R_hasAnswer b_R_hasAnswer 2 (some (.boolean)) (rmm 0 0) [.ref (B.2.1 0 i), .int x] (jn c r) (qe (some (.int (v_R_hasAnswer N L c i x))) (jn c r)) := by
  refine ct_of (by decide) (Nat.le_of_ble_eq_true rfl) (cat_of rfl) ?_
  intro X ok en _
  have hB := hb.1
  refine mr_lv [(0, .ref (B.2.1 0 i)), (1, .int x)] ⟨rfl, rfl, trivial⟩ ?_
  refine mr_aload_n ok (i := 0) d_R_hasAnswer_0 rfl rfl ?_
  refine cx_geti ok hB rfl fl_R_53 (tm_0 hb hi) rfl d_R_hasAnswer_1 ?_
  refine mr_iconst ok 1 d_R_hasAnswer_4 (by decide) ?_
  refine mr_iload_n ok (i := 1) d_R_hasAnswer_5 rfl rfl ?_
  refine mr_ishl ok d_R_hasAnswer_6 ?_
  refine mr_iand ok d_R_hasAnswer_7 ?_
  refine mr_if_eq ok 15 d_R_hasAnswer_8 (by decide) (fun h8_0 => ?_) (fun h8_0 => ?_)
  · refine mr_iconst ok 0 d_R_hasAnswer_15 (by decide) ?_
    refine sx_zret rfl ok en (Nat.le_refl _) (Nat.le_refl _) d_R_hasAnswer_16 ?_
    exact ⟨(by first | rfl | simp only [v_R_hasAnswer, if_pos h8_0]), (by first | rfl | simp only [s_R_hasAnswer, if_pos h8_0])⟩
  · refine mr_iconst ok 1 d_R_hasAnswer_11 (by decide) ?_
    refine mr_goto ok 16 d_R_hasAnswer_12 (by decide) ?_
    refine sx_zret rfl ok en (Nat.le_refl _) (Nat.le_refl _) d_R_hasAnswer_16 ?_
    exact ⟨(by first | rfl | simp only [v_R_hasAnswer, if_neg h8_0]), (by first | rfl | simp only [s_R_hasAnswer, if_neg h8_0])⟩
def s_R_addAnswer (N L : Nat) (c : sh_S) (i : Nat) (x : Int32) : sh_S := (let c1 := sU c 0 i 9 ((c 0 i 9) ||| (1 <<< (x &&& 31))); c1)
set_option maxHeartbeats 4000000 in
set_option maxRecDepth 100000 in
theorem c_R_addAnswer {B : sh_B} {Z : mx_Z} {N L : Nat} {cI cR cZ : ClassId} (hb : wB B Z N L cI cR cZ) {c r : sh_S} {i : Nat} (hi : i < N) {x : Int32} : sc B Z y_R_addAnswer b_R_addAnswer 2 none (rmm 0 0) [.ref (B.2.1 0 i), .int x] (jn c r) (qe none (jn (s_R_addAnswer N L c i x) r)) := by
  refine ct_of (by decide) (Nat.le_of_ble_eq_true rfl) (cat_of rfl) ?_
  intro X ok en _
  have hB := hb.1
  refine mr_lv [(0, .ref (B.2.1 0 i)), (1, .int x)] ⟨rfl, rfl, trivial⟩ ?_
  refine mr_aload_n ok (i := 0) d_R_addAnswer_0 rfl rfl ?_
  refine mr_dup ok d_R_addAnswer_1 rfl ?_
  refine cx_geti ok hB rfl fl_R_53 (tm_0 hb hi) rfl d_R_addAnswer_2 ?_
  refine mr_iconst ok 1 d_R_addAnswer_5 (by decide) ?_
  refine mr_iload_n ok (i := 1) d_R_addAnswer_6 rfl rfl ?_
  refine mr_ishl ok d_R_addAnswer_7 ?_
  refine mr_ior ok d_R_addAnswer_8 ?_
  refine cx_put ok hB rfl fw_R_53 (tm_0 hb hi) rfl rfl rfl d_R_addAnswer_9 ?_
  refine sx_vret ok en (Nat.le_refl _) (Nat.le_refl _) d_R_addAnswer_12 ?_
  exact ⟨rfl, (by first | rfl | simp only [s_R_addAnswer])⟩
def s_R_keepGreatest (N L : Nat) (c : sh_S) (i : Nat) (x : Int32) (y : Int32) : sh_S := (if x ≤ (c 0 i 12) then c else (let c1 := sU c 0 i 12 x; (let c2 := sU c1 0 i 13 y; c2)))
set_option maxHeartbeats 4000000 in
set_option maxRecDepth 100000 in
theorem c_R_keepGreatest {B : sh_B} {Z : mx_Z} {N L : Nat} {cI cR cZ : ClassId} (hb : wB B Z N L cI cR cZ) {c r : sh_S} {i : Nat} (hi : i < N) {x : Int32} {y : Int32} : sc B Z y_R_keepGreatest b_R_keepGreatest 3 none (rmm 0 0) [.ref (B.2.1 0 i), .int x, .int y] (jn c r) (qe none (jn (s_R_keepGreatest N L c i x y) r)) := by
  refine ct_of (by decide) (Nat.le_of_ble_eq_true rfl) (cat_of rfl) ?_
  intro X ok en _
  have hB := hb.1
  refine mr_lv [(0, .ref (B.2.1 0 i)), (1, .int x), (2, .int y)] ⟨rfl, rfl, rfl, trivial⟩ ?_
  refine mr_iload_n ok (i := 1) d_R_keepGreatest_0 rfl rfl ?_
  refine mr_aload_n ok (i := 0) d_R_keepGreatest_1 rfl rfl ?_
  refine cx_geti ok hB rfl fl_R_62 (tm_0 hb hi) rfl d_R_keepGreatest_2 ?_
  refine mr_icmp_le ok 18 d_R_keepGreatest_5 (by decide) (fun h5_0 => ?_) (fun h5_0 => ?_)
  · refine sx_vret ok en (Nat.le_refl _) (Nat.le_refl _) d_R_keepGreatest_18 ?_
    exact ⟨rfl, (by first | rfl | simp only [s_R_keepGreatest, if_pos h5_0])⟩
  · refine mr_aload_n ok (i := 0) d_R_keepGreatest_8 rfl rfl ?_
    refine mr_iload_n ok (i := 1) d_R_keepGreatest_9 rfl rfl ?_
    refine cx_put ok hB rfl fw_R_62 (tm_0 hb hi) rfl rfl rfl d_R_keepGreatest_10 ?_
    refine mr_aload_n ok (i := 0) d_R_keepGreatest_13 rfl rfl ?_
    refine mr_iload_n ok (i := 2) d_R_keepGreatest_14 rfl rfl ?_
    refine cx_put ok hB rfl fw_R_68 (tm_0 hb hi) rfl rfl rfl d_R_keepGreatest_15 ?_
    refine sx_vret ok en (Nat.le_refl _) (Nat.le_refl _) d_R_keepGreatest_18 ?_
    exact ⟨rfl, (by first | rfl | simp only [s_R_keepGreatest, if_neg h5_0])⟩
def v_R_hasAccepted (N L : Nat) (c : sh_S) (i : Nat) : Int32 := (if (c 0 i 5) = 0 then 0 else 1)
set_option maxHeartbeats 4000000 in
set_option maxRecDepth 100000 in
theorem c_R_hasAccepted {B : sh_B} {Z : mx_Z} {N L : Nat} {cI cR cZ : ClassId} (hb : wB B Z N L cI cR cZ) {c r : sh_S} {i : Nat} (hi : i < N) : sc B Z y_R_hasAccepted b_R_hasAccepted 1 (some (.boolean)) (rmm 0 0) [.ref (B.2.1 0 i)] (jn c r) (qe (some (.int (v_R_hasAccepted N L c i))) (jn c r)) := by
  refine ct_of (by decide) (Nat.le_of_ble_eq_true rfl) (cat_of rfl) ?_
  intro X ok en _
  have hB := hb.1
  refine mr_lv [(0, .ref (B.2.1 0 i))] ⟨rfl, trivial⟩ ?_
  refine mr_aload_n ok (i := 0) d_R_hasAccepted_0 rfl rfl ?_
  refine cx_geti ok hB rfl fl_R_59 (tm_0 hb hi) rfl d_R_hasAccepted_1 ?_
  refine mr_if_eq ok 11 d_R_hasAccepted_4 (by decide) (fun h4_0 => ?_) (fun h4_0 => ?_)
  · refine mr_iconst ok 0 d_R_hasAccepted_11 (by decide) ?_
    refine sx_zret rfl ok en (Nat.le_refl _) (Nat.le_refl _) d_R_hasAccepted_12 ?_
    exact ⟨(by first | rfl | simp only [v_R_hasAccepted, if_pos h4_0]), (by first | rfl | simp only [s_R_hasAccepted, if_pos h4_0])⟩
  · refine mr_iconst ok 1 d_R_hasAccepted_7 (by decide) ?_
    refine mr_goto ok 12 d_R_hasAccepted_8 (by decide) ?_
    refine sx_zret rfl ok en (Nat.le_refl _) (Nat.le_refl _) d_R_hasAccepted_12 ?_
    exact ⟨(by first | rfl | simp only [v_R_hasAccepted, if_neg h4_0]), (by first | rfl | simp only [s_R_hasAccepted, if_neg h4_0])⟩
def s_R_accept (N L : Nat) (c : sh_S) (i : Nat) (x : Int32) (y : Int32) : sh_S := (let c1 := sU c 0 i 5 x; (let c2 := sU c1 0 i 6 y; c2))
set_option maxHeartbeats 4000000 in
set_option maxRecDepth 100000 in
theorem c_R_accept {B : sh_B} {Z : mx_Z} {N L : Nat} {cI cR cZ : ClassId} (hb : wB B Z N L cI cR cZ) {c r : sh_S} {i : Nat} (hi : i < N) {x : Int32} {y : Int32} : sc B Z y_R_accept b_R_accept 3 none (rmm 0 0) [.ref (B.2.1 0 i), .int x, .int y] (jn c r) (qe none (jn (s_R_accept N L c i x y) r)) := by
  refine ct_of (by decide) (Nat.le_of_ble_eq_true rfl) (cat_of rfl) ?_
  intro X ok en _
  have hB := hb.1
  refine mr_lv [(0, .ref (B.2.1 0 i)), (1, .int x), (2, .int y)] ⟨rfl, rfl, rfl, trivial⟩ ?_
  refine mr_aload_n ok (i := 0) d_R_accept_0 rfl rfl ?_
  refine mr_iload_n ok (i := 1) d_R_accept_1 rfl rfl ?_
  refine cx_put ok hB rfl fw_R_59 (tm_0 hb hi) rfl rfl rfl d_R_accept_2 ?_
  refine mr_aload_n ok (i := 0) d_R_accept_5 rfl rfl ?_
  refine mr_iload_n ok (i := 2) d_R_accept_6 rfl rfl ?_
  refine cx_put ok hB rfl fw_R_65 (tm_0 hb hi) rfl rfl rfl d_R_accept_7 ?_
  refine sx_vret ok en (Nat.le_refl _) (Nat.le_refl _) d_R_accept_10 ?_
  exact ⟨rfl, (by first | rfl | simp only [s_R_accept])⟩
def s_R_dropAccepted (N L : Nat) (c : sh_S) (i : Nat) : sh_S := (let c1 := sU c 0 i 5 0; (let c2 := sU c1 0 i 6 0; c2))
set_option maxHeartbeats 4000000 in
set_option maxRecDepth 100000 in
theorem c_R_dropAccepted {B : sh_B} {Z : mx_Z} {N L : Nat} {cI cR cZ : ClassId} (hb : wB B Z N L cI cR cZ) {c r : sh_S} {i : Nat} (hi : i < N) : sc B Z y_R_dropAccepted b_R_dropAccepted 1 none (rmm 0 0) [.ref (B.2.1 0 i)] (jn c r) (qe none (jn (s_R_dropAccepted N L c i) r)) := by
  refine ct_of (by decide) (Nat.le_of_ble_eq_true rfl) (cat_of rfl) ?_
  intro X ok en _
  have hB := hb.1
  refine mr_lv [(0, .ref (B.2.1 0 i))] ⟨rfl, trivial⟩ ?_
  refine mr_aload_n ok (i := 0) d_R_dropAccepted_0 rfl rfl ?_
  refine mr_iconst ok 0 d_R_dropAccepted_1 (by decide) ?_
  refine cx_put ok hB rfl fw_R_59 (tm_0 hb hi) rfl rfl rfl d_R_dropAccepted_2 ?_
  refine mr_aload_n ok (i := 0) d_R_dropAccepted_5 rfl rfl ?_
  refine mr_iconst ok 0 d_R_dropAccepted_6 (by decide) ?_
  refine cx_put ok hB rfl fw_R_65 (tm_0 hb hi) rfl rfl rfl d_R_dropAccepted_7 ?_
  refine sx_vret ok en (Nat.le_refl _) (Nat.le_refl _) d_R_dropAccepted_10 ?_
  exact ⟨rfl, (by first | rfl | simp only [s_R_dropAccepted])⟩
def s_R_proposeAndAccept (N L : Nat) (c : sh_S) (i : Nat) (x : Int32) : sh_S := (let c1 := sU c 0 i 10 x; (let c2 := sU c1 0 i 9 (1 <<< ((nI i) &&& 31)); (let c3 := s_R_accept N L c2 i (c2 0 i 8) x; c3)))
set_option maxHeartbeats 4000000 in
set_option maxRecDepth 100000 in
theorem c_R_proposeAndAccept {B : sh_B} {Z : mx_Z} {N L : Nat} {cI cR cZ : ClassId} (hb : wB B Z N L cI cR cZ) {c r : sh_S} {i : Nat} (hi : i < N) {x : Int32} : sc B Z y_R_proposeAndAccept b_R_proposeAndAccept 2 none (rmm 1 22) [.ref (B.2.1 0 i), .int x] (jn c r) (qe none (jn (s_R_proposeAndAccept N L c i x) r)) := by
  refine ct_of (by decide) (Nat.le_of_ble_eq_true rfl) (cat_of rfl) ?_
  intro X ok en _
  have hB := hb.1
  refine mr_lv [(0, .ref (B.2.1 0 i)), (1, .int x)] ⟨rfl, rfl, trivial⟩ ?_
  refine mr_aload_n ok (i := 0) d_R_proposeAndAccept_0 rfl rfl ?_
  refine mr_iload_n ok (i := 1) d_R_proposeAndAccept_1 rfl rfl ?_
  refine cx_put ok hB rfl fw_R_56 (tm_0 hb hi) rfl rfl rfl d_R_proposeAndAccept_2 ?_
  refine mr_aload_n ok (i := 0) d_R_proposeAndAccept_5 rfl rfl ?_
  refine mr_iconst ok 1 d_R_proposeAndAccept_6 (by decide) ?_
  refine mr_aload_n ok (i := 0) d_R_proposeAndAccept_7 rfl rfl ?_
  refine sx_getr ok hB fl_R_9 (tm_0 hb hi) rfl d_R_proposeAndAccept_8 ?_
  refine mr_ishl ok d_R_proposeAndAccept_11 ?_
  refine cx_put ok hB rfl fw_R_53 (tm_0 hb hi) rfl rfl rfl d_R_proposeAndAccept_12 ?_
  refine mr_aload_n ok (i := 0) d_R_proposeAndAccept_15 rfl rfl ?_
  refine mr_aload_n ok (i := 0) d_R_proposeAndAccept_16 rfl rfl ?_
  refine cx_geti ok hB rfl fl_R_50 (tm_0 hb hi) rfl d_R_proposeAndAccept_17 ?_
  refine mr_iload_n ok (i := 1) d_R_proposeAndAccept_20 rfl rfl ?_
  refine sx_cVv ok hB [_, _] rfl cb_R_74 cv_R_accept (tm_0 hb hi) rfl rfl (c_R_accept hb hi) rfl (Nat.le_of_ble_eq_true rfl) (by decide) ⟨Nat.le_refl _, Nat.le_refl _⟩ d_R_proposeAndAccept_21 ?_
  refine sx_vret ok en (Nat.le_refl _) (Nat.le_refl _) d_R_proposeAndAccept_24 ?_
  exact ⟨rfl, (by first | rfl | simp only [s_R_proposeAndAccept])⟩
def s_R_forget (N L : Nat) (c : sh_S) (i : Nat) : sh_S := (let c1 := s_R_becomeFollower N L c i; (let c2 := sU c1 0 i 11 (c1 0 i 4); (let c3 := sU c2 3 i 1 0; c3)))
set_option maxHeartbeats 4000000 in
set_option maxRecDepth 100000 in
theorem c_R_forget {B : sh_B} {Z : mx_Z} {N L : Nat} {cI cR cZ : ClassId} (hb : wB B Z N L cI cR cZ) {c r : sh_S} {i : Nat} (hi : i < N) : sc B Z y_R_forget b_R_forget 1 none (rmm 1 20) [.ref (B.2.1 0 i)] (jn c r) (qe none (jn (s_R_forget N L c i) r)) := by
  refine ct_of (by decide) (Nat.le_of_ble_eq_true rfl) (cat_of rfl) ?_
  intro X ok en _
  have hB := hb.1
  refine mr_lv [(0, .ref (B.2.1 0 i))] ⟨rfl, trivial⟩ ?_
  refine mr_aload_n ok (i := 0) d_R_forget_0 rfl rfl ?_
  refine sx_cVv ok hB [] rfl cb_R_35 cv_R_becomeFollower (tm_0 hb hi) rfl rfl (c_R_becomeFollower hb hi) rfl (Nat.le_of_ble_eq_true rfl) (by decide) ⟨Nat.le_refl _, Nat.le_refl _⟩ d_R_forget_1 ?_
  refine mr_aload_n ok (i := 0) d_R_forget_4 rfl rfl ?_
  refine mr_aload_n ok (i := 0) d_R_forget_5 rfl rfl ?_
  refine cx_geti ok hB rfl fl_R_38 (tm_0 hb hi) rfl d_R_forget_6 ?_
  refine cx_put ok hB rfl fw_R_41 (tm_0 hb hi) rfl rfl rfl d_R_forget_9 ?_
  refine mr_aload_n ok (i := 0) d_R_forget_12 rfl rfl ?_
  refine sx_getr ok hB fl_R_27 (tm_0 hb hi) rfl d_R_forget_13 ?_
  refine mr_iconst ok 0 d_R_forget_16 (by decide) ?_
  refine cx_put ok hB rfl fw_R_44 (tm_3 hb hi) rfl rfl rfl d_R_forget_17 ?_
  refine sx_vret ok en (Nat.le_refl _) (Nat.le_refl _) d_R_forget_20 ?_
  exact ⟨rfl, (by first | rfl | simp only [s_R_forget])⟩
def v_R_passing (N L : Nat) (c : sh_S) (i : Nat) (x : Int32) : Int32 := (if x = 7 then (c 0 i 7) else (if x = 8 then (c 0 i 8) else (if x = 9 then (c 0 i 9) else (if x = 10 then (c 0 i 11) else (if x = 11 then (c 3 i 1) else (if x = 12 then (c 0 i 10) else (-1)))))))
set_option maxHeartbeats 4000000 in
set_option maxRecDepth 100000 in
theorem c_R_passing {B : sh_B} {Z : mx_Z} {N L : Nat} {cI cR cZ : ClassId} (hb : wB B Z N L cI cR cZ) {c r : sh_S} {i : Nat} (hi : i < N) {x : Int32} : sc B Z y_R_passing b_R_passing 2 (some (.int)) (rmm 0 0) [.ref (B.2.1 0 i), .int x] (jn c r) (qe (some (.int (v_R_passing N L c i x))) (jn c r)) := by
  refine ct_of (by decide) (Nat.le_of_ble_eq_true rfl) (cat_of rfl) ?_
  intro X ok en _
  have hB := hb.1
  refine mr_lv [(0, .ref (B.2.1 0 i)), (1, .int x)] ⟨rfl, rfl, trivial⟩ ?_
  refine mr_iload_n ok (i := 1) d_R_passing_0 rfl rfl ?_
  by_cases h1_0_7 : x = 7
  · refine mr_tableIn (off := 39) ok 40 d_R_passing_1 (by rw [h1_0_7]; decide) (by rw [h1_0_7]; decide) (by rw [h1_0_7]; decide) (by decide) ?_
    refine mr_aload_n ok (i := 0) d_R_passing_40 rfl rfl ?_
    refine cx_geti ok hB rfl fl_R_47 (tm_0 hb hi) rfl d_R_passing_41 ?_
    refine sx_iret ok en (Nat.le_refl _) (Nat.le_refl _) d_R_passing_44 ?_
    exact ⟨(by first | rfl | simp only [v_R_passing, if_pos h1_0_7]), (by first | rfl | simp only [s_R_passing, if_pos h1_0_7])⟩
  by_cases h1_0_8 : x = 8
  · refine mr_tableIn (off := 44) ok 45 d_R_passing_1 (by rw [h1_0_8]; decide) (by rw [h1_0_8]; decide) (by rw [h1_0_8]; decide) (by decide) ?_
    refine mr_aload_n ok (i := 0) d_R_passing_45 rfl rfl ?_
    refine cx_geti ok hB rfl fl_R_50 (tm_0 hb hi) rfl d_R_passing_46 ?_
    refine sx_iret ok en (Nat.le_refl _) (Nat.le_refl _) d_R_passing_49 ?_
    exact ⟨(by first | rfl | simp only [v_R_passing, if_neg h1_0_7, if_pos h1_0_8]), (by first | rfl | simp only [s_R_passing, if_neg h1_0_7, if_pos h1_0_8])⟩
  by_cases h1_0_9 : x = 9
  · refine mr_tableIn (off := 49) ok 50 d_R_passing_1 (by rw [h1_0_9]; decide) (by rw [h1_0_9]; decide) (by rw [h1_0_9]; decide) (by decide) ?_
    refine mr_aload_n ok (i := 0) d_R_passing_50 rfl rfl ?_
    refine cx_geti ok hB rfl fl_R_53 (tm_0 hb hi) rfl d_R_passing_51 ?_
    refine sx_iret ok en (Nat.le_refl _) (Nat.le_refl _) d_R_passing_54 ?_
    exact ⟨(by first | rfl | simp only [v_R_passing, if_neg h1_0_7, if_neg h1_0_8, if_pos h1_0_9]), (by first | rfl | simp only [s_R_passing, if_neg h1_0_7, if_neg h1_0_8, if_pos h1_0_9])⟩
  by_cases h1_0_10 : x = 10
  · refine mr_tableIn (off := 54) ok 55 d_R_passing_1 (by rw [h1_0_10]; decide) (by rw [h1_0_10]; decide) (by rw [h1_0_10]; decide) (by decide) ?_
    refine mr_aload_n ok (i := 0) d_R_passing_55 rfl rfl ?_
    refine cx_geti ok hB rfl fl_R_41 (tm_0 hb hi) rfl d_R_passing_56 ?_
    refine sx_iret ok en (Nat.le_refl _) (Nat.le_refl _) d_R_passing_59 ?_
    exact ⟨(by first | rfl | simp only [v_R_passing, if_neg h1_0_7, if_neg h1_0_8, if_neg h1_0_9, if_pos h1_0_10]), (by first | rfl | simp only [s_R_passing, if_neg h1_0_7, if_neg h1_0_8, if_neg h1_0_9, if_pos h1_0_10])⟩
  by_cases h1_0_11 : x = 11
  · refine mr_tableIn (off := 59) ok 60 d_R_passing_1 (by rw [h1_0_11]; decide) (by rw [h1_0_11]; decide) (by rw [h1_0_11]; decide) (by decide) ?_
    refine mr_aload_n ok (i := 0) d_R_passing_60 rfl rfl ?_
    refine sx_getr ok hB fl_R_27 (tm_0 hb hi) rfl d_R_passing_61 ?_
    refine cx_geti ok hB rfl fl_R_44 (tm_3 hb hi) rfl d_R_passing_64 ?_
    refine sx_iret ok en (Nat.le_refl _) (Nat.le_refl _) d_R_passing_67 ?_
    exact ⟨(by first | rfl | simp only [v_R_passing, if_neg h1_0_7, if_neg h1_0_8, if_neg h1_0_9, if_neg h1_0_10, if_pos h1_0_11]), (by first | rfl | simp only [s_R_passing, if_neg h1_0_7, if_neg h1_0_8, if_neg h1_0_9, if_neg h1_0_10, if_pos h1_0_11])⟩
  by_cases h1_0_12 : x = 12
  · refine mr_tableIn (off := 67) ok 68 d_R_passing_1 (by rw [h1_0_12]; decide) (by rw [h1_0_12]; decide) (by rw [h1_0_12]; decide) (by decide) ?_
    refine mr_aload_n ok (i := 0) d_R_passing_68 rfl rfl ?_
    refine cx_geti ok hB rfl fl_R_56 (tm_0 hb hi) rfl d_R_passing_69 ?_
    refine sx_iret ok en (Nat.le_refl _) (Nat.le_refl _) d_R_passing_72 ?_
    exact ⟨(by first | rfl | simp only [v_R_passing, if_neg h1_0_7, if_neg h1_0_8, if_neg h1_0_9, if_neg h1_0_10, if_neg h1_0_11, if_pos h1_0_12]), (by first | rfl | simp only [s_R_passing, if_neg h1_0_7, if_neg h1_0_8, if_neg h1_0_9, if_neg h1_0_10, if_neg h1_0_11, if_pos h1_0_12])⟩
  have th1_0_7 := lv_neT h1_0_7 (a := 7) (by decide)
  have th1_0_8 := lv_neT h1_0_8 (a := 8) (by decide)
  have th1_0_9 := lv_neT h1_0_9 (a := 9) (by decide)
  have th1_0_10 := lv_neT h1_0_10 (a := 10) (by decide)
  have th1_0_11 := lv_neT h1_0_11 (a := 11) (by decide)
  have th1_0_12 := lv_neT h1_0_12 (a := 12) (by decide)
  refine mr_tableOut ok 73 d_R_passing_1 (by omega) (by decide) ?_
  refine mr_iconst ok (-1) d_R_passing_73 (by decide) ?_
  refine sx_iret ok en (Nat.le_refl _) (Nat.le_refl _) d_R_passing_74 ?_
  exact ⟨(by first | rfl | simp only [v_R_passing, if_neg h1_0_7, if_neg h1_0_8, if_neg h1_0_9, if_neg h1_0_10, if_neg h1_0_11, if_neg h1_0_12]), (by first | rfl | simp only [s_R_passing, if_neg h1_0_7, if_neg h1_0_8, if_neg h1_0_9, if_neg h1_0_10, if_neg h1_0_11, if_neg h1_0_12])⟩
end
section
/-! side rows of the loop of Line.drop and of Flight -/
theorem kd_lt {c : sh_S} {i q k : Nat} {b : Int32} (h1 : q ≤ 8) (h2 : c 3 i 1 = nI q) (h3 : b = nI k) (h6 : k ≤ q) (h : ¬ c 3 i 1 ≤ b) : k < q := by
  rw [h2, h3] at h
  exact Nat.lt_of_not_le fun z => h (nI_le z (by omega))
theorem kd_at {c : sh_S} {i q k : Nat} {b : Int32} (h1 : q ≤ 8) (h2 : c 3 i 1 = nI q) (h3 : b = nI k) (h6 : k ≤ q) (h : ¬ c 3 i 1 ≤ b) : vp_in b 8 := by
  have := kd_lt h1 h2 h3 h6 h
  rw [h3]
  exact vp_in_nI (by omega) (by decide)
theorem kd_at2 {c : sh_S} {i q k p : Nat} {a b : Int32} (h1 : q ≤ 8) (h2 : c 3 i 1 = nI q) (h3 : b = nI k) (h4 : a = nI p) (h5 : p ≤ k) (h6 : k ≤ q) (h : ¬ c 3 i 1 ≤ b) : vp_in a 8 := by
  have := kd_lt h1 h2 h3 h6 h
  rw [h4]
  exact vp_in_nI (by omega) (by decide)
theorem kd_rec {c c' : sh_S} {i q k p n : Nat} {a b a' : Int32} (h1 : q ≤ 8) (h2 : c 3 i 1 = nI q) (h3 : b = nI k) (h4 : a = nI p) (h5 : p ≤ k) (h6 : k ≤ q) (h7 : q + 1 ≤ k + (n + 1)) (h : ¬ c 3 i 1 ≤ b) (hc' : c' 3 i 1 = c 3 i 1) (ha : a' = a ∨ a' = a + 1) : ∃ q k p : Nat, q ≤ 8 ∧ c' 3 i 1 = nI q ∧ b + 1 = nI k ∧ a' = nI p ∧ p ≤ k ∧ k ≤ q ∧ q + 1 ≤ k + n := by
  have hl := kd_lt h1 h2 h3 h6 h
  rcases ha with ha | ha
  · exact ⟨q, k + 1, p, h1, hc'.trans h2, by rw [h3, nI_1], by rw [ha, h4], by omega, by omega, by omega⟩
  · exact ⟨q, k + 1, p + 1, h1, hc'.trans h2, by rw [h3, nI_1], by rw [ha, h4, nI_1], by omega, by omega, by omega⟩
theorem kd_init {c : sh_S} {i : Nat} (hc : ∃ q : Nat, q ≤ 8 ∧ c 3 i 1 = nI q) : ∃ q k p : Nat, q ≤ 8 ∧ c 3 i 1 = nI q ∧ (0 : Int32) = nI k ∧ (0 : Int32) = nI p ∧ p ≤ k ∧ k ≤ q ∧ q + 1 ≤ k + 9 := by
  obtain ⟨q, h1, h2⟩ := hc
  exact ⟨q, 0, 0, h1, h2, rfl, rfl, Nat.le_refl _, Nat.zero_le _, by omega⟩
theorem n7 : (7 : Int32) = nI 7 := rfl
theorem kf_has {N L : Nat} {c : sh_S} {x : Int32} (hc : ∃ q : Nat, q ≤ 200 ∧ c 5 0 1 = nI q) (hv : ¬ (if x < 0 then (0 : Int32) else (if (c 5 0 1) ≤ x then 0 else 1)) = 0) : ∃ q j : Nat, q ≤ 200 ∧ c 5 0 1 = nI q ∧ j < q ∧ x = nI j := by
  obtain ⟨q, h1, h2⟩ := hc
  by_cases h0 : x < 0
  · rw [if_pos h0] at hv; exact absurd rfl hv
  · rw [if_neg h0] at hv
    by_cases h : c 5 0 1 ≤ x
    · rw [if_pos h] at hv; exact absurd rfl hv
    · rw [h2] at h
      obtain ⟨j, hj, e, -⟩ := pk_mu h0 h (by omega)
      exact ⟨q, j, h1, h2, hj, e⟩

def ls_L_drop (N L : Nat) : Nat → sh_S → Nat → Int32 → Int32 → Int32 → sh_S
  | 0, c, _, _, _, _ => c
  | n + 1, c, i, x, a, b => (if (c 3 i 1) ≤ b then (let c1 := sU c 3 i 1 a; c1) else (if (c 4 i ((b : Int32).toNatClampNeg)) = x then (ls_L_drop N L n c i x a (b + 1)) else (let c2 := sU c 4 i ((a : Int32).toNatClampNeg) (c 4 i ((b : Int32).toNatClampNeg)); (ls_L_drop N L n c2 i x (a + 1) (b + 1)))))
set_option maxHeartbeats 4000000 in
set_option maxRecDepth 100000 in
theorem l_L_drop {B : sh_B} {Z : mx_Z} {N L : Nat} {cI cR cZ : ClassId} (hb : wB B Z N L cI cR cZ) {r : sh_S} {i : Nat} (hi : i < N) {x : Int32} {X : mx_C} {V0 : Option Value} {S0 : sh_S} (ok : mx_ok X Z R_L b_L_drop 4 (rmm 0 0)) (en : sx_end B X none (rmm 0 0) (qe V0 S0)) (hV : V0 = none) : ∀ (n : Nat) (c : sh_S) (a : Int32) (b : Int32), (∃ q k p : Nat, q ≤ 8 ∧ c 3 i 1 = nI q ∧ b = nI k ∧ a = nI p ∧ p ≤ k ∧ k ≤ q ∧ q + 1 ≤ k + n) → S0 = (jn (ls_L_drop N L n c i x a b) r) → sx B X (0, 0) 4 [(0, .ref (B.2.1 3 i)), (1, .int x), (2, .int a), (3, .int b)] [] (jn c r) := by
  have hB := hb.1
  intro n
  induction n with
  | zero =>
    intro c a b hh _
    obtain ⟨q, k, p, h1, h2, h3, h4, h5, h6, h7⟩ := hh
    omega
  | succ n ih =>
    intro c a b hh hS
    obtain ⟨q, k, p, h1, h2, h3, h4, h5, h6, h7⟩ := hh
    refine mr_iload_n ok (i := 3) d_L_drop_4 rfl rfl ?_
    refine mr_aload_n ok (i := 0) d_L_drop_5 rfl rfl ?_
    refine cx_geti ok hB rfl fl_L_15 (tm_3 hb hi) rfl d_L_drop_6 ?_
    refine mr_icmp_ge ok 43 d_L_drop_9 (by decide) (fun h9_0 => ?_) (fun h9_0 => ?_)
    · refine mr_aload_n ok (i := 0) d_L_drop_43 rfl rfl ?_
      refine mr_iload_n ok (i := 2) d_L_drop_44 rfl rfl ?_
      refine cx_put ok hB rfl fw_L_15 (tm_3 hb hi) rfl rfl rfl d_L_drop_45 ?_
      refine sx_vret ok en (Nat.le_refl _) (Nat.le_refl _) d_L_drop_48 ?_
      exact ⟨(by rw [hV]), (by rw [hS]; simp only [ls_L_drop, if_pos h9_0])⟩
    · refine mr_aload_n ok (i := 0) d_L_drop_12 rfl rfl ?_
      refine sx_getr ok hB fl_L_9 (tm_3 hb hi) rfl d_L_drop_13 ?_
      refine mr_iload_n ok (i := 3) d_L_drop_16 rfl rfl ?_
      refine cx_ialdC ok hB rfl (tm_4 hb hi) (ty_0 hb) (kd_at h1 h2 h3 h6 ‹_›) d_L_drop_17 ?_
      refine mr_iload_n ok (i := 1) d_L_drop_18 rfl rfl ?_
      refine mr_icmp_eq ok 37 d_L_drop_19 (by decide) (fun h19_1 => ?_) (fun h19_1 => ?_)
      · refine mr_iinc ok _ d_L_drop_37 rfl rfl (by decide) ?_
        refine mr_goto ok 4 d_L_drop_40 (by decide) ?_
        refine mr_lv [(0, .ref (B.2.1 3 i)), (1, .int x), (2, .int a), (3, .int (b + 1))] ⟨rfl, rfl, rfl, rfl, trivial⟩ ?_
        exact ih _ _ _ (kd_rec h1 h2 h3 h4 h5 h6 h7 ‹_› rfl (by first | exact Or.inl rfl | exact Or.inr rfl)) (hS.trans (by simp only [ls_L_drop, if_neg h9_0, if_pos h19_1]))
      · refine mr_aload_n ok (i := 0) d_L_drop_22 rfl rfl ?_
        refine sx_getr ok hB fl_L_9 (tm_3 hb hi) rfl d_L_drop_23 ?_
        refine mr_iload_n ok (i := 2) d_L_drop_26 rfl rfl ?_
        refine mr_aload_n ok (i := 0) d_L_drop_27 rfl rfl ?_
        refine sx_getr ok hB fl_L_9 (tm_3 hb hi) rfl d_L_drop_28 ?_
        refine mr_iload_n ok (i := 3) d_L_drop_31 rfl rfl ?_
        refine cx_ialdC ok hB rfl (tm_4 hb hi) (ty_0 hb) (kd_at h1 h2 h3 h6 ‹_›) d_L_drop_32 ?_
        refine cx_iastC ok hB rfl (tm_4 hb hi) (ty_0 hb) (kd_at2 h1 h2 h3 h4 h5 h6 ‹_›) d_L_drop_33 ?_
        refine mr_iinc ok _ d_L_drop_34 rfl rfl (by decide) ?_
        refine mr_iinc ok _ d_L_drop_37 rfl rfl (by decide) ?_
        refine mr_goto ok 4 d_L_drop_40 (by decide) ?_
        refine mr_lv [(0, .ref (B.2.1 3 i)), (1, .int x), (2, .int (a + 1)), (3, .int (b + 1))] ⟨rfl, rfl, rfl, rfl, trivial⟩ ?_
        exact ih _ _ _ (kd_rec h1 h2 h3 h4 h5 h6 h7 ‹_› rfl (by first | exact Or.inl rfl | exact Or.inr rfl)) (hS.trans (by simp only [ls_L_drop, if_neg h9_0, if_neg h19_1]))
def s_L_drop (N L : Nat) (c : sh_S) (i : Nat) (x : Int32) : sh_S := (ls_L_drop N L 9 c i x 0 0)
set_option maxHeartbeats 4000000 in
set_option maxRecDepth 100000 in
theorem c_L_drop {B : sh_B} {Z : mx_Z} {N L : Nat} {cI cR cZ : ClassId} (hb : wB B Z N L cI cR cZ) {c r : sh_S} {i : Nat} (hi : i < N) {x : Int32} (hc : ∃ q : Nat, q ≤ 8 ∧ c 3 i 1 = nI q) : sc B Z y_L_drop b_L_drop 4 none (rmm 0 0) [.ref (B.2.1 3 i), .int x] (jn c r) (qe none (jn (s_L_drop N L c i x) r)) := by
  refine ct_of (by decide) (Nat.le_of_ble_eq_true rfl) (cat_of rfl) ?_
  intro X ok en _
  have hB := hb.1
  refine mr_lv [(0, .ref (B.2.1 3 i)), (1, .int x)] ⟨rfl, rfl, trivial⟩ ?_
  refine mr_iconst ok 0 d_L_drop_0 (by decide) ?_
  refine mr_istore_n ok (i := 2) d_L_drop_1 rfl (by decide) ?_
  refine mr_iconst ok 0 d_L_drop_2 (by decide) ?_
  refine mr_istore_n ok (i := 3) d_L_drop_3 rfl (by decide) ?_
  refine mr_lv [(0, .ref (B.2.1 3 i)), (1, .int x), (2, .int 0), (3, .int 0)] ⟨rfl, rfl, rfl, rfl, trivial⟩ ?_
  exact l_L_drop hb hi ok en rfl 9 _ _ _ (kd_init hc) rfl
def s_R_learn (N L : Nat) (c : sh_S) (i : Nat) (x : Int32) : sh_S := (let c1 := s_G_append N L c i x; (let c2 := s_R_dropAccepted N L c1 i; (if (c2 0 i 7) = 1 then (let c6 := s_R_becomeFollower N L c2 i; (let c7 := sU c6 0 i 10 0; (let c8 := sU c7 0 i 9 0; (let c9 := s_L_drop N L c8 i x; c9)))) else (let c3 := sU c2 0 i 10 0; (let c4 := sU c3 0 i 9 0; (let c5 := s_L_drop N L c4 i x; c5))))))
set_option maxHeartbeats 4000000 in
set_option maxRecDepth 100000 in
theorem c_R_learn {B : sh_B} {Z : mx_Z} {N L : Nat} {cI cR cZ : ClassId} (hb : wB B Z N L cI cR cZ) {c r : sh_S} {i : Nat} (hi : i < N) {x : Int32} (hc : ∃ q : Nat, q ≤ 8 ∧ c 3 i 1 = nI q) : sc B Z y_R_learn b_R_learn 2 none (rmm 1 23) [.ref (B.2.1 0 i), .int x] (jn c r) (qe none (jn (s_R_learn N L c i x) r)) := by
  refine ct_of (by decide) (Nat.le_of_ble_eq_true rfl) (cat_of rfl) ?_
  intro X ok en _
  have hB := hb.1
  refine mr_lv [(0, .ref (B.2.1 0 i)), (1, .int x)] ⟨rfl, rfl, trivial⟩ ?_
  refine mr_aload_n ok (i := 0) d_R_learn_0 rfl rfl ?_
  refine sx_getr ok hB fl_R_20 (tm_0 hb hi) rfl d_R_learn_1 ?_
  refine mr_iload_n ok (i := 1) d_R_learn_4 rfl rfl ?_
  refine sx_cVv ok hB [_] rfl cb_R_78 cv_G_append (tm_1 hb hi) rfl rfl (c_G_append hb hi) rfl (Nat.le_of_ble_eq_true rfl) (by decide) ⟨Nat.le_refl _, Nat.le_refl _⟩ d_R_learn_5 ?_
  refine mr_aload_n ok (i := 0) d_R_learn_8 rfl rfl ?_
  refine sx_cVv ok hB [] rfl cb_R_81 cv_R_dropAccepted (tm_0 hb hi) rfl rfl (c_R_dropAccepted hb hi) rfl (Nat.le_of_ble_eq_true rfl) (by decide) ⟨Nat.le_refl _, Nat.le_refl _⟩ d_R_learn_9 ?_
  refine mr_aload_n ok (i := 0) d_R_learn_12 rfl rfl ?_
  refine cx_geti ok hB rfl fl_R_47 (tm_0 hb hi) rfl d_R_learn_13 ?_
  refine mr_iconst ok 1 d_R_learn_16 (by decide) ?_
  refine mr_icmp_ne ok 24 d_R_learn_17 (by decide) (fun h17_0 => ?_) (fun h17_0 => ?_)
  · refine mr_aload_n ok (i := 0) d_R_learn_24 rfl rfl ?_
    refine mr_iconst ok 0 d_R_learn_25 (by decide) ?_
    refine cx_put ok hB rfl fw_R_56 (tm_0 hb hi) rfl rfl rfl d_R_learn_26 ?_
    refine mr_aload_n ok (i := 0) d_R_learn_29 rfl rfl ?_
    refine mr_iconst ok 0 d_R_learn_30 (by decide) ?_
    refine cx_put ok hB rfl fw_R_53 (tm_0 hb hi) rfl rfl rfl d_R_learn_31 ?_
    refine mr_aload_n ok (i := 0) d_R_learn_34 rfl rfl ?_
    refine sx_getr ok hB fl_R_27 (tm_0 hb hi) rfl d_R_learn_35 ?_
    refine mr_iload_n ok (i := 1) d_R_learn_38 rfl rfl ?_
    refine sx_cVv ok hB [_] rfl cb_R_84 cv_L_drop (tm_3 hb hi) rfl rfl (c_L_drop hb hi (by exact hc)) rfl (Nat.le_of_ble_eq_true rfl) (by decide) ⟨Nat.le_refl _, Nat.le_refl _⟩ d_R_learn_39 ?_
    refine sx_vret ok en (Nat.le_refl _) (Nat.le_refl _) d_R_learn_42 ?_
    exact ⟨rfl, (by first | rfl | simp only [s_R_learn, if_neg h17_0])⟩
  · refine mr_aload_n ok (i := 0) d_R_learn_20 rfl rfl ?_
    refine sx_cVv ok hB [] rfl cb_R_35 cv_R_becomeFollower (tm_0 hb hi) rfl rfl (c_R_becomeFollower hb hi) rfl (Nat.le_of_ble_eq_true rfl) (by decide) ⟨Nat.le_refl _, Nat.le_refl _⟩ d_R_learn_21 ?_
    refine mr_aload_n ok (i := 0) d_R_learn_24 rfl rfl ?_
    refine mr_iconst ok 0 d_R_learn_25 (by decide) ?_
    refine cx_put ok hB rfl fw_R_56 (tm_0 hb hi) rfl rfl rfl d_R_learn_26 ?_
    refine mr_aload_n ok (i := 0) d_R_learn_29 rfl rfl ?_
    refine mr_iconst ok 0 d_R_learn_30 (by decide) ?_
    refine cx_put ok hB rfl fw_R_53 (tm_0 hb hi) rfl rfl rfl d_R_learn_31 ?_
    refine mr_aload_n ok (i := 0) d_R_learn_34 rfl rfl ?_
    refine sx_getr ok hB fl_R_27 (tm_0 hb hi) rfl d_R_learn_35 ?_
    refine mr_iload_n ok (i := 1) d_R_learn_38 rfl rfl ?_
    refine sx_cVv ok hB [_] rfl cb_R_84 cv_L_drop (tm_3 hb hi) rfl rfl (c_L_drop hb hi (by exact hc)) rfl (Nat.le_of_ble_eq_true rfl) (by decide) ⟨Nat.le_refl _, Nat.le_refl _⟩ d_R_learn_39 ?_
    refine sx_vret ok en (Nat.le_refl _) (Nat.le_refl _) d_R_learn_42 ?_
    exact ⟨rfl, (by first | rfl | simp only [s_R_learn, if_pos h17_0])⟩
def v_F_has (N L : Nat) (c : sh_S) (x : Int32) : Int32 := (if x < 0 then 0 else (if (c 5 0 1) ≤ x then 0 else 1))
set_option maxHeartbeats 4000000 in
set_option maxRecDepth 100000 in
theorem c_F_has {B : sh_B} {Z : mx_Z} {N L : Nat} {cI cR cZ : ClassId} (hb : wB B Z N L cI cR cZ) {c r : sh_S} {x : Int32} : sc B Z y_F_has b_F_has 2 (some (.boolean)) (rmm 0 0) [.ref (B.2.1 5 0), .int x] (jn c r) (qe (some (.int (v_F_has N L c x))) (jn c r)) := by
  refine ct_of (by decide) (Nat.le_of_ble_eq_true rfl) (cat_of rfl) ?_
  intro X ok en _
  have hB := hb.1
  refine mr_lv [(0, .ref (B.2.1 5 0)), (1, .int x)] ⟨rfl, rfl, trivial⟩ ?_
  refine mr_iload_n ok (i := 1) d_F_has_0 rfl rfl ?_
  refine mr_if_lt ok 16 d_F_has_1 (by decide) (fun h1_0 => ?_) (fun h1_0 => ?_)
  · refine mr_iconst ok 0 d_F_has_16 (by decide) ?_
    refine sx_zret rfl ok en (Nat.le_refl _) (Nat.le_refl _) d_F_has_17 ?_
    exact ⟨(by first | rfl | simp only [v_F_has, if_pos h1_0]), (by first | rfl | simp only [s_F_has, if_pos h1_0])⟩
  · refine mr_iload_n ok (i := 1) d_F_has_4 rfl rfl ?_
    refine mr_aload_n ok (i := 0) d_F_has_5 rfl rfl ?_
    refine cx_geti ok hB rfl fl_F_15 (tm_5 hb) rfl d_F_has_6 ?_
    refine mr_icmp_ge ok 16 d_F_has_9 (by decide) (fun h9_1 => ?_) (fun h9_1 => ?_)
    · refine mr_iconst ok 0 d_F_has_16 (by decide) ?_
      refine sx_zret rfl ok en (Nat.le_refl _) (Nat.le_refl _) d_F_has_17 ?_
      exact ⟨(by first | rfl | simp only [v_F_has, if_neg h1_0, if_pos h9_1]), (by first | rfl | simp only [s_F_has, if_neg h1_0, if_pos h9_1])⟩
    · refine mr_iconst ok 1 d_F_has_12 (by decide) ?_
      refine mr_goto ok 17 d_F_has_13 (by decide) ?_
      refine sx_zret rfl ok en (Nat.le_refl _) (Nat.le_refl _) d_F_has_17 ?_
      exact ⟨(by first | rfl | simp only [v_F_has, if_neg h1_0, if_neg h9_1]), (by first | rfl | simp only [s_F_has, if_neg h1_0, if_neg h9_1])⟩
theorem kf_cell {N L : Nat} {c : sh_S} {x y : Int32} (hc : ∃ q : Nat, q ≤ 200 ∧ c 5 0 1 = nI q) (hv : ¬ v_F_has N L c x = 0) (h0 : ¬ y < 0) (h7 : ¬ 7 ≤ y) : vp_in (x * 7 + y) 1400 := by
  obtain ⟨q, j, h1, h2, h3, rfl⟩ := kf_has (N := N) (L := L) hc hv
  obtain ⟨w, hw, rfl, -⟩ := pk_mu (L := 7) h0 h7 (by decide)
  rw [n7, pk_mul, nI_add]
  exact vp_in_nI (by omega) (by decide)
theorem kf_s0 {c : sh_S} (hc : ∃ q : Nat, q ≤ 200 ∧ c 5 0 1 = nI q) (h : c 5 0 1 < 200) : vp_in (c 5 0 1 * 7) 1400 := by
  obtain ⟨q, h1, h2⟩ := hc
  rw [h2] at h ⊢
  have : q < 200 := (nI_ltI (by omega) (by decide)).mp h
  rw [n7, pk_mul]
  exact vp_in_nI (by omega) (by decide)
theorem kf_s {c : sh_S} (hc : ∃ q : Nat, q ≤ 200 ∧ c 5 0 1 = nI q) (h : c 5 0 1 < 200) (k : Nat) (hk : k < 7) : vp_in (c 5 0 1 * 7 + nI k) 1400 := by
  obtain ⟨q, h1, h2⟩ := hc
  rw [h2] at h ⊢
  have : q < 200 := (nI_ltI (by omega) (by decide)).mp h
  rw [n7, pk_mul, nI_add]
  exact vp_in_nI (by omega) (by decide)
theorem kf_rem {N L : Nat} {c : sh_S} {x : Int32} (hc : ∃ q : Nat, q ≤ 200 ∧ c 5 0 1 = nI q) (hv : ¬ v_F_has N L c x = 0) : (¬ (x + 1) * 7 < 0 ∧ ¬ x * 7 < 0 ∧ ¬ (c 5 0 1 - x - 1) * 7 < 0) ∧ ((x + 1) * 7).toNatClampNeg + ((c 5 0 1 - x - 1) * 7).toNatClampNeg ≤ 1400 ∧ (x * 7).toNatClampNeg + ((c 5 0 1 - x - 1) * 7).toNatClampNeg ≤ 1400 := by
  obtain ⟨q, j, h1, h2, h3, rfl⟩ := kf_has (N := N) (L := L) hc hv
  have e1 : (nI j + 1) * 7 = nI ((j + 1) * 7) := by rw [nI_1, n7, pk_mul]
  have e2 : nI j * 7 = nI (j * 7) := by rw [n7, pk_mul]
  have e3 : (c 5 0 1 - nI j - 1) * 7 = nI ((q - j - 1) * 7) := by
    rw [h2, pk_sub (by omega), show (1 : Int32) = nI 1 from rfl, pk_sub (by omega), n7, pk_mul]
  rw [e1, e2, e3, nI_clamp (by omega), nI_clamp (by omega), nI_clamp (by omega)]
  exact ⟨⟨nI_pos (by omega), nI_pos (by omega), nI_pos (by omega)⟩, by omega, by omega⟩
theorem kf_rep {N L : Nat} {c : sh_S} {x : Int32} (hc : ∃ q : Nat, q ≤ 200 ∧ c 5 0 1 = nI q) (hv : ¬ v_F_has N L c x = 0) (h : c 5 0 1 < 200) : (¬ x * 7 < 0 ∧ ¬ c 5 0 1 * 7 < 0 ∧ ¬ (7 : Int32) < 0) ∧ (x * 7).toNatClampNeg + (7 : Int32).toNatClampNeg ≤ 1400 ∧ (c 5 0 1 * 7).toNatClampNeg + (7 : Int32).toNatClampNeg ≤ 1400 := by
  obtain ⟨q, j, h1, h2, h3, rfl⟩ := kf_has (N := N) (L := L) hc hv
  rw [h2] at h ⊢
  have hq : q < 200 := (nI_ltI (by omega) (by decide)).mp h
  rw [n7, pk_mul, pk_mul, nI_clamp (by omega), nI_clamp (by omega), nI_clamp (by omega)]
  exact ⟨⟨nI_pos (by omega), nI_pos (by omega), nI_pos (by decide)⟩, by omega, by omega⟩

def v_F_cell (N L : Nat) (c : sh_S) (x : Int32) (y : Int32) : Int32 := (if (v_F_has N L c x) = 0 then (-1) else (if y < 0 then (-1) else (if 7 ≤ y then (-1) else (c 6 0 ((((x * 7) + y) : Int32).toNatClampNeg)))))
set_option maxHeartbeats 4000000 in
set_option maxRecDepth 100000 in
theorem c_F_cell {B : sh_B} {Z : mx_Z} {N L : Nat} {cI cR cZ : ClassId} (hb : wB B Z N L cI cR cZ) {c r : sh_S} {x : Int32} {y : Int32} (hc : ∃ q : Nat, q ≤ 200 ∧ c 5 0 1 = nI q) : sc B Z y_F_cell b_F_cell 3 (some (.int)) (rmm 1 21) [.ref (B.2.1 5 0), .int x, .int y] (jn c r) (qe (some (.int (v_F_cell N L c x y))) (jn c r)) := by
  refine ct_of (by decide) (Nat.le_of_ble_eq_true rfl) (cat_of rfl) ?_
  intro X ok en _
  have hB := hb.1
  refine mr_lv [(0, .ref (B.2.1 5 0)), (1, .int x), (2, .int y)] ⟨rfl, rfl, rfl, trivial⟩ ?_
  refine mr_aload_n ok (i := 0) d_F_cell_0 rfl rfl ?_
  refine mr_iload_n ok (i := 1) d_F_cell_1 rfl rfl ?_
  refine sx_cVi ok hB [_] rfl cb_F_19 cv_F_has (tm_5 hb) rfl rfl (c_F_has hb) rfl (Nat.le_of_ble_eq_true rfl) (by decide) ⟨Nat.le_refl _, Nat.le_refl _⟩ d_F_cell_2 ?_
  refine mr_if_eq ok 32 d_F_cell_5 (by decide) (fun h5_0 => ?_) (fun h5_0 => ?_)
  · refine mr_iconst ok (-1) d_F_cell_32 (by decide) ?_
    refine sx_iret ok en (Nat.le_refl _) (Nat.le_refl _) d_F_cell_33 ?_
    exact ⟨(by first | rfl | simp only [v_F_cell, if_pos h5_0]), (by first | rfl | simp only [s_F_cell, if_pos h5_0])⟩
  · refine mr_iload_n ok (i := 2) d_F_cell_8 rfl rfl ?_
    refine mr_if_lt ok 32 d_F_cell_9 (by decide) (fun h9_1 => ?_) (fun h9_1 => ?_)
    · refine mr_iconst ok (-1) d_F_cell_32 (by decide) ?_
      refine sx_iret ok en (Nat.le_refl _) (Nat.le_refl _) d_F_cell_33 ?_
      exact ⟨(by first | rfl | simp only [v_F_cell, if_neg h5_0, if_pos h9_1]), (by first | rfl | simp only [s_F_cell, if_neg h5_0, if_pos h9_1])⟩
    · refine mr_iload_n ok (i := 2) d_F_cell_12 rfl rfl ?_
      refine mr_bipush ok 7 d_F_cell_13 (by decide) ?_
      refine mr_icmp_ge ok 32 d_F_cell_15 (by decide) (fun h15_2 => ?_) (fun h15_2 => ?_)
      · refine mr_iconst ok (-1) d_F_cell_32 (by decide) ?_
        refine sx_iret ok en (Nat.le_refl _) (Nat.le_refl _) d_F_cell_33 ?_
        exact ⟨(by first | rfl | simp only [v_F_cell, if_neg h5_0, if_neg h9_1, if_pos h15_2]), (by first | rfl | simp only [s_F_cell, if_neg h5_0, if_neg h9_1, if_pos h15_2])⟩
      · refine mr_aload_n ok (i := 0) d_F_cell_18 rfl rfl ?_
        refine sx_getr ok hB fl_F_11 (tm_5 hb) rfl d_F_cell_19 ?_
        refine mr_iload_n ok (i := 1) d_F_cell_22 rfl rfl ?_
        refine mr_bipush ok 7 d_F_cell_23 (by decide) ?_
        refine mr_imul ok d_F_cell_25 ?_
        refine mr_iload_n ok (i := 2) d_F_cell_26 rfl rfl ?_
        refine mr_iadd ok d_F_cell_27 ?_
        refine cx_ialdC ok hB rfl (tm_6 hb) (ty_0 hb) (kf_cell hc ‹_› ‹_› ‹_›) d_F_cell_28 ?_
        refine mr_goto ok 33 d_F_cell_29 (by decide) ?_
        refine sx_iret ok en (Nat.le_refl _) (Nat.le_refl _) d_F_cell_33 ?_
        exact ⟨(by first | rfl | simp only [v_F_cell, if_neg h5_0, if_neg h9_1, if_neg h15_2]), (by first | rfl | simp only [s_F_cell, if_neg h5_0, if_neg h9_1, if_neg h15_2])⟩
def s_F_send (N L : Nat) (c : sh_S) (x1 : Int32) (x2 : Int32) (x3 : Int32) (x4 : Int32) (x5 : Int32) (x6 : Int32) (x7 : Int32) : sh_S := (let c1 := sU c 5 0 2 ((c 5 0 2) + 1); (if (c1 5 0 1) < 200 then (let c2 := sU c1 6 0 ((((c1 5 0 1) * 7) : Int32).toNatClampNeg) x1; (let c3 := sU c2 6 0 (((((c1 5 0 1) * 7) + 1) : Int32).toNatClampNeg) x2; (let c4 := sU c3 6 0 (((((c1 5 0 1) * 7) + 2) : Int32).toNatClampNeg) x3; (let c5 := sU c4 6 0 (((((c1 5 0 1) * 7) + 3) : Int32).toNatClampNeg) x4; (let c6 := sU c5 6 0 (((((c1 5 0 1) * 7) + 4) : Int32).toNatClampNeg) x5; (let c7 := sU c6 6 0 (((((c1 5 0 1) * 7) + 5) : Int32).toNatClampNeg) x6; (let c8 := sU c7 6 0 (((((c1 5 0 1) * 7) + 6) : Int32).toNatClampNeg) x7; (let c9 := sU c8 5 0 1 ((c8 5 0 1) + 1); c9)))))))) else (let c10 := sU c1 5 0 3 ((c1 5 0 3) + 1); c10)))
set_option maxHeartbeats 4000000 in
set_option maxRecDepth 100000 in
theorem c_F_send {B : sh_B} {Z : mx_Z} {N L : Nat} {cI cR cZ : ClassId} (hb : wB B Z N L cI cR cZ) {c r : sh_S} {x1 : Int32} {x2 : Int32} {x3 : Int32} {x4 : Int32} {x5 : Int32} {x6 : Int32} {x7 : Int32} (hc : ∃ q : Nat, q ≤ 200 ∧ c 5 0 1 = nI q) : sc B Z y_F_send b_F_send 9 none (rmm 0 0) [.ref (B.2.1 5 0), .int x1, .int x2, .int x3, .int x4, .int x5, .int x6, .int x7] (jn c r) (qe none (jn (s_F_send N L c x1 x2 x3 x4 x5 x6 x7) r)) := by
  refine ct_of (by decide) (Nat.le_of_ble_eq_true rfl) (cat_of rfl) ?_
  intro X ok en _
  have hB := hb.1
  refine mr_lv [(0, .ref (B.2.1 5 0)), (1, .int x1), (2, .int x2), (3, .int x3), (4, .int x4), (5, .int x5), (6, .int x6), (7, .int x7)] ⟨rfl, rfl, rfl, rfl, rfl, rfl, rfl, rfl, trivial⟩ ?_
  refine mr_aload_n ok (i := 0) d_F_send_0 rfl rfl ?_
  refine mr_dup ok d_F_send_1 rfl ?_
  refine cx_geti ok hB rfl fl_F_23 (tm_5 hb) rfl d_F_send_2 ?_
  refine mr_iconst ok 1 d_F_send_5 (by decide) ?_
  refine mr_iadd ok d_F_send_6 ?_
  refine cx_put ok hB rfl fw_F_23 (tm_5 hb) rfl rfl rfl d_F_send_7 ?_
  refine mr_aload_n ok (i := 0) d_F_send_10 rfl rfl ?_
  refine cx_geti ok hB rfl fl_F_15 (tm_5 hb) rfl d_F_send_11 ?_
  refine mr_sipush ok 200 d_F_send_14 (by decide) ?_
  refine mr_icmp_lt ok 31 d_F_send_17 (by decide) (fun h17_0 => ?_) (fun h17_0 => ?_)
  · refine mr_aload_n ok (i := 0) d_F_send_31 rfl rfl ?_
    refine cx_geti ok hB rfl fl_F_15 (tm_5 hb) rfl d_F_send_32 ?_
    refine mr_bipush ok 7 d_F_send_35 (by decide) ?_
    refine mr_imul ok d_F_send_37 ?_
    refine mr_istore ok d_F_send_38 (by decide) ?_
    refine mr_aload_n ok (i := 0) d_F_send_40 rfl rfl ?_
    refine sx_getr ok hB fl_F_11 (tm_5 hb) rfl d_F_send_41 ?_
    refine mr_iload ok d_F_send_44 rfl ?_
    refine mr_iload_n ok (i := 1) d_F_send_46 rfl rfl ?_
    refine cx_iastC ok hB rfl (tm_6 hb) (ty_0 hb) (kf_s0 hc ‹_›) d_F_send_47 ?_
    refine mr_aload_n ok (i := 0) d_F_send_48 rfl rfl ?_
    refine sx_getr ok hB fl_F_11 (tm_5 hb) rfl d_F_send_49 ?_
    refine mr_iload ok d_F_send_52 rfl ?_
    refine mr_iconst ok 1 d_F_send_54 (by decide) ?_
    refine mr_iadd ok d_F_send_55 ?_
    refine mr_iload_n ok (i := 2) d_F_send_56 rfl rfl ?_
    refine cx_iastC ok hB rfl (tm_6 hb) (ty_0 hb) (kf_s hc ‹_› 1 (by decide)) d_F_send_57 ?_
    refine mr_aload_n ok (i := 0) d_F_send_58 rfl rfl ?_
    refine sx_getr ok hB fl_F_11 (tm_5 hb) rfl d_F_send_59 ?_
    refine mr_iload ok d_F_send_62 rfl ?_
    refine mr_iconst ok 2 d_F_send_64 (by decide) ?_
    refine mr_iadd ok d_F_send_65 ?_
    refine mr_iload_n ok (i := 3) d_F_send_66 rfl rfl ?_
    refine cx_iastC ok hB rfl (tm_6 hb) (ty_0 hb) (kf_s hc ‹_› 2 (by decide)) d_F_send_67 ?_
    refine mr_aload_n ok (i := 0) d_F_send_68 rfl rfl ?_
    refine sx_getr ok hB fl_F_11 (tm_5 hb) rfl d_F_send_69 ?_
    refine mr_iload ok d_F_send_72 rfl ?_
    refine mr_iconst ok 3 d_F_send_74 (by decide) ?_
    refine mr_iadd ok d_F_send_75 ?_
    refine mr_iload ok d_F_send_76 rfl ?_
    refine cx_iastC ok hB rfl (tm_6 hb) (ty_0 hb) (kf_s hc ‹_› 3 (by decide)) d_F_send_78 ?_
    refine mr_aload_n ok (i := 0) d_F_send_79 rfl rfl ?_
    refine sx_getr ok hB fl_F_11 (tm_5 hb) rfl d_F_send_80 ?_
    refine mr_iload ok d_F_send_83 rfl ?_
    refine mr_iconst ok 4 d_F_send_85 (by decide) ?_
    refine mr_iadd ok d_F_send_86 ?_
    refine mr_iload ok d_F_send_87 rfl ?_
    refine cx_iastC ok hB rfl (tm_6 hb) (ty_0 hb) (kf_s hc ‹_› 4 (by decide)) d_F_send_89 ?_
    refine mr_aload_n ok (i := 0) d_F_send_90 rfl rfl ?_
    refine sx_getr ok hB fl_F_11 (tm_5 hb) rfl d_F_send_91 ?_
    refine mr_iload ok d_F_send_94 rfl ?_
    refine mr_iconst ok 5 d_F_send_96 (by decide) ?_
    refine mr_iadd ok d_F_send_97 ?_
    refine mr_iload ok d_F_send_98 rfl ?_
    refine cx_iastC ok hB rfl (tm_6 hb) (ty_0 hb) (kf_s hc ‹_› 5 (by decide)) d_F_send_100 ?_
    refine mr_aload_n ok (i := 0) d_F_send_101 rfl rfl ?_
    refine sx_getr ok hB fl_F_11 (tm_5 hb) rfl d_F_send_102 ?_
    refine mr_iload ok d_F_send_105 rfl ?_
    refine mr_bipush ok 6 d_F_send_107 (by decide) ?_
    refine mr_iadd ok d_F_send_109 ?_
    refine mr_iload ok d_F_send_110 rfl ?_
    refine cx_iastC ok hB rfl (tm_6 hb) (ty_0 hb) (kf_s hc ‹_› 6 (by decide)) d_F_send_112 ?_
    refine mr_aload_n ok (i := 0) d_F_send_113 rfl rfl ?_
    refine mr_dup ok d_F_send_114 rfl ?_
    refine cx_geti ok hB rfl fl_F_15 (tm_5 hb) rfl d_F_send_115 ?_
    refine mr_iconst ok 1 d_F_send_118 (by decide) ?_
    refine mr_iadd ok d_F_send_119 ?_
    refine cx_put ok hB rfl fw_F_15 (tm_5 hb) rfl rfl rfl d_F_send_120 ?_
    refine sx_vret ok en (Nat.le_refl _) (Nat.le_refl _) d_F_send_123 ?_
    exact ⟨rfl, (by first | rfl | simp only [s_F_send, if_pos h17_0])⟩
  · refine mr_aload_n ok (i := 0) d_F_send_20 rfl rfl ?_
    refine mr_dup ok d_F_send_21 rfl ?_
    refine cx_geti ok hB rfl fl_F_26 (tm_5 hb) rfl d_F_send_22 ?_
    refine mr_iconst ok 1 d_F_send_25 (by decide) ?_
    refine mr_iadd ok d_F_send_26 ?_
    refine cx_put ok hB rfl fw_F_26 (tm_5 hb) rfl rfl rfl d_F_send_27 ?_
    refine sx_vret ok en (Nat.le_refl _) (Nat.le_refl _) d_F_send_30 ?_
    exact ⟨rfl, (by first | rfl | simp only [s_F_send, if_neg h17_0])⟩
def s_F_remove (N L : Nat) (c : sh_S) (x : Int32) : sh_S := (if (v_F_has N L c x) = 0 then c else (let c1 := sA c 6 0 (va_cpy (c 6 0) (c 6 0) ((((x + 1) * 7) : Int32).toNatClampNeg) (((x * 7) : Int32).toNatClampNeg) ((((((c 5 0 1) - x) - 1) * 7) : Int32).toNatClampNeg)); (let c2 := sU c1 5 0 1 ((c1 5 0 1) - 1); c2)))
set_option maxHeartbeats 4000000 in
set_option maxRecDepth 100000 in
theorem c_F_remove {B : sh_B} {Z : mx_Z} {N L : Nat} {cI cR cZ : ClassId} (hb : wB B Z N L cI cR cZ) {c r : sh_S} {x : Int32} (hc : ∃ q : Nat, q ≤ 200 ∧ c 5 0 1 = nI q) : sc B Z y_F_remove b_F_remove 3 none (rmm 1 40) [.ref (B.2.1 5 0), .int x] (jn c r) (qe none (jn (s_F_remove N L c x) r)) := by
  refine ct_of (by decide) (Nat.le_of_ble_eq_true rfl) (cat_of rfl) ?_
  intro X ok en _
  have hB := hb.1
  refine mr_lv [(0, .ref (B.2.1 5 0)), (1, .int x)] ⟨rfl, rfl, trivial⟩ ?_
  refine mr_aload_n ok (i := 0) d_F_remove_0 rfl rfl ?_
  refine mr_iload_n ok (i := 1) d_F_remove_1 rfl rfl ?_
  refine sx_cVi ok hB [_] rfl cb_F_19 cv_F_has (tm_5 hb) rfl rfl (c_F_has hb) rfl (Nat.le_of_ble_eq_true rfl) (by decide) ⟨Nat.le_refl _, Nat.le_refl _⟩ d_F_remove_2 ?_
  refine mr_if_ne ok 9 d_F_remove_5 (by decide) (fun h5_0 => ?_) (fun h5_0 => ?_)
  · refine mr_aload_n ok (i := 0) d_F_remove_9 rfl rfl ?_
    refine cx_geti ok hB rfl fl_F_15 (tm_5 hb) rfl d_F_remove_10 ?_
    refine mr_iload_n ok (i := 1) d_F_remove_13 rfl rfl ?_
    refine mr_isub ok d_F_remove_14 ?_
    refine mr_iconst ok 1 d_F_remove_15 (by decide) ?_
    refine mr_isub ok d_F_remove_16 ?_
    refine mr_istore_n ok (i := 2) d_F_remove_17 rfl (by decide) ?_
    refine mr_aload_n ok (i := 0) d_F_remove_18 rfl rfl ?_
    refine sx_getr ok hB fl_F_11 (tm_5 hb) rfl d_F_remove_19 ?_
    refine mr_iload_n ok (i := 1) d_F_remove_22 rfl rfl ?_
    refine mr_iconst ok 1 d_F_remove_23 (by decide) ?_
    refine mr_iadd ok d_F_remove_24 ?_
    refine mr_bipush ok 7 d_F_remove_25 (by decide) ?_
    refine mr_imul ok d_F_remove_27 ?_
    refine mr_aload_n ok (i := 0) d_F_remove_28 rfl rfl ?_
    refine sx_getr ok hB fl_F_11 (tm_5 hb) rfl d_F_remove_29 ?_
    refine mr_iload_n ok (i := 1) d_F_remove_32 rfl rfl ?_
    refine mr_bipush ok 7 d_F_remove_33 (by decide) ?_
    refine mr_imul ok d_F_remove_35 ?_
    refine mr_iload_n ok (i := 2) d_F_remove_36 rfl rfl ?_
    refine mr_bipush ok 7 d_F_remove_37 (by decide) ?_
    refine mr_imul ok d_F_remove_39 ?_
    refine cx_copyC ok hB ⟨mw 338 rfl rfl, mw 340 rfl rfl, mw 339 rfl rfl, mw 51 rfl rfl⟩ rfl (tm_6 hb) (ty_0 hb) (kf_rem hc ‹_›) (by decide) (Nat.le_of_ble_eq_true rfl) d_F_remove_40 ?_
    refine mr_aload_n ok (i := 0) d_F_remove_43 rfl rfl ?_
    refine mr_dup ok d_F_remove_44 rfl ?_
    refine cx_geti ok hB rfl fl_F_15 (tm_5 hb) rfl d_F_remove_45 ?_
    refine mr_iconst ok 1 d_F_remove_48 (by decide) ?_
    refine mr_isub ok d_F_remove_49 ?_
    refine cx_put ok hB rfl fw_F_15 (tm_5 hb) rfl rfl rfl d_F_remove_50 ?_
    refine sx_vret ok en (Nat.le_refl _) (Nat.le_refl _) d_F_remove_53 ?_
    exact ⟨rfl, (by first | rfl | simp only [s_F_remove, if_neg h5_0])⟩
  · refine sx_vret ok en (Nat.le_refl _) (Nat.le_refl _) d_F_remove_8 ?_
    exact ⟨rfl, (by first | rfl | simp only [s_F_remove, if_pos h5_0])⟩
def v_F_repeat (N L : Nat) (c : sh_S) (x : Int32) : Int32 := (if (v_F_has N L c x) = 0 then 0 else (if (c 5 0 1) < 200 then (let c1 := sA c 6 0 (va_cpy (c 6 0) (c 6 0) (((x * 7) : Int32).toNatClampNeg) ((((c 5 0 1) * 7) : Int32).toNatClampNeg) ((7 : Int32).toNatClampNeg)); (let c2 := sU c1 5 0 1 ((c1 5 0 1) + 1); 1)) else 0))
def s_F_repeat (N L : Nat) (c : sh_S) (x : Int32) : sh_S := (if (v_F_has N L c x) = 0 then c else (if (c 5 0 1) < 200 then (let c1 := sA c 6 0 (va_cpy (c 6 0) (c 6 0) (((x * 7) : Int32).toNatClampNeg) ((((c 5 0 1) * 7) : Int32).toNatClampNeg) ((7 : Int32).toNatClampNeg)); (let c2 := sU c1 5 0 1 ((c1 5 0 1) + 1); c2)) else c))
set_option maxHeartbeats 4000000 in
set_option maxRecDepth 100000 in
theorem c_F_repeat {B : sh_B} {Z : mx_Z} {N L : Nat} {cI cR cZ : ClassId} (hb : wB B Z N L cI cR cZ) {c r : sh_S} {x : Int32} (hc : ∃ q : Nat, q ≤ 200 ∧ c 5 0 1 = nI q) : sc B Z y_F_repeat b_F_repeat 2 (some (.boolean)) (rmm 1 40) [.ref (B.2.1 5 0), .int x] (jn c r) (qe (some (.int (v_F_repeat N L c x))) (jn (s_F_repeat N L c x) r)) := by
  refine ct_of (by decide) (Nat.le_of_ble_eq_true rfl) (cat_of rfl) ?_
  intro X ok en _
  have hB := hb.1
  refine mr_lv [(0, .ref (B.2.1 5 0)), (1, .int x)] ⟨rfl, rfl, trivial⟩ ?_
  refine mr_aload_n ok (i := 0) d_F_repeat_0 rfl rfl ?_
  refine mr_iload_n ok (i := 1) d_F_repeat_1 rfl rfl ?_
  refine sx_cVi ok hB [_] rfl cb_F_19 cv_F_has (tm_5 hb) rfl rfl (c_F_has hb) rfl (Nat.le_of_ble_eq_true rfl) (by decide) ⟨Nat.le_refl _, Nat.le_refl _⟩ d_F_repeat_2 ?_
  refine mr_if_eq ok 18 d_F_repeat_5 (by decide) (fun h5_0 => ?_) (fun h5_0 => ?_)
  · refine mr_iconst ok 0 d_F_repeat_18 (by decide) ?_
    refine sx_zret rfl ok en (Nat.le_refl _) (Nat.le_refl _) d_F_repeat_19 ?_
    exact ⟨(by first | rfl | simp only [v_F_repeat, if_pos h5_0]), (by first | rfl | simp only [s_F_repeat, if_pos h5_0])⟩
  · refine mr_aload_n ok (i := 0) d_F_repeat_8 rfl rfl ?_
    refine cx_geti ok hB rfl fl_F_15 (tm_5 hb) rfl d_F_repeat_9 ?_
    refine mr_sipush ok 200 d_F_repeat_12 (by decide) ?_
    refine mr_icmp_lt ok 20 d_F_repeat_15 (by decide) (fun h15_1 => ?_) (fun h15_1 => ?_)
    · refine mr_aload_n ok (i := 0) d_F_repeat_20 rfl rfl ?_
      refine sx_getr ok hB fl_F_11 (tm_5 hb) rfl d_F_repeat_21 ?_
      refine mr_iload_n ok (i := 1) d_F_repeat_24 rfl rfl ?_
      refine mr_bipush ok 7 d_F_repeat_25 (by decide) ?_
      refine mr_imul ok d_F_repeat_27 ?_
      refine mr_aload_n ok (i := 0) d_F_repeat_28 rfl rfl ?_
      refine sx_getr ok hB fl_F_11 (tm_5 hb) rfl d_F_repeat_29 ?_
      refine mr_aload_n ok (i := 0) d_F_repeat_32 rfl rfl ?_
      refine cx_geti ok hB rfl fl_F_15 (tm_5 hb) rfl d_F_repeat_33 ?_
      refine mr_bipush ok 7 d_F_repeat_36 (by decide) ?_
      refine mr_imul ok d_F_repeat_38 ?_
      refine mr_bipush ok 7 d_F_repeat_39 (by decide) ?_
      refine cx_copyC ok hB ⟨mw 338 rfl rfl, mw 340 rfl rfl, mw 339 rfl rfl, mw 51 rfl rfl⟩ rfl (tm_6 hb) (ty_0 hb) (kf_rep hc ‹_› ‹_›) (by decide) (Nat.le_of_ble_eq_true rfl) d_F_repeat_41 ?_
      refine mr_aload_n ok (i := 0) d_F_repeat_44 rfl rfl ?_
      refine mr_dup ok d_F_repeat_45 rfl ?_
      refine cx_geti ok hB rfl fl_F_15 (tm_5 hb) rfl d_F_repeat_46 ?_
      refine mr_iconst ok 1 d_F_repeat_49 (by decide) ?_
      refine mr_iadd ok d_F_repeat_50 ?_
      refine cx_put ok hB rfl fw_F_15 (tm_5 hb) rfl rfl rfl d_F_repeat_51 ?_
      refine mr_iconst ok 1 d_F_repeat_54 (by decide) ?_
      refine sx_zret rfl ok en (Nat.le_refl _) (Nat.le_refl _) d_F_repeat_55 ?_
      exact ⟨(by first | rfl | simp only [v_F_repeat, if_neg h5_0, if_pos h15_1]), (by first | rfl | simp only [s_F_repeat, if_neg h5_0, if_pos h15_1])⟩
    · refine mr_iconst ok 0 d_F_repeat_18 (by decide) ?_
      refine sx_zret rfl ok en (Nat.le_refl _) (Nat.le_refl _) d_F_repeat_19 ?_
      exact ⟨(by first | rfl | simp only [v_F_repeat, if_neg h5_0, if_neg h15_1]), (by first | rfl | simp only [s_F_repeat, if_neg h5_0, if_neg h15_1])⟩
def s_F_read (N L : Nat) (c : sh_S) (x : Int32) : sh_S := (let c1 := sU c 7 0 0 (v_F_cell N L c x 0); (let c2 := sU c1 7 0 1 (v_F_cell N L c1 x 1); (let c3 := sU c2 7 0 2 (v_F_cell N L c2 x 2); (let c4 := sU c3 7 0 3 (v_F_cell N L c3 x 3); (let c5 := sU c4 7 0 4 (v_F_cell N L c4 x 4); (let c6 := sU c5 7 0 5 (v_F_cell N L c5 x 5); (let c7 := sU c6 7 0 6 (v_F_cell N L c6 x 6); c7)))))))
set_option maxHeartbeats 4000000 in
set_option maxRecDepth 100000 in
theorem c_F_read {B : sh_B} {Z : mx_Z} {N L : Nat} {cI cR cZ : ClassId} (hb : wB B Z N L cI cR cZ) {c r : sh_S} {x : Int32} (hc : ∃ q : Nat, q ≤ 200 ∧ c 5 0 1 = nI q) : sc B Z y_F_read b_F_read 3 none (rmm 2 43) [.ref (B.2.1 5 0), .int x, .ref (B.2.1 7 0)] (jn c r) (qe none (jn (s_F_read N L c x) r)) := by
  refine ct_of (by decide) (Nat.le_of_ble_eq_true rfl) (cat_of rfl) ?_
  intro X ok en _
  have hB := hb.1
  refine mr_lv [(0, .ref (B.2.1 5 0)), (1, .int x), (2, .ref (B.2.1 7 0))] ⟨rfl, rfl, rfl, trivial⟩ ?_
  refine mr_aload_n ok (i := 2) d_F_read_0 rfl rfl ?_
  refine mr_aload_n ok (i := 0) d_F_read_1 rfl rfl ?_
  refine mr_iload_n ok (i := 1) d_F_read_2 rfl rfl ?_
  refine mr_iconst ok 0 d_F_read_3 (by decide) ?_
  refine sx_cVi ok hB [_, _] rfl cb_F_29 cv_F_cell (tm_5 hb) rfl rfl (c_F_cell hb (by exact hc)) rfl (Nat.le_of_ble_eq_true rfl) (by decide) ⟨Nat.le_refl _, Nat.le_refl _⟩ d_F_read_4 ?_
  refine cx_put ok hB rfl fw_F_33 (tm_7 hb) rfl rfl rfl d_F_read_7 ?_
  refine mr_aload_n ok (i := 2) d_F_read_10 rfl rfl ?_
  refine mr_aload_n ok (i := 0) d_F_read_11 rfl rfl ?_
  refine mr_iload_n ok (i := 1) d_F_read_12 rfl rfl ?_
  refine mr_iconst ok 1 d_F_read_13 (by decide) ?_
  refine sx_cVi ok hB [_, _] rfl cb_F_29 cv_F_cell (tm_5 hb) rfl rfl (c_F_cell hb (by exact hc)) rfl (Nat.le_of_ble_eq_true rfl) (by decide) ⟨Nat.le_refl _, Nat.le_refl _⟩ d_F_read_14 ?_
  refine cx_put ok hB rfl fw_F_38 (tm_7 hb) rfl rfl rfl d_F_read_17 ?_
  refine mr_aload_n ok (i := 2) d_F_read_20 rfl rfl ?_
  refine mr_aload_n ok (i := 0) d_F_read_21 rfl rfl ?_
  refine mr_iload_n ok (i := 1) d_F_read_22 rfl rfl ?_
  refine mr_iconst ok 2 d_F_read_23 (by decide) ?_
  refine sx_cVi ok hB [_, _] rfl cb_F_29 cv_F_cell (tm_5 hb) rfl rfl (c_F_cell hb (by exact hc)) rfl (Nat.le_of_ble_eq_true rfl) (by decide) ⟨Nat.le_refl _, Nat.le_refl _⟩ d_F_read_24 ?_
  refine cx_put ok hB rfl fw_F_41 (tm_7 hb) rfl rfl rfl d_F_read_27 ?_
  refine mr_aload_n ok (i := 2) d_F_read_30 rfl rfl ?_
  refine mr_aload_n ok (i := 0) d_F_read_31 rfl rfl ?_
  refine mr_iload_n ok (i := 1) d_F_read_32 rfl rfl ?_
  refine mr_iconst ok 3 d_F_read_33 (by decide) ?_
  refine sx_cVi ok hB [_, _] rfl cb_F_29 cv_F_cell (tm_5 hb) rfl rfl (c_F_cell hb (by exact hc)) rfl (Nat.le_of_ble_eq_true rfl) (by decide) ⟨Nat.le_refl _, Nat.le_refl _⟩ d_F_read_34 ?_
  refine cx_put ok hB rfl fw_F_44 (tm_7 hb) rfl rfl rfl d_F_read_37 ?_
  refine mr_aload_n ok (i := 2) d_F_read_40 rfl rfl ?_
  refine mr_aload_n ok (i := 0) d_F_read_41 rfl rfl ?_
  refine mr_iload_n ok (i := 1) d_F_read_42 rfl rfl ?_
  refine mr_iconst ok 4 d_F_read_43 (by decide) ?_
  refine sx_cVi ok hB [_, _] rfl cb_F_29 cv_F_cell (tm_5 hb) rfl rfl (c_F_cell hb (by exact hc)) rfl (Nat.le_of_ble_eq_true rfl) (by decide) ⟨Nat.le_refl _, Nat.le_refl _⟩ d_F_read_44 ?_
  refine cx_put ok hB rfl fw_F_47 (tm_7 hb) rfl rfl rfl d_F_read_47 ?_
  refine mr_aload_n ok (i := 2) d_F_read_50 rfl rfl ?_
  refine mr_aload_n ok (i := 0) d_F_read_51 rfl rfl ?_
  refine mr_iload_n ok (i := 1) d_F_read_52 rfl rfl ?_
  refine mr_iconst ok 5 d_F_read_53 (by decide) ?_
  refine sx_cVi ok hB [_, _] rfl cb_F_29 cv_F_cell (tm_5 hb) rfl rfl (c_F_cell hb (by exact hc)) rfl (Nat.le_of_ble_eq_true rfl) (by decide) ⟨Nat.le_refl _, Nat.le_refl _⟩ d_F_read_54 ?_
  refine cx_put ok hB rfl fw_F_50 (tm_7 hb) rfl rfl rfl d_F_read_57 ?_
  refine mr_aload_n ok (i := 2) d_F_read_60 rfl rfl ?_
  refine mr_aload_n ok (i := 0) d_F_read_61 rfl rfl ?_
  refine mr_iload_n ok (i := 1) d_F_read_62 rfl rfl ?_
  refine mr_bipush ok 6 d_F_read_63 (by decide) ?_
  refine sx_cVi ok hB [_, _] rfl cb_F_29 cv_F_cell (tm_5 hb) rfl rfl (c_F_cell hb (by exact hc)) rfl (Nat.le_of_ble_eq_true rfl) (by decide) ⟨Nat.le_refl _, Nat.le_refl _⟩ d_F_read_65 ?_
  refine cx_put ok hB rfl fw_F_53 (tm_7 hb) rfl rfl rfl d_F_read_68 ?_
  refine sx_vret ok en (Nat.le_refl _) (Nat.le_refl _) d_F_read_71 ?_
  exact ⟨rfl, (by first | rfl | simp only [s_F_read])⟩
end
section
/-! the class's own bounds: 0..200 messages, 0..8 waiting numbers a replica; kept by every method -/
def kI (N : Nat) (c : sh_S) : Prop := (∃ q : Nat, q ≤ 200 ∧ c 5 0 1 = nI q) ∧ ∀ i, i < N → ∃ q : Nat, q ≤ 8 ∧ c 3 i 1 = nI q
theorem kI_ite {N : Nat} {a b : sh_S} {p : Prop} {hp : Decidable p} (h1 : p → kI N a) (h2 : ¬ p → kI N b) : kI N (@ite _ p hp a b) := by
  by_cases h : p
  · rw [if_pos h]; exact h1 h
  · rw [if_neg h]; exact h2 h
theorem kI_set3 {N : Nat} {c : sh_S} {i : Nat} {v : Int32} (hc : kI N c) (h : ∃ q : Nat, q ≤ 8 ∧ v = nI q) : kI N (sU c 3 i 1 v) := by
  refine ⟨hc.1, fun i' hi' => ?_⟩
  show ∃ q : Nat, q ≤ 8 ∧ (bif Nat.beq i' i then v else c 3 i' 1) = nI q
  cases Nat.beq i' i with
  | true => exact h
  | false => exact hc.2 i' hi'
theorem kI_F_send {N L : Nat} {c : sh_S} {x1 x2 x3 x4 x5 x6 x7 : Int32} (hc : kI N c) : kI N (s_F_send N L c x1 x2 x3 x4 x5 x6 x7) := by
  unfold s_F_send
  dsimp only
  obtain ⟨⟨q, h1, h2⟩, h3⟩ := hc
  split
  next h =>
    refine ⟨⟨q + 1, ?_, ?_⟩, h3⟩
    · have h : c 5 0 1 < 200 := h
      rw [h2] at h
      have : q < 200 := (nI_ltI (by omega) (by decide)).mp h
      omega
    · show c 5 0 1 + 1 = nI (q + 1)
      rw [h2, nI_1]
  next h => exact ⟨⟨q, h1, h2⟩, h3⟩
theorem kI_F_remove {N L : Nat} {c : sh_S} {x : Int32} (hc : kI N c) : kI N (s_F_remove N L c x) := by
  unfold s_F_remove
  split
  · exact hc
  next h =>
    obtain ⟨q, j, h1, h2, h3, -⟩ := kf_has (N := N) (L := L) hc.1 h
    refine ⟨⟨q - 1, by omega, ?_⟩, hc.2⟩
    show c 5 0 1 - 1 = nI (q - 1)
    rw [h2, show (1 : Int32) = nI 1 from rfl, pk_sub (by omega)]
theorem kI_F_repeat {N L : Nat} {c : sh_S} {x : Int32} (hc : kI N c) : kI N (s_F_repeat N L c x) := by
  unfold s_F_repeat
  split
  · exact hc
  · split
    next h =>
      obtain ⟨⟨q, h1, h2⟩, h3⟩ := hc
      refine ⟨⟨q + 1, ?_, ?_⟩, h3⟩
      · have h : c 5 0 1 < 200 := h
        rw [h2] at h
        have : q < 200 := (nI_ltI (by omega) (by decide)).mp h
        omega
      · show c 5 0 1 + 1 = nI (q + 1)
        rw [h2, nI_1]
    · exact hc
theorem kI_F_read {N L : Nat} {c : sh_S} {x : Int32} (hc : kI N c) : kI N (s_F_read N L c x) := hc
theorem kI_L_add {N L : Nat} {c : sh_S} {i : Nat} {x : Int32} (hi : i < N) (hc : kI N c) : kI N (s_L_add N L c i x) := by
  unfold s_L_add
  split
  next h =>
    obtain ⟨q, h1, h2⟩ := hc.2 i hi
    have h : c 3 i 1 < 8 := h
    refine kI_set3 (c := sU c 4 i ((c 3 i 1).toNatClampNeg) x) hc ⟨q + 1, ?_, ?_⟩
    · rw [h2] at h
      have : q < 8 := (nI_ltI (by omega) (by decide)).mp h
      omega
    · show c 3 i 1 + 1 = nI (q + 1)
      rw [h2, nI_1]
  · exact hc
theorem kI_lsdrop {N L : Nat} {i : Nat} {x : Int32} : ∀ (n : Nat) (c : sh_S) (a b : Int32), kI N c → (∃ q k p : Nat, q ≤ 8 ∧ c 3 i 1 = nI q ∧ b = nI k ∧ a = nI p ∧ p ≤ k ∧ k ≤ q ∧ q + 1 ≤ k + n) → kI N (ls_L_drop N L n c i x a b) := by
  intro n
  induction n with
  | zero =>
    intro c a b hc _
    exact hc
  | succ n ih =>
    intro c a b hc hh
    obtain ⟨q, k, p, h1, h2, h3, h4, h5, h6, h7⟩ := hh
    unfold ls_L_drop
    split
    · exact kI_set3 hc ⟨p, by omega, h4⟩
    next h =>
      split
      · exact ih _ _ _ hc (kd_rec h1 h2 h3 h4 h5 h6 h7 h rfl (Or.inl rfl))
      · exact ih _ _ _ hc (kd_rec h1 h2 h3 h4 h5 h6 h7 h rfl (Or.inr rfl))
theorem kI_L_drop {N L : Nat} {c : sh_S} {i : Nat} {x : Int32} (hi : i < N) (hc : kI N c) : kI N (s_L_drop N L c i x) := kI_lsdrop 9 c 0 0 hc (kd_init (hc.2 i hi))
theorem kI_R_learn {N L : Nat} {c : sh_S} {i : Nat} {x : Int32} (hi : i < N) (hc : kI N c) : kI N (s_R_learn N L c i x) := by
  unfold s_R_learn
  dsimp only
  split
  · exact kI_L_drop hi hc
  · exact kI_L_drop hi hc
theorem kI_R_forget {N L : Nat} {c : sh_S} {i : Nat} (hi : i < N) (hc : kI N c) : kI N (s_R_forget N L c i) := kI_set3 (c := sU (s_R_becomeFollower N L c i) 0 i 11 ((s_R_becomeFollower N L c i) 0 i 4)) hc ⟨0, by omega, rfl⟩
theorem kI_R_keepGreatest {N L : Nat} {c : sh_S} {i : Nat} {x y : Int32} (hi : i < N) (hc : kI N c) : kI N (s_R_keepGreatest N L c i x y) := by
  unfold s_R_keepGreatest
  split
  · exact hc
  · exact hc
theorem narrow01 {v : Int32} (h : v = 0 ∨ v = 1) : narrow .boolean (.int v) = .int v := by
  rcases h with rfl | rfl <;> rfl
theorem zb_L_add (N L : Nat) (c : sh_S) (i : Nat) (x : Int32) : narrow .boolean (.int (v_L_add N L c i x)) = .int (v_L_add N L c i x) := narrow01 (by
  unfold v_L_add
  split
  · exact Or.inr rfl
  · exact Or.inl rfl)
theorem zb_F_repeat (N L : Nat) (c : sh_S) (x : Int32) : narrow .boolean (.int (v_F_repeat N L c x)) = .int (v_F_repeat N L c x) := narrow01 (by
  unfold v_F_repeat
  split
  · exact Or.inl rfl
  · split
    · exact Or.inr rfl
    · exact Or.inl rfl)
/-! find -/
abbrev kF (N : Nat) (x : Int32) : Prop := ¬ x < 0 ∧ ¬ nI N ≤ x
theorem kF_lt {N : Nat} {x : Int32} (h : kF N x) (hN : N ≤ 5) : x.toNatClampNeg < N ∧ vp_in x N := by
  obtain ⟨j, hj, e, -, e2, -⟩ := pk_mu h.1 h.2 (by omega)
  rw [e2]
  exact ⟨hj, by rw [e]; exact vp_in_nI hj (by omega)⟩
section FR
variable {X : mx_C} {Z : mx_Z} {own : String} {cc : ByteArray} {nL : Nat} {rm : Room} {n : Nat × Nat} {pc : Nat} {lv : List (Nat × Value)} {st : List Value} {B : sh_B} {N L : Nat} {cI cR cZ : ClassId} {S : sh_S}
theorem P_ald_row (ok : mx_ok X Z own cc nL rm) (hb : wB B Z N L cI cR cZ) {x : Int32} (hin : vp_in x N) (hd : decode cc pc = .ok (.aaload, 1)) (kk : sx B X n (pc + 1) lv (.ref (B.2.1 0 x.toNatClampNeg) :: st) S) : sx B X n pc lv (.int x :: .ref (B.2.1 9 0) :: st) S :=
  sx_aald ok hb.1 (tm_9 hb) (ty_1 hb) hin hd kk
end FR
set_option maxHeartbeats 4000000 in
set_option maxRecDepth 100000 in
theorem c_P_find {B : sh_B} {Z : mx_Z} {N L : Nat} {cI cR cZ : ClassId} (hb : wB B Z N L cI cR cZ) {S : sh_S} {x : Int32} : sc B Z y_P_find b_P_find 2 (some (.object "SlotPaxos$Replica")) (rmm 0 0) [.ref (B.2.1 8 0), .int x] S (qe (some (if kF N x then .ref (B.2.1 0 x.toNatClampNeg) else .null)) S) := by
  refine ct_of (by decide) (Nat.le_of_ble_eq_true rfl) (cat_of rfl) ?_
  intro X ok en _
  have hB := hb.1
  refine mr_lv [(0, .ref (B.2.1 8 0)), (1, .int x)] ⟨rfl, rfl, trivial⟩ ?_
  refine mr_iload_n ok (i := 1) d_P_find_0 rfl rfl ?_
  refine mr_if_lt ok 21 d_P_find_1 (by decide) (fun h1 => ?_) (fun h1 => ?_)
  · refine mr_null ok d_P_find_21 ?_
    refine sx_aret ok en (Nat.le_refl _) (Nat.le_refl _) (Or.inl rfl) d_P_find_22 ?_
    exact ⟨by rw [if_neg (fun z => z.1 h1)], rfl⟩
  · refine mr_iload_n ok (i := 1) d_P_find_4 rfl rfl ?_
    refine mr_aload_n ok (i := 0) d_P_find_5 rfl rfl ?_
    refine sx_getr ok hB fl_P_18 (tm_8 hb) rfl d_P_find_6 ?_
    refine mr_icmp_ge ok 21 d_P_find_9 (by decide) (fun h9 => ?_) (fun h9 => ?_)
    · refine mr_null ok d_P_find_21 ?_
      refine sx_aret ok en (Nat.le_refl _) (Nat.le_refl _) (Or.inl rfl) d_P_find_22 ?_
      exact ⟨by rw [if_neg (fun z => z.2 h9)], rfl⟩
    · refine mr_aload_n ok (i := 0) d_P_find_12 rfl rfl ?_
      refine sx_getr ok hB fl_P_27 (tm_8 hb) rfl d_P_find_13 ?_
      refine mr_iload_n ok (i := 1) d_P_find_16 rfl rfl ?_
      refine P_ald_row ok hb (kF_lt ⟨h1, h9⟩ hb.2.2.2.1.2).2 d_P_find_17 ?_
      refine mr_goto ok 22 d_P_find_18 (by decide) ?_
      refine sx_aret ok en (Nat.le_refl _) (Nat.le_refl _) (Or.inr ⟨_, rfl⟩) d_P_find_22 ?_
      exact ⟨by rw [if_pos ⟨h1, h9⟩], rfl⟩
theorem P_find_row {X : mx_C} {Z : mx_Z} {cc : ByteArray} {nL : Nat} {rm : Room} {n : Nat × Nat} {pc : Nat} {lv : List (Nat × Value)} {st : List Value} {B : sh_B} {N L : Nat} {cI cR cZ : ClassId} {S : sh_S} {x : Int32} (ok : mx_ok X Z R_P cc nL rm) (hb : wB B Z N L cI cR cZ) (hst : (st.map fun v => v.category).sum ≤ 8) (hR : 1 ≤ rm.frames ∧ 8 + (2 + 11) + 0 ≤ rm.locals) (hn : n.1 ≤ rm.cells ∧ n.2 ≤ rm.slots) {idx : Nat} (hd : decode cc pc = .ok (.invokevirtual idx, 3)) (cb : mx_cB R_P idx y_P_find b_P_find 2 (some (.object "SlotPaxos$Replica")) 1)
    (k1 : kF N x → x.toNatClampNeg < N → sx B X n (pc + 3) lv (.ref (B.2.1 0 x.toNatClampNeg) :: st) S) (k2 : ¬ kF N x → sx B X n (pc + 3) lv (.null :: st) S) : sx B X n pc lv (.int x :: .ref (B.2.1 8 0) :: st) S := by
  refine sx_cVi ok hb.1 [.int x] rfl cb cv_P_find (tm_8 hb) rfl rfl (c_P_find hb) rfl hst hR hn hd ?_
  by_cases h : kF N x
  · rw [if_pos h]
    exact k1 h (kF_lt h hb.2.2.2.1.2).1
  · rw [if_neg h]
    exact k2 h
theorem ks_rec {N k n : Nat} {a : Int32} (h1 : a = nI k) (h2 : k ≤ N) (h3 : N + 1 ≤ k + (n + 1)) (h : ¬ nI N ≤ a) (hN : N < 100) : ∃ k : Nat, a + 1 = nI k ∧ k ≤ N ∧ N + 1 ≤ k + n := by
  rw [h1] at h
  have : k < N := Nat.lt_of_not_le fun z => h (nI_le z (by omega))
  exact ⟨k + 1, by rw [h1, nI_1], by omega, by omega⟩

def v_J_bitCount (N L : Nat) (c : sh_S) (x : Int32) : Int32 := ((((((((x - ((((x : Int32).toUInt32 >>> ((1 : Int32).toUInt32 &&& Int32.toUInt32 31)).toInt32) &&& 1431655765)) &&& 858993459) + (((((x - ((((x : Int32).toUInt32 >>> ((1 : Int32).toUInt32 &&& Int32.toUInt32 31)).toInt32) &&& 1431655765)) : Int32).toUInt32 >>> ((2 : Int32).toUInt32 &&& Int32.toUInt32 31)).toInt32) &&& 858993459)) + ((((((x - ((((x : Int32).toUInt32 >>> ((1 : Int32).toUInt32 &&& Int32.toUInt32 31)).toInt32) &&& 1431655765)) &&& 858993459) + (((((x - ((((x : Int32).toUInt32 >>> ((1 : Int32).toUInt32 &&& Int32.toUInt32 31)).toInt32) &&& 1431655765)) : Int32).toUInt32 >>> ((2 : Int32).toUInt32 &&& Int32.toUInt32 31)).toInt32) &&& 858993459)) : Int32).toUInt32 >>> ((4 : Int32).toUInt32 &&& Int32.toUInt32 31)).toInt32)) &&& 252645135) + ((((((((x - ((((x : Int32).toUInt32 >>> ((1 : Int32).toUInt32 &&& Int32.toUInt32 31)).toInt32) &&& 1431655765)) &&& 858993459) + (((((x - ((((x : Int32).toUInt32 >>> ((1 : Int32).toUInt32 &&& Int32.toUInt32 31)).toInt32) &&& 1431655765)) : Int32).toUInt32 >>> ((2 : Int32).toUInt32 &&& Int32.toUInt32 31)).toInt32) &&& 858993459)) + ((((((x - ((((x : Int32).toUInt32 >>> ((1 : Int32).toUInt32 &&& Int32.toUInt32 31)).toInt32) &&& 1431655765)) &&& 858993459) + (((((x - ((((x : Int32).toUInt32 >>> ((1 : Int32).toUInt32 &&& Int32.toUInt32 31)).toInt32) &&& 1431655765)) : Int32).toUInt32 >>> ((2 : Int32).toUInt32 &&& Int32.toUInt32 31)).toInt32) &&& 858993459)) : Int32).toUInt32 >>> ((4 : Int32).toUInt32 &&& Int32.toUInt32 31)).toInt32)) &&& 252645135) : Int32).toUInt32 >>> ((8 : Int32).toUInt32 &&& Int32.toUInt32 31)).toInt32)) + (((((((((x - ((((x : Int32).toUInt32 >>> ((1 : Int32).toUInt32 &&& Int32.toUInt32 31)).toInt32) &&& 1431655765)) &&& 858993459) + (((((x - ((((x : Int32).toUInt32 >>> ((1 : Int32).toUInt32 &&& Int32.toUInt32 31)).toInt32) &&& 1431655765)) : Int32).toUInt32 >>> ((2 : Int32).toUInt32 &&& Int32.toUInt32 31)).toInt32) &&& 858993459)) + ((((((x - ((((x : Int32).toUInt32 >>> ((1 : Int32).toUInt32 &&& Int32.toUInt32 31)).toInt32) &&& 1431655765)) &&& 858993459) + (((((x - ((((x : Int32).toUInt32 >>> ((1 : Int32).toUInt32 &&& Int32.toUInt32 31)).toInt32) &&& 1431655765)) : Int32).toUInt32 >>> ((2 : Int32).toUInt32 &&& Int32.toUInt32 31)).toInt32) &&& 858993459)) : Int32).toUInt32 >>> ((4 : Int32).toUInt32 &&& Int32.toUInt32 31)).toInt32)) &&& 252645135) + ((((((((x - ((((x : Int32).toUInt32 >>> ((1 : Int32).toUInt32 &&& Int32.toUInt32 31)).toInt32) &&& 1431655765)) &&& 858993459) + (((((x - ((((x : Int32).toUInt32 >>> ((1 : Int32).toUInt32 &&& Int32.toUInt32 31)).toInt32) &&& 1431655765)) : Int32).toUInt32 >>> ((2 : Int32).toUInt32 &&& Int32.toUInt32 31)).toInt32) &&& 858993459)) + ((((((x - ((((x : Int32).toUInt32 >>> ((1 : Int32).toUInt32 &&& Int32.toUInt32 31)).toInt32) &&& 1431655765)) &&& 858993459) + (((((x - ((((x : Int32).toUInt32 >>> ((1 : Int32).toUInt32 &&& Int32.toUInt32 31)).toInt32) &&& 1431655765)) : Int32).toUInt32 >>> ((2 : Int32).toUInt32 &&& Int32.toUInt32 31)).toInt32) &&& 858993459)) : Int32).toUInt32 >>> ((4 : Int32).toUInt32 &&& Int32.toUInt32 31)).toInt32)) &&& 252645135) : Int32).toUInt32 >>> ((8 : Int32).toUInt32 &&& Int32.toUInt32 31)).toInt32)) : Int32).toUInt32 >>> ((16 : Int32).toUInt32 &&& Int32.toUInt32 31)).toInt32)) &&& 63)
set_option maxHeartbeats 4000000 in
set_option maxRecDepth 100000 in
theorem c_J_bitCount {B : sh_B} {Z : mx_Z} {N L : Nat} {cI cR cZ : ClassId} (hb : wB B Z N L cI cR cZ) {c r : sh_S} {x : Int32} : sc B Z y_J_bitCount b_J_bitCount 1 (some (.int)) (rmm 0 0) [.int x] (jn c r) (qe (some (.int (v_J_bitCount N L c x))) (jn c r)) := by
  refine ct_of (by decide) (Nat.le_of_ble_eq_true rfl) (cat_of rfl) ?_
  intro X ok en _
  have hB := hb.1
  refine mr_lv [(0, .int x)] ⟨rfl, trivial⟩ ?_
  refine mr_iload_n ok (i := 0) d_J_bitCount_0 rfl rfl ?_
  refine mr_iload_n ok (i := 0) d_J_bitCount_1 rfl rfl ?_
  refine mr_iconst ok 1 d_J_bitCount_2 (by decide) ?_
  refine mr_iushr ok d_J_bitCount_3 ?_
  refine mr_ldcw ok 1431655765 (mw 410 rfl rfl) d_J_bitCount_4 ?_
  refine mr_iand ok d_J_bitCount_7 ?_
  refine mr_isub ok d_J_bitCount_8 ?_
  refine mr_istore_n ok (i := 0) d_J_bitCount_9 rfl (by decide) ?_
  refine mr_iload_n ok (i := 0) d_J_bitCount_10 rfl rfl ?_
  refine mr_ldcw ok 858993459 (mw 411 rfl rfl) d_J_bitCount_11 ?_
  refine mr_iand ok d_J_bitCount_14 ?_
  refine mr_iload_n ok (i := 0) d_J_bitCount_15 rfl rfl ?_
  refine mr_iconst ok 2 d_J_bitCount_16 (by decide) ?_
  refine mr_iushr ok d_J_bitCount_17 ?_
  refine mr_ldcw ok 858993459 (mw 411 rfl rfl) d_J_bitCount_18 ?_
  refine mr_iand ok d_J_bitCount_21 ?_
  refine mr_iadd ok d_J_bitCount_22 ?_
  refine mr_istore_n ok (i := 0) d_J_bitCount_23 rfl (by decide) ?_
  refine mr_iload_n ok (i := 0) d_J_bitCount_24 rfl rfl ?_
  refine mr_iload_n ok (i := 0) d_J_bitCount_25 rfl rfl ?_
  refine mr_iconst ok 4 d_J_bitCount_26 (by decide) ?_
  refine mr_iushr ok d_J_bitCount_27 ?_
  refine mr_iadd ok d_J_bitCount_28 ?_
  refine mr_ldcw ok 252645135 (mw 412 rfl rfl) d_J_bitCount_29 ?_
  refine mr_iand ok d_J_bitCount_32 ?_
  refine mr_istore_n ok (i := 0) d_J_bitCount_33 rfl (by decide) ?_
  refine mr_iload_n ok (i := 0) d_J_bitCount_34 rfl rfl ?_
  refine mr_iload_n ok (i := 0) d_J_bitCount_35 rfl rfl ?_
  refine mr_bipush ok 8 d_J_bitCount_36 (by decide) ?_
  refine mr_iushr ok d_J_bitCount_38 ?_
  refine mr_iadd ok d_J_bitCount_39 ?_
  refine mr_istore_n ok (i := 0) d_J_bitCount_40 rfl (by decide) ?_
  refine mr_iload_n ok (i := 0) d_J_bitCount_41 rfl rfl ?_
  refine mr_iload_n ok (i := 0) d_J_bitCount_42 rfl rfl ?_
  refine mr_bipush ok 16 d_J_bitCount_43 (by decide) ?_
  refine mr_iushr ok d_J_bitCount_45 ?_
  refine mr_iadd ok d_J_bitCount_46 ?_
  refine mr_istore_n ok (i := 0) d_J_bitCount_47 rfl (by decide) ?_
  refine mr_iload_n ok (i := 0) d_J_bitCount_48 rfl rfl ?_
  refine mr_bipush ok 63 d_J_bitCount_49 (by decide) ?_
  refine mr_iand ok d_J_bitCount_51 ?_
  refine sx_iret ok en (Nat.le_refl _) (Nat.le_refl _) d_J_bitCount_52 ?_
  exact ⟨(by first | rfl | simp only [v_J_bitCount]), (by first | rfl | simp only [s_J_bitCount])⟩
def ls_P_sendToAll (N L : Nat) : Nat → sh_S → Int32 → Int32 → Int32 → Int32 → Int32 → Int32 → sh_S
  | 0, c, _, _, _, _, _, _ => c
  | n + 1, c, x1, x2, x3, x4, x5, a => (if (nI N) ≤ a then c else (if a = x2 then (ls_P_sendToAll N L n c x1 x2 x3 x4 x5 (a + 1)) else (let c1 := s_F_send N L c x1 x2 a x3 x4 x5 0; (ls_P_sendToAll N L n c1 x1 x2 x3 x4 x5 (a + 1)))))
set_option maxHeartbeats 4000000 in
set_option maxRecDepth 100000 in
theorem l_P_sendToAll {B : sh_B} {Z : mx_Z} {N L : Nat} {cI cR cZ : ClassId} (hb : wB B Z N L cI cR cZ) {r : sh_S} {x1 : Int32} {x2 : Int32} {x3 : Int32} {x4 : Int32} {x5 : Int32} {X : mx_C} {V0 : Option Value} {S0 : sh_S} (ok : mx_ok X Z R_P b_P_sendToAll 7 (rmm 1 28)) (en : sx_end B X none (rmm 1 28) (qe V0 S0)) (hV : V0 = none) : ∀ (n : Nat) (c : sh_S) (a : Int32), (kI N c ∧ ∃ k : Nat, a = nI k ∧ k ≤ N ∧ N + 1 ≤ k + n) → S0 = (jn (ls_P_sendToAll N L n c x1 x2 x3 x4 x5 a) r) → sx B X (0, 0) 3 [(0, .ref (B.2.1 8 0)), (1, .int x1), (2, .int x2), (3, .int x3), (4, .int x4), (5, .int x5), (6, .int a)] [] (jn c r) := by
  have hB := hb.1
  intro n
  induction n with
  | zero =>
    intro c a hh _
    obtain ⟨-, k, h1, h2, h3⟩ := hh
    omega
  | succ n ih =>
    intro c a hh hS
    obtain ⟨hc, k, h1, h2, h3⟩ := hh
    refine mr_iload ok d_P_sendToAll_3 rfl ?_
    refine mr_aload_n ok (i := 0) d_P_sendToAll_5 rfl rfl ?_
    refine sx_getr ok hB fl_P_18 (tm_8 hb) rfl d_P_sendToAll_6 ?_
    refine mr_icmp_ge ok 41 d_P_sendToAll_9 (by decide) (fun h9_0 => ?_) (fun h9_0 => ?_)
    · refine sx_vret ok en (Nat.le_refl _) (Nat.le_refl _) d_P_sendToAll_41 ?_
      exact ⟨(by rw [hV]), (by rw [hS]; simp only [ls_P_sendToAll, if_pos h9_0])⟩
    · refine mr_iload ok d_P_sendToAll_12 rfl ?_
      refine mr_iload_n ok (i := 2) d_P_sendToAll_14 rfl rfl ?_
      refine mr_icmp_eq ok 35 d_P_sendToAll_15 (by decide) (fun h15_1 => ?_) (fun h15_1 => ?_)
      · refine mr_iinc ok _ d_P_sendToAll_35 rfl rfl (by decide) ?_
        refine mr_goto ok 3 d_P_sendToAll_38 (by decide) ?_
        refine mr_lv [(0, .ref (B.2.1 8 0)), (1, .int x1), (2, .int x2), (3, .int x3), (4, .int x4), (5, .int x5), (6, .int (a + 1))] ⟨rfl, rfl, rfl, rfl, rfl, rfl, rfl, trivial⟩ ?_
        exact ih _ _ ⟨hc, ks_rec h1 h2 h3 ‹_› (by have := hb.2.2.2.1.2; omega)⟩ (hS.trans (by simp only [ls_P_sendToAll, if_neg h9_0, if_pos h15_1]))
      · refine mr_aload_n ok (i := 0) d_P_sendToAll_18 rfl rfl ?_
        refine sx_getr ok hB fl_P_37 (tm_8 hb) rfl d_P_sendToAll_19 ?_
        refine mr_iload_n ok (i := 1) d_P_sendToAll_22 rfl rfl ?_
        refine mr_iload_n ok (i := 2) d_P_sendToAll_23 rfl rfl ?_
        refine mr_iload ok d_P_sendToAll_24 rfl ?_
        refine mr_iload_n ok (i := 3) d_P_sendToAll_26 rfl rfl ?_
        refine mr_iload ok d_P_sendToAll_27 rfl ?_
        refine mr_iload ok d_P_sendToAll_29 rfl ?_
        refine mr_iconst ok 0 d_P_sendToAll_31 (by decide) ?_
        refine sx_cVv ok hB [_, _, _, _, _, _, _] rfl cb_P_281 cv_F_send (tm_5 hb) rfl rfl (c_F_send hb (by exact hc.1)) rfl (Nat.le_of_ble_eq_true rfl) (by decide) ⟨Nat.le_refl _, Nat.le_refl _⟩ d_P_sendToAll_32 ?_
        have hc : kI N (s_F_send N L c x1 x2 a x3 x4 x5 0) := kI_F_send (L := L) hc
        refine mr_iinc ok _ d_P_sendToAll_35 rfl rfl (by decide) ?_
        refine mr_goto ok 3 d_P_sendToAll_38 (by decide) ?_
        refine mr_lv [(0, .ref (B.2.1 8 0)), (1, .int x1), (2, .int x2), (3, .int x3), (4, .int x4), (5, .int x5), (6, .int (a + 1))] ⟨rfl, rfl, rfl, rfl, rfl, rfl, rfl, trivial⟩ ?_
        exact ih _ _ ⟨hc, ks_rec h1 h2 h3 ‹_› (by have := hb.2.2.2.1.2; omega)⟩ (hS.trans (by simp only [ls_P_sendToAll, if_neg h9_0, if_neg h15_1]))
def s_P_sendToAll (N L : Nat) (c : sh_S) (x1 : Int32) (x2 : Int32) (x3 : Int32) (x4 : Int32) (x5 : Int32) : sh_S := (ls_P_sendToAll N L 6 c x1 x2 x3 x4 x5 0)
set_option maxHeartbeats 4000000 in
set_option maxRecDepth 100000 in
theorem c_P_sendToAll {B : sh_B} {Z : mx_Z} {N L : Nat} {cI cR cZ : ClassId} (hb : wB B Z N L cI cR cZ) {c r : sh_S} {x1 : Int32} {x2 : Int32} {x3 : Int32} {x4 : Int32} {x5 : Int32} (hc : kI N c) : sc B Z y_P_sendToAll b_P_sendToAll 7 none (rmm 1 28) [.ref (B.2.1 8 0), .int x1, .int x2, .int x3, .int x4, .int x5] (jn c r) (qe none (jn (s_P_sendToAll N L c x1 x2 x3 x4 x5) r)) := by
  refine ct_of (by decide) (Nat.le_of_ble_eq_true rfl) (cat_of rfl) ?_
  intro X ok en _
  have hB := hb.1
  refine mr_lv [(0, .ref (B.2.1 8 0)), (1, .int x1), (2, .int x2), (3, .int x3), (4, .int x4), (5, .int x5)] ⟨rfl, rfl, rfl, rfl, rfl, rfl, trivial⟩ ?_
  refine mr_iconst ok 0 d_P_sendToAll_0 (by decide) ?_
  refine mr_istore ok d_P_sendToAll_1 (by decide) ?_
  refine mr_lv [(0, .ref (B.2.1 8 0)), (1, .int x1), (2, .int x2), (3, .int x3), (4, .int x4), (5, .int x5), (6, .int 0)] ⟨rfl, rfl, rfl, rfl, rfl, rfl, rfl, trivial⟩ ?_
  exact l_P_sendToAll hb ok en rfl 6 _ _ ⟨hc, 0, rfl, Nat.zero_le _, by have := hb.2.2.2.1.2; omega⟩ rfl
theorem kI_lsendToAll {N L : Nat} {x1 x2 x3 x4 x5 : Int32} : ∀ (n : Nat) (c : sh_S) (a : Int32), kI N c → kI N (ls_P_sendToAll N L n c x1 x2 x3 x4 x5 a) := by
  intro n
  induction n with
  | zero =>
    intro c a hc
    exact hc
  | succ n ih =>
    intro c a hc
    unfold ls_P_sendToAll
    split
    · exact hc
    · split
      · exact ih _ _ hc
      · exact ih _ _ (kI_F_send hc)
theorem kI_P_sendToAll {N L : Nat} {c : sh_S} {x1 x2 x3 x4 x5 : Int32} (hc : kI N c) : kI N (s_P_sendToAll N L c x1 x2 x3 x4 x5) := kI_lsendToAll 6 c 0 hc
theorem kn_ne {B : sh_B} {Z : mx_Z} {N L : Nat} {cI cR cZ : ClassId} (hb : wB B Z N L cI cR cZ) : ¬ nI N = 0 := nI_ne0 (by have := hb.2.2.2.1; omega) (by have := hb.2.2.2.1; omega)

def v_P_isMajority (N L : Nat) (c : sh_S) (x : Int32) : Int32 := (if (2 * (v_J_bitCount N L c x)) ≤ (nI N) then 0 else 1)
set_option maxHeartbeats 4000000 in
set_option maxRecDepth 100000 in
theorem c_P_isMajority {B : sh_B} {Z : mx_Z} {N L : Nat} {cI cR cZ : ClassId} (hb : wB B Z N L cI cR cZ) {c r : sh_S} {x : Int32} : sc B Z y_P_isMajority b_P_isMajority 2 (some (.boolean)) (rmm 1 20) [.ref (B.2.1 8 0), .int x] (jn c r) (qe (some (.int (v_P_isMajority N L c x))) (jn c r)) := by
  refine ct_of (by decide) (Nat.le_of_ble_eq_true rfl) (cat_of rfl) ?_
  intro X ok en _
  have hB := hb.1
  refine mr_lv [(0, .ref (B.2.1 8 0)), (1, .int x)] ⟨rfl, rfl, trivial⟩ ?_
  refine mr_iconst ok 2 d_P_isMajority_0 (by decide) ?_
  refine mr_iload_n ok (i := 1) d_P_isMajority_1 rfl rfl ?_
  refine sx_cSi ok [_] rfl cb_P_168 cs_J_bitCount (c_J_bitCount hb) rfl (Nat.le_of_ble_eq_true rfl) (by decide) ⟨Nat.le_refl _, Nat.le_refl _⟩ d_P_isMajority_2 ?_
  refine mr_imul ok d_P_isMajority_5 ?_
  refine mr_aload_n ok (i := 0) d_P_isMajority_6 rfl rfl ?_
  refine sx_getr ok hB fl_P_18 (tm_8 hb) rfl d_P_isMajority_7 ?_
  refine mr_icmp_le ok 17 d_P_isMajority_10 (by decide) (fun h10_0 => ?_) (fun h10_0 => ?_)
  · refine mr_iconst ok 0 d_P_isMajority_17 (by decide) ?_
    refine sx_zret rfl ok en (Nat.le_refl _) (Nat.le_refl _) d_P_isMajority_18 ?_
    exact ⟨(by first | rfl | simp only [v_P_isMajority, if_pos h10_0]), (by first | rfl | simp only [s_P_isMajority, if_pos h10_0])⟩
  · refine mr_iconst ok 1 d_P_isMajority_13 (by decide) ?_
    refine mr_goto ok 18 d_P_isMajority_14 (by decide) ?_
    refine sx_zret rfl ok en (Nat.le_refl _) (Nat.le_refl _) d_P_isMajority_18 ?_
    exact ⟨(by first | rfl | simp only [v_P_isMajority, if_neg h10_0]), (by first | rfl | simp only [s_P_isMajority, if_neg h10_0])⟩
def s_P_sendPrepare (N L : Nat) (c : sh_S) (i : Nat) : sh_S := (let c1 := s_P_sendToAll N L c 1 (nI i) (c 0 i 8) ((c 1 i 2) + 1) 0; c1)
theorem kI_P_sendPrepare {N L : Nat} {c : sh_S} {i : Nat} (hi : i < N) (hc : kI N c) : kI N (s_P_sendPrepare N L c i) := by
  unfold s_P_sendPrepare
  try dsimp only
  exact (kI_P_sendToAll (L := L) hc)
set_option maxHeartbeats 4000000 in
set_option maxRecDepth 100000 in
theorem c_P_sendPrepare {B : sh_B} {Z : mx_Z} {N L : Nat} {cI cR cZ : ClassId} (hb : wB B Z N L cI cR cZ) {c r : sh_S} {i : Nat} (hi : i < N) (hc : kI N c) : sc B Z y_P_sendPrepare b_P_sendPrepare 2 none (rmm 2 54) [.ref (B.2.1 8 0), .ref (B.2.1 0 i)] (jn c r) (qe none (jn (s_P_sendPrepare N L c i) r)) := by
  refine ct_of (by decide) (Nat.le_of_ble_eq_true rfl) (cat_of rfl) ?_
  intro X ok en _
  have hB := hb.1
  refine mr_lv [(0, .ref (B.2.1 8 0)), (1, .ref (B.2.1 0 i))] ⟨rfl, rfl, trivial⟩ ?_
  refine mr_aload_n ok (i := 0) d_P_sendPrepare_0 rfl rfl ?_
  refine mr_iconst ok 1 d_P_sendPrepare_1 (by decide) ?_
  refine mr_aload_n ok (i := 1) d_P_sendPrepare_2 rfl rfl ?_
  refine sx_getr ok hB fl_P_82 (tm_0 hb hi) rfl d_P_sendPrepare_3 ?_
  refine mr_aload_n ok (i := 1) d_P_sendPrepare_6 rfl rfl ?_
  refine cx_geti ok hB rfl fl_P_244 (tm_0 hb hi) rfl d_P_sendPrepare_7 ?_
  refine mr_aload_n ok (i := 1) d_P_sendPrepare_10 rfl rfl ?_
  refine sx_getr ok hB fl_P_117 (tm_0 hb hi) rfl d_P_sendPrepare_11 ?_
  refine cx_geti ok hB rfl fl_P_121 (tm_1 hb hi) rfl d_P_sendPrepare_14 ?_
  refine mr_iconst ok 1 d_P_sendPrepare_17 (by decide) ?_
  refine mr_iadd ok d_P_sendPrepare_18 ?_
  refine mr_iconst ok 0 d_P_sendPrepare_19 (by decide) ?_
  refine sx_cVv ok hB [_, _, _, _, _] rfl cb_P_285 cv_P_sendToAll (tm_8 hb) rfl rfl (c_P_sendToAll hb (by exact hc)) rfl (Nat.le_of_ble_eq_true rfl) (by decide) ⟨Nat.le_refl _, Nat.le_refl _⟩ d_P_sendPrepare_20 ?_
  have hc : kI N (s_P_sendToAll N L c 1 (nI i) (c 0 i 8) ((c 1 i 2) + 1) 0) := kI_P_sendToAll (L := L) hc
  refine sx_vret ok en (Nat.le_refl _) (Nat.le_refl _) d_P_sendPrepare_23 ?_
  exact ⟨rfl, (by first | rfl | simp only [s_P_sendPrepare])⟩
def s_P_sendAccept (N L : Nat) (c : sh_S) (i : Nat) : sh_S := (let c1 := s_P_sendToAll N L c 3 (nI i) (c 0 i 8) ((c 1 i 2) + 1) (c 0 i 10); c1)
theorem kI_P_sendAccept {N L : Nat} {c : sh_S} {i : Nat} (hi : i < N) (hc : kI N c) : kI N (s_P_sendAccept N L c i) := by
  unfold s_P_sendAccept
  try dsimp only
  exact (kI_P_sendToAll (L := L) hc)
set_option maxHeartbeats 4000000 in
set_option maxRecDepth 100000 in
theorem c_P_sendAccept {B : sh_B} {Z : mx_Z} {N L : Nat} {cI cR cZ : ClassId} (hb : wB B Z N L cI cR cZ) {c r : sh_S} {i : Nat} (hi : i < N) (hc : kI N c) : sc B Z y_P_sendAccept b_P_sendAccept 2 none (rmm 2 54) [.ref (B.2.1 8 0), .ref (B.2.1 0 i)] (jn c r) (qe none (jn (s_P_sendAccept N L c i) r)) := by
  refine ct_of (by decide) (Nat.le_of_ble_eq_true rfl) (cat_of rfl) ?_
  intro X ok en _
  have hB := hb.1
  refine mr_lv [(0, .ref (B.2.1 8 0)), (1, .ref (B.2.1 0 i))] ⟨rfl, rfl, trivial⟩ ?_
  refine mr_aload_n ok (i := 0) d_P_sendAccept_0 rfl rfl ?_
  refine mr_iconst ok 3 d_P_sendAccept_1 (by decide) ?_
  refine mr_aload_n ok (i := 1) d_P_sendAccept_2 rfl rfl ?_
  refine sx_getr ok hB fl_P_82 (tm_0 hb hi) rfl d_P_sendAccept_3 ?_
  refine mr_aload_n ok (i := 1) d_P_sendAccept_6 rfl rfl ?_
  refine cx_geti ok hB rfl fl_P_244 (tm_0 hb hi) rfl d_P_sendAccept_7 ?_
  refine mr_aload_n ok (i := 1) d_P_sendAccept_10 rfl rfl ?_
  refine sx_getr ok hB fl_P_117 (tm_0 hb hi) rfl d_P_sendAccept_11 ?_
  refine cx_geti ok hB rfl fl_P_121 (tm_1 hb hi) rfl d_P_sendAccept_14 ?_
  refine mr_iconst ok 1 d_P_sendAccept_17 (by decide) ?_
  refine mr_iadd ok d_P_sendAccept_18 ?_
  refine mr_aload_n ok (i := 1) d_P_sendAccept_19 rfl rfl ?_
  refine cx_geti ok hB rfl fl_P_173 (tm_0 hb hi) rfl d_P_sendAccept_20 ?_
  refine sx_cVv ok hB [_, _, _, _, _] rfl cb_P_285 cv_P_sendToAll (tm_8 hb) rfl rfl (c_P_sendToAll hb (by exact hc)) rfl (Nat.le_of_ble_eq_true rfl) (by decide) ⟨Nat.le_refl _, Nat.le_refl _⟩ d_P_sendAccept_23 ?_
  have hc : kI N (s_P_sendToAll N L c 3 (nI i) (c 0 i 8) ((c 1 i 2) + 1) (c 0 i 10)) := kI_P_sendToAll (L := L) hc
  refine sx_vret ok en (Nat.le_refl _) (Nat.le_refl _) d_P_sendAccept_26 ?_
  exact ⟨rfl, (by first | rfl | simp only [s_P_sendAccept])⟩
def s_P_ask (N L : Nat) (c : sh_S) (i : Nat) (x : Int32) : sh_S := (let c1 := s_F_send N L c 6 (nI i) x 0 ((c 1 i 2) + 1) 0 0; c1)
theorem kI_P_ask {N L : Nat} {c : sh_S} {i : Nat} {x : Int32} (hi : i < N) (hc : kI N c) : kI N (s_P_ask N L c i x) := by
  unfold s_P_ask
  try dsimp only
  exact (kI_F_send (L := L) hc)
set_option maxHeartbeats 4000000 in
set_option maxRecDepth 100000 in
theorem c_P_ask {B : sh_B} {Z : mx_Z} {N L : Nat} {cI cR cZ : ClassId} (hb : wB B Z N L cI cR cZ) {c r : sh_S} {i : Nat} (hi : i < N) {x : Int32} (hc : kI N c) : sc B Z y_P_ask b_P_ask 3 none (rmm 1 28) [.ref (B.2.1 8 0), .ref (B.2.1 0 i), .int x] (jn c r) (qe none (jn (s_P_ask N L c i x) r)) := by
  refine ct_of (by decide) (Nat.le_of_ble_eq_true rfl) (cat_of rfl) ?_
  intro X ok en _
  have hB := hb.1
  refine mr_lv [(0, .ref (B.2.1 8 0)), (1, .ref (B.2.1 0 i)), (2, .int x)] ⟨rfl, rfl, rfl, trivial⟩ ?_
  refine mr_aload_n ok (i := 0) d_P_ask_0 rfl rfl ?_
  refine sx_getr ok hB fl_P_37 (tm_8 hb) rfl d_P_ask_1 ?_
  refine mr_bipush ok 6 d_P_ask_4 (by decide) ?_
  refine mr_aload_n ok (i := 1) d_P_ask_6 rfl rfl ?_
  refine sx_getr ok hB fl_P_82 (tm_0 hb hi) rfl d_P_ask_7 ?_
  refine mr_iload_n ok (i := 2) d_P_ask_10 rfl rfl ?_
  refine mr_iconst ok 0 d_P_ask_11 (by decide) ?_
  refine mr_aload_n ok (i := 1) d_P_ask_12 rfl rfl ?_
  refine sx_getr ok hB fl_P_117 (tm_0 hb hi) rfl d_P_ask_13 ?_
  refine cx_geti ok hB rfl fl_P_121 (tm_1 hb hi) rfl d_P_ask_16 ?_
  refine mr_iconst ok 1 d_P_ask_19 (by decide) ?_
  refine mr_iadd ok d_P_ask_20 ?_
  refine mr_iconst ok 0 d_P_ask_21 (by decide) ?_
  refine mr_iconst ok 0 d_P_ask_22 (by decide) ?_
  refine sx_cVv ok hB [_, _, _, _, _, _, _] rfl cb_P_281 cv_F_send (tm_5 hb) rfl rfl (c_F_send hb (by exact hc.1)) rfl (Nat.le_of_ble_eq_true rfl) (by decide) ⟨Nat.le_refl _, Nat.le_refl _⟩ d_P_ask_23 ?_
  have hc : kI N (s_F_send N L c 6 (nI i) x 0 ((c 1 i 2) + 1) 0 0) := kI_F_send (L := L) hc
  refine sx_vret ok en (Nat.le_refl _) (Nat.le_refl _) d_P_ask_26 ?_
  exact ⟨rfl, (by first | rfl | simp only [s_P_ask])⟩
def s_P_deny (N L : Nat) (c : sh_S) (i : Nat) (x : Int32) : sh_S := (let c1 := s_F_send N L c 7 (nI i) x (c 0 i 4) 0 0 0; c1)
theorem kI_P_deny {N L : Nat} {c : sh_S} {i : Nat} {x : Int32} (hi : i < N) (hc : kI N c) : kI N (s_P_deny N L c i x) := by
  unfold s_P_deny
  try dsimp only
  exact (kI_F_send (L := L) hc)
set_option maxHeartbeats 4000000 in
set_option maxRecDepth 100000 in
theorem c_P_deny {B : sh_B} {Z : mx_Z} {N L : Nat} {cI cR cZ : ClassId} (hb : wB B Z N L cI cR cZ) {c r : sh_S} {i : Nat} (hi : i < N) {x : Int32} (hc : kI N c) : sc B Z y_P_deny b_P_deny 3 none (rmm 1 28) [.ref (B.2.1 8 0), .ref (B.2.1 0 i), .int x] (jn c r) (qe none (jn (s_P_deny N L c i x) r)) := by
  refine ct_of (by decide) (Nat.le_of_ble_eq_true rfl) (cat_of rfl) ?_
  intro X ok en _
  have hB := hb.1
  refine mr_lv [(0, .ref (B.2.1 8 0)), (1, .ref (B.2.1 0 i)), (2, .int x)] ⟨rfl, rfl, rfl, trivial⟩ ?_
  refine mr_aload_n ok (i := 0) d_P_deny_0 rfl rfl ?_
  refine sx_getr ok hB fl_P_37 (tm_8 hb) rfl d_P_deny_1 ?_
  refine mr_bipush ok 7 d_P_deny_4 (by decide) ?_
  refine mr_aload_n ok (i := 1) d_P_deny_6 rfl rfl ?_
  refine sx_getr ok hB fl_P_82 (tm_0 hb hi) rfl d_P_deny_7 ?_
  refine mr_iload_n ok (i := 2) d_P_deny_10 rfl rfl ?_
  refine mr_aload_n ok (i := 1) d_P_deny_11 rfl rfl ?_
  refine cx_geti ok hB rfl fl_P_133 (tm_0 hb hi) rfl d_P_deny_12 ?_
  refine mr_iconst ok 0 d_P_deny_15 (by decide) ?_
  refine mr_iconst ok 0 d_P_deny_16 (by decide) ?_
  refine mr_iconst ok 0 d_P_deny_17 (by decide) ?_
  refine sx_cVv ok hB [_, _, _, _, _, _, _] rfl cb_P_281 cv_F_send (tm_5 hb) rfl rfl (c_F_send hb (by exact hc.1)) rfl (Nat.le_of_ble_eq_true rfl) (by decide) ⟨Nat.le_refl _, Nat.le_refl _⟩ d_P_deny_18 ?_
  have hc : kI N (s_F_send N L c 7 (nI i) x (c 0 i 4) 0 0 0) := kI_F_send (L := L) hc
  refine sx_vret ok en (Nat.le_refl _) (Nat.le_refl _) d_P_deny_21 ?_
  exact ⟨rfl, (by first | rfl | simp only [s_P_deny])⟩
def s_P_help (N L : Nat) (c : sh_S) (i : Nat) (x : Int32) (y : Int32) : sh_S := (if (v_G_keeps N L c i y) = 0 then (let c1 := s_F_send N L c 8 (nI i) x 0 (c 1 i 2) (c 1 i 3) 0; c1) else (let c2 := s_F_send N L c 5 (nI i) x 0 y (v_G_numberOf N L c i y) 0; c2))
theorem kI_P_help {N L : Nat} {c : sh_S} {i : Nat} {x : Int32} {y : Int32} (hi : i < N) (hc : kI N c) : kI N (s_P_help N L c i x y) := by
  unfold s_P_help
  try dsimp only
  refine kI_ite (fun _ => ?_) (fun _ => ?_)
  · exact (kI_F_send (L := L) hc)
  · exact (kI_F_send (L := L) hc)
set_option maxHeartbeats 4000000 in
set_option maxRecDepth 100000 in
theorem c_P_help {B : sh_B} {Z : mx_Z} {N L : Nat} {cI cR cZ : ClassId} (hb : wB B Z N L cI cR cZ) {c r : sh_S} {i : Nat} (hi : i < N) {x : Int32} {y : Int32} (hc : kI N c) : sc B Z y_P_help b_P_help 4 none (rmm 4 84) [.ref (B.2.1 8 0), .ref (B.2.1 0 i), .int x, .int y] (jn c r) (qe none (jn (s_P_help N L c i x y) r)) := by
  refine ct_of (by decide) (Nat.le_of_ble_eq_true rfl) (cat_of rfl) ?_
  intro X ok en _
  have hB := hb.1
  refine mr_lv [(0, .ref (B.2.1 8 0)), (1, .ref (B.2.1 0 i)), (2, .int x), (3, .int y)] ⟨rfl, rfl, rfl, rfl, trivial⟩ ?_
  refine mr_aload_n ok (i := 1) d_P_help_0 rfl rfl ?_
  refine sx_getr ok hB fl_P_117 (tm_0 hb hi) rfl d_P_help_1 ?_
  refine mr_iload_n ok (i := 3) d_P_help_4 rfl rfl ?_
  refine sx_cVi ok hB [_] rfl cb_P_298 cv_G_keeps (tm_1 hb hi) rfl rfl (c_G_keeps hb hi) rfl (Nat.le_of_ble_eq_true rfl) (by decide) ⟨Nat.le_refl _, Nat.le_refl _⟩ d_P_help_5 ?_
  refine mr_if_eq ok 38 d_P_help_8 (by decide) (fun h8_0 => ?_) (fun h8_0 => ?_)
  · refine mr_aload_n ok (i := 0) d_P_help_38 rfl rfl ?_
    refine sx_getr ok hB fl_P_37 (tm_8 hb) rfl d_P_help_39 ?_
    refine mr_bipush ok 8 d_P_help_42 (by decide) ?_
    refine mr_aload_n ok (i := 1) d_P_help_44 rfl rfl ?_
    refine sx_getr ok hB fl_P_82 (tm_0 hb hi) rfl d_P_help_45 ?_
    refine mr_iload_n ok (i := 2) d_P_help_48 rfl rfl ?_
    refine mr_iconst ok 0 d_P_help_49 (by decide) ?_
    refine mr_aload_n ok (i := 1) d_P_help_50 rfl rfl ?_
    refine sx_getr ok hB fl_P_117 (tm_0 hb hi) rfl d_P_help_51 ?_
    refine cx_geti ok hB rfl fl_P_121 (tm_1 hb hi) rfl d_P_help_54 ?_
    refine mr_aload_n ok (i := 1) d_P_help_57 rfl rfl ?_
    refine sx_getr ok hB fl_P_117 (tm_0 hb hi) rfl d_P_help_58 ?_
    refine cx_geti ok hB rfl fl_P_126 (tm_1 hb hi) rfl d_P_help_61 ?_
    refine mr_iconst ok 0 d_P_help_64 (by decide) ?_
    refine sx_cVv ok hB [_, _, _, _, _, _, _] rfl cb_P_281 cv_F_send (tm_5 hb) rfl rfl (c_F_send hb (by exact hc.1)) rfl (Nat.le_of_ble_eq_true rfl) (by decide) ⟨Nat.le_refl _, Nat.le_refl _⟩ d_P_help_65 ?_
    have hc : kI N (s_F_send N L c 8 (nI i) x 0 (c 1 i 2) (c 1 i 3) 0) := kI_F_send (L := L) hc
    refine sx_vret ok en (Nat.le_refl _) (Nat.le_refl _) d_P_help_68 ?_
    exact ⟨rfl, (by first | rfl | simp only [s_P_help, if_pos h8_0])⟩
  · refine mr_aload_n ok (i := 0) d_P_help_11 rfl rfl ?_
    refine sx_getr ok hB fl_P_37 (tm_8 hb) rfl d_P_help_12 ?_
    refine mr_iconst ok 5 d_P_help_15 (by decide) ?_
    refine mr_aload_n ok (i := 1) d_P_help_16 rfl rfl ?_
    refine sx_getr ok hB fl_P_82 (tm_0 hb hi) rfl d_P_help_17 ?_
    refine mr_iload_n ok (i := 2) d_P_help_20 rfl rfl ?_
    refine mr_iconst ok 0 d_P_help_21 (by decide) ?_
    refine mr_iload_n ok (i := 3) d_P_help_22 rfl rfl ?_
    refine mr_aload_n ok (i := 1) d_P_help_23 rfl rfl ?_
    refine sx_getr ok hB fl_P_117 (tm_0 hb hi) rfl d_P_help_24 ?_
    refine mr_iload_n ok (i := 3) d_P_help_27 rfl rfl ?_
    refine sx_cVi ok hB [_] rfl cb_P_150 cv_G_numberOf (tm_1 hb hi) rfl rfl (c_G_numberOf hb hi) rfl (Nat.le_of_ble_eq_true rfl) (by decide) ⟨Nat.le_refl _, Nat.le_refl _⟩ d_P_help_28 ?_
    refine mr_iconst ok 0 d_P_help_31 (by decide) ?_
    refine sx_cVv ok hB [_, _, _, _, _, _, _] rfl cb_P_281 cv_F_send (tm_5 hb) rfl rfl (c_F_send hb (by exact hc.1)) rfl (Nat.le_of_ble_eq_true rfl) (by decide) ⟨Nat.le_refl _, Nat.le_refl _⟩ d_P_help_32 ?_
    have hc : kI N (s_F_send N L c 5 (nI i) x 0 y (v_G_numberOf N L c i y) 0) := kI_F_send (L := L) hc
    refine mr_goto ok 68 d_P_help_35 (by decide) ?_
    refine sx_vret ok en (Nat.le_refl _) (Nat.le_refl _) d_P_help_68 ?_
    exact ⟨rfl, (by first | rfl | simp only [s_P_help, if_neg h8_0])⟩
def s_P_sendPromise (N L : Nat) (c : sh_S) (i : Nat) : sh_S := (if (v_R_isNext N L c i (c 7 0 4)) = 0 then (let c1 := s_F_send N L c 2 (nI i) (c 7 0 1) (c 7 0 3) (c 7 0 4) 0 0; c1) else (if (v_R_hasAccepted N L c i) = 0 then (let c2 := s_F_send N L c 2 (nI i) (c 7 0 1) (c 7 0 3) (c 7 0 4) 0 0; c2) else (let c3 := s_F_send N L c 2 (nI i) (c 7 0 1) (c 7 0 3) (c 7 0 4) (c 0 i 6) (c 0 i 5); c3)))
theorem kI_P_sendPromise {N L : Nat} {c : sh_S} {i : Nat} (hi : i < N) (hc : kI N c) : kI N (s_P_sendPromise N L c i) := by
  unfold s_P_sendPromise
  try dsimp only
  refine kI_ite (fun _ => ?_) (fun _ => ?_)
  · exact (kI_F_send (L := L) hc)
  · refine kI_ite (fun _ => ?_) (fun _ => ?_)
    · exact (kI_F_send (L := L) hc)
    · exact (kI_F_send (L := L) hc)
set_option maxHeartbeats 4000000 in
set_option maxRecDepth 100000 in
theorem c_P_sendPromise {B : sh_B} {Z : mx_Z} {N L : Nat} {cI cR cZ : ClassId} (hb : wB B Z N L cI cR cZ) {c r : sh_S} {i : Nat} (hi : i < N) (hc : kI N c) : sc B Z y_P_sendPromise b_P_sendPromise 6 none (rmm 1 28) [.ref (B.2.1 8 0), .ref (B.2.1 0 i), .ref (B.2.1 7 0)] (jn c r) (qe none (jn (s_P_sendPromise N L c i) r)) := by
  refine ct_of (by decide) (Nat.le_of_ble_eq_true rfl) (cat_of rfl) ?_
  intro X ok en _
  have hB := hb.1
  refine mr_lv [(0, .ref (B.2.1 8 0)), (1, .ref (B.2.1 0 i)), (2, .ref (B.2.1 7 0))] ⟨rfl, rfl, rfl, trivial⟩ ?_
  refine mr_aload_n ok (i := 1) d_P_sendPromise_0 rfl rfl ?_
  refine mr_aload_n ok (i := 2) d_P_sendPromise_1 rfl rfl ?_
  refine cx_geti ok hB rfl fl_P_225 (tm_7 hb) rfl d_P_sendPromise_2 ?_
  refine sx_cVi ok hB [_] rfl cb_P_245 cv_R_isNext (tm_0 hb hi) rfl rfl (c_R_isNext hb hi) rfl (Nat.le_of_ble_eq_true rfl) (by decide) ⟨Nat.le_refl _, Nat.le_refl _⟩ d_P_sendPromise_5 ?_
  refine mr_if_eq ok 22 d_P_sendPromise_8 (by decide) (fun h8_0 => ?_) (fun h8_0 => ?_)
  · refine mr_iconst ok 0 d_P_sendPromise_22 (by decide) ?_
    refine mr_istore_n ok (i := 3) d_P_sendPromise_23 rfl (by decide) ?_
    refine mr_iload_n ok (i := 3) d_P_sendPromise_24 rfl rfl ?_
    refine mr_if_eq ok 35 d_P_sendPromise_25 (by decide) (fun _ => ?_) (fun h => absurd h (by decide))
    refine mr_iconst ok 0 d_P_sendPromise_35 (by decide) ?_
    refine mr_istore ok d_P_sendPromise_36 (by decide) ?_
    refine mr_iload_n ok (i := 3) d_P_sendPromise_38 rfl rfl ?_
    refine mr_if_eq ok 49 d_P_sendPromise_39 (by decide) (fun _ => ?_) (fun h => absurd h (by decide))
    refine mr_iconst ok 0 d_P_sendPromise_49 (by decide) ?_
    refine mr_istore ok d_P_sendPromise_50 (by decide) ?_
    refine mr_aload_n ok (i := 0) d_P_sendPromise_52 rfl rfl ?_
    refine sx_getr ok hB fl_P_37 (tm_8 hb) rfl d_P_sendPromise_53 ?_
    refine mr_iconst ok 2 d_P_sendPromise_56 (by decide) ?_
    refine mr_aload_n ok (i := 1) d_P_sendPromise_57 rfl rfl ?_
    refine sx_getr ok hB fl_P_82 (tm_0 hb hi) rfl d_P_sendPromise_58 ?_
    refine mr_aload_n ok (i := 2) d_P_sendPromise_61 rfl rfl ?_
    refine cx_geti ok hB rfl fl_P_228 (tm_7 hb) rfl d_P_sendPromise_62 ?_
    refine mr_aload_n ok (i := 2) d_P_sendPromise_65 rfl rfl ?_
    refine cx_geti ok hB rfl fl_P_198 (tm_7 hb) rfl d_P_sendPromise_66 ?_
    refine mr_aload_n ok (i := 2) d_P_sendPromise_69 rfl rfl ?_
    refine cx_geti ok hB rfl fl_P_225 (tm_7 hb) rfl d_P_sendPromise_70 ?_
    refine mr_iload ok d_P_sendPromise_73 rfl ?_
    refine mr_iload ok d_P_sendPromise_75 rfl ?_
    refine sx_cVv ok hB [_, _, _, _, _, _, _] rfl cb_P_281 cv_F_send (tm_5 hb) rfl rfl (c_F_send hb (by exact hc.1)) rfl (Nat.le_of_ble_eq_true rfl) (by decide) ⟨Nat.le_refl _, Nat.le_refl _⟩ d_P_sendPromise_77 ?_
    have hc : kI N (s_F_send N L c 2 (nI i) (c 7 0 1) (c 7 0 3) (c 7 0 4) 0 0) := kI_F_send (L := L) hc
    refine sx_vret ok en (Nat.le_refl _) (Nat.le_refl _) d_P_sendPromise_80 ?_
    exact ⟨rfl, (by first | rfl | simp only [s_P_sendPromise, if_pos h8_0])⟩
  · refine mr_aload_n ok (i := 1) d_P_sendPromise_11 rfl rfl ?_
    refine sx_cVi ok hB [] rfl cb_P_136 cv_R_hasAccepted (tm_0 hb hi) rfl rfl (c_R_hasAccepted hb hi) rfl (Nat.le_of_ble_eq_true rfl) (by decide) ⟨Nat.le_refl _, Nat.le_refl _⟩ d_P_sendPromise_12 ?_
    refine mr_if_eq ok 22 d_P_sendPromise_15 (by decide) (fun h15_1 => ?_) (fun h15_1 => ?_)
    · refine mr_iconst ok 0 d_P_sendPromise_22 (by decide) ?_
      refine mr_istore_n ok (i := 3) d_P_sendPromise_23 rfl (by decide) ?_
      refine mr_iload_n ok (i := 3) d_P_sendPromise_24 rfl rfl ?_
      refine mr_if_eq ok 35 d_P_sendPromise_25 (by decide) (fun _ => ?_) (fun h => absurd h (by decide))
      refine mr_iconst ok 0 d_P_sendPromise_35 (by decide) ?_
      refine mr_istore ok d_P_sendPromise_36 (by decide) ?_
      refine mr_iload_n ok (i := 3) d_P_sendPromise_38 rfl rfl ?_
      refine mr_if_eq ok 49 d_P_sendPromise_39 (by decide) (fun _ => ?_) (fun h => absurd h (by decide))
      refine mr_iconst ok 0 d_P_sendPromise_49 (by decide) ?_
      refine mr_istore ok d_P_sendPromise_50 (by decide) ?_
      refine mr_aload_n ok (i := 0) d_P_sendPromise_52 rfl rfl ?_
      refine sx_getr ok hB fl_P_37 (tm_8 hb) rfl d_P_sendPromise_53 ?_
      refine mr_iconst ok 2 d_P_sendPromise_56 (by decide) ?_
      refine mr_aload_n ok (i := 1) d_P_sendPromise_57 rfl rfl ?_
      refine sx_getr ok hB fl_P_82 (tm_0 hb hi) rfl d_P_sendPromise_58 ?_
      refine mr_aload_n ok (i := 2) d_P_sendPromise_61 rfl rfl ?_
      refine cx_geti ok hB rfl fl_P_228 (tm_7 hb) rfl d_P_sendPromise_62 ?_
      refine mr_aload_n ok (i := 2) d_P_sendPromise_65 rfl rfl ?_
      refine cx_geti ok hB rfl fl_P_198 (tm_7 hb) rfl d_P_sendPromise_66 ?_
      refine mr_aload_n ok (i := 2) d_P_sendPromise_69 rfl rfl ?_
      refine cx_geti ok hB rfl fl_P_225 (tm_7 hb) rfl d_P_sendPromise_70 ?_
      refine mr_iload ok d_P_sendPromise_73 rfl ?_
      refine mr_iload ok d_P_sendPromise_75 rfl ?_
      refine sx_cVv ok hB [_, _, _, _, _, _, _] rfl cb_P_281 cv_F_send (tm_5 hb) rfl rfl (c_F_send hb (by exact hc.1)) rfl (Nat.le_of_ble_eq_true rfl) (by decide) ⟨Nat.le_refl _, Nat.le_refl _⟩ d_P_sendPromise_77 ?_
      have hc : kI N (s_F_send N L c 2 (nI i) (c 7 0 1) (c 7 0 3) (c 7 0 4) 0 0) := kI_F_send (L := L) hc
      refine sx_vret ok en (Nat.le_refl _) (Nat.le_refl _) d_P_sendPromise_80 ?_
      exact ⟨rfl, (by first | rfl | simp only [s_P_sendPromise, if_neg h8_0, if_pos h15_1])⟩
    · refine mr_iconst ok 1 d_P_sendPromise_18 (by decide) ?_
      refine mr_goto ok 23 d_P_sendPromise_19 (by decide) ?_
      refine mr_istore_n ok (i := 3) d_P_sendPromise_23 rfl (by decide) ?_
      refine mr_iload_n ok (i := 3) d_P_sendPromise_24 rfl rfl ?_
      refine mr_if_eq ok 35 d_P_sendPromise_25 (by decide) (fun h => absurd h (by decide)) (fun _ => ?_)
      refine mr_aload_n ok (i := 1) d_P_sendPromise_28 rfl rfl ?_
      refine cx_geti ok hB rfl fl_P_143 (tm_0 hb hi) rfl d_P_sendPromise_29 ?_
      refine mr_goto ok 36 d_P_sendPromise_32 (by decide) ?_
      refine mr_istore ok d_P_sendPromise_36 (by decide) ?_
      refine mr_iload_n ok (i := 3) d_P_sendPromise_38 rfl rfl ?_
      refine mr_if_eq ok 49 d_P_sendPromise_39 (by decide) (fun h => absurd h (by decide)) (fun _ => ?_)
      refine mr_aload_n ok (i := 1) d_P_sendPromise_42 rfl rfl ?_
      refine cx_geti ok hB rfl fl_P_140 (tm_0 hb hi) rfl d_P_sendPromise_43 ?_
      refine mr_goto ok 50 d_P_sendPromise_46 (by decide) ?_
      refine mr_istore ok d_P_sendPromise_50 (by decide) ?_
      refine mr_aload_n ok (i := 0) d_P_sendPromise_52 rfl rfl ?_
      refine sx_getr ok hB fl_P_37 (tm_8 hb) rfl d_P_sendPromise_53 ?_
      refine mr_iconst ok 2 d_P_sendPromise_56 (by decide) ?_
      refine mr_aload_n ok (i := 1) d_P_sendPromise_57 rfl rfl ?_
      refine sx_getr ok hB fl_P_82 (tm_0 hb hi) rfl d_P_sendPromise_58 ?_
      refine mr_aload_n ok (i := 2) d_P_sendPromise_61 rfl rfl ?_
      refine cx_geti ok hB rfl fl_P_228 (tm_7 hb) rfl d_P_sendPromise_62 ?_
      refine mr_aload_n ok (i := 2) d_P_sendPromise_65 rfl rfl ?_
      refine cx_geti ok hB rfl fl_P_198 (tm_7 hb) rfl d_P_sendPromise_66 ?_
      refine mr_aload_n ok (i := 2) d_P_sendPromise_69 rfl rfl ?_
      refine cx_geti ok hB rfl fl_P_225 (tm_7 hb) rfl d_P_sendPromise_70 ?_
      refine mr_iload ok d_P_sendPromise_73 rfl ?_
      refine mr_iload ok d_P_sendPromise_75 rfl ?_
      refine sx_cVv ok hB [_, _, _, _, _, _, _] rfl cb_P_281 cv_F_send (tm_5 hb) rfl rfl (c_F_send hb (by exact hc.1)) rfl (Nat.le_of_ble_eq_true rfl) (by decide) ⟨Nat.le_refl _, Nat.le_refl _⟩ d_P_sendPromise_77 ?_
      have hc : kI N (s_F_send N L c 2 (nI i) (c 7 0 1) (c 7 0 3) (c 7 0 4) (c 0 i 6) (c 0 i 5)) := kI_F_send (L := L) hc
      refine sx_vret ok en (Nat.le_refl _) (Nat.le_refl _) d_P_sendPromise_80 ?_
      exact ⟨rfl, (by first | rfl | simp only [s_P_sendPromise, if_neg h8_0, if_neg h15_1])⟩
def v_P_nextBallot (N L : Nat) (c : sh_S) (i : Nat) : Int32 := (if (((if (c 0 i 4) < (c 0 i 11) then (c 0 i 11) else (c 0 i 4)) - ((if (c 0 i 4) < (c 0 i 11) then (c 0 i 11) else (c 0 i 4)) - (if (c 0 i 4) < (c 0 i 11) then (c 0 i 11) else (c 0 i 4)) / (nI N) * (nI N))) + (nI i)) ≤ (if (c 0 i 4) < (c 0 i 11) then (c 0 i 11) else (c 0 i 4)) then ((((if (c 0 i 4) < (c 0 i 11) then (c 0 i 11) else (c 0 i 4)) - ((if (c 0 i 4) < (c 0 i 11) then (c 0 i 11) else (c 0 i 4)) - (if (c 0 i 4) < (c 0 i 11) then (c 0 i 11) else (c 0 i 4)) / (nI N) * (nI N))) + (nI i)) + (nI N)) else (((if (c 0 i 4) < (c 0 i 11) then (c 0 i 11) else (c 0 i 4)) - ((if (c 0 i 4) < (c 0 i 11) then (c 0 i 11) else (c 0 i 4)) - (if (c 0 i 4) < (c 0 i 11) then (c 0 i 11) else (c 0 i 4)) / (nI N) * (nI N))) + (nI i)))
set_option maxHeartbeats 4000000 in
set_option maxRecDepth 100000 in
theorem c_P_nextBallot {B : sh_B} {Z : mx_Z} {N L : Nat} {cI cR cZ : ClassId} (hb : wB B Z N L cI cR cZ) {c r : sh_S} {i : Nat} (hi : i < N) : sc B Z y_P_nextBallot b_P_nextBallot 4 (some (.int)) (rmm 1 22) [.ref (B.2.1 8 0), .ref (B.2.1 0 i)] (jn c r) (qe (some (.int (v_P_nextBallot N L c i))) (jn c r)) := by
  refine ct_of (by decide) (Nat.le_of_ble_eq_true rfl) (cat_of rfl) ?_
  intro X ok en _
  have hB := hb.1
  refine mr_lv [(0, .ref (B.2.1 8 0)), (1, .ref (B.2.1 0 i))] ⟨rfl, rfl, trivial⟩ ?_
  refine mr_aload_n ok (i := 1) d_P_nextBallot_0 rfl rfl ?_
  refine cx_geti ok hB rfl fl_P_133 (tm_0 hb hi) rfl d_P_nextBallot_1 ?_
  refine mr_aload_n ok (i := 1) d_P_nextBallot_4 rfl rfl ?_
  refine cx_geti ok hB rfl fl_P_189 (tm_0 hb hi) rfl d_P_nextBallot_5 ?_
  refine mr_max ok (mw 64 rfl rfl) (mw 65 rfl rfl) (mw 44 rfl rfl) (mw 66 rfl rfl) (by decide) (Nat.le_of_ble_eq_true rfl) (Nat.le_refl _) (Nat.le_refl _) d_P_nextBallot_8 ?_
  refine mr_istore_n ok (i := 2) d_P_nextBallot_11 rfl (by decide) ?_
  refine mr_iload_n ok (i := 2) d_P_nextBallot_12 rfl rfl ?_
  refine mr_iload_n ok (i := 2) d_P_nextBallot_13 rfl rfl ?_
  refine mr_aload_n ok (i := 0) d_P_nextBallot_14 rfl rfl ?_
  refine sx_getr ok hB fl_P_18 (tm_8 hb) rfl d_P_nextBallot_15 ?_
  refine mr_irem ok d_P_nextBallot_18 (kn_ne hb) ?_
  refine mr_isub ok d_P_nextBallot_19 ?_
  refine mr_aload_n ok (i := 1) d_P_nextBallot_20 rfl rfl ?_
  refine sx_getr ok hB fl_P_82 (tm_0 hb hi) rfl d_P_nextBallot_21 ?_
  refine mr_iadd ok d_P_nextBallot_24 ?_
  refine mr_istore_n ok (i := 3) d_P_nextBallot_25 rfl (by decide) ?_
  refine mr_iload_n ok (i := 3) d_P_nextBallot_26 rfl rfl ?_
  refine mr_iload_n ok (i := 2) d_P_nextBallot_27 rfl rfl ?_
  refine mr_icmp_le ok 35 d_P_nextBallot_28 (by decide) (fun h28_0 => ?_) (fun h28_0 => ?_)
  · refine mr_iload_n ok (i := 3) d_P_nextBallot_35 rfl rfl ?_
    refine mr_aload_n ok (i := 0) d_P_nextBallot_36 rfl rfl ?_
    refine sx_getr ok hB fl_P_18 (tm_8 hb) rfl d_P_nextBallot_37 ?_
    refine mr_iadd ok d_P_nextBallot_40 ?_
    refine sx_iret ok en (Nat.le_refl _) (Nat.le_refl _) d_P_nextBallot_41 ?_
    exact ⟨(by first | rfl | simp only [v_P_nextBallot, if_pos h28_0]), (by first | rfl | simp only [s_P_nextBallot, if_pos h28_0])⟩
  · refine mr_iload_n ok (i := 3) d_P_nextBallot_31 rfl rfl ?_
    refine mr_goto ok 41 d_P_nextBallot_32 (by decide) ?_
    refine sx_iret ok en (Nat.le_refl _) (Nat.le_refl _) d_P_nextBallot_41 ?_
    exact ⟨(by first | rfl | simp only [v_P_nextBallot, if_neg h28_0]), (by first | rfl | simp only [s_P_nextBallot, if_neg h28_0])⟩
def s_P_campaign (N L : Nat) (c : sh_S) (i : Nat) : sh_S := (let c1 := s_R_becomeCandidate N L c i (v_P_nextBallot N L c i); (let c2 := s_P_sendPrepare N L c1 i; c2))
theorem kI_P_campaign {N L : Nat} {c : sh_S} {i : Nat} (hi : i < N) (hc : kI N c) : kI N (s_P_campaign N L c i) := by
  unfold s_P_campaign
  try dsimp only
  exact (kI_P_sendPrepare (L := L) hi hc)
set_option maxHeartbeats 4000000 in
set_option maxRecDepth 100000 in
theorem c_P_campaign {B : sh_B} {Z : mx_Z} {N L : Nat} {cI cR cZ : ClassId} (hb : wB B Z N L cI cR cZ) {c r : sh_S} {i : Nat} (hi : i < N) (hc : kI N c) : sc B Z y_P_campaign b_P_campaign 2 none (rmm 3 75) [.ref (B.2.1 8 0), .ref (B.2.1 0 i)] (jn c r) (qe none (jn (s_P_campaign N L c i) r)) := by
  refine ct_of (by decide) (Nat.le_of_ble_eq_true rfl) (cat_of rfl) ?_
  intro X ok en _
  have hB := hb.1
  refine mr_lv [(0, .ref (B.2.1 8 0)), (1, .ref (B.2.1 0 i))] ⟨rfl, rfl, trivial⟩ ?_
  refine mr_aload_n ok (i := 1) d_P_campaign_0 rfl rfl ?_
  refine mr_aload_n ok (i := 0) d_P_campaign_1 rfl rfl ?_
  refine mr_aload_n ok (i := 1) d_P_campaign_2 rfl rfl ?_
  refine sx_cVi ok hB [_] rfl cb_P_182 cv_P_nextBallot (tm_8 hb) rfl rfl (c_P_nextBallot hb hi) rfl (Nat.le_of_ble_eq_true rfl) (by decide) ⟨Nat.le_refl _, Nat.le_refl _⟩ d_P_campaign_3 ?_
  refine sx_cVv ok hB [_] rfl cb_P_186 cv_R_becomeCandidate (tm_0 hb hi) rfl rfl (c_R_becomeCandidate hb hi) rfl (Nat.le_of_ble_eq_true rfl) (by decide) ⟨Nat.le_refl _, Nat.le_refl _⟩ d_P_campaign_6 ?_
  refine mr_aload_n ok (i := 0) d_P_campaign_9 rfl rfl ?_
  refine mr_aload_n ok (i := 1) d_P_campaign_10 rfl rfl ?_
  refine sx_cVv ok hB [_] rfl cb_P_73 cv_P_sendPrepare (tm_8 hb) rfl rfl (c_P_sendPrepare hb hi (by exact hc)) rfl (Nat.le_of_ble_eq_true rfl) (by decide) ⟨Nat.le_refl _, Nat.le_refl _⟩ d_P_campaign_11 ?_
  have hc : kI N (s_P_sendPrepare N L (s_R_becomeCandidate N L c i (v_P_nextBallot N L c i)) i) := kI_P_sendPrepare (L := L) hi hc
  refine sx_vret ok en (Nat.le_refl _) (Nat.le_refl _) d_P_campaign_14 ?_
  exact ⟨rfl, (by first | rfl | simp only [s_P_campaign])⟩
def s_P_proposeNumber (N L : Nat) (c : sh_S) (i : Nat) (x : Int32) : sh_S := (let c1 := s_R_proposeAndAccept N L c i x; (let c2 := s_P_sendAccept N L c1 i; c2))
theorem kI_P_proposeNumber {N L : Nat} {c : sh_S} {i : Nat} {x : Int32} (hi : i < N) (hc : kI N c) : kI N (s_P_proposeNumber N L c i x) := by
  unfold s_P_proposeNumber
  try dsimp only
  exact (kI_P_sendAccept (L := L) hi hc)
set_option maxHeartbeats 4000000 in
set_option maxRecDepth 100000 in
theorem c_P_proposeNumber {B : sh_B} {Z : mx_Z} {N L : Nat} {cI cR cZ : ClassId} (hb : wB B Z N L cI cR cZ) {c r : sh_S} {i : Nat} (hi : i < N) {x : Int32} (hc : kI N c) : sc B Z y_P_proposeNumber b_P_proposeNumber 3 none (rmm 3 75) [.ref (B.2.1 8 0), .ref (B.2.1 0 i), .int x] (jn c r) (qe none (jn (s_P_proposeNumber N L c i x) r)) := by
  refine ct_of (by decide) (Nat.le_of_ble_eq_true rfl) (cat_of rfl) ?_
  intro X ok en _
  have hB := hb.1
  refine mr_lv [(0, .ref (B.2.1 8 0)), (1, .ref (B.2.1 0 i)), (2, .int x)] ⟨rfl, rfl, rfl, trivial⟩ ?_
  refine mr_aload_n ok (i := 1) d_P_proposeNumber_0 rfl rfl ?_
  refine mr_iload_n ok (i := 2) d_P_proposeNumber_1 rfl rfl ?_
  refine sx_cVv ok hB [_] rfl cb_P_195 cv_R_proposeAndAccept (tm_0 hb hi) rfl rfl (c_R_proposeAndAccept hb hi) rfl (Nat.le_of_ble_eq_true rfl) (by decide) ⟨Nat.le_refl _, Nat.le_refl _⟩ d_P_proposeNumber_2 ?_
  refine mr_aload_n ok (i := 0) d_P_proposeNumber_5 rfl rfl ?_
  refine mr_aload_n ok (i := 1) d_P_proposeNumber_6 rfl rfl ?_
  refine sx_cVv ok hB [_] rfl cb_P_176 cv_P_sendAccept (tm_8 hb) rfl rfl (c_P_sendAccept hb hi (by exact hc)) rfl (Nat.le_of_ble_eq_true rfl) (by decide) ⟨Nat.le_refl _, Nat.le_refl _⟩ d_P_proposeNumber_7 ?_
  have hc : kI N (s_P_sendAccept N L (s_R_proposeAndAccept N L c i x) i) := kI_P_sendAccept (L := L) hi hc
  refine sx_vret ok en (Nat.le_refl _) (Nat.le_refl _) d_P_proposeNumber_10 ?_
  exact ⟨rfl, (by first | rfl | simp only [s_P_proposeNumber])⟩
def s_P_propose (N L : Nat) (c : sh_S) (i : Nat) : sh_S := (if (v_L_at N L c i 0) = 0 then c else (let c1 := s_P_proposeNumber N L c i (v_L_at N L c i 0); c1))
theorem kI_P_propose {N L : Nat} {c : sh_S} {i : Nat} (hi : i < N) (hc : kI N c) : kI N (s_P_propose N L c i) := by
  unfold s_P_propose
  try dsimp only
  refine kI_ite (fun _ => ?_) (fun _ => ?_)
  · exact hc
  · exact (kI_P_proposeNumber (L := L) hi hc)
set_option maxHeartbeats 4000000 in
set_option maxRecDepth 100000 in
theorem c_P_propose {B : sh_B} {Z : mx_Z} {N L : Nat} {cI cR cZ : ClassId} (hb : wB B Z N L cI cR cZ) {c r : sh_S} {i : Nat} (hi : i < N) (hc : kI N c) : sc B Z y_P_propose b_P_propose 3 none (rmm 4 97) [.ref (B.2.1 8 0), .ref (B.2.1 0 i)] (jn c r) (qe none (jn (s_P_propose N L c i) r)) := by
  refine ct_of (by decide) (Nat.le_of_ble_eq_true rfl) (cat_of rfl) ?_
  intro X ok en _
  have hB := hb.1
  refine mr_lv [(0, .ref (B.2.1 8 0)), (1, .ref (B.2.1 0 i))] ⟨rfl, rfl, trivial⟩ ?_
  refine mr_aload_n ok (i := 1) d_P_propose_0 rfl rfl ?_
  refine sx_getr ok hB fl_P_56 (tm_0 hb hi) rfl d_P_propose_1 ?_
  refine mr_iconst ok 0 d_P_propose_4 (by decide) ?_
  refine sx_cVi ok hB [_] rfl cb_P_153 cv_L_at (tm_3 hb hi) rfl rfl (c_L_at hb hi (by exact hc.2 _ hi)) rfl (Nat.le_of_ble_eq_true rfl) (by decide) ⟨Nat.le_refl _, Nat.le_refl _⟩ d_P_propose_5 ?_
  refine mr_istore_n ok (i := 2) d_P_propose_8 rfl (by decide) ?_
  refine mr_iload_n ok (i := 2) d_P_propose_9 rfl rfl ?_
  refine mr_if_eq ok 19 d_P_propose_10 (by decide) (fun h10_0 => ?_) (fun h10_0 => ?_)
  · refine sx_vret ok en (Nat.le_refl _) (Nat.le_refl _) d_P_propose_19 ?_
    exact ⟨rfl, (by first | rfl | simp only [s_P_propose, if_pos h10_0])⟩
  · refine mr_aload_n ok (i := 0) d_P_propose_13 rfl rfl ?_
    refine mr_aload_n ok (i := 1) d_P_propose_14 rfl rfl ?_
    refine mr_iload_n ok (i := 2) d_P_propose_15 rfl rfl ?_
    refine sx_cVv ok hB [_, _] rfl cb_P_192 cv_P_proposeNumber (tm_8 hb) rfl rfl (c_P_proposeNumber hb hi (by exact hc)) rfl (Nat.le_of_ble_eq_true rfl) (by decide) ⟨Nat.le_refl _, Nat.le_refl _⟩ d_P_propose_16 ?_
    have hc : kI N (s_P_proposeNumber N L c i (v_L_at N L c i 0)) := kI_P_proposeNumber (L := L) hi hc
    refine sx_vret ok en (Nat.le_refl _) (Nat.le_refl _) d_P_propose_19 ?_
    exact ⟨rfl, (by first | rfl | simp only [s_P_propose, if_neg h10_0])⟩
def s_P_tickLeader (N L : Nat) (c : sh_S) (i : Nat) : sh_S := (if (c 0 i 10) = 0 then (let c1 := s_P_propose N L c i; c1) else (let c2 := s_P_sendAccept N L c i; c2))
theorem kI_P_tickLeader {N L : Nat} {c : sh_S} {i : Nat} (hi : i < N) (hc : kI N c) : kI N (s_P_tickLeader N L c i) := by
  unfold s_P_tickLeader
  try dsimp only
  refine kI_ite (fun _ => ?_) (fun _ => ?_)
  · exact (kI_P_propose (L := L) hi hc)
  · exact (kI_P_sendAccept (L := L) hi hc)
set_option maxHeartbeats 4000000 in
set_option maxRecDepth 100000 in
theorem c_P_tickLeader {B : sh_B} {Z : mx_Z} {N L : Nat} {cI cR cZ : ClassId} (hb : wB B Z N L cI cR cZ) {c r : sh_S} {i : Nat} (hi : i < N) (hc : kI N c) : sc B Z y_P_tickLeader b_P_tickLeader 2 none (rmm 5 119) [.ref (B.2.1 8 0), .ref (B.2.1 0 i)] (jn c r) (qe none (jn (s_P_tickLeader N L c i) r)) := by
  refine ct_of (by decide) (Nat.le_of_ble_eq_true rfl) (cat_of rfl) ?_
  intro X ok en _
  have hB := hb.1
  refine mr_lv [(0, .ref (B.2.1 8 0)), (1, .ref (B.2.1 0 i))] ⟨rfl, rfl, trivial⟩ ?_
  refine mr_aload_n ok (i := 1) d_P_tickLeader_0 rfl rfl ?_
  refine cx_geti ok hB rfl fl_P_173 (tm_0 hb hi) rfl d_P_tickLeader_1 ?_
  refine mr_if_eq ok 15 d_P_tickLeader_4 (by decide) (fun h4_0 => ?_) (fun h4_0 => ?_)
  · refine mr_aload_n ok (i := 0) d_P_tickLeader_15 rfl rfl ?_
    refine mr_aload_n ok (i := 1) d_P_tickLeader_16 rfl rfl ?_
    refine sx_cVv ok hB [_] rfl cb_P_179 cv_P_propose (tm_8 hb) rfl rfl (c_P_propose hb hi (by exact hc)) rfl (Nat.le_of_ble_eq_true rfl) (by decide) ⟨Nat.le_refl _, Nat.le_refl _⟩ d_P_tickLeader_17 ?_
    have hc : kI N (s_P_propose N L c i) := kI_P_propose (L := L) hi hc
    refine sx_vret ok en (Nat.le_refl _) (Nat.le_refl _) d_P_tickLeader_20 ?_
    exact ⟨rfl, (by first | rfl | simp only [s_P_tickLeader, if_pos h4_0])⟩
  · refine mr_aload_n ok (i := 0) d_P_tickLeader_7 rfl rfl ?_
    refine mr_aload_n ok (i := 1) d_P_tickLeader_8 rfl rfl ?_
    refine sx_cVv ok hB [_] rfl cb_P_176 cv_P_sendAccept (tm_8 hb) rfl rfl (c_P_sendAccept hb hi (by exact hc)) rfl (Nat.le_of_ble_eq_true rfl) (by decide) ⟨Nat.le_refl _, Nat.le_refl _⟩ d_P_tickLeader_9 ?_
    have hc : kI N (s_P_sendAccept N L c i) := kI_P_sendAccept (L := L) hi hc
    refine mr_goto ok 20 d_P_tickLeader_12 (by decide) ?_
    refine sx_vret ok en (Nat.le_refl _) (Nat.le_refl _) d_P_tickLeader_20 ?_
    exact ⟨rfl, (by first | rfl | simp only [s_P_tickLeader, if_neg h4_0])⟩
end
section
theorem ks_nn {N k : Nat} {b : Int32} (h1 : b = nI k) (h2 : k ≤ N) (hN : N ≤ 5) : ¬ b < 0 := by
  rw [h1]
  exact nI_pos (by omega)
def lv_P_greatestIndex (N L : Nat) : Nat → sh_S → Int32 → Int32 → Int32
  | 0, _, _, _ => 0
  | n + 1, c, a, b => (if (nI N) ≤ b then a else (lv_P_greatestIndex N L n c (if a < (c 1 ((b : Int32).toNatClampNeg) 2) then (c 1 ((b : Int32).toNatClampNeg) 2) else a) (b + 1)))
set_option maxHeartbeats 4000000 in
set_option maxRecDepth 100000 in
theorem l_P_greatestIndex {B : sh_B} {Z : mx_Z} {N L : Nat} {cI cR cZ : ClassId} (hb : wB B Z N L cI cR cZ) {r : sh_S} {X : mx_C} {V0 : Option Value} {S0 : sh_S} (ok : mx_ok X Z R_P b_P_greatestIndex 3 (rmm 1 22)) (en : sx_end B X (some (.int)) (rmm 1 22) (qe V0 S0)) : ∀ (n : Nat) (c : sh_S) (a : Int32) (b : Int32), (∃ k : Nat, b = nI k ∧ k ≤ N ∧ N + 1 ≤ k + n) → V0 = some (.int (lv_P_greatestIndex N L n c a b)) → S0 = (jn c r) → sx B X (0, 0) 4 [(0, .ref (B.2.1 8 0)), (1, .int a), (2, .int b)] [] (jn c r) := by
  have hB := hb.1
  intro n
  induction n with
  | zero =>
    intro c a b hh _ _
    obtain ⟨k, h1, h2, h3⟩ := hh
    omega
  | succ n ih =>
    intro c a b hh hV hS
    obtain ⟨k, h1, h2, h3⟩ := hh
    refine mr_iload_n ok (i := 2) d_P_greatestIndex_4 rfl rfl ?_
    refine mr_aload_n ok (i := 0) d_P_greatestIndex_5 rfl rfl ?_
    refine sx_getr ok hB fl_P_18 (tm_8 hb) rfl d_P_greatestIndex_6 ?_
    refine mr_icmp_ge ok 35 d_P_greatestIndex_9 (by decide) (fun h9_0 => ?_) (fun h9_0 => ?_)
    · refine mr_iload_n ok (i := 1) d_P_greatestIndex_35 rfl rfl ?_
      refine sx_iret ok en (Nat.le_refl _) (Nat.le_refl _) d_P_greatestIndex_36 ?_
      exact ⟨(by rw [hV]; simp only [lv_P_greatestIndex, if_pos h9_0]), (by rw [hS])⟩
    · refine mr_iload_n ok (i := 1) d_P_greatestIndex_12 rfl rfl ?_
      refine mr_aload_n ok (i := 0) d_P_greatestIndex_13 rfl rfl ?_
      refine sx_getr ok hB fl_P_27 (tm_8 hb) rfl d_P_greatestIndex_14 ?_
      refine mr_iload_n ok (i := 2) d_P_greatestIndex_17 rfl rfl ?_
      refine P_ald_row ok hb (kF_lt ⟨ks_nn h1 h2 hb.2.2.2.1.2, ‹_›⟩ hb.2.2.2.1.2).2 d_P_greatestIndex_18 ?_
      have hi := (kF_lt (N := N) (x := b) ⟨ks_nn h1 h2 hb.2.2.2.1.2, ‹_›⟩ hb.2.2.2.1.2).1
      refine sx_getr ok hB fl_P_117 (tm_0 hb hi) rfl d_P_greatestIndex_19 ?_
      refine cx_geti ok hB rfl fl_P_121 (tm_1 hb hi) rfl d_P_greatestIndex_22 ?_
      refine mr_max ok (mw 64 rfl rfl) (mw 65 rfl rfl) (mw 44 rfl rfl) (mw 66 rfl rfl) (by decide) (Nat.le_of_ble_eq_true rfl) (Nat.le_refl _) (Nat.le_refl _) d_P_greatestIndex_25 ?_
      refine mr_istore_n ok (i := 1) d_P_greatestIndex_28 rfl (by decide) ?_
      refine mr_iinc ok _ d_P_greatestIndex_29 rfl rfl (by decide) ?_
      refine mr_goto ok 4 d_P_greatestIndex_32 (by decide) ?_
      refine mr_lv [(0, .ref (B.2.1 8 0)), (1, .int (if a < (c 1 ((b : Int32).toNatClampNeg) 2) then (c 1 ((b : Int32).toNatClampNeg) 2) else a)), (2, .int (b + 1))] ⟨rfl, rfl, rfl, trivial⟩ ?_
      exact ih _ _ _ (ks_rec h1 h2 h3 ‹_› (by have := hb.2.2.2.1.2; omega)) (hV.trans (by simp only [lv_P_greatestIndex, if_neg h9_0])) hS
def v_P_greatestIndex (N L : Nat) (c : sh_S) : Int32 := (lv_P_greatestIndex N L 6 c 0 0)
set_option maxHeartbeats 4000000 in
set_option maxRecDepth 100000 in
theorem c_P_greatestIndex {B : sh_B} {Z : mx_Z} {N L : Nat} {cI cR cZ : ClassId} (hb : wB B Z N L cI cR cZ) {c r : sh_S} : sc B Z y_P_greatestIndex b_P_greatestIndex 3 (some (.int)) (rmm 1 22) [.ref (B.2.1 8 0)] (jn c r) (qe (some (.int (v_P_greatestIndex N L c))) (jn c r)) := by
  refine ct_of (by decide) (Nat.le_of_ble_eq_true rfl) (cat_of rfl) ?_
  intro X ok en _
  have hB := hb.1
  refine mr_lv [(0, .ref (B.2.1 8 0))] ⟨rfl, trivial⟩ ?_
  refine mr_iconst ok 0 d_P_greatestIndex_0 (by decide) ?_
  refine mr_istore_n ok (i := 1) d_P_greatestIndex_1 rfl (by decide) ?_
  refine mr_iconst ok 0 d_P_greatestIndex_2 (by decide) ?_
  refine mr_istore_n ok (i := 2) d_P_greatestIndex_3 rfl (by decide) ?_
  refine mr_lv [(0, .ref (B.2.1 8 0)), (1, .int 0), (2, .int 0)] ⟨rfl, rfl, rfl, trivial⟩ ?_
  exact l_P_greatestIndex hb ok en 6 _ _ _ ⟨0, rfl, Nat.zero_le _, by have := hb.2.2.2.1.2; omega⟩ rfl rfl
def s_P_onPrepare (N L : Nat) (c : sh_S) (i : Nat) : sh_S := (if (c 1 i 2) < (c 7 0 4) then (if (c 7 0 3) < (c 0 i 4) then (let c1 := s_P_deny N L c i (c 7 0 1); c1) else (let c2 := sU c 0 i 4 (c 7 0 3); (let c3 := s_R_becomeFollower N L c2 i; (let c4 := s_P_sendPromise N L c3 i; c4)))) else (let c5 := s_P_help N L c i (c 7 0 1) (c 7 0 4); c5))
theorem kI_P_onPrepare {N L : Nat} {c : sh_S} {i : Nat} (hi : i < N) (hc : kI N c) : kI N (s_P_onPrepare N L c i) := by
  unfold s_P_onPrepare
  try dsimp only
  refine kI_ite (fun _ => ?_) (fun _ => ?_)
  · refine kI_ite (fun _ => ?_) (fun _ => ?_)
    · exact (kI_P_deny (L := L) hi hc)
    · exact (kI_P_sendPromise (L := L) hi hc)
  · exact (kI_P_help (L := L) hi hc)
set_option maxHeartbeats 4000000 in
set_option maxRecDepth 100000 in
theorem c_P_onPrepare {B : sh_B} {Z : mx_Z} {N L : Nat} {cI cR cZ : ClassId} (hb : wB B Z N L cI cR cZ) {c r : sh_S} {i : Nat} (hi : i < N) (hc : kI N c) : sc B Z y_P_onPrepare b_P_onPrepare 3 none (rmm 5 107) [.ref (B.2.1 8 0), .ref (B.2.1 0 i), .ref (B.2.1 7 0)] (jn c r) (qe none (jn (s_P_onPrepare N L c i) r)) := by
  refine ct_of (by decide) (Nat.le_of_ble_eq_true rfl) (cat_of rfl) ?_
  intro X ok en _
  have hB := hb.1
  refine mr_lv [(0, .ref (B.2.1 8 0)), (1, .ref (B.2.1 0 i)), (2, .ref (B.2.1 7 0))] ⟨rfl, rfl, rfl, trivial⟩ ?_
  refine mr_aload_n ok (i := 2) d_P_onPrepare_0 rfl rfl ?_
  refine cx_geti ok hB rfl fl_P_225 (tm_7 hb) rfl d_P_onPrepare_1 ?_
  refine mr_aload_n ok (i := 1) d_P_onPrepare_4 rfl rfl ?_
  refine sx_getr ok hB fl_P_117 (tm_0 hb hi) rfl d_P_onPrepare_5 ?_
  refine cx_geti ok hB rfl fl_P_121 (tm_1 hb hi) rfl d_P_onPrepare_8 ?_
  refine mr_icmp_gt ok 30 d_P_onPrepare_11 (by decide) (fun h11_0 => ?_) (fun h11_0 => ?_)
  · refine mr_aload_n ok (i := 2) d_P_onPrepare_30 rfl rfl ?_
    refine cx_geti ok hB rfl fl_P_198 (tm_7 hb) rfl d_P_onPrepare_31 ?_
    refine mr_aload_n ok (i := 1) d_P_onPrepare_34 rfl rfl ?_
    refine cx_geti ok hB rfl fl_P_133 (tm_0 hb hi) rfl d_P_onPrepare_35 ?_
    refine mr_icmp_lt ok 62 d_P_onPrepare_38 (by decide) (fun h38_1 => ?_) (fun h38_1 => ?_)
    · refine mr_aload_n ok (i := 0) d_P_onPrepare_62 rfl rfl ?_
      refine mr_aload_n ok (i := 1) d_P_onPrepare_63 rfl rfl ?_
      refine mr_aload_n ok (i := 2) d_P_onPrepare_64 rfl rfl ?_
      refine cx_geti ok hB rfl fl_P_228 (tm_7 hb) rfl d_P_onPrepare_65 ?_
      refine sx_cVv ok hB [_, _] rfl cb_P_241 cv_P_deny (tm_8 hb) rfl rfl (c_P_deny hb hi (by exact hc)) rfl (Nat.le_of_ble_eq_true rfl) (by decide) ⟨Nat.le_refl _, Nat.le_refl _⟩ d_P_onPrepare_68 ?_
      have hc : kI N (s_P_deny N L c i (c 7 0 1)) := kI_P_deny (L := L) hi hc
      refine sx_vret ok en (Nat.le_refl _) (Nat.le_refl _) d_P_onPrepare_71 ?_
      exact ⟨rfl, (by first | rfl | simp only [s_P_onPrepare, if_pos h11_0, if_pos h38_1])⟩
    · refine mr_aload_n ok (i := 1) d_P_onPrepare_41 rfl rfl ?_
      refine mr_aload_n ok (i := 2) d_P_onPrepare_42 rfl rfl ?_
      refine cx_geti ok hB rfl fl_P_198 (tm_7 hb) rfl d_P_onPrepare_43 ?_
      refine cx_put ok hB rfl fw_P_133 (tm_0 hb hi) rfl rfl rfl d_P_onPrepare_46 ?_
      refine mr_aload_n ok (i := 1) d_P_onPrepare_49 rfl rfl ?_
      refine sx_cVv ok hB [] rfl cb_P_235 cv_R_becomeFollower (tm_0 hb hi) rfl rfl (c_R_becomeFollower hb hi) rfl (Nat.le_of_ble_eq_true rfl) (by decide) ⟨Nat.le_refl _, Nat.le_refl _⟩ d_P_onPrepare_50 ?_
      refine mr_aload_n ok (i := 0) d_P_onPrepare_53 rfl rfl ?_
      refine mr_aload_n ok (i := 1) d_P_onPrepare_54 rfl rfl ?_
      refine mr_aload_n ok (i := 2) d_P_onPrepare_55 rfl rfl ?_
      refine sx_cVv ok hB [_, _] rfl cb_P_238 cv_P_sendPromise (tm_8 hb) rfl rfl (c_P_sendPromise hb hi (by exact hc)) rfl (Nat.le_of_ble_eq_true rfl) (by decide) ⟨Nat.le_refl _, Nat.le_refl _⟩ d_P_onPrepare_56 ?_
      have hc : kI N (s_P_sendPromise N L (s_R_becomeFollower N L (sU c 0 i 4 (c 7 0 3)) i) i) := kI_P_sendPromise (L := L) hi hc
      refine mr_goto ok 71 d_P_onPrepare_59 (by decide) ?_
      refine sx_vret ok en (Nat.le_refl _) (Nat.le_refl _) d_P_onPrepare_71 ?_
      exact ⟨rfl, (by first | rfl | simp only [s_P_onPrepare, if_pos h11_0, if_neg h38_1])⟩
  · refine mr_aload_n ok (i := 0) d_P_onPrepare_14 rfl rfl ?_
    refine mr_aload_n ok (i := 1) d_P_onPrepare_15 rfl rfl ?_
    refine mr_aload_n ok (i := 2) d_P_onPrepare_16 rfl rfl ?_
    refine cx_geti ok hB rfl fl_P_228 (tm_7 hb) rfl d_P_onPrepare_17 ?_
    refine mr_aload_n ok (i := 2) d_P_onPrepare_20 rfl rfl ?_
    refine cx_geti ok hB rfl fl_P_225 (tm_7 hb) rfl d_P_onPrepare_21 ?_
    refine sx_cVv ok hB [_, _, _] rfl cb_P_231 cv_P_help (tm_8 hb) rfl rfl (c_P_help hb hi (by exact hc)) rfl (Nat.le_of_ble_eq_true rfl) (by decide) ⟨Nat.le_refl _, Nat.le_refl _⟩ d_P_onPrepare_24 ?_
    have hc : kI N (s_P_help N L c i (c 7 0 1) (c 7 0 4)) := kI_P_help (L := L) hi hc
    refine mr_goto ok 71 d_P_onPrepare_27 (by decide) ?_
    refine sx_vret ok en (Nat.le_refl _) (Nat.le_refl _) d_P_onPrepare_71 ?_
    exact ⟨rfl, (by first | rfl | simp only [s_P_onPrepare, if_neg h11_0])⟩
def s_P_onPromise (N L : Nat) (c : sh_S) (i : Nat) : sh_S := (if (c 0 i 7) = 1 then (if (c 0 i 8) = (c 7 0 3) then (if (v_R_isNext N L c i (c 7 0 4)) = 0 then c else (if (v_R_hasAnswer N L c i (c 7 0 1)) = 0 then (let c1 := s_R_addAnswer N L c i (c 7 0 1); (let c2 := s_R_keepGreatest N L c1 i (c1 7 0 6) (c1 7 0 5); (if (v_P_isMajority N L c2 (c2 0 i 9)) = 0 then c2 else (let c3 := s_R_becomeLeader N L c2 i; (if (c3 0 i 12) = 0 then (let c4 := s_P_propose N L c3 i; c4) else (let c5 := s_P_proposeNumber N L c3 i (c3 0 i 13); c5)))))) else c)) else c) else c)
theorem kI_P_onPromise {N L : Nat} {c : sh_S} {i : Nat} (hi : i < N) (hc : kI N c) : kI N (s_P_onPromise N L c i) := by
  unfold s_P_onPromise
  try dsimp only
  refine kI_ite (fun _ => ?_) (fun _ => ?_)
  · refine kI_ite (fun _ => ?_) (fun _ => ?_)
    · refine kI_ite (fun _ => ?_) (fun _ => ?_)
      · exact hc
      · refine kI_ite (fun _ => ?_) (fun _ => ?_)
        · refine kI_ite (fun _ => ?_) (fun _ => ?_)
          · exact (kI_R_keepGreatest (L := L) hi hc)
          · refine kI_ite (fun _ => ?_) (fun _ => ?_)
            · exact (kI_P_propose (L := L) hi (kI_R_keepGreatest (L := L) hi hc))
            · exact (kI_P_proposeNumber (L := L) hi (kI_R_keepGreatest (L := L) hi hc))
        · exact hc
    · exact hc
  · exact hc
set_option maxHeartbeats 4000000 in
set_option maxRecDepth 100000 in
theorem c_P_onPromise {B : sh_B} {Z : mx_Z} {N L : Nat} {cI cR cZ : ClassId} (hb : wB B Z N L cI cR cZ) {c r : sh_S} {i : Nat} (hi : i < N) (hc : kI N c) : sc B Z y_P_onPromise b_P_onPromise 4 none (rmm 5 119) [.ref (B.2.1 8 0), .ref (B.2.1 0 i), .ref (B.2.1 7 0)] (jn c r) (qe none (jn (s_P_onPromise N L c i) r)) := by
  refine ct_of (by decide) (Nat.le_of_ble_eq_true rfl) (cat_of rfl) ?_
  intro X ok en _
  have hB := hb.1
  refine mr_lv [(0, .ref (B.2.1 8 0)), (1, .ref (B.2.1 0 i)), (2, .ref (B.2.1 7 0))] ⟨rfl, rfl, rfl, trivial⟩ ?_
  refine mr_aload_n ok (i := 1) d_P_onPromise_0 rfl rfl ?_
  refine cx_geti ok hB rfl fl_P_66 (tm_0 hb hi) rfl d_P_onPromise_1 ?_
  refine mr_iconst ok 1 d_P_onPromise_4 (by decide) ?_
  refine mr_icmp_ne ok 45 d_P_onPromise_5 (by decide) (fun h5_0 => ?_) (fun h5_0 => ?_)
  · refine mr_iconst ok 0 d_P_onPromise_45 (by decide) ?_
    refine mr_istore_n ok (i := 3) d_P_onPromise_46 rfl (by decide) ?_
    refine mr_iload_n ok (i := 3) d_P_onPromise_47 rfl rfl ?_
    refine mr_if_ne ok 52 d_P_onPromise_48 (by decide) (fun h => absurd h (by decide)) (fun _ => ?_)
    refine sx_vret ok en (Nat.le_refl _) (Nat.le_refl _) d_P_onPromise_51 ?_
    exact ⟨rfl, (by first | rfl | simp only [s_P_onPromise, if_neg h5_0])⟩
  · refine mr_aload_n ok (i := 1) d_P_onPromise_8 rfl rfl ?_
    refine cx_geti ok hB rfl fl_P_244 (tm_0 hb hi) rfl d_P_onPromise_9 ?_
    refine mr_aload_n ok (i := 2) d_P_onPromise_12 rfl rfl ?_
    refine cx_geti ok hB rfl fl_P_198 (tm_7 hb) rfl d_P_onPromise_13 ?_
    refine mr_icmp_ne ok 45 d_P_onPromise_16 (by decide) (fun h16_1 => ?_) (fun h16_1 => ?_)
    · refine mr_iconst ok 0 d_P_onPromise_45 (by decide) ?_
      refine mr_istore_n ok (i := 3) d_P_onPromise_46 rfl (by decide) ?_
      refine mr_iload_n ok (i := 3) d_P_onPromise_47 rfl rfl ?_
      refine mr_if_ne ok 52 d_P_onPromise_48 (by decide) (fun h => absurd h (by decide)) (fun _ => ?_)
      refine sx_vret ok en (Nat.le_refl _) (Nat.le_refl _) d_P_onPromise_51 ?_
      exact ⟨rfl, (by first | rfl | simp only [s_P_onPromise, if_pos h5_0, if_neg h16_1])⟩
    · refine mr_aload_n ok (i := 1) d_P_onPromise_19 rfl rfl ?_
      refine mr_aload_n ok (i := 2) d_P_onPromise_20 rfl rfl ?_
      refine cx_geti ok hB rfl fl_P_225 (tm_7 hb) rfl d_P_onPromise_21 ?_
      refine sx_cVi ok hB [_] rfl cb_P_245 cv_R_isNext (tm_0 hb hi) rfl rfl (c_R_isNext hb hi) rfl (Nat.le_of_ble_eq_true rfl) (by decide) ⟨Nat.le_refl _, Nat.le_refl _⟩ d_P_onPromise_24 ?_
      refine mr_if_eq ok 45 d_P_onPromise_27 (by decide) (fun h27_2 => ?_) (fun h27_2 => ?_)
      · refine mr_iconst ok 0 d_P_onPromise_45 (by decide) ?_
        refine mr_istore_n ok (i := 3) d_P_onPromise_46 rfl (by decide) ?_
        refine mr_iload_n ok (i := 3) d_P_onPromise_47 rfl rfl ?_
        refine mr_if_ne ok 52 d_P_onPromise_48 (by decide) (fun h => absurd h (by decide)) (fun _ => ?_)
        refine sx_vret ok en (Nat.le_refl _) (Nat.le_refl _) d_P_onPromise_51 ?_
        exact ⟨rfl, (by first | rfl | simp only [s_P_onPromise, if_pos h5_0, if_pos h16_1, if_pos h27_2])⟩
      · refine mr_aload_n ok (i := 1) d_P_onPromise_30 rfl rfl ?_
        refine mr_aload_n ok (i := 2) d_P_onPromise_31 rfl rfl ?_
        refine cx_geti ok hB rfl fl_P_228 (tm_7 hb) rfl d_P_onPromise_32 ?_
        refine sx_cVi ok hB [_] rfl cb_P_248 cv_R_hasAnswer (tm_0 hb hi) rfl rfl (c_R_hasAnswer hb hi) rfl (Nat.le_of_ble_eq_true rfl) (by decide) ⟨Nat.le_refl _, Nat.le_refl _⟩ d_P_onPromise_35 ?_
        refine mr_if_ne ok 45 d_P_onPromise_38 (by decide) (fun h38_3 => ?_) (fun h38_3 => ?_)
        · refine mr_iconst ok 0 d_P_onPromise_45 (by decide) ?_
          refine mr_istore_n ok (i := 3) d_P_onPromise_46 rfl (by decide) ?_
          refine mr_iload_n ok (i := 3) d_P_onPromise_47 rfl rfl ?_
          refine mr_if_ne ok 52 d_P_onPromise_48 (by decide) (fun h => absurd h (by decide)) (fun _ => ?_)
          refine sx_vret ok en (Nat.le_refl _) (Nat.le_refl _) d_P_onPromise_51 ?_
          exact ⟨rfl, (by first | rfl | simp only [s_P_onPromise, if_pos h5_0, if_pos h16_1, if_neg h27_2, if_neg h38_3])⟩
        · refine mr_iconst ok 1 d_P_onPromise_41 (by decide) ?_
          refine mr_goto ok 46 d_P_onPromise_42 (by decide) ?_
          refine mr_istore_n ok (i := 3) d_P_onPromise_46 rfl (by decide) ?_
          refine mr_iload_n ok (i := 3) d_P_onPromise_47 rfl rfl ?_
          refine mr_if_ne ok 52 d_P_onPromise_48 (by decide) (fun _ => ?_) (fun h => absurd h (by decide))
          refine mr_aload_n ok (i := 1) d_P_onPromise_52 rfl rfl ?_
          refine mr_aload_n ok (i := 2) d_P_onPromise_53 rfl rfl ?_
          refine cx_geti ok hB rfl fl_P_228 (tm_7 hb) rfl d_P_onPromise_54 ?_
          refine sx_cVv ok hB [_] rfl cb_P_251 cv_R_addAnswer (tm_0 hb hi) rfl rfl (c_R_addAnswer hb hi) rfl (Nat.le_of_ble_eq_true rfl) (by decide) ⟨Nat.le_refl _, Nat.le_refl _⟩ d_P_onPromise_57 ?_
          refine mr_aload_n ok (i := 1) d_P_onPromise_60 rfl rfl ?_
          refine mr_aload_n ok (i := 2) d_P_onPromise_61 rfl rfl ?_
          refine cx_geti ok hB rfl fl_P_254 (tm_7 hb) rfl d_P_onPromise_62 ?_
          refine mr_aload_n ok (i := 2) d_P_onPromise_65 rfl rfl ?_
          refine cx_geti ok hB rfl fl_P_257 (tm_7 hb) rfl d_P_onPromise_66 ?_
          refine sx_cVv ok hB [_, _] rfl cb_P_260 cv_R_keepGreatest (tm_0 hb hi) rfl rfl (c_R_keepGreatest hb hi) rfl (Nat.le_of_ble_eq_true rfl) (by decide) ⟨Nat.le_refl _, Nat.le_refl _⟩ d_P_onPromise_69 ?_
          have hc : kI N (s_R_keepGreatest N L (s_R_addAnswer N L c i (c 7 0 1)) i ((s_R_addAnswer N L c i (c 7 0 1)) 7 0 6) ((s_R_addAnswer N L c i (c 7 0 1)) 7 0 5)) := kI_R_keepGreatest (L := L) hi hc
          refine mr_aload_n ok (i := 0) d_P_onPromise_72 rfl rfl ?_
          refine mr_aload_n ok (i := 1) d_P_onPromise_73 rfl rfl ?_
          refine cx_geti ok hB rfl fl_P_263 (tm_0 hb hi) rfl d_P_onPromise_74 ?_
          refine sx_cVi ok hB [_] rfl cb_P_266 cv_P_isMajority (tm_8 hb) rfl rfl (c_P_isMajority hb) rfl (Nat.le_of_ble_eq_true rfl) (by decide) ⟨Nat.le_refl _, Nat.le_refl _⟩ d_P_onPromise_77 ?_
          refine mr_if_eq ok 111 d_P_onPromise_80 (by decide) (fun h80_4 => ?_) (fun h80_4 => ?_)
          · refine sx_vret ok en (Nat.le_refl _) (Nat.le_refl _) d_P_onPromise_111 ?_
            exact ⟨rfl, (by first | rfl | simp only [s_P_onPromise, if_pos h5_0, if_pos h16_1, if_neg h27_2, if_pos h38_3, if_pos h80_4])⟩
          · refine mr_aload_n ok (i := 1) d_P_onPromise_83 rfl rfl ?_
            refine sx_cVv ok hB [] rfl cb_P_269 cv_R_becomeLeader (tm_0 hb hi) rfl rfl (c_R_becomeLeader hb hi) rfl (Nat.le_of_ble_eq_true rfl) (by decide) ⟨Nat.le_refl _, Nat.le_refl _⟩ d_P_onPromise_84 ?_
            refine mr_aload_n ok (i := 1) d_P_onPromise_87 rfl rfl ?_
            refine cx_geti ok hB rfl fl_P_272 (tm_0 hb hi) rfl d_P_onPromise_88 ?_
            refine mr_if_eq ok 106 d_P_onPromise_91 (by decide) (fun h91_5 => ?_) (fun h91_5 => ?_)
            · refine mr_aload_n ok (i := 0) d_P_onPromise_106 rfl rfl ?_
              refine mr_aload_n ok (i := 1) d_P_onPromise_107 rfl rfl ?_
              refine sx_cVv ok hB [_] rfl cb_P_179 cv_P_propose (tm_8 hb) rfl rfl (c_P_propose hb hi (by exact hc)) rfl (Nat.le_of_ble_eq_true rfl) (by decide) ⟨Nat.le_refl _, Nat.le_refl _⟩ d_P_onPromise_108 ?_
              have hc : kI N (s_P_propose N L (s_R_becomeLeader N L (s_R_keepGreatest N L (s_R_addAnswer N L c i (c 7 0 1)) i ((s_R_addAnswer N L c i (c 7 0 1)) 7 0 6) ((s_R_addAnswer N L c i (c 7 0 1)) 7 0 5)) i) i) := kI_P_propose (L := L) hi hc
              refine sx_vret ok en (Nat.le_refl _) (Nat.le_refl _) d_P_onPromise_111 ?_
              exact ⟨rfl, (by first | rfl | simp only [s_P_onPromise, if_pos h5_0, if_pos h16_1, if_neg h27_2, if_pos h38_3, if_neg h80_4, if_pos h91_5])⟩
            · refine mr_aload_n ok (i := 0) d_P_onPromise_94 rfl rfl ?_
              refine mr_aload_n ok (i := 1) d_P_onPromise_95 rfl rfl ?_
              refine mr_aload_n ok (i := 1) d_P_onPromise_96 rfl rfl ?_
              refine cx_geti ok hB rfl fl_P_275 (tm_0 hb hi) rfl d_P_onPromise_97 ?_
              refine sx_cVv ok hB [_, _] rfl cb_P_192 cv_P_proposeNumber (tm_8 hb) rfl rfl (c_P_proposeNumber hb hi (by exact hc)) rfl (Nat.le_of_ble_eq_true rfl) (by decide) ⟨Nat.le_refl _, Nat.le_refl _⟩ d_P_onPromise_100 ?_
              have hc : kI N (s_P_proposeNumber N L (s_R_becomeLeader N L (s_R_keepGreatest N L (s_R_addAnswer N L c i (c 7 0 1)) i ((s_R_addAnswer N L c i (c 7 0 1)) 7 0 6) ((s_R_addAnswer N L c i (c 7 0 1)) 7 0 5)) i) i ((s_R_becomeLeader N L (s_R_keepGreatest N L (s_R_addAnswer N L c i (c 7 0 1)) i ((s_R_addAnswer N L c i (c 7 0 1)) 7 0 6) ((s_R_addAnswer N L c i (c 7 0 1)) 7 0 5)) i) 0 i 13)) := kI_P_proposeNumber (L := L) hi hc
              refine mr_goto ok 111 d_P_onPromise_103 (by decide) ?_
              refine sx_vret ok en (Nat.le_refl _) (Nat.le_refl _) d_P_onPromise_111 ?_
              exact ⟨rfl, (by first | rfl | simp only [s_P_onPromise, if_pos h5_0, if_pos h16_1, if_neg h27_2, if_pos h38_3, if_neg h80_4, if_neg h91_5])⟩
def s_P_onAccept (N L : Nat) (c : sh_S) (i : Nat) : sh_S := (if (c 1 i 2) < (c 7 0 4) then (if (v_R_isNext N L c i (c 7 0 4)) = 0 then (let c11 := s_P_ask N L c i (c 7 0 1); c11) else (if (c 7 0 3) < (c 0 i 4) then (let c1 := s_P_deny N L c i (c 7 0 1); c1) else (let c2 := sU c 0 i 4 (c 7 0 3); (if (c2 0 i 7) = 1 then (let c3 := s_R_becomeFollower N L c2 i; (let c4 := s_R_accept N L c3 i (c3 7 0 3) (c3 7 0 5); (let c5 := s_F_send N L c4 4 (nI i) (c4 7 0 1) (c4 7 0 3) (c4 7 0 4) 0 0; c5))) else (if (c2 0 i 8) = (c2 7 0 3) then (let c6 := s_R_accept N L c2 i (c2 7 0 3) (c2 7 0 5); (let c7 := s_F_send N L c6 4 (nI i) (c6 7 0 1) (c6 7 0 3) (c6 7 0 4) 0 0; c7)) else (let c8 := s_R_becomeFollower N L c2 i; (let c9 := s_R_accept N L c8 i (c8 7 0 3) (c8 7 0 5); (let c10 := s_F_send N L c9 4 (nI i) (c9 7 0 1) (c9 7 0 3) (c9 7 0 4) 0 0; c10)))))))) else (let c12 := s_P_help N L c i (c 7 0 1) (c 7 0 4); c12))
theorem kI_P_onAccept {N L : Nat} {c : sh_S} {i : Nat} (hi : i < N) (hc : kI N c) : kI N (s_P_onAccept N L c i) := by
  unfold s_P_onAccept
  try dsimp only
  refine kI_ite (fun _ => ?_) (fun _ => ?_)
  · refine kI_ite (fun _ => ?_) (fun _ => ?_)
    · exact (kI_P_ask (L := L) hi hc)
    · refine kI_ite (fun _ => ?_) (fun _ => ?_)
      · exact (kI_P_deny (L := L) hi hc)
      · refine kI_ite (fun _ => ?_) (fun _ => ?_)
        · exact (kI_F_send (L := L) hc)
        · refine kI_ite (fun _ => ?_) (fun _ => ?_)
          · exact (kI_F_send (L := L) hc)
          · exact (kI_F_send (L := L) hc)
  · exact (kI_P_help (L := L) hi hc)
set_option maxHeartbeats 4000000 in
set_option maxRecDepth 100000 in
theorem c_P_onAccept {B : sh_B} {Z : mx_Z} {N L : Nat} {cI cR cZ : ClassId} (hb : wB B Z N L cI cR cZ) {c r : sh_S} {i : Nat} (hi : i < N) (hc : kI N c) : sc B Z y_P_onAccept b_P_onAccept 3 none (rmm 5 107) [.ref (B.2.1 8 0), .ref (B.2.1 0 i), .ref (B.2.1 7 0)] (jn c r) (qe none (jn (s_P_onAccept N L c i) r)) := by
  refine ct_of (by decide) (Nat.le_of_ble_eq_true rfl) (cat_of rfl) ?_
  intro X ok en _
  have hB := hb.1
  refine mr_lv [(0, .ref (B.2.1 8 0)), (1, .ref (B.2.1 0 i)), (2, .ref (B.2.1 7 0))] ⟨rfl, rfl, rfl, trivial⟩ ?_
  refine mr_aload_n ok (i := 2) d_P_onAccept_0 rfl rfl ?_
  refine cx_geti ok hB rfl fl_P_225 (tm_7 hb) rfl d_P_onAccept_1 ?_
  refine mr_aload_n ok (i := 1) d_P_onAccept_4 rfl rfl ?_
  refine sx_getr ok hB fl_P_117 (tm_0 hb hi) rfl d_P_onAccept_5 ?_
  refine cx_geti ok hB rfl fl_P_121 (tm_1 hb hi) rfl d_P_onAccept_8 ?_
  refine mr_icmp_gt ok 30 d_P_onAccept_11 (by decide) (fun h11_0 => ?_) (fun h11_0 => ?_)
  · refine mr_aload_n ok (i := 1) d_P_onAccept_30 rfl rfl ?_
    refine mr_aload_n ok (i := 2) d_P_onAccept_31 rfl rfl ?_
    refine cx_geti ok hB rfl fl_P_225 (tm_7 hb) rfl d_P_onAccept_32 ?_
    refine sx_cVi ok hB [_] rfl cb_P_245 cv_R_isNext (tm_0 hb hi) rfl rfl (c_R_isNext hb hi) rfl (Nat.le_of_ble_eq_true rfl) (by decide) ⟨Nat.le_refl _, Nat.le_refl _⟩ d_P_onAccept_35 ?_
    refine mr_if_ne ok 53 d_P_onAccept_38 (by decide) (fun h38_1 => ?_) (fun h38_1 => ?_)
    · refine mr_aload_n ok (i := 2) d_P_onAccept_53 rfl rfl ?_
      refine cx_geti ok hB rfl fl_P_198 (tm_7 hb) rfl d_P_onAccept_54 ?_
      refine mr_aload_n ok (i := 1) d_P_onAccept_57 rfl rfl ?_
      refine cx_geti ok hB rfl fl_P_133 (tm_0 hb hi) rfl d_P_onAccept_58 ?_
      refine mr_icmp_lt ok 136 d_P_onAccept_61 (by decide) (fun h61_2 => ?_) (fun h61_2 => ?_)
      · refine mr_aload_n ok (i := 0) d_P_onAccept_136 rfl rfl ?_
        refine mr_aload_n ok (i := 1) d_P_onAccept_137 rfl rfl ?_
        refine mr_aload_n ok (i := 2) d_P_onAccept_138 rfl rfl ?_
        refine cx_geti ok hB rfl fl_P_228 (tm_7 hb) rfl d_P_onAccept_139 ?_
        refine sx_cVv ok hB [_, _] rfl cb_P_241 cv_P_deny (tm_8 hb) rfl rfl (c_P_deny hb hi (by exact hc)) rfl (Nat.le_of_ble_eq_true rfl) (by decide) ⟨Nat.le_refl _, Nat.le_refl _⟩ d_P_onAccept_142 ?_
        have hc : kI N (s_P_deny N L c i (c 7 0 1)) := kI_P_deny (L := L) hi hc
        refine sx_vret ok en (Nat.le_refl _) (Nat.le_refl _) d_P_onAccept_145 ?_
        exact ⟨rfl, (by first | rfl | simp only [s_P_onAccept, if_pos h11_0, if_neg h38_1, if_pos h61_2])⟩
      · refine mr_aload_n ok (i := 1) d_P_onAccept_64 rfl rfl ?_
        refine mr_aload_n ok (i := 2) d_P_onAccept_65 rfl rfl ?_
        refine cx_geti ok hB rfl fl_P_198 (tm_7 hb) rfl d_P_onAccept_66 ?_
        refine cx_put ok hB rfl fw_P_133 (tm_0 hb hi) rfl rfl rfl d_P_onAccept_69 ?_
        refine mr_aload_n ok (i := 1) d_P_onAccept_72 rfl rfl ?_
        refine cx_geti ok hB rfl fl_P_66 (tm_0 hb hi) rfl d_P_onAccept_73 ?_
        refine mr_iconst ok 1 d_P_onAccept_76 (by decide) ?_
        refine mr_icmp_eq ok 91 d_P_onAccept_77 (by decide) (fun h77_3 => ?_) (fun h77_3 => ?_)
        · refine mr_aload_n ok (i := 1) d_P_onAccept_91 rfl rfl ?_
          refine sx_cVv ok hB [] rfl cb_P_235 cv_R_becomeFollower (tm_0 hb hi) rfl rfl (c_R_becomeFollower hb hi) rfl (Nat.le_of_ble_eq_true rfl) (by decide) ⟨Nat.le_refl _, Nat.le_refl _⟩ d_P_onAccept_92 ?_
          refine mr_aload_n ok (i := 1) d_P_onAccept_95 rfl rfl ?_
          refine mr_aload_n ok (i := 2) d_P_onAccept_96 rfl rfl ?_
          refine cx_geti ok hB rfl fl_P_198 (tm_7 hb) rfl d_P_onAccept_97 ?_
          refine mr_aload_n ok (i := 2) d_P_onAccept_100 rfl rfl ?_
          refine cx_geti ok hB rfl fl_P_257 (tm_7 hb) rfl d_P_onAccept_101 ?_
          refine sx_cVv ok hB [_, _] rfl cb_P_278 cv_R_accept (tm_0 hb hi) rfl rfl (c_R_accept hb hi) rfl (Nat.le_of_ble_eq_true rfl) (by decide) ⟨Nat.le_refl _, Nat.le_refl _⟩ d_P_onAccept_104 ?_
          refine mr_aload_n ok (i := 0) d_P_onAccept_107 rfl rfl ?_
          refine sx_getr ok hB fl_P_37 (tm_8 hb) rfl d_P_onAccept_108 ?_
          refine mr_iconst ok 4 d_P_onAccept_111 (by decide) ?_
          refine mr_aload_n ok (i := 1) d_P_onAccept_112 rfl rfl ?_
          refine sx_getr ok hB fl_P_82 (tm_0 hb hi) rfl d_P_onAccept_113 ?_
          refine mr_aload_n ok (i := 2) d_P_onAccept_116 rfl rfl ?_
          refine cx_geti ok hB rfl fl_P_228 (tm_7 hb) rfl d_P_onAccept_117 ?_
          refine mr_aload_n ok (i := 2) d_P_onAccept_120 rfl rfl ?_
          refine cx_geti ok hB rfl fl_P_198 (tm_7 hb) rfl d_P_onAccept_121 ?_
          refine mr_aload_n ok (i := 2) d_P_onAccept_124 rfl rfl ?_
          refine cx_geti ok hB rfl fl_P_225 (tm_7 hb) rfl d_P_onAccept_125 ?_
          refine mr_iconst ok 0 d_P_onAccept_128 (by decide) ?_
          refine mr_iconst ok 0 d_P_onAccept_129 (by decide) ?_
          refine sx_cVv ok hB [_, _, _, _, _, _, _] rfl cb_P_281 cv_F_send (tm_5 hb) rfl rfl (c_F_send hb (by exact hc.1)) rfl (Nat.le_of_ble_eq_true rfl) (by decide) ⟨Nat.le_refl _, Nat.le_refl _⟩ d_P_onAccept_130 ?_
          have hc : kI N (s_F_send N L (s_R_accept N L (s_R_becomeFollower N L (sU c 0 i 4 (c 7 0 3)) i) i ((s_R_becomeFollower N L (sU c 0 i 4 (c 7 0 3)) i) 7 0 3) ((s_R_becomeFollower N L (sU c 0 i 4 (c 7 0 3)) i) 7 0 5)) 4 (nI i) ((s_R_accept N L (s_R_becomeFollower N L (sU c 0 i 4 (c 7 0 3)) i) i ((s_R_becomeFollower N L (sU c 0 i 4 (c 7 0 3)) i) 7 0 3) ((s_R_becomeFollower N L (sU c 0 i 4 (c 7 0 3)) i) 7 0 5)) 7 0 1) ((s_R_accept N L (s_R_becomeFollower N L (sU c 0 i 4 (c 7 0 3)) i) i ((s_R_becomeFollower N L (sU c 0 i 4 (c 7 0 3)) i) 7 0 3) ((s_R_becomeFollower N L (sU c 0 i 4 (c 7 0 3)) i) 7 0 5)) 7 0 3) ((s_R_accept N L (s_R_becomeFollower N L (sU c 0 i 4 (c 7 0 3)) i) i ((s_R_becomeFollower N L (sU c 0 i 4 (c 7 0 3)) i) 7 0 3) ((s_R_becomeFollower N L (sU c 0 i 4 (c 7 0 3)) i) 7 0 5)) 7 0 4) 0 0) := kI_F_send (L := L) hc
          refine mr_goto ok 145 d_P_onAccept_133 (by decide) ?_
          refine sx_vret ok en (Nat.le_refl _) (Nat.le_refl _) d_P_onAccept_145 ?_
          exact ⟨rfl, (by first | rfl | simp only [s_P_onAccept, if_pos h11_0, if_neg h38_1, if_neg h61_2, if_pos h77_3])⟩
        · refine mr_aload_n ok (i := 1) d_P_onAccept_80 rfl rfl ?_
          refine cx_geti ok hB rfl fl_P_244 (tm_0 hb hi) rfl d_P_onAccept_81 ?_
          refine mr_aload_n ok (i := 2) d_P_onAccept_84 rfl rfl ?_
          refine cx_geti ok hB rfl fl_P_198 (tm_7 hb) rfl d_P_onAccept_85 ?_
          refine mr_icmp_eq ok 95 d_P_onAccept_88 (by decide) (fun h88_4 => ?_) (fun h88_4 => ?_)
          · refine mr_aload_n ok (i := 1) d_P_onAccept_95 rfl rfl ?_
            refine mr_aload_n ok (i := 2) d_P_onAccept_96 rfl rfl ?_
            refine cx_geti ok hB rfl fl_P_198 (tm_7 hb) rfl d_P_onAccept_97 ?_
            refine mr_aload_n ok (i := 2) d_P_onAccept_100 rfl rfl ?_
            refine cx_geti ok hB rfl fl_P_257 (tm_7 hb) rfl d_P_onAccept_101 ?_
            refine sx_cVv ok hB [_, _] rfl cb_P_278 cv_R_accept (tm_0 hb hi) rfl rfl (c_R_accept hb hi) rfl (Nat.le_of_ble_eq_true rfl) (by decide) ⟨Nat.le_refl _, Nat.le_refl _⟩ d_P_onAccept_104 ?_
            refine mr_aload_n ok (i := 0) d_P_onAccept_107 rfl rfl ?_
            refine sx_getr ok hB fl_P_37 (tm_8 hb) rfl d_P_onAccept_108 ?_
            refine mr_iconst ok 4 d_P_onAccept_111 (by decide) ?_
            refine mr_aload_n ok (i := 1) d_P_onAccept_112 rfl rfl ?_
            refine sx_getr ok hB fl_P_82 (tm_0 hb hi) rfl d_P_onAccept_113 ?_
            refine mr_aload_n ok (i := 2) d_P_onAccept_116 rfl rfl ?_
            refine cx_geti ok hB rfl fl_P_228 (tm_7 hb) rfl d_P_onAccept_117 ?_
            refine mr_aload_n ok (i := 2) d_P_onAccept_120 rfl rfl ?_
            refine cx_geti ok hB rfl fl_P_198 (tm_7 hb) rfl d_P_onAccept_121 ?_
            refine mr_aload_n ok (i := 2) d_P_onAccept_124 rfl rfl ?_
            refine cx_geti ok hB rfl fl_P_225 (tm_7 hb) rfl d_P_onAccept_125 ?_
            refine mr_iconst ok 0 d_P_onAccept_128 (by decide) ?_
            refine mr_iconst ok 0 d_P_onAccept_129 (by decide) ?_
            refine sx_cVv ok hB [_, _, _, _, _, _, _] rfl cb_P_281 cv_F_send (tm_5 hb) rfl rfl (c_F_send hb (by exact hc.1)) rfl (Nat.le_of_ble_eq_true rfl) (by decide) ⟨Nat.le_refl _, Nat.le_refl _⟩ d_P_onAccept_130 ?_
            have hc : kI N (s_F_send N L (s_R_accept N L (sU c 0 i 4 (c 7 0 3)) i ((sU c 0 i 4 (c 7 0 3)) 7 0 3) ((sU c 0 i 4 (c 7 0 3)) 7 0 5)) 4 (nI i) ((s_R_accept N L (sU c 0 i 4 (c 7 0 3)) i ((sU c 0 i 4 (c 7 0 3)) 7 0 3) ((sU c 0 i 4 (c 7 0 3)) 7 0 5)) 7 0 1) ((s_R_accept N L (sU c 0 i 4 (c 7 0 3)) i ((sU c 0 i 4 (c 7 0 3)) 7 0 3) ((sU c 0 i 4 (c 7 0 3)) 7 0 5)) 7 0 3) ((s_R_accept N L (sU c 0 i 4 (c 7 0 3)) i ((sU c 0 i 4 (c 7 0 3)) 7 0 3) ((sU c 0 i 4 (c 7 0 3)) 7 0 5)) 7 0 4) 0 0) := kI_F_send (L := L) hc
            refine mr_goto ok 145 d_P_onAccept_133 (by decide) ?_
            refine sx_vret ok en (Nat.le_refl _) (Nat.le_refl _) d_P_onAccept_145 ?_
            exact ⟨rfl, (by first | rfl | simp only [s_P_onAccept, if_pos h11_0, if_neg h38_1, if_neg h61_2, if_neg h77_3, if_pos h88_4])⟩
          · refine mr_aload_n ok (i := 1) d_P_onAccept_91 rfl rfl ?_
            refine sx_cVv ok hB [] rfl cb_P_235 cv_R_becomeFollower (tm_0 hb hi) rfl rfl (c_R_becomeFollower hb hi) rfl (Nat.le_of_ble_eq_true rfl) (by decide) ⟨Nat.le_refl _, Nat.le_refl _⟩ d_P_onAccept_92 ?_
            refine mr_aload_n ok (i := 1) d_P_onAccept_95 rfl rfl ?_
            refine mr_aload_n ok (i := 2) d_P_onAccept_96 rfl rfl ?_
            refine cx_geti ok hB rfl fl_P_198 (tm_7 hb) rfl d_P_onAccept_97 ?_
            refine mr_aload_n ok (i := 2) d_P_onAccept_100 rfl rfl ?_
            refine cx_geti ok hB rfl fl_P_257 (tm_7 hb) rfl d_P_onAccept_101 ?_
            refine sx_cVv ok hB [_, _] rfl cb_P_278 cv_R_accept (tm_0 hb hi) rfl rfl (c_R_accept hb hi) rfl (Nat.le_of_ble_eq_true rfl) (by decide) ⟨Nat.le_refl _, Nat.le_refl _⟩ d_P_onAccept_104 ?_
            refine mr_aload_n ok (i := 0) d_P_onAccept_107 rfl rfl ?_
            refine sx_getr ok hB fl_P_37 (tm_8 hb) rfl d_P_onAccept_108 ?_
            refine mr_iconst ok 4 d_P_onAccept_111 (by decide) ?_
            refine mr_aload_n ok (i := 1) d_P_onAccept_112 rfl rfl ?_
            refine sx_getr ok hB fl_P_82 (tm_0 hb hi) rfl d_P_onAccept_113 ?_
            refine mr_aload_n ok (i := 2) d_P_onAccept_116 rfl rfl ?_
            refine cx_geti ok hB rfl fl_P_228 (tm_7 hb) rfl d_P_onAccept_117 ?_
            refine mr_aload_n ok (i := 2) d_P_onAccept_120 rfl rfl ?_
            refine cx_geti ok hB rfl fl_P_198 (tm_7 hb) rfl d_P_onAccept_121 ?_
            refine mr_aload_n ok (i := 2) d_P_onAccept_124 rfl rfl ?_
            refine cx_geti ok hB rfl fl_P_225 (tm_7 hb) rfl d_P_onAccept_125 ?_
            refine mr_iconst ok 0 d_P_onAccept_128 (by decide) ?_
            refine mr_iconst ok 0 d_P_onAccept_129 (by decide) ?_
            refine sx_cVv ok hB [_, _, _, _, _, _, _] rfl cb_P_281 cv_F_send (tm_5 hb) rfl rfl (c_F_send hb (by exact hc.1)) rfl (Nat.le_of_ble_eq_true rfl) (by decide) ⟨Nat.le_refl _, Nat.le_refl _⟩ d_P_onAccept_130 ?_
            have hc : kI N (s_F_send N L (s_R_accept N L (s_R_becomeFollower N L (sU c 0 i 4 (c 7 0 3)) i) i ((s_R_becomeFollower N L (sU c 0 i 4 (c 7 0 3)) i) 7 0 3) ((s_R_becomeFollower N L (sU c 0 i 4 (c 7 0 3)) i) 7 0 5)) 4 (nI i) ((s_R_accept N L (s_R_becomeFollower N L (sU c 0 i 4 (c 7 0 3)) i) i ((s_R_becomeFollower N L (sU c 0 i 4 (c 7 0 3)) i) 7 0 3) ((s_R_becomeFollower N L (sU c 0 i 4 (c 7 0 3)) i) 7 0 5)) 7 0 1) ((s_R_accept N L (s_R_becomeFollower N L (sU c 0 i 4 (c 7 0 3)) i) i ((s_R_becomeFollower N L (sU c 0 i 4 (c 7 0 3)) i) 7 0 3) ((s_R_becomeFollower N L (sU c 0 i 4 (c 7 0 3)) i) 7 0 5)) 7 0 3) ((s_R_accept N L (s_R_becomeFollower N L (sU c 0 i 4 (c 7 0 3)) i) i ((s_R_becomeFollower N L (sU c 0 i 4 (c 7 0 3)) i) 7 0 3) ((s_R_becomeFollower N L (sU c 0 i 4 (c 7 0 3)) i) 7 0 5)) 7 0 4) 0 0) := kI_F_send (L := L) hc
            refine mr_goto ok 145 d_P_onAccept_133 (by decide) ?_
            refine sx_vret ok en (Nat.le_refl _) (Nat.le_refl _) d_P_onAccept_145 ?_
            exact ⟨rfl, (by first | rfl | simp only [s_P_onAccept, if_pos h11_0, if_neg h38_1, if_neg h61_2, if_neg h77_3, if_neg h88_4])⟩
    · refine mr_aload_n ok (i := 0) d_P_onAccept_41 rfl rfl ?_
      refine mr_aload_n ok (i := 1) d_P_onAccept_42 rfl rfl ?_
      refine mr_aload_n ok (i := 2) d_P_onAccept_43 rfl rfl ?_
      refine cx_geti ok hB rfl fl_P_228 (tm_7 hb) rfl d_P_onAccept_44 ?_
      refine sx_cVv ok hB [_, _] rfl cb_P_85 cv_P_ask (tm_8 hb) rfl rfl (c_P_ask hb hi (by exact hc)) rfl (Nat.le_of_ble_eq_true rfl) (by decide) ⟨Nat.le_refl _, Nat.le_refl _⟩ d_P_onAccept_47 ?_
      have hc : kI N (s_P_ask N L c i (c 7 0 1)) := kI_P_ask (L := L) hi hc
      refine mr_goto ok 145 d_P_onAccept_50 (by decide) ?_
      refine sx_vret ok en (Nat.le_refl _) (Nat.le_refl _) d_P_onAccept_145 ?_
      exact ⟨rfl, (by first | rfl | simp only [s_P_onAccept, if_pos h11_0, if_pos h38_1])⟩
  · refine mr_aload_n ok (i := 0) d_P_onAccept_14 rfl rfl ?_
    refine mr_aload_n ok (i := 1) d_P_onAccept_15 rfl rfl ?_
    refine mr_aload_n ok (i := 2) d_P_onAccept_16 rfl rfl ?_
    refine cx_geti ok hB rfl fl_P_228 (tm_7 hb) rfl d_P_onAccept_17 ?_
    refine mr_aload_n ok (i := 2) d_P_onAccept_20 rfl rfl ?_
    refine cx_geti ok hB rfl fl_P_225 (tm_7 hb) rfl d_P_onAccept_21 ?_
    refine sx_cVv ok hB [_, _, _] rfl cb_P_231 cv_P_help (tm_8 hb) rfl rfl (c_P_help hb hi (by exact hc)) rfl (Nat.le_of_ble_eq_true rfl) (by decide) ⟨Nat.le_refl _, Nat.le_refl _⟩ d_P_onAccept_24 ?_
    have hc : kI N (s_P_help N L c i (c 7 0 1) (c 7 0 4)) := kI_P_help (L := L) hi hc
    refine mr_goto ok 145 d_P_onAccept_27 (by decide) ?_
    refine sx_vret ok en (Nat.le_refl _) (Nat.le_refl _) d_P_onAccept_145 ?_
    exact ⟨rfl, (by first | rfl | simp only [s_P_onAccept, if_neg h11_0])⟩
def s_P_onAccepted (N L : Nat) (c : sh_S) (i : Nat) : sh_S := (if (c 0 i 7) = 2 then (if (c 0 i 8) = (c 7 0 3) then (if (c 0 i 10) = 0 then c else (if (v_R_isNext N L c i (c 7 0 4)) = 0 then c else (if (v_R_hasAnswer N L c i (c 7 0 1)) = 0 then (let c1 := s_R_addAnswer N L c i (c 7 0 1); (if (v_P_isMajority N L c1 (c1 0 i 9)) = 0 then c1 else (let c2 := s_P_sendToAll N L c1 5 (nI i) 0 (c1 7 0 4) (c1 0 i 10); (let c3 := s_R_learn N L c2 i (c1 0 i 10); (let c4 := s_P_propose N L c3 i; c4))))) else c))) else c) else c)
theorem kI_P_onAccepted {N L : Nat} {c : sh_S} {i : Nat} (hi : i < N) (hc : kI N c) : kI N (s_P_onAccepted N L c i) := by
  unfold s_P_onAccepted
  try dsimp only
  refine kI_ite (fun _ => ?_) (fun _ => ?_)
  · refine kI_ite (fun _ => ?_) (fun _ => ?_)
    · refine kI_ite (fun _ => ?_) (fun _ => ?_)
      · exact hc
      · refine kI_ite (fun _ => ?_) (fun _ => ?_)
        · exact hc
        · refine kI_ite (fun _ => ?_) (fun _ => ?_)
          · refine kI_ite (fun _ => ?_) (fun _ => ?_)
            · exact hc
            · exact (kI_P_propose (L := L) hi (kI_R_learn (L := L) hi (kI_P_sendToAll (L := L) hc)))
          · exact hc
    · exact hc
  · exact hc
set_option maxHeartbeats 4000000 in
set_option maxRecDepth 100000 in
theorem c_P_onAccepted {B : sh_B} {Z : mx_Z} {N L : Nat} {cI cR cZ : ClassId} (hb : wB B Z N L cI cR cZ) {c r : sh_S} {i : Nat} (hi : i < N) (hc : kI N c) : sc B Z y_P_onAccepted b_P_onAccepted 5 none (rmm 5 119) [.ref (B.2.1 8 0), .ref (B.2.1 0 i), .ref (B.2.1 7 0)] (jn c r) (qe none (jn (s_P_onAccepted N L c i) r)) := by
  refine ct_of (by decide) (Nat.le_of_ble_eq_true rfl) (cat_of rfl) ?_
  intro X ok en _
  have hB := hb.1
  refine mr_lv [(0, .ref (B.2.1 8 0)), (1, .ref (B.2.1 0 i)), (2, .ref (B.2.1 7 0))] ⟨rfl, rfl, rfl, trivial⟩ ?_
  refine mr_aload_n ok (i := 1) d_P_onAccepted_0 rfl rfl ?_
  refine cx_geti ok hB rfl fl_P_66 (tm_0 hb hi) rfl d_P_onAccepted_1 ?_
  refine mr_iconst ok 2 d_P_onAccepted_4 (by decide) ?_
  refine mr_icmp_ne ok 52 d_P_onAccepted_5 (by decide) (fun h5_0 => ?_) (fun h5_0 => ?_)
  · refine mr_iconst ok 0 d_P_onAccepted_52 (by decide) ?_
    refine mr_istore_n ok (i := 3) d_P_onAccepted_53 rfl (by decide) ?_
    refine mr_iload_n ok (i := 3) d_P_onAccepted_54 rfl rfl ?_
    refine mr_if_ne ok 59 d_P_onAccepted_55 (by decide) (fun h => absurd h (by decide)) (fun _ => ?_)
    refine sx_vret ok en (Nat.le_refl _) (Nat.le_refl _) d_P_onAccepted_58 ?_
    exact ⟨rfl, (by first | rfl | simp only [s_P_onAccepted, if_neg h5_0])⟩
  · refine mr_aload_n ok (i := 1) d_P_onAccepted_8 rfl rfl ?_
    refine cx_geti ok hB rfl fl_P_244 (tm_0 hb hi) rfl d_P_onAccepted_9 ?_
    refine mr_aload_n ok (i := 2) d_P_onAccepted_12 rfl rfl ?_
    refine cx_geti ok hB rfl fl_P_198 (tm_7 hb) rfl d_P_onAccepted_13 ?_
    refine mr_icmp_ne ok 52 d_P_onAccepted_16 (by decide) (fun h16_1 => ?_) (fun h16_1 => ?_)
    · refine mr_iconst ok 0 d_P_onAccepted_52 (by decide) ?_
      refine mr_istore_n ok (i := 3) d_P_onAccepted_53 rfl (by decide) ?_
      refine mr_iload_n ok (i := 3) d_P_onAccepted_54 rfl rfl ?_
      refine mr_if_ne ok 59 d_P_onAccepted_55 (by decide) (fun h => absurd h (by decide)) (fun _ => ?_)
      refine sx_vret ok en (Nat.le_refl _) (Nat.le_refl _) d_P_onAccepted_58 ?_
      exact ⟨rfl, (by first | rfl | simp only [s_P_onAccepted, if_pos h5_0, if_neg h16_1])⟩
    · refine mr_aload_n ok (i := 1) d_P_onAccepted_19 rfl rfl ?_
      refine cx_geti ok hB rfl fl_P_173 (tm_0 hb hi) rfl d_P_onAccepted_20 ?_
      refine mr_if_eq ok 52 d_P_onAccepted_23 (by decide) (fun h23_2 => ?_) (fun h23_2 => ?_)
      · refine mr_iconst ok 0 d_P_onAccepted_52 (by decide) ?_
        refine mr_istore_n ok (i := 3) d_P_onAccepted_53 rfl (by decide) ?_
        refine mr_iload_n ok (i := 3) d_P_onAccepted_54 rfl rfl ?_
        refine mr_if_ne ok 59 d_P_onAccepted_55 (by decide) (fun h => absurd h (by decide)) (fun _ => ?_)
        refine sx_vret ok en (Nat.le_refl _) (Nat.le_refl _) d_P_onAccepted_58 ?_
        exact ⟨rfl, (by first | rfl | simp only [s_P_onAccepted, if_pos h5_0, if_pos h16_1, if_pos h23_2])⟩
      · refine mr_aload_n ok (i := 1) d_P_onAccepted_26 rfl rfl ?_
        refine mr_aload_n ok (i := 2) d_P_onAccepted_27 rfl rfl ?_
        refine cx_geti ok hB rfl fl_P_225 (tm_7 hb) rfl d_P_onAccepted_28 ?_
        refine sx_cVi ok hB [_] rfl cb_P_245 cv_R_isNext (tm_0 hb hi) rfl rfl (c_R_isNext hb hi) rfl (Nat.le_of_ble_eq_true rfl) (by decide) ⟨Nat.le_refl _, Nat.le_refl _⟩ d_P_onAccepted_31 ?_
        refine mr_if_eq ok 52 d_P_onAccepted_34 (by decide) (fun h34_3 => ?_) (fun h34_3 => ?_)
        · refine mr_iconst ok 0 d_P_onAccepted_52 (by decide) ?_
          refine mr_istore_n ok (i := 3) d_P_onAccepted_53 rfl (by decide) ?_
          refine mr_iload_n ok (i := 3) d_P_onAccepted_54 rfl rfl ?_
          refine mr_if_ne ok 59 d_P_onAccepted_55 (by decide) (fun h => absurd h (by decide)) (fun _ => ?_)
          refine sx_vret ok en (Nat.le_refl _) (Nat.le_refl _) d_P_onAccepted_58 ?_
          exact ⟨rfl, (by first | rfl | simp only [s_P_onAccepted, if_pos h5_0, if_pos h16_1, if_neg h23_2, if_pos h34_3])⟩
        · refine mr_aload_n ok (i := 1) d_P_onAccepted_37 rfl rfl ?_
          refine mr_aload_n ok (i := 2) d_P_onAccepted_38 rfl rfl ?_
          refine cx_geti ok hB rfl fl_P_228 (tm_7 hb) rfl d_P_onAccepted_39 ?_
          refine sx_cVi ok hB [_] rfl cb_P_248 cv_R_hasAnswer (tm_0 hb hi) rfl rfl (c_R_hasAnswer hb hi) rfl (Nat.le_of_ble_eq_true rfl) (by decide) ⟨Nat.le_refl _, Nat.le_refl _⟩ d_P_onAccepted_42 ?_
          refine mr_if_ne ok 52 d_P_onAccepted_45 (by decide) (fun h45_4 => ?_) (fun h45_4 => ?_)
          · refine mr_iconst ok 0 d_P_onAccepted_52 (by decide) ?_
            refine mr_istore_n ok (i := 3) d_P_onAccepted_53 rfl (by decide) ?_
            refine mr_iload_n ok (i := 3) d_P_onAccepted_54 rfl rfl ?_
            refine mr_if_ne ok 59 d_P_onAccepted_55 (by decide) (fun h => absurd h (by decide)) (fun _ => ?_)
            refine sx_vret ok en (Nat.le_refl _) (Nat.le_refl _) d_P_onAccepted_58 ?_
            exact ⟨rfl, (by first | rfl | simp only [s_P_onAccepted, if_pos h5_0, if_pos h16_1, if_neg h23_2, if_neg h34_3, if_neg h45_4])⟩
          · refine mr_iconst ok 1 d_P_onAccepted_48 (by decide) ?_
            refine mr_goto ok 53 d_P_onAccepted_49 (by decide) ?_
            refine mr_istore_n ok (i := 3) d_P_onAccepted_53 rfl (by decide) ?_
            refine mr_iload_n ok (i := 3) d_P_onAccepted_54 rfl rfl ?_
            refine mr_if_ne ok 59 d_P_onAccepted_55 (by decide) (fun _ => ?_) (fun h => absurd h (by decide))
            refine mr_aload_n ok (i := 1) d_P_onAccepted_59 rfl rfl ?_
            refine mr_aload_n ok (i := 2) d_P_onAccepted_60 rfl rfl ?_
            refine cx_geti ok hB rfl fl_P_228 (tm_7 hb) rfl d_P_onAccepted_61 ?_
            refine sx_cVv ok hB [_] rfl cb_P_251 cv_R_addAnswer (tm_0 hb hi) rfl rfl (c_R_addAnswer hb hi) rfl (Nat.le_of_ble_eq_true rfl) (by decide) ⟨Nat.le_refl _, Nat.le_refl _⟩ d_P_onAccepted_64 ?_
            refine mr_aload_n ok (i := 0) d_P_onAccepted_67 rfl rfl ?_
            refine mr_aload_n ok (i := 1) d_P_onAccepted_68 rfl rfl ?_
            refine cx_geti ok hB rfl fl_P_263 (tm_0 hb hi) rfl d_P_onAccepted_69 ?_
            refine sx_cVi ok hB [_] rfl cb_P_266 cv_P_isMajority (tm_8 hb) rfl rfl (c_P_isMajority hb) rfl (Nat.le_of_ble_eq_true rfl) (by decide) ⟨Nat.le_refl _, Nat.le_refl _⟩ d_P_onAccepted_72 ?_
            refine mr_if_eq ok 111 d_P_onAccepted_75 (by decide) (fun h75_5 => ?_) (fun h75_5 => ?_)
            · refine sx_vret ok en (Nat.le_refl _) (Nat.le_refl _) d_P_onAccepted_111 ?_
              exact ⟨rfl, (by first | rfl | simp only [s_P_onAccepted, if_pos h5_0, if_pos h16_1, if_neg h23_2, if_neg h34_3, if_pos h45_4, if_pos h75_5])⟩
            · refine mr_aload_n ok (i := 1) d_P_onAccepted_78 rfl rfl ?_
              refine cx_geti ok hB rfl fl_P_173 (tm_0 hb hi) rfl d_P_onAccepted_79 ?_
              refine mr_istore ok d_P_onAccepted_82 (by decide) ?_
              refine mr_aload_n ok (i := 0) d_P_onAccepted_84 rfl rfl ?_
              refine mr_iconst ok 5 d_P_onAccepted_85 (by decide) ?_
              refine mr_aload_n ok (i := 1) d_P_onAccepted_86 rfl rfl ?_
              refine sx_getr ok hB fl_P_82 (tm_0 hb hi) rfl d_P_onAccepted_87 ?_
              refine mr_iconst ok 0 d_P_onAccepted_90 (by decide) ?_
              refine mr_aload_n ok (i := 2) d_P_onAccepted_91 rfl rfl ?_
              refine cx_geti ok hB rfl fl_P_225 (tm_7 hb) rfl d_P_onAccepted_92 ?_
              refine mr_iload ok d_P_onAccepted_95 rfl ?_
              refine sx_cVv ok hB [_, _, _, _, _] rfl cb_P_285 cv_P_sendToAll (tm_8 hb) rfl rfl (c_P_sendToAll hb (by exact hc)) rfl (Nat.le_of_ble_eq_true rfl) (by decide) ⟨Nat.le_refl _, Nat.le_refl _⟩ d_P_onAccepted_97 ?_
              have hc : kI N (s_P_sendToAll N L (s_R_addAnswer N L c i (c 7 0 1)) 5 (nI i) 0 ((s_R_addAnswer N L c i (c 7 0 1)) 7 0 4) ((s_R_addAnswer N L c i (c 7 0 1)) 0 i 10)) := kI_P_sendToAll (L := L) hc
              refine mr_aload_n ok (i := 1) d_P_onAccepted_100 rfl rfl ?_
              refine mr_iload ok d_P_onAccepted_101 rfl ?_
              refine sx_cVv ok hB [_] rfl cb_P_289 cv_R_learn (tm_0 hb hi) rfl rfl (c_R_learn hb hi (by exact hc.2 _ hi)) rfl (Nat.le_of_ble_eq_true rfl) (by decide) ⟨Nat.le_refl _, Nat.le_refl _⟩ d_P_onAccepted_103 ?_
              have hc : kI N (s_R_learn N L (s_P_sendToAll N L (s_R_addAnswer N L c i (c 7 0 1)) 5 (nI i) 0 ((s_R_addAnswer N L c i (c 7 0 1)) 7 0 4) ((s_R_addAnswer N L c i (c 7 0 1)) 0 i 10)) i ((s_R_addAnswer N L c i (c 7 0 1)) 0 i 10)) := kI_R_learn (L := L) hi hc
              refine mr_aload_n ok (i := 0) d_P_onAccepted_106 rfl rfl ?_
              refine mr_aload_n ok (i := 1) d_P_onAccepted_107 rfl rfl ?_
              refine sx_cVv ok hB [_] rfl cb_P_179 cv_P_propose (tm_8 hb) rfl rfl (c_P_propose hb hi (by exact hc)) rfl (Nat.le_of_ble_eq_true rfl) (by decide) ⟨Nat.le_refl _, Nat.le_refl _⟩ d_P_onAccepted_108 ?_
              have hc : kI N (s_P_propose N L (s_R_learn N L (s_P_sendToAll N L (s_R_addAnswer N L c i (c 7 0 1)) 5 (nI i) 0 ((s_R_addAnswer N L c i (c 7 0 1)) 7 0 4) ((s_R_addAnswer N L c i (c 7 0 1)) 0 i 10)) i ((s_R_addAnswer N L c i (c 7 0 1)) 0 i 10)) i) := kI_P_propose (L := L) hi hc
              refine sx_vret ok en (Nat.le_refl _) (Nat.le_refl _) d_P_onAccepted_111 ?_
              exact ⟨rfl, (by first | rfl | simp only [s_P_onAccepted, if_pos h5_0, if_pos h16_1, if_neg h23_2, if_neg h34_3, if_pos h45_4, if_neg h75_5])⟩
def s_P_onChosen (N L : Nat) (c : sh_S) (i : Nat) : sh_S := (if (v_R_isNext N L c i (c 7 0 4)) = 0 then (if (c 7 0 4) ≤ (c 1 i 2) then c else (let c1 := s_P_ask N L c i (c 7 0 1); c1)) else (let c2 := s_R_learn N L c i (c 7 0 5); c2))
theorem kI_P_onChosen {N L : Nat} {c : sh_S} {i : Nat} (hi : i < N) (hc : kI N c) : kI N (s_P_onChosen N L c i) := by
  unfold s_P_onChosen
  try dsimp only
  refine kI_ite (fun _ => ?_) (fun _ => ?_)
  · refine kI_ite (fun _ => ?_) (fun _ => ?_)
    · exact hc
    · exact (kI_P_ask (L := L) hi hc)
  · exact (kI_R_learn (L := L) hi hc)
set_option maxHeartbeats 4000000 in
set_option maxRecDepth 100000 in
theorem c_P_onChosen {B : sh_B} {Z : mx_Z} {N L : Nat} {cI cR cZ : ClassId} (hb : wB B Z N L cI cR cZ) {c r : sh_S} {i : Nat} (hi : i < N) (hc : kI N c) : sc B Z y_P_onChosen b_P_onChosen 3 none (rmm 2 50) [.ref (B.2.1 8 0), .ref (B.2.1 0 i), .ref (B.2.1 7 0)] (jn c r) (qe none (jn (s_P_onChosen N L c i) r)) := by
  refine ct_of (by decide) (Nat.le_of_ble_eq_true rfl) (cat_of rfl) ?_
  intro X ok en _
  have hB := hb.1
  refine mr_lv [(0, .ref (B.2.1 8 0)), (1, .ref (B.2.1 0 i)), (2, .ref (B.2.1 7 0))] ⟨rfl, rfl, rfl, trivial⟩ ?_
  refine mr_aload_n ok (i := 1) d_P_onChosen_0 rfl rfl ?_
  refine mr_aload_n ok (i := 2) d_P_onChosen_1 rfl rfl ?_
  refine cx_geti ok hB rfl fl_P_225 (tm_7 hb) rfl d_P_onChosen_2 ?_
  refine sx_cVi ok hB [_] rfl cb_P_245 cv_R_isNext (tm_0 hb hi) rfl rfl (c_R_isNext hb hi) rfl (Nat.le_of_ble_eq_true rfl) (by decide) ⟨Nat.le_refl _, Nat.le_refl _⟩ d_P_onChosen_5 ?_
  refine mr_if_eq ok 22 d_P_onChosen_8 (by decide) (fun h8_0 => ?_) (fun h8_0 => ?_)
  · refine mr_aload_n ok (i := 2) d_P_onChosen_22 rfl rfl ?_
    refine cx_geti ok hB rfl fl_P_225 (tm_7 hb) rfl d_P_onChosen_23 ?_
    refine mr_aload_n ok (i := 1) d_P_onChosen_26 rfl rfl ?_
    refine sx_getr ok hB fl_P_117 (tm_0 hb hi) rfl d_P_onChosen_27 ?_
    refine cx_geti ok hB rfl fl_P_121 (tm_1 hb hi) rfl d_P_onChosen_30 ?_
    refine mr_icmp_le ok 45 d_P_onChosen_33 (by decide) (fun h33_1 => ?_) (fun h33_1 => ?_)
    · refine sx_vret ok en (Nat.le_refl _) (Nat.le_refl _) d_P_onChosen_45 ?_
      exact ⟨rfl, (by first | rfl | simp only [s_P_onChosen, if_pos h8_0, if_pos h33_1])⟩
    · refine mr_aload_n ok (i := 0) d_P_onChosen_36 rfl rfl ?_
      refine mr_aload_n ok (i := 1) d_P_onChosen_37 rfl rfl ?_
      refine mr_aload_n ok (i := 2) d_P_onChosen_38 rfl rfl ?_
      refine cx_geti ok hB rfl fl_P_228 (tm_7 hb) rfl d_P_onChosen_39 ?_
      refine sx_cVv ok hB [_, _] rfl cb_P_85 cv_P_ask (tm_8 hb) rfl rfl (c_P_ask hb hi (by exact hc)) rfl (Nat.le_of_ble_eq_true rfl) (by decide) ⟨Nat.le_refl _, Nat.le_refl _⟩ d_P_onChosen_42 ?_
      have hc : kI N (s_P_ask N L c i (c 7 0 1)) := kI_P_ask (L := L) hi hc
      refine sx_vret ok en (Nat.le_refl _) (Nat.le_refl _) d_P_onChosen_45 ?_
      exact ⟨rfl, (by first | rfl | simp only [s_P_onChosen, if_pos h8_0, if_neg h33_1])⟩
  · refine mr_aload_n ok (i := 1) d_P_onChosen_11 rfl rfl ?_
    refine mr_aload_n ok (i := 2) d_P_onChosen_12 rfl rfl ?_
    refine cx_geti ok hB rfl fl_P_257 (tm_7 hb) rfl d_P_onChosen_13 ?_
    refine sx_cVv ok hB [_] rfl cb_P_289 cv_R_learn (tm_0 hb hi) rfl rfl (c_R_learn hb hi (by exact hc.2 _ hi)) rfl (Nat.le_of_ble_eq_true rfl) (by decide) ⟨Nat.le_refl _, Nat.le_refl _⟩ d_P_onChosen_16 ?_
    have hc : kI N (s_R_learn N L c i (c 7 0 5)) := kI_R_learn (L := L) hi hc
    refine mr_goto ok 45 d_P_onChosen_19 (by decide) ?_
    refine sx_vret ok en (Nat.le_refl _) (Nat.le_refl _) d_P_onChosen_45 ?_
    exact ⟨rfl, (by first | rfl | simp only [s_P_onChosen, if_neg h8_0])⟩
def s_P_onAsk (N L : Nat) (c : sh_S) (i : Nat) : sh_S := (if (c 1 i 2) < (c 7 0 4) then c else (let c1 := s_P_help N L c i (c 7 0 1) (c 7 0 4); c1))
theorem kI_P_onAsk {N L : Nat} {c : sh_S} {i : Nat} (hi : i < N) (hc : kI N c) : kI N (s_P_onAsk N L c i) := by
  unfold s_P_onAsk
  try dsimp only
  refine kI_ite (fun _ => ?_) (fun _ => ?_)
  · exact hc
  · exact (kI_P_help (L := L) hi hc)
set_option maxHeartbeats 4000000 in
set_option maxRecDepth 100000 in
theorem c_P_onAsk {B : sh_B} {Z : mx_Z} {N L : Nat} {cI cR cZ : ClassId} (hb : wB B Z N L cI cR cZ) {c r : sh_S} {i : Nat} (hi : i < N) (hc : kI N c) : sc B Z y_P_onAsk b_P_onAsk 3 none (rmm 5 107) [.ref (B.2.1 8 0), .ref (B.2.1 0 i), .ref (B.2.1 7 0)] (jn c r) (qe none (jn (s_P_onAsk N L c i) r)) := by
  refine ct_of (by decide) (Nat.le_of_ble_eq_true rfl) (cat_of rfl) ?_
  intro X ok en _
  have hB := hb.1
  refine mr_lv [(0, .ref (B.2.1 8 0)), (1, .ref (B.2.1 0 i)), (2, .ref (B.2.1 7 0))] ⟨rfl, rfl, rfl, trivial⟩ ?_
  refine mr_aload_n ok (i := 2) d_P_onAsk_0 rfl rfl ?_
  refine cx_geti ok hB rfl fl_P_225 (tm_7 hb) rfl d_P_onAsk_1 ?_
  refine mr_aload_n ok (i := 1) d_P_onAsk_4 rfl rfl ?_
  refine sx_getr ok hB fl_P_117 (tm_0 hb hi) rfl d_P_onAsk_5 ?_
  refine cx_geti ok hB rfl fl_P_121 (tm_1 hb hi) rfl d_P_onAsk_8 ?_
  refine mr_icmp_gt ok 27 d_P_onAsk_11 (by decide) (fun h11_0 => ?_) (fun h11_0 => ?_)
  · refine sx_vret ok en (Nat.le_refl _) (Nat.le_refl _) d_P_onAsk_27 ?_
    exact ⟨rfl, (by first | rfl | simp only [s_P_onAsk, if_pos h11_0])⟩
  · refine mr_aload_n ok (i := 0) d_P_onAsk_14 rfl rfl ?_
    refine mr_aload_n ok (i := 1) d_P_onAsk_15 rfl rfl ?_
    refine mr_aload_n ok (i := 2) d_P_onAsk_16 rfl rfl ?_
    refine cx_geti ok hB rfl fl_P_228 (tm_7 hb) rfl d_P_onAsk_17 ?_
    refine mr_aload_n ok (i := 2) d_P_onAsk_20 rfl rfl ?_
    refine cx_geti ok hB rfl fl_P_225 (tm_7 hb) rfl d_P_onAsk_21 ?_
    refine sx_cVv ok hB [_, _, _] rfl cb_P_231 cv_P_help (tm_8 hb) rfl rfl (c_P_help hb hi (by exact hc)) rfl (Nat.le_of_ble_eq_true rfl) (by decide) ⟨Nat.le_refl _, Nat.le_refl _⟩ d_P_onAsk_24 ?_
    have hc : kI N (s_P_help N L c i (c 7 0 1) (c 7 0 4)) := kI_P_help (L := L) hi hc
    refine sx_vret ok en (Nat.le_refl _) (Nat.le_refl _) d_P_onAsk_27 ?_
    exact ⟨rfl, (by first | rfl | simp only [s_P_onAsk, if_neg h11_0])⟩
def s_P_onDeny (N L : Nat) (c : sh_S) (i : Nat) : sh_S := (if (c 0 i 7) = 0 then c else (if (c 7 0 3) ≤ (c 0 i 8) then c else (let c1 := s_R_becomeFollower N L c i; c1)))
theorem kI_P_onDeny {N L : Nat} {c : sh_S} {i : Nat} (hi : i < N) (hc : kI N c) : kI N (s_P_onDeny N L c i) := by
  unfold s_P_onDeny
  try dsimp only
  refine kI_ite (fun _ => ?_) (fun _ => ?_)
  · exact hc
  · refine kI_ite (fun _ => ?_) (fun _ => ?_)
    · exact hc
    · exact hc
set_option maxHeartbeats 4000000 in
set_option maxRecDepth 100000 in
theorem c_P_onDeny {B : sh_B} {Z : mx_Z} {N L : Nat} {cI cR cZ : ClassId} (hb : wB B Z N L cI cR cZ) {c r : sh_S} {i : Nat} (hi : i < N) (hc : kI N c) : sc B Z y_P_onDeny b_P_onDeny 3 none (rmm 1 20) [.ref (B.2.1 8 0), .ref (B.2.1 0 i), .ref (B.2.1 7 0)] (jn c r) (qe none (jn (s_P_onDeny N L c i) r)) := by
  refine ct_of (by decide) (Nat.le_of_ble_eq_true rfl) (cat_of rfl) ?_
  intro X ok en _
  have hB := hb.1
  refine mr_lv [(0, .ref (B.2.1 8 0)), (1, .ref (B.2.1 0 i)), (2, .ref (B.2.1 7 0))] ⟨rfl, rfl, rfl, trivial⟩ ?_
  refine mr_aload_n ok (i := 1) d_P_onDeny_0 rfl rfl ?_
  refine cx_geti ok hB rfl fl_P_66 (tm_0 hb hi) rfl d_P_onDeny_1 ?_
  refine mr_if_eq ok 22 d_P_onDeny_4 (by decide) (fun h4_0 => ?_) (fun h4_0 => ?_)
  · refine sx_vret ok en (Nat.le_refl _) (Nat.le_refl _) d_P_onDeny_22 ?_
    exact ⟨rfl, (by first | rfl | simp only [s_P_onDeny, if_pos h4_0])⟩
  · refine mr_aload_n ok (i := 1) d_P_onDeny_7 rfl rfl ?_
    refine cx_geti ok hB rfl fl_P_244 (tm_0 hb hi) rfl d_P_onDeny_8 ?_
    refine mr_aload_n ok (i := 2) d_P_onDeny_11 rfl rfl ?_
    refine cx_geti ok hB rfl fl_P_198 (tm_7 hb) rfl d_P_onDeny_12 ?_
    refine mr_icmp_ge ok 22 d_P_onDeny_15 (by decide) (fun h15_1 => ?_) (fun h15_1 => ?_)
    · refine sx_vret ok en (Nat.le_refl _) (Nat.le_refl _) d_P_onDeny_22 ?_
      exact ⟨rfl, (by first | rfl | simp only [s_P_onDeny, if_neg h4_0, if_pos h15_1])⟩
    · refine mr_aload_n ok (i := 1) d_P_onDeny_18 rfl rfl ?_
      refine sx_cVv ok hB [] rfl cb_P_235 cv_R_becomeFollower (tm_0 hb hi) rfl rfl (c_R_becomeFollower hb hi) rfl (Nat.le_of_ble_eq_true rfl) (by decide) ⟨Nat.le_refl _, Nat.le_refl _⟩ d_P_onDeny_19 ?_
      refine sx_vret ok en (Nat.le_refl _) (Nat.le_refl _) d_P_onDeny_22 ?_
      exact ⟨rfl, (by first | rfl | simp only [s_P_onDeny, if_neg h4_0, if_neg h15_1])⟩
def s_P_onState (N L : Nat) (c : sh_S) (i : Nat) : sh_S := (if (c 7 0 4) ≤ (c 1 i 2) then c else (let c1 := s_G_jump N L c i (c 7 0 4) (c 7 0 5); (let c2 := s_R_dropAccepted N L c1 i; (let c3 := s_R_becomeFollower N L c2 i; c3))))
theorem kI_P_onState {N L : Nat} {c : sh_S} {i : Nat} (hi : i < N) (hc : kI N c) : kI N (s_P_onState N L c i) := by
  unfold s_P_onState
  try dsimp only
  refine kI_ite (fun _ => ?_) (fun _ => ?_)
  · exact hc
  · exact hc
set_option maxHeartbeats 4000000 in
set_option maxRecDepth 100000 in
theorem c_P_onState {B : sh_B} {Z : mx_Z} {N L : Nat} {cI cR cZ : ClassId} (hb : wB B Z N L cI cR cZ) {c r : sh_S} {i : Nat} (hi : i < N) (hc : kI N c) : sc B Z y_P_onState b_P_onState 3 none (rmm 1 22) [.ref (B.2.1 8 0), .ref (B.2.1 0 i), .ref (B.2.1 7 0)] (jn c r) (qe none (jn (s_P_onState N L c i) r)) := by
  refine ct_of (by decide) (Nat.le_of_ble_eq_true rfl) (cat_of rfl) ?_
  intro X ok en _
  have hB := hb.1
  refine mr_lv [(0, .ref (B.2.1 8 0)), (1, .ref (B.2.1 0 i)), (2, .ref (B.2.1 7 0))] ⟨rfl, rfl, rfl, trivial⟩ ?_
  refine mr_aload_n ok (i := 2) d_P_onState_0 rfl rfl ?_
  refine cx_geti ok hB rfl fl_P_225 (tm_7 hb) rfl d_P_onState_1 ?_
  refine mr_aload_n ok (i := 1) d_P_onState_4 rfl rfl ?_
  refine sx_getr ok hB fl_P_117 (tm_0 hb hi) rfl d_P_onState_5 ?_
  refine cx_geti ok hB rfl fl_P_121 (tm_1 hb hi) rfl d_P_onState_8 ?_
  refine mr_icmp_le ok 37 d_P_onState_11 (by decide) (fun h11_0 => ?_) (fun h11_0 => ?_)
  · refine sx_vret ok en (Nat.le_refl _) (Nat.le_refl _) d_P_onState_37 ?_
    exact ⟨rfl, (by first | rfl | simp only [s_P_onState, if_pos h11_0])⟩
  · refine mr_aload_n ok (i := 1) d_P_onState_14 rfl rfl ?_
    refine sx_getr ok hB fl_P_117 (tm_0 hb hi) rfl d_P_onState_15 ?_
    refine mr_aload_n ok (i := 2) d_P_onState_18 rfl rfl ?_
    refine cx_geti ok hB rfl fl_P_225 (tm_7 hb) rfl d_P_onState_19 ?_
    refine mr_aload_n ok (i := 2) d_P_onState_22 rfl rfl ?_
    refine cx_geti ok hB rfl fl_P_257 (tm_7 hb) rfl d_P_onState_23 ?_
    refine sx_cVv ok hB [_, _] rfl cb_P_292 cv_G_jump (tm_1 hb hi) rfl rfl (c_G_jump hb hi) rfl (Nat.le_of_ble_eq_true rfl) (by decide) ⟨Nat.le_refl _, Nat.le_refl _⟩ d_P_onState_26 ?_
    refine mr_aload_n ok (i := 1) d_P_onState_29 rfl rfl ?_
    refine sx_cVv ok hB [] rfl cb_P_295 cv_R_dropAccepted (tm_0 hb hi) rfl rfl (c_R_dropAccepted hb hi) rfl (Nat.le_of_ble_eq_true rfl) (by decide) ⟨Nat.le_refl _, Nat.le_refl _⟩ d_P_onState_30 ?_
    refine mr_aload_n ok (i := 1) d_P_onState_33 rfl rfl ?_
    refine sx_cVv ok hB [] rfl cb_P_235 cv_R_becomeFollower (tm_0 hb hi) rfl rfl (c_R_becomeFollower hb hi) rfl (Nat.le_of_ble_eq_true rfl) (by decide) ⟨Nat.le_refl _, Nat.le_refl _⟩ d_P_onState_34 ?_
    refine sx_vret ok en (Nat.le_refl _) (Nat.le_refl _) d_P_onState_37 ?_
    exact ⟨rfl, (by first | rfl | simp only [s_P_onState, if_neg h11_0])⟩
def s_P_arrive (N L : Nat) (c : sh_S) (i : Nat) : sh_S := (let c1 := sU c 0 i 11 (if (c 0 i 11) < (c 7 0 3) then (c 7 0 3) else (c 0 i 11)); (if (c1 7 0 0) = 1 then (let c2 := s_P_onPrepare N L c1 i; c2) else (if (c1 7 0 0) = 2 then (let c3 := s_P_onPromise N L c1 i; c3) else (if (c1 7 0 0) = 3 then (let c4 := s_P_onAccept N L c1 i; c4) else (if (c1 7 0 0) = 4 then (let c5 := s_P_onAccepted N L c1 i; c5) else (if (c1 7 0 0) = 5 then (let c6 := s_P_onChosen N L c1 i; c6) else (if (c1 7 0 0) = 6 then (let c7 := s_P_onAsk N L c1 i; c7) else (if (c1 7 0 0) = 7 then (let c8 := s_P_onDeny N L c1 i; c8) else (let c9 := s_P_onState N L c1 i; c9)))))))))
theorem kI_P_arrive {N L : Nat} {c : sh_S} {i : Nat} (hi : i < N) (hc : kI N c) : kI N (s_P_arrive N L c i) := by
  unfold s_P_arrive
  try dsimp only
  refine kI_ite (fun _ => ?_) (fun _ => ?_)
  · exact (kI_P_onPrepare (L := L) hi hc)
  · refine kI_ite (fun _ => ?_) (fun _ => ?_)
    · exact (kI_P_onPromise (L := L) hi hc)
    · refine kI_ite (fun _ => ?_) (fun _ => ?_)
      · exact (kI_P_onAccept (L := L) hi hc)
      · refine kI_ite (fun _ => ?_) (fun _ => ?_)
        · exact (kI_P_onAccepted (L := L) hi hc)
        · refine kI_ite (fun _ => ?_) (fun _ => ?_)
          · exact (kI_P_onChosen (L := L) hi hc)
          · refine kI_ite (fun _ => ?_) (fun _ => ?_)
            · exact (kI_P_onAsk (L := L) hi hc)
            · refine kI_ite (fun _ => ?_) (fun _ => ?_)
              · exact (kI_P_onDeny (L := L) hi hc)
              · exact (kI_P_onState (L := L) hi hc)
set_option maxHeartbeats 4000000 in
set_option maxRecDepth 100000 in
theorem c_P_arrive {B : sh_B} {Z : mx_Z} {N L : Nat} {cI cR cZ : ClassId} (hb : wB B Z N L cI cR cZ) {c r : sh_S} {i : Nat} (hi : i < N) (hc : kI N c) : sc B Z y_P_arrive b_P_arrive 3 none (rmm 6 143) [.ref (B.2.1 8 0), .ref (B.2.1 0 i), .ref (B.2.1 7 0)] (jn c r) (qe none (jn (s_P_arrive N L c i) r)) := by
  refine ct_of (by decide) (Nat.le_of_ble_eq_true rfl) (cat_of rfl) ?_
  intro X ok en _
  have hB := hb.1
  refine mr_lv [(0, .ref (B.2.1 8 0)), (1, .ref (B.2.1 0 i)), (2, .ref (B.2.1 7 0))] ⟨rfl, rfl, rfl, trivial⟩ ?_
  refine mr_aload_n ok (i := 1) d_P_arrive_0 rfl rfl ?_
  refine mr_aload_n ok (i := 1) d_P_arrive_1 rfl rfl ?_
  refine cx_geti ok hB rfl fl_P_189 (tm_0 hb hi) rfl d_P_arrive_2 ?_
  refine mr_aload_n ok (i := 2) d_P_arrive_5 rfl rfl ?_
  refine cx_geti ok hB rfl fl_P_198 (tm_7 hb) rfl d_P_arrive_6 ?_
  refine mr_max ok (mw 64 rfl rfl) (mw 65 rfl rfl) (mw 44 rfl rfl) (mw 66 rfl rfl) (by decide) (Nat.le_of_ble_eq_true rfl) (Nat.le_refl _) (Nat.le_refl _) d_P_arrive_9 ?_
  refine cx_put ok hB rfl fw_P_189 (tm_0 hb hi) rfl rfl rfl d_P_arrive_12 ?_
  refine mr_aload_n ok (i := 2) d_P_arrive_15 rfl rfl ?_
  refine cx_geti ok hB rfl fl_P_108 (tm_7 hb) rfl d_P_arrive_16 ?_
  by_cases h19_0_1 : ((sU c 0 i 11 (if (c 0 i 11) < (c 7 0 3) then (c 7 0 3) else (c 0 i 11))) 7 0 0) = 1
  · refine mr_tableIn (off := 41) ok 60 d_P_arrive_19 (by rw [h19_0_1]; decide) (by rw [h19_0_1]; decide) (by rw [h19_0_1]; decide) (by decide) ?_
    refine mr_aload_n ok (i := 0) d_P_arrive_60 rfl rfl ?_
    refine mr_aload_n ok (i := 1) d_P_arrive_61 rfl rfl ?_
    refine mr_aload_n ok (i := 2) d_P_arrive_62 rfl rfl ?_
    refine sx_cVv ok hB [_, _] rfl cb_P_201 cv_P_onPrepare (tm_8 hb) rfl rfl (c_P_onPrepare hb hi (by exact hc)) rfl (Nat.le_of_ble_eq_true rfl) (by decide) ⟨Nat.le_refl _, Nat.le_refl _⟩ d_P_arrive_63 ?_
    have hc : kI N (s_P_onPrepare N L (sU c 0 i 11 (if (c 0 i 11) < (c 7 0 3) then (c 7 0 3) else (c 0 i 11))) i) := kI_P_onPrepare (L := L) hi hc
    refine mr_goto ok 129 d_P_arrive_66 (by decide) ?_
    refine sx_vret ok en (Nat.le_refl _) (Nat.le_refl _) d_P_arrive_129 ?_
    exact ⟨rfl, (by first | rfl | simp only [s_P_arrive, if_pos h19_0_1])⟩
  by_cases h19_0_2 : ((sU c 0 i 11 (if (c 0 i 11) < (c 7 0 3) then (c 7 0 3) else (c 0 i 11))) 7 0 0) = 2
  · refine mr_tableIn (off := 50) ok 69 d_P_arrive_19 (by rw [h19_0_2]; decide) (by rw [h19_0_2]; decide) (by rw [h19_0_2]; decide) (by decide) ?_
    refine mr_aload_n ok (i := 0) d_P_arrive_69 rfl rfl ?_
    refine mr_aload_n ok (i := 1) d_P_arrive_70 rfl rfl ?_
    refine mr_aload_n ok (i := 2) d_P_arrive_71 rfl rfl ?_
    refine sx_cVv ok hB [_, _] rfl cb_P_204 cv_P_onPromise (tm_8 hb) rfl rfl (c_P_onPromise hb hi (by exact hc)) rfl (Nat.le_of_ble_eq_true rfl) (by decide) ⟨Nat.le_refl _, Nat.le_refl _⟩ d_P_arrive_72 ?_
    have hc : kI N (s_P_onPromise N L (sU c 0 i 11 (if (c 0 i 11) < (c 7 0 3) then (c 7 0 3) else (c 0 i 11))) i) := kI_P_onPromise (L := L) hi hc
    refine mr_goto ok 129 d_P_arrive_75 (by decide) ?_
    refine sx_vret ok en (Nat.le_refl _) (Nat.le_refl _) d_P_arrive_129 ?_
    exact ⟨rfl, (by first | rfl | simp only [s_P_arrive, if_neg h19_0_1, if_pos h19_0_2])⟩
  by_cases h19_0_3 : ((sU c 0 i 11 (if (c 0 i 11) < (c 7 0 3) then (c 7 0 3) else (c 0 i 11))) 7 0 0) = 3
  · refine mr_tableIn (off := 59) ok 78 d_P_arrive_19 (by rw [h19_0_3]; decide) (by rw [h19_0_3]; decide) (by rw [h19_0_3]; decide) (by decide) ?_
    refine mr_aload_n ok (i := 0) d_P_arrive_78 rfl rfl ?_
    refine mr_aload_n ok (i := 1) d_P_arrive_79 rfl rfl ?_
    refine mr_aload_n ok (i := 2) d_P_arrive_80 rfl rfl ?_
    refine sx_cVv ok hB [_, _] rfl cb_P_207 cv_P_onAccept (tm_8 hb) rfl rfl (c_P_onAccept hb hi (by exact hc)) rfl (Nat.le_of_ble_eq_true rfl) (by decide) ⟨Nat.le_refl _, Nat.le_refl _⟩ d_P_arrive_81 ?_
    have hc : kI N (s_P_onAccept N L (sU c 0 i 11 (if (c 0 i 11) < (c 7 0 3) then (c 7 0 3) else (c 0 i 11))) i) := kI_P_onAccept (L := L) hi hc
    refine mr_goto ok 129 d_P_arrive_84 (by decide) ?_
    refine sx_vret ok en (Nat.le_refl _) (Nat.le_refl _) d_P_arrive_129 ?_
    exact ⟨rfl, (by first | rfl | simp only [s_P_arrive, if_neg h19_0_1, if_neg h19_0_2, if_pos h19_0_3])⟩
  by_cases h19_0_4 : ((sU c 0 i 11 (if (c 0 i 11) < (c 7 0 3) then (c 7 0 3) else (c 0 i 11))) 7 0 0) = 4
  · refine mr_tableIn (off := 68) ok 87 d_P_arrive_19 (by rw [h19_0_4]; decide) (by rw [h19_0_4]; decide) (by rw [h19_0_4]; decide) (by decide) ?_
    refine mr_aload_n ok (i := 0) d_P_arrive_87 rfl rfl ?_
    refine mr_aload_n ok (i := 1) d_P_arrive_88 rfl rfl ?_
    refine mr_aload_n ok (i := 2) d_P_arrive_89 rfl rfl ?_
    refine sx_cVv ok hB [_, _] rfl cb_P_210 cv_P_onAccepted (tm_8 hb) rfl rfl (c_P_onAccepted hb hi (by exact hc)) rfl (Nat.le_of_ble_eq_true rfl) (by decide) ⟨Nat.le_refl _, Nat.le_refl _⟩ d_P_arrive_90 ?_
    have hc : kI N (s_P_onAccepted N L (sU c 0 i 11 (if (c 0 i 11) < (c 7 0 3) then (c 7 0 3) else (c 0 i 11))) i) := kI_P_onAccepted (L := L) hi hc
    refine mr_goto ok 129 d_P_arrive_93 (by decide) ?_
    refine sx_vret ok en (Nat.le_refl _) (Nat.le_refl _) d_P_arrive_129 ?_
    exact ⟨rfl, (by first | rfl | simp only [s_P_arrive, if_neg h19_0_1, if_neg h19_0_2, if_neg h19_0_3, if_pos h19_0_4])⟩
  by_cases h19_0_5 : ((sU c 0 i 11 (if (c 0 i 11) < (c 7 0 3) then (c 7 0 3) else (c 0 i 11))) 7 0 0) = 5
  · refine mr_tableIn (off := 77) ok 96 d_P_arrive_19 (by rw [h19_0_5]; decide) (by rw [h19_0_5]; decide) (by rw [h19_0_5]; decide) (by decide) ?_
    refine mr_aload_n ok (i := 0) d_P_arrive_96 rfl rfl ?_
    refine mr_aload_n ok (i := 1) d_P_arrive_97 rfl rfl ?_
    refine mr_aload_n ok (i := 2) d_P_arrive_98 rfl rfl ?_
    refine sx_cVv ok hB [_, _] rfl cb_P_213 cv_P_onChosen (tm_8 hb) rfl rfl (c_P_onChosen hb hi (by exact hc)) rfl (Nat.le_of_ble_eq_true rfl) (by decide) ⟨Nat.le_refl _, Nat.le_refl _⟩ d_P_arrive_99 ?_
    have hc : kI N (s_P_onChosen N L (sU c 0 i 11 (if (c 0 i 11) < (c 7 0 3) then (c 7 0 3) else (c 0 i 11))) i) := kI_P_onChosen (L := L) hi hc
    refine mr_goto ok 129 d_P_arrive_102 (by decide) ?_
    refine sx_vret ok en (Nat.le_refl _) (Nat.le_refl _) d_P_arrive_129 ?_
    exact ⟨rfl, (by first | rfl | simp only [s_P_arrive, if_neg h19_0_1, if_neg h19_0_2, if_neg h19_0_3, if_neg h19_0_4, if_pos h19_0_5])⟩
  by_cases h19_0_6 : ((sU c 0 i 11 (if (c 0 i 11) < (c 7 0 3) then (c 7 0 3) else (c 0 i 11))) 7 0 0) = 6
  · refine mr_tableIn (off := 86) ok 105 d_P_arrive_19 (by rw [h19_0_6]; decide) (by rw [h19_0_6]; decide) (by rw [h19_0_6]; decide) (by decide) ?_
    refine mr_aload_n ok (i := 0) d_P_arrive_105 rfl rfl ?_
    refine mr_aload_n ok (i := 1) d_P_arrive_106 rfl rfl ?_
    refine mr_aload_n ok (i := 2) d_P_arrive_107 rfl rfl ?_
    refine sx_cVv ok hB [_, _] rfl cb_P_216 cv_P_onAsk (tm_8 hb) rfl rfl (c_P_onAsk hb hi (by exact hc)) rfl (Nat.le_of_ble_eq_true rfl) (by decide) ⟨Nat.le_refl _, Nat.le_refl _⟩ d_P_arrive_108 ?_
    have hc : kI N (s_P_onAsk N L (sU c 0 i 11 (if (c 0 i 11) < (c 7 0 3) then (c 7 0 3) else (c 0 i 11))) i) := kI_P_onAsk (L := L) hi hc
    refine mr_goto ok 129 d_P_arrive_111 (by decide) ?_
    refine sx_vret ok en (Nat.le_refl _) (Nat.le_refl _) d_P_arrive_129 ?_
    exact ⟨rfl, (by first | rfl | simp only [s_P_arrive, if_neg h19_0_1, if_neg h19_0_2, if_neg h19_0_3, if_neg h19_0_4, if_neg h19_0_5, if_pos h19_0_6])⟩
  by_cases h19_0_7 : ((sU c 0 i 11 (if (c 0 i 11) < (c 7 0 3) then (c 7 0 3) else (c 0 i 11))) 7 0 0) = 7
  · refine mr_tableIn (off := 95) ok 114 d_P_arrive_19 (by rw [h19_0_7]; decide) (by rw [h19_0_7]; decide) (by rw [h19_0_7]; decide) (by decide) ?_
    refine mr_aload_n ok (i := 0) d_P_arrive_114 rfl rfl ?_
    refine mr_aload_n ok (i := 1) d_P_arrive_115 rfl rfl ?_
    refine mr_aload_n ok (i := 2) d_P_arrive_116 rfl rfl ?_
    refine sx_cVv ok hB [_, _] rfl cb_P_219 cv_P_onDeny (tm_8 hb) rfl rfl (c_P_onDeny hb hi (by exact hc)) rfl (Nat.le_of_ble_eq_true rfl) (by decide) ⟨Nat.le_refl _, Nat.le_refl _⟩ d_P_arrive_117 ?_
    have hc : kI N (s_P_onDeny N L (sU c 0 i 11 (if (c 0 i 11) < (c 7 0 3) then (c 7 0 3) else (c 0 i 11))) i) := kI_P_onDeny (L := L) hi hc
    refine mr_goto ok 129 d_P_arrive_120 (by decide) ?_
    refine sx_vret ok en (Nat.le_refl _) (Nat.le_refl _) d_P_arrive_129 ?_
    exact ⟨rfl, (by first | rfl | simp only [s_P_arrive, if_neg h19_0_1, if_neg h19_0_2, if_neg h19_0_3, if_neg h19_0_4, if_neg h19_0_5, if_neg h19_0_6, if_pos h19_0_7])⟩
  have th19_0_1 := lv_neT h19_0_1 (a := 1) (by decide)
  have th19_0_2 := lv_neT h19_0_2 (a := 2) (by decide)
  have th19_0_3 := lv_neT h19_0_3 (a := 3) (by decide)
  have th19_0_4 := lv_neT h19_0_4 (a := 4) (by decide)
  have th19_0_5 := lv_neT h19_0_5 (a := 5) (by decide)
  have th19_0_6 := lv_neT h19_0_6 (a := 6) (by decide)
  have th19_0_7 := lv_neT h19_0_7 (a := 7) (by decide)
  refine mr_tableOut ok 123 d_P_arrive_19 (by omega) (by decide) ?_
  refine mr_aload_n ok (i := 0) d_P_arrive_123 rfl rfl ?_
  refine mr_aload_n ok (i := 1) d_P_arrive_124 rfl rfl ?_
  refine mr_aload_n ok (i := 2) d_P_arrive_125 rfl rfl ?_
  refine sx_cVv ok hB [_, _] rfl cb_P_222 cv_P_onState (tm_8 hb) rfl rfl (c_P_onState hb hi (by exact hc)) rfl (Nat.le_of_ble_eq_true rfl) (by decide) ⟨Nat.le_refl _, Nat.le_refl _⟩ d_P_arrive_126 ?_
  have hc : kI N (s_P_onState N L (sU c 0 i 11 (if (c 0 i 11) < (c 7 0 3) then (c 7 0 3) else (c 0 i 11))) i) := kI_P_onState (L := L) hi hc
  refine sx_vret ok en (Nat.le_refl _) (Nat.le_refl _) d_P_arrive_129 ?_
  exact ⟨rfl, (by first | rfl | simp only [s_P_arrive, if_neg h19_0_1, if_neg h19_0_2, if_neg h19_0_3, if_neg h19_0_4, if_neg h19_0_5, if_neg h19_0_6, if_neg h19_0_7])⟩
def v_P_request (N L : Nat) (c : sh_S) (x : Int32) (y : Int32) : Int32 := (if kF N x then (if (c 0 ((x : Int32).toNatClampNeg) 3) = 0 then 0 else (if 1 ≤ y then (let c1 := s_L_add N L c ((x : Int32).toNatClampNeg) y; (v_L_add N L c ((x : Int32).toNatClampNeg) y)) else 0)) else 0)
def s_P_request (N L : Nat) (c : sh_S) (x : Int32) (y : Int32) : sh_S := (if kF N x then (if (c 0 ((x : Int32).toNatClampNeg) 3) = 0 then c else (if 1 ≤ y then (let c1 := s_L_add N L c ((x : Int32).toNatClampNeg) y; c1) else c)) else c)
theorem kI_P_request {N L : Nat} {c : sh_S} {x : Int32} {y : Int32} (hN : N ≤ 5) (hc : kI N c) : kI N (s_P_request N L c x y) := by
  unfold s_P_request
  try dsimp only
  refine kI_ite (fun hk => ?_) (fun _ => ?_)
  · have hi := (kF_lt hk hN).1
    refine kI_ite (fun _ => ?_) (fun _ => ?_)
    · exact hc
    · refine kI_ite (fun _ => ?_) (fun _ => ?_)
      · exact (kI_L_add (L := L) hi hc)
      · exact hc
  · exact hc
set_option maxHeartbeats 4000000 in
set_option maxRecDepth 100000 in
theorem c_P_request {B : sh_B} {Z : mx_Z} {N L : Nat} {cI cR cZ : ClassId} (hb : wB B Z N L cI cR cZ) {c r : sh_S} {x : Int32} {y : Int32} (hc : kI N c) : sc B Z y_P_request b_P_request 4 (some (.boolean)) (rmm 1 21) [.ref (B.2.1 8 0), .int x, .int y] (jn c r) (qe (some (.int (v_P_request N L c x y))) (jn (s_P_request N L c x y) r)) := by
  refine ct_of (by decide) (Nat.le_of_ble_eq_true rfl) (cat_of rfl) ?_
  intro X ok en _
  have hB := hb.1
  refine mr_lv [(0, .ref (B.2.1 8 0)), (1, .int x), (2, .int y)] ⟨rfl, rfl, rfl, trivial⟩ ?_
  refine mr_aload_n ok (i := 0) d_P_request_0 rfl rfl ?_
  refine mr_iload_n ok (i := 1) d_P_request_1 rfl rfl ?_
  refine P_find_row ok hb (by decide) (by decide) (by decide) d_P_request_2 cb_P_48 (fun h2_0 hi => ?_) (fun h2_0 => ?_)
  · refine mr_astore_n ok (i := 3) d_P_request_5 rfl (by decide) ?_
    refine mr_aload_n ok (i := 3) d_P_request_6 rfl rfl ?_
    refine mr_ifnull ok d_P_request_7 ?_
    refine mr_aload_n ok (i := 3) d_P_request_10 rfl rfl ?_
    refine cx_geti ok hB rfl fl_P_52 (tm_0 hb hi) rfl d_P_request_11 ?_
    refine mr_if_eq ok 22 d_P_request_14 (by decide) (fun h14_1 => ?_) (fun h14_1 => ?_)
    · refine mr_iconst ok 0 d_P_request_22 (by decide) ?_
      refine sx_zret rfl ok en (Nat.le_refl _) (Nat.le_refl _) d_P_request_23 ?_
      exact ⟨(by first | rfl | simp only [v_P_request, if_pos h2_0, if_pos h14_1]), (by first | rfl | simp only [s_P_request, if_pos h2_0, if_pos h14_1])⟩
    · refine mr_iload_n ok (i := 2) d_P_request_17 rfl rfl ?_
      refine mr_iconst ok 1 d_P_request_18 (by decide) ?_
      refine mr_icmp_ge ok 24 d_P_request_19 (by decide) (fun h19_2 => ?_) (fun h19_2 => ?_)
      · refine mr_aload_n ok (i := 3) d_P_request_24 rfl rfl ?_
        refine sx_getr ok hB fl_P_56 (tm_0 hb hi) rfl d_P_request_25 ?_
        refine mr_iload_n ok (i := 2) d_P_request_28 rfl rfl ?_
        refine sx_cVi ok hB [_] rfl cb_P_60 cv_L_add (tm_3 hb hi) rfl rfl (c_L_add hb hi (by exact hc.2 _ hi)) rfl (Nat.le_of_ble_eq_true rfl) (by decide) ⟨Nat.le_refl _, Nat.le_refl _⟩ d_P_request_29 ?_
        have hc : kI N (s_L_add N L c ((x : Int32).toNatClampNeg) y) := kI_L_add (L := L) hi hc
        refine sx_zret (zb_L_add ..) ok en (Nat.le_refl _) (Nat.le_refl _) d_P_request_32 ?_
        exact ⟨(by first | rfl | simp only [v_P_request, if_pos h2_0, if_neg h14_1, if_pos h19_2]), (by first | rfl | simp only [s_P_request, if_pos h2_0, if_neg h14_1, if_pos h19_2])⟩
      · refine mr_iconst ok 0 d_P_request_22 (by decide) ?_
        refine sx_zret rfl ok en (Nat.le_refl _) (Nat.le_refl _) d_P_request_23 ?_
        exact ⟨(by first | rfl | simp only [v_P_request, if_pos h2_0, if_neg h14_1, if_neg h19_2]), (by first | rfl | simp only [s_P_request, if_pos h2_0, if_neg h14_1, if_neg h19_2])⟩
  · refine mr_astore_nN ok (i := 3) d_P_request_5 rfl (by decide) ?_
    refine mr_aload_nN ok (i := 3) d_P_request_6 rfl rfl ?_
    refine mr_ifnullN ok 22 d_P_request_7 (by decide) ?_
    refine mr_iconst ok 0 d_P_request_22 (by decide) ?_
    refine sx_zret rfl ok en (Nat.le_refl _) (Nat.le_refl _) d_P_request_23 ?_
    exact ⟨(by first | rfl | simp only [v_P_request, if_neg h2_0]), (by first | rfl | simp only [s_P_request, if_neg h2_0])⟩
def v_P_tick (N L : Nat) (c : sh_S) (x : Int32) : Int32 := (if kF N x then (if (c 0 ((x : Int32).toNatClampNeg) 3) = 0 then (-1) else (if (c 0 ((x : Int32).toNatClampNeg) 7) = 2 then (let c5 := s_P_tickLeader N L c ((x : Int32).toNatClampNeg); (c5 5 0 1)) else (if (c 0 ((x : Int32).toNatClampNeg) 7) = 1 then (let c4 := s_P_sendPrepare N L c ((x : Int32).toNatClampNeg); (c4 5 0 1)) else (if (c 3 ((x : Int32).toNatClampNeg) 1) ≤ 0 then (if (nI N) ≤ ((nI ((x : Int32).toNatClampNeg)) + 1) then (let c1 := s_P_ask N L c ((x : Int32).toNatClampNeg) 0; (c1 5 0 1)) else (let c2 := s_P_ask N L c ((x : Int32).toNatClampNeg) ((nI ((x : Int32).toNatClampNeg)) + 1); (c2 5 0 1))) else (let c3 := s_P_campaign N L c ((x : Int32).toNatClampNeg); (c3 5 0 1)))))) else (-1))
def s_P_tick (N L : Nat) (c : sh_S) (x : Int32) : sh_S := (if kF N x then (if (c 0 ((x : Int32).toNatClampNeg) 3) = 0 then c else (if (c 0 ((x : Int32).toNatClampNeg) 7) = 2 then (let c5 := s_P_tickLeader N L c ((x : Int32).toNatClampNeg); c5) else (if (c 0 ((x : Int32).toNatClampNeg) 7) = 1 then (let c4 := s_P_sendPrepare N L c ((x : Int32).toNatClampNeg); c4) else (if (c 3 ((x : Int32).toNatClampNeg) 1) ≤ 0 then (if (nI N) ≤ ((nI ((x : Int32).toNatClampNeg)) + 1) then (let c1 := s_P_ask N L c ((x : Int32).toNatClampNeg) 0; c1) else (let c2 := s_P_ask N L c ((x : Int32).toNatClampNeg) ((nI ((x : Int32).toNatClampNeg)) + 1); c2)) else (let c3 := s_P_campaign N L c ((x : Int32).toNatClampNeg); c3))))) else c)
theorem kI_P_tick {N L : Nat} {c : sh_S} {x : Int32} (hN : N ≤ 5) (hc : kI N c) : kI N (s_P_tick N L c x) := by
  unfold s_P_tick
  try dsimp only
  refine kI_ite (fun hk => ?_) (fun _ => ?_)
  · have hi := (kF_lt hk hN).1
    refine kI_ite (fun _ => ?_) (fun _ => ?_)
    · exact hc
    · refine kI_ite (fun _ => ?_) (fun _ => ?_)
      · exact (kI_P_tickLeader (L := L) hi hc)
      · refine kI_ite (fun _ => ?_) (fun _ => ?_)
        · exact (kI_P_sendPrepare (L := L) hi hc)
        · refine kI_ite (fun _ => ?_) (fun _ => ?_)
          · refine kI_ite (fun _ => ?_) (fun _ => ?_)
            · exact (kI_P_ask (L := L) hi hc)
            · exact (kI_P_ask (L := L) hi hc)
          · exact (kI_P_campaign (L := L) hi hc)
  · exact hc
set_option maxHeartbeats 4000000 in
set_option maxRecDepth 100000 in
theorem c_P_tick {B : sh_B} {Z : mx_Z} {N L : Nat} {cI cR cZ : ClassId} (hb : wB B Z N L cI cR cZ) {c r : sh_S} {x : Int32} (hc : kI N c) : sc B Z y_P_tick b_P_tick 3 (some (.int)) (rmm 6 140) [.ref (B.2.1 8 0), .int x] (jn c r) (qe (some (.int (v_P_tick N L c x))) (jn (s_P_tick N L c x) r)) := by
  refine ct_of (by decide) (Nat.le_of_ble_eq_true rfl) (cat_of rfl) ?_
  intro X ok en _
  have hB := hb.1
  refine mr_lv [(0, .ref (B.2.1 8 0)), (1, .int x)] ⟨rfl, rfl, trivial⟩ ?_
  refine mr_aload_n ok (i := 0) d_P_tick_0 rfl rfl ?_
  refine mr_iload_n ok (i := 1) d_P_tick_1 rfl rfl ?_
  refine P_find_row ok hb (by decide) (by decide) (by decide) d_P_tick_2 cb_P_48 (fun h2_0 hi => ?_) (fun h2_0 => ?_)
  · refine mr_astore_n ok (i := 2) d_P_tick_5 rfl (by decide) ?_
    refine mr_aload_n ok (i := 2) d_P_tick_6 rfl rfl ?_
    refine mr_ifnull ok d_P_tick_7 ?_
    refine mr_aload_n ok (i := 2) d_P_tick_10 rfl rfl ?_
    refine cx_geti ok hB rfl fl_P_52 (tm_0 hb hi) rfl d_P_tick_11 ?_
    refine mr_if_ne ok 19 d_P_tick_14 (by decide) (fun h14_1 => ?_) (fun h14_1 => ?_)
    · refine mr_aload_n ok (i := 2) d_P_tick_19 rfl rfl ?_
      refine cx_geti ok hB rfl fl_P_66 (tm_0 hb hi) rfl d_P_tick_20 ?_
      refine mr_iconst ok 2 d_P_tick_23 (by decide) ?_
      refine mr_icmp_ne ok 35 d_P_tick_24 (by decide) (fun h24_2 => ?_) (fun h24_2 => ?_)
      · refine mr_aload_n ok (i := 2) d_P_tick_35 rfl rfl ?_
        refine cx_geti ok hB rfl fl_P_66 (tm_0 hb hi) rfl d_P_tick_36 ?_
        refine mr_iconst ok 1 d_P_tick_39 (by decide) ?_
        refine mr_icmp_ne ok 51 d_P_tick_40 (by decide) (fun h40_3 => ?_) (fun h40_3 => ?_)
        · refine mr_aload_n ok (i := 2) d_P_tick_51 rfl rfl ?_
          refine sx_getr ok hB fl_P_56 (tm_0 hb hi) rfl d_P_tick_52 ?_
          refine cx_geti ok hB rfl fl_P_76 (tm_3 hb hi) rfl d_P_tick_55 ?_
          refine mr_if_le ok 69 d_P_tick_58 (by decide) (fun h58_4 => ?_) (fun h58_4 => ?_)
          · refine mr_aload_n ok (i := 0) d_P_tick_69 rfl rfl ?_
            refine mr_aload_n ok (i := 2) d_P_tick_70 rfl rfl ?_
            refine mr_aload_n ok (i := 2) d_P_tick_71 rfl rfl ?_
            refine sx_getr ok hB fl_P_82 (tm_0 hb hi) rfl d_P_tick_72 ?_
            refine mr_iconst ok 1 d_P_tick_75 (by decide) ?_
            refine mr_iadd ok d_P_tick_76 ?_
            refine mr_aload_n ok (i := 0) d_P_tick_77 rfl rfl ?_
            refine sx_getr ok hB fl_P_18 (tm_8 hb) rfl d_P_tick_78 ?_
            refine mr_icmp_ge ok 93 d_P_tick_81 (by decide) (fun h81_5 => ?_) (fun h81_5 => ?_)
            · refine mr_iconst ok 0 d_P_tick_93 (by decide) ?_
              refine sx_cVv ok hB [_, _] rfl cb_P_85 cv_P_ask (tm_8 hb) rfl rfl (c_P_ask hb hi (by exact hc)) rfl (Nat.le_of_ble_eq_true rfl) (by decide) ⟨Nat.le_refl _, Nat.le_refl _⟩ d_P_tick_94 ?_
              have hc : kI N (s_P_ask N L c ((x : Int32).toNatClampNeg) 0) := kI_P_ask (L := L) hi hc
              refine mr_aload_n ok (i := 0) d_P_tick_97 rfl rfl ?_
              refine sx_getr ok hB fl_P_37 (tm_8 hb) rfl d_P_tick_98 ?_
              refine cx_geti ok hB rfl fl_P_89 (tm_5 hb) rfl d_P_tick_101 ?_
              refine sx_iret ok en (Nat.le_refl _) (Nat.le_refl _) d_P_tick_104 ?_
              exact ⟨(by first | rfl | simp only [v_P_tick, if_pos h2_0, if_neg h14_1, if_neg h24_2, if_neg h40_3, if_pos h58_4, if_pos h81_5]), (by first | rfl | simp only [s_P_tick, if_pos h2_0, if_neg h14_1, if_neg h24_2, if_neg h40_3, if_pos h58_4, if_pos h81_5])⟩
            · refine mr_aload_n ok (i := 2) d_P_tick_84 rfl rfl ?_
              refine sx_getr ok hB fl_P_82 (tm_0 hb hi) rfl d_P_tick_85 ?_
              refine mr_iconst ok 1 d_P_tick_88 (by decide) ?_
              refine mr_iadd ok d_P_tick_89 ?_
              refine mr_goto ok 94 d_P_tick_90 (by decide) ?_
              refine sx_cVv ok hB [_, _] rfl cb_P_85 cv_P_ask (tm_8 hb) rfl rfl (c_P_ask hb hi (by exact hc)) rfl (Nat.le_of_ble_eq_true rfl) (by decide) ⟨Nat.le_refl _, Nat.le_refl _⟩ d_P_tick_94 ?_
              have hc : kI N (s_P_ask N L c ((x : Int32).toNatClampNeg) ((nI ((x : Int32).toNatClampNeg)) + 1)) := kI_P_ask (L := L) hi hc
              refine mr_aload_n ok (i := 0) d_P_tick_97 rfl rfl ?_
              refine sx_getr ok hB fl_P_37 (tm_8 hb) rfl d_P_tick_98 ?_
              refine cx_geti ok hB rfl fl_P_89 (tm_5 hb) rfl d_P_tick_101 ?_
              refine sx_iret ok en (Nat.le_refl _) (Nat.le_refl _) d_P_tick_104 ?_
              exact ⟨(by first | rfl | simp only [v_P_tick, if_pos h2_0, if_neg h14_1, if_neg h24_2, if_neg h40_3, if_pos h58_4, if_neg h81_5]), (by first | rfl | simp only [s_P_tick, if_pos h2_0, if_neg h14_1, if_neg h24_2, if_neg h40_3, if_pos h58_4, if_neg h81_5])⟩
          · refine mr_aload_n ok (i := 0) d_P_tick_61 rfl rfl ?_
            refine mr_aload_n ok (i := 2) d_P_tick_62 rfl rfl ?_
            refine sx_cVv ok hB [_] rfl cb_P_79 cv_P_campaign (tm_8 hb) rfl rfl (c_P_campaign hb hi (by exact hc)) rfl (Nat.le_of_ble_eq_true rfl) (by decide) ⟨Nat.le_refl _, Nat.le_refl _⟩ d_P_tick_63 ?_
            have hc : kI N (s_P_campaign N L c ((x : Int32).toNatClampNeg)) := kI_P_campaign (L := L) hi hc
            refine mr_goto ok 97 d_P_tick_66 (by decide) ?_
            refine mr_aload_n ok (i := 0) d_P_tick_97 rfl rfl ?_
            refine sx_getr ok hB fl_P_37 (tm_8 hb) rfl d_P_tick_98 ?_
            refine cx_geti ok hB rfl fl_P_89 (tm_5 hb) rfl d_P_tick_101 ?_
            refine sx_iret ok en (Nat.le_refl _) (Nat.le_refl _) d_P_tick_104 ?_
            exact ⟨(by first | rfl | simp only [v_P_tick, if_pos h2_0, if_neg h14_1, if_neg h24_2, if_neg h40_3, if_neg h58_4]), (by first | rfl | simp only [s_P_tick, if_pos h2_0, if_neg h14_1, if_neg h24_2, if_neg h40_3, if_neg h58_4])⟩
        · refine mr_aload_n ok (i := 0) d_P_tick_43 rfl rfl ?_
          refine mr_aload_n ok (i := 2) d_P_tick_44 rfl rfl ?_
          refine sx_cVv ok hB [_] rfl cb_P_73 cv_P_sendPrepare (tm_8 hb) rfl rfl (c_P_sendPrepare hb hi (by exact hc)) rfl (Nat.le_of_ble_eq_true rfl) (by decide) ⟨Nat.le_refl _, Nat.le_refl _⟩ d_P_tick_45 ?_
          have hc : kI N (s_P_sendPrepare N L c ((x : Int32).toNatClampNeg)) := kI_P_sendPrepare (L := L) hi hc
          refine mr_goto ok 97 d_P_tick_48 (by decide) ?_
          refine mr_aload_n ok (i := 0) d_P_tick_97 rfl rfl ?_
          refine sx_getr ok hB fl_P_37 (tm_8 hb) rfl d_P_tick_98 ?_
          refine cx_geti ok hB rfl fl_P_89 (tm_5 hb) rfl d_P_tick_101 ?_
          refine sx_iret ok en (Nat.le_refl _) (Nat.le_refl _) d_P_tick_104 ?_
          exact ⟨(by first | rfl | simp only [v_P_tick, if_pos h2_0, if_neg h14_1, if_neg h24_2, if_pos h40_3]), (by first | rfl | simp only [s_P_tick, if_pos h2_0, if_neg h14_1, if_neg h24_2, if_pos h40_3])⟩
      · refine mr_aload_n ok (i := 0) d_P_tick_27 rfl rfl ?_
        refine mr_aload_n ok (i := 2) d_P_tick_28 rfl rfl ?_
        refine sx_cVv ok hB [_] rfl cb_P_69 cv_P_tickLeader (tm_8 hb) rfl rfl (c_P_tickLeader hb hi (by exact hc)) rfl (Nat.le_of_ble_eq_true rfl) (by decide) ⟨Nat.le_refl _, Nat.le_refl _⟩ d_P_tick_29 ?_
        have hc : kI N (s_P_tickLeader N L c ((x : Int32).toNatClampNeg)) := kI_P_tickLeader (L := L) hi hc
        refine mr_goto ok 97 d_P_tick_32 (by decide) ?_
        refine mr_aload_n ok (i := 0) d_P_tick_97 rfl rfl ?_
        refine sx_getr ok hB fl_P_37 (tm_8 hb) rfl d_P_tick_98 ?_
        refine cx_geti ok hB rfl fl_P_89 (tm_5 hb) rfl d_P_tick_101 ?_
        refine sx_iret ok en (Nat.le_refl _) (Nat.le_refl _) d_P_tick_104 ?_
        exact ⟨(by first | rfl | simp only [v_P_tick, if_pos h2_0, if_neg h14_1, if_pos h24_2]), (by first | rfl | simp only [s_P_tick, if_pos h2_0, if_neg h14_1, if_pos h24_2])⟩
    · refine mr_iconst ok (-1) d_P_tick_17 (by decide) ?_
      refine sx_iret ok en (Nat.le_refl _) (Nat.le_refl _) d_P_tick_18 ?_
      exact ⟨(by first | rfl | simp only [v_P_tick, if_pos h2_0, if_pos h14_1]), (by first | rfl | simp only [s_P_tick, if_pos h2_0, if_pos h14_1])⟩
  · refine mr_astore_nN ok (i := 2) d_P_tick_5 rfl (by decide) ?_
    refine mr_aload_nN ok (i := 2) d_P_tick_6 rfl rfl ?_
    refine mr_ifnullN ok 17 d_P_tick_7 (by decide) ?_
    refine mr_iconst ok (-1) d_P_tick_17 (by decide) ?_
    refine sx_iret ok en (Nat.le_refl _) (Nat.le_refl _) d_P_tick_18 ?_
    exact ⟨(by first | rfl | simp only [v_P_tick, if_neg h2_0]), (by first | rfl | simp only [s_P_tick, if_neg h2_0])⟩
def v_P_deliver (N L : Nat) (c : sh_S) (x : Int32) : Int32 := (if (v_F_has N L c x) = 0 then (-1) else (let c1 := s_F_read N L c x; (let c2 := s_F_remove N L c1 x; (if kF N (c2 7 0 2) then (if (c2 0 (((c2 7 0 2) : Int32).toNatClampNeg) 3) = 0 then (c2 7 0 0) else (let c3 := s_P_arrive N L c2 (((c2 7 0 2) : Int32).toNatClampNeg); (c3 7 0 0))) else (c2 7 0 0)))))
def s_P_deliver (N L : Nat) (c : sh_S) (x : Int32) : sh_S := (if (v_F_has N L c x) = 0 then c else (let c1 := s_F_read N L c x; (let c2 := s_F_remove N L c1 x; (if kF N (c2 7 0 2) then (if (c2 0 (((c2 7 0 2) : Int32).toNatClampNeg) 3) = 0 then c2 else (let c3 := s_P_arrive N L c2 (((c2 7 0 2) : Int32).toNatClampNeg); c3)) else c2))))
theorem kI_P_deliver {N L : Nat} {c : sh_S} {x : Int32} (hN : N ≤ 5) (hc : kI N c) : kI N (s_P_deliver N L c x) := by
  unfold s_P_deliver
  try dsimp only
  refine kI_ite (fun _ => ?_) (fun _ => ?_)
  · exact hc
  · refine kI_ite (fun hk => ?_) (fun _ => ?_)
    · have hi := (kF_lt hk hN).1
      refine kI_ite (fun _ => ?_) (fun _ => ?_)
      · exact (kI_F_remove (L := L) (kI_F_read (L := L) hc))
      · exact (kI_P_arrive (L := L) hi (kI_F_remove (L := L) (kI_F_read (L := L) hc)))
    · exact (kI_F_remove (L := L) (kI_F_read (L := L) hc))
set_option maxHeartbeats 4000000 in
set_option maxRecDepth 100000 in
theorem c_P_deliver {B : sh_B} {Z : mx_Z} {N L : Nat} {cI cR cZ : ClassId} (hb : wB B Z N L cI cR cZ) {c r : sh_S} {x : Int32} (hc : kI N c) : sc B Z y_P_deliver b_P_deliver 3 (some (.int)) (rmm 7 165) [.ref (B.2.1 8 0), .int x] (jn c r) (qe (some (.int (v_P_deliver N L c x))) (jn (s_P_deliver N L c x) r)) := by
  refine ct_of (by decide) (Nat.le_of_ble_eq_true rfl) (cat_of rfl) ?_
  intro X ok en _
  have hB := hb.1
  refine mr_lv [(0, .ref (B.2.1 8 0)), (1, .int x)] ⟨rfl, rfl, trivial⟩ ?_
  refine mr_aload_n ok (i := 0) d_P_deliver_0 rfl rfl ?_
  refine sx_getr ok hB fl_P_37 (tm_8 hb) rfl d_P_deliver_1 ?_
  refine mr_iload_n ok (i := 1) d_P_deliver_4 rfl rfl ?_
  refine sx_cVi ok hB [_] rfl cb_P_90 cv_F_has (tm_5 hb) rfl rfl (c_F_has hb) rfl (Nat.le_of_ble_eq_true rfl) (by decide) ⟨Nat.le_refl _, Nat.le_refl _⟩ d_P_deliver_5 ?_
  refine mr_if_ne ok 13 d_P_deliver_8 (by decide) (fun h8_0 => ?_) (fun h8_0 => ?_)
  · refine mr_aload_n ok (i := 0) d_P_deliver_13 rfl rfl ?_
    refine sx_getr ok hB fl_P_37 (tm_8 hb) rfl d_P_deliver_14 ?_
    refine mr_iload_n ok (i := 1) d_P_deliver_17 rfl rfl ?_
    refine mr_aload_n ok (i := 0) d_P_deliver_18 rfl rfl ?_
    refine sx_getr ok hB fl_P_44 (tm_8 hb) rfl d_P_deliver_19 ?_
    refine sx_cVv ok hB [_, _] rfl cb_P_93 cv_F_read (tm_5 hb) rfl rfl (c_F_read hb (by exact hc.1)) rfl (Nat.le_of_ble_eq_true rfl) (by decide) ⟨Nat.le_refl _, Nat.le_refl _⟩ d_P_deliver_22 ?_
    have hc : kI N (s_F_read N L c x) := kI_F_read (L := L) hc
    refine mr_aload_n ok (i := 0) d_P_deliver_25 rfl rfl ?_
    refine sx_getr ok hB fl_P_37 (tm_8 hb) rfl d_P_deliver_26 ?_
    refine mr_iload_n ok (i := 1) d_P_deliver_29 rfl rfl ?_
    refine sx_cVv ok hB [_] rfl cb_P_97 cv_F_remove (tm_5 hb) rfl rfl (c_F_remove hb (by exact hc.1)) rfl (Nat.le_of_ble_eq_true rfl) (by decide) ⟨Nat.le_refl _, Nat.le_refl _⟩ d_P_deliver_30 ?_
    have hc : kI N (s_F_remove N L (s_F_read N L c x) x) := kI_F_remove (L := L) hc
    refine mr_aload_n ok (i := 0) d_P_deliver_33 rfl rfl ?_
    refine mr_aload_n ok (i := 0) d_P_deliver_34 rfl rfl ?_
    refine sx_getr ok hB fl_P_44 (tm_8 hb) rfl d_P_deliver_35 ?_
    refine cx_geti ok hB rfl fl_P_101 (tm_7 hb) rfl d_P_deliver_38 ?_
    refine P_find_row ok hb (by decide) (by decide) (by decide) d_P_deliver_41 cb_P_48 (fun h41_1 hi => ?_) (fun h41_1 => ?_)
    · refine mr_astore_n ok (i := 2) d_P_deliver_44 rfl (by decide) ?_
      refine mr_aload_n ok (i := 2) d_P_deliver_45 rfl rfl ?_
      refine mr_ifnull ok d_P_deliver_46 ?_
      refine mr_aload_n ok (i := 2) d_P_deliver_49 rfl rfl ?_
      refine cx_geti ok hB rfl fl_P_52 (tm_0 hb hi) rfl d_P_deliver_50 ?_
      refine mr_if_eq ok 65 d_P_deliver_53 (by decide) (fun h53_2 => ?_) (fun h53_2 => ?_)
      · refine mr_aload_n ok (i := 0) d_P_deliver_65 rfl rfl ?_
        refine sx_getr ok hB fl_P_44 (tm_8 hb) rfl d_P_deliver_66 ?_
        refine cx_geti ok hB rfl fl_P_108 (tm_7 hb) rfl d_P_deliver_69 ?_
        refine sx_iret ok en (Nat.le_refl _) (Nat.le_refl _) d_P_deliver_72 ?_
        exact ⟨(by first | rfl | simp only [v_P_deliver, if_neg h8_0, if_pos h41_1, if_pos h53_2]), (by first | rfl | simp only [s_P_deliver, if_neg h8_0, if_pos h41_1, if_pos h53_2])⟩
      · refine mr_aload_n ok (i := 0) d_P_deliver_56 rfl rfl ?_
        refine mr_aload_n ok (i := 2) d_P_deliver_57 rfl rfl ?_
        refine mr_aload_n ok (i := 0) d_P_deliver_58 rfl rfl ?_
        refine sx_getr ok hB fl_P_44 (tm_8 hb) rfl d_P_deliver_59 ?_
        refine sx_cVv ok hB [_, _] rfl cb_P_104 cv_P_arrive (tm_8 hb) rfl rfl (c_P_arrive hb hi (by exact hc)) rfl (Nat.le_of_ble_eq_true rfl) (by decide) ⟨Nat.le_refl _, Nat.le_refl _⟩ d_P_deliver_62 ?_
        have hc : kI N (s_P_arrive N L (s_F_remove N L (s_F_read N L c x) x) ((((s_F_remove N L (s_F_read N L c x) x) 7 0 2) : Int32).toNatClampNeg)) := kI_P_arrive (L := L) hi hc
        refine mr_aload_n ok (i := 0) d_P_deliver_65 rfl rfl ?_
        refine sx_getr ok hB fl_P_44 (tm_8 hb) rfl d_P_deliver_66 ?_
        refine cx_geti ok hB rfl fl_P_108 (tm_7 hb) rfl d_P_deliver_69 ?_
        refine sx_iret ok en (Nat.le_refl _) (Nat.le_refl _) d_P_deliver_72 ?_
        exact ⟨(by first | rfl | simp only [v_P_deliver, if_neg h8_0, if_pos h41_1, if_neg h53_2]), (by first | rfl | simp only [s_P_deliver, if_neg h8_0, if_pos h41_1, if_neg h53_2])⟩
    · refine mr_astore_nN ok (i := 2) d_P_deliver_44 rfl (by decide) ?_
      refine mr_aload_nN ok (i := 2) d_P_deliver_45 rfl rfl ?_
      refine mr_ifnullN ok 65 d_P_deliver_46 (by decide) ?_
      refine mr_aload_n ok (i := 0) d_P_deliver_65 rfl rfl ?_
      refine sx_getr ok hB fl_P_44 (tm_8 hb) rfl d_P_deliver_66 ?_
      refine cx_geti ok hB rfl fl_P_108 (tm_7 hb) rfl d_P_deliver_69 ?_
      refine sx_iret ok en (Nat.le_refl _) (Nat.le_refl _) d_P_deliver_72 ?_
      exact ⟨(by first | rfl | simp only [v_P_deliver, if_neg h8_0, if_neg h41_1]), (by first | rfl | simp only [s_P_deliver, if_neg h8_0, if_neg h41_1])⟩
  · refine mr_iconst ok (-1) d_P_deliver_11 (by decide) ?_
    refine sx_iret ok en (Nat.le_refl _) (Nat.le_refl _) d_P_deliver_12 ?_
    exact ⟨(by first | rfl | simp only [v_P_deliver, if_pos h8_0]), (by first | rfl | simp only [s_P_deliver, if_pos h8_0])⟩
def v_P_lose (N L : Nat) (c : sh_S) (x : Int32) : Int32 := (if (v_F_has N L c x) = 0 then 0 else (let c1 := s_F_remove N L c x; 1))
def s_P_lose (N L : Nat) (c : sh_S) (x : Int32) : sh_S := (if (v_F_has N L c x) = 0 then c else (let c1 := s_F_remove N L c x; c1))
theorem kI_P_lose {N L : Nat} {c : sh_S} {x : Int32} (hc : kI N c) : kI N (s_P_lose N L c x) := by
  unfold s_P_lose
  try dsimp only
  refine kI_ite (fun _ => ?_) (fun _ => ?_)
  · exact hc
  · exact (kI_F_remove (L := L) hc)
set_option maxHeartbeats 4000000 in
set_option maxRecDepth 100000 in
theorem c_P_lose {B : sh_B} {Z : mx_Z} {N L : Nat} {cI cR cZ : ClassId} (hb : wB B Z N L cI cR cZ) {c r : sh_S} {x : Int32} (hc : kI N c) : sc B Z y_P_lose b_P_lose 2 (some (.boolean)) (rmm 2 62) [.ref (B.2.1 8 0), .int x] (jn c r) (qe (some (.int (v_P_lose N L c x))) (jn (s_P_lose N L c x) r)) := by
  refine ct_of (by decide) (Nat.le_of_ble_eq_true rfl) (cat_of rfl) ?_
  intro X ok en _
  have hB := hb.1
  refine mr_lv [(0, .ref (B.2.1 8 0)), (1, .int x)] ⟨rfl, rfl, trivial⟩ ?_
  refine mr_aload_n ok (i := 0) d_P_lose_0 rfl rfl ?_
  refine sx_getr ok hB fl_P_37 (tm_8 hb) rfl d_P_lose_1 ?_
  refine mr_iload_n ok (i := 1) d_P_lose_4 rfl rfl ?_
  refine sx_cVi ok hB [_] rfl cb_P_90 cv_F_has (tm_5 hb) rfl rfl (c_F_has hb) rfl (Nat.le_of_ble_eq_true rfl) (by decide) ⟨Nat.le_refl _, Nat.le_refl _⟩ d_P_lose_5 ?_
  refine mr_if_ne ok 13 d_P_lose_8 (by decide) (fun h8_0 => ?_) (fun h8_0 => ?_)
  · refine mr_aload_n ok (i := 0) d_P_lose_13 rfl rfl ?_
    refine sx_getr ok hB fl_P_37 (tm_8 hb) rfl d_P_lose_14 ?_
    refine mr_iload_n ok (i := 1) d_P_lose_17 rfl rfl ?_
    refine sx_cVv ok hB [_] rfl cb_P_97 cv_F_remove (tm_5 hb) rfl rfl (c_F_remove hb (by exact hc.1)) rfl (Nat.le_of_ble_eq_true rfl) (by decide) ⟨Nat.le_refl _, Nat.le_refl _⟩ d_P_lose_18 ?_
    have hc : kI N (s_F_remove N L c x) := kI_F_remove (L := L) hc
    refine mr_iconst ok 1 d_P_lose_21 (by decide) ?_
    refine sx_zret rfl ok en (Nat.le_refl _) (Nat.le_refl _) d_P_lose_22 ?_
    exact ⟨(by first | rfl | simp only [v_P_lose, if_neg h8_0]), (by first | rfl | simp only [s_P_lose, if_neg h8_0])⟩
  · refine mr_iconst ok 0 d_P_lose_11 (by decide) ?_
    refine sx_zret rfl ok en (Nat.le_refl _) (Nat.le_refl _) d_P_lose_12 ?_
    exact ⟨(by first | rfl | simp only [v_P_lose, if_pos h8_0]), (by first | rfl | simp only [s_P_lose, if_pos h8_0])⟩
def v_P_twice (N L : Nat) (c : sh_S) (x : Int32) : Int32 := (let c1 := s_F_repeat N L c x; (v_F_repeat N L c x))
def s_P_twice (N L : Nat) (c : sh_S) (x : Int32) : sh_S := (let c1 := s_F_repeat N L c x; c1)
theorem kI_P_twice {N L : Nat} {c : sh_S} {x : Int32} (hc : kI N c) : kI N (s_P_twice N L c x) := by
  unfold s_P_twice
  try dsimp only
  exact (kI_F_repeat (L := L) hc)
set_option maxHeartbeats 4000000 in
set_option maxRecDepth 100000 in
theorem c_P_twice {B : sh_B} {Z : mx_Z} {N L : Nat} {cI cR cZ : ClassId} (hb : wB B Z N L cI cR cZ) {c r : sh_S} {x : Int32} (hc : kI N c) : sc B Z y_P_twice b_P_twice 2 (some (.boolean)) (rmm 2 61) [.ref (B.2.1 8 0), .int x] (jn c r) (qe (some (.int (v_P_twice N L c x))) (jn (s_P_twice N L c x) r)) := by
  refine ct_of (by decide) (Nat.le_of_ble_eq_true rfl) (cat_of rfl) ?_
  intro X ok en _
  have hB := hb.1
  refine mr_lv [(0, .ref (B.2.1 8 0)), (1, .int x)] ⟨rfl, rfl, trivial⟩ ?_
  refine mr_aload_n ok (i := 0) d_P_twice_0 rfl rfl ?_
  refine sx_getr ok hB fl_P_37 (tm_8 hb) rfl d_P_twice_1 ?_
  refine mr_iload_n ok (i := 1) d_P_twice_4 rfl rfl ?_
  refine sx_cVi ok hB [_] rfl cb_P_111 cv_F_repeat (tm_5 hb) rfl rfl (c_F_repeat hb (by exact hc.1)) rfl (Nat.le_of_ble_eq_true rfl) (by decide) ⟨Nat.le_refl _, Nat.le_refl _⟩ d_P_twice_5 ?_
  have hc : kI N (s_F_repeat N L c x) := kI_F_repeat (L := L) hc
  refine sx_zret (zb_F_repeat ..) ok en (Nat.le_refl _) (Nat.le_refl _) d_P_twice_8 ?_
  exact ⟨(by first | rfl | simp only [v_P_twice]), (by first | rfl | simp only [s_P_twice])⟩
def v_P_turn (N L : Nat) (c : sh_S) (x : Int32) (y : Int32) : Int32 := (if kF N x then (if (c 0 ((x : Int32).toNatClampNeg) 3) = y then 0 else (let c1 := sU c 0 ((x : Int32).toNatClampNeg) 3 y; (let c2 := s_R_forget N L c1 ((x : Int32).toNatClampNeg); 1))) else 0)
def s_P_turn (N L : Nat) (c : sh_S) (x : Int32) (y : Int32) : sh_S := (if kF N x then (if (c 0 ((x : Int32).toNatClampNeg) 3) = y then c else (let c1 := sU c 0 ((x : Int32).toNatClampNeg) 3 y; (let c2 := s_R_forget N L c1 ((x : Int32).toNatClampNeg); c2))) else c)
theorem kI_P_turn {N L : Nat} {c : sh_S} {x : Int32} {y : Int32} (hN : N ≤ 5) (hc : kI N c) : kI N (s_P_turn N L c x y) := by
  unfold s_P_turn
  try dsimp only
  refine kI_ite (fun hk => ?_) (fun _ => ?_)
  · have hi := (kF_lt hk hN).1
    refine kI_ite (fun _ => ?_) (fun _ => ?_)
    · exact hc
    · exact (kI_R_forget (L := L) hi hc)
  · exact hc
set_option maxHeartbeats 4000000 in
set_option maxRecDepth 100000 in
theorem c_P_turn {B : sh_B} {Z : mx_Z} {N L : Nat} {cI cR cZ : ClassId} (hb : wB B Z N L cI cR cZ) {c r : sh_S} {x : Int32} {y : Int32} (hc : kI N c) (hy : narrow .boolean (.int y) = .int y ∧ fits .boolean (.int y) = true) : sc B Z y_P_turn b_P_turn 4 (some (.boolean)) (rmm 2 40) [.ref (B.2.1 8 0), .int x, .int y] (jn c r) (qe (some (.int (v_P_turn N L c x y))) (jn (s_P_turn N L c x y) r)) := by
  refine ct_of (by decide) (Nat.le_of_ble_eq_true rfl) (cat_of rfl) ?_
  intro X ok en _
  have hB := hb.1
  refine mr_lv [(0, .ref (B.2.1 8 0)), (1, .int x), (2, .int y)] ⟨rfl, rfl, rfl, trivial⟩ ?_
  refine mr_aload_n ok (i := 0) d_P_turn_0 rfl rfl ?_
  refine mr_iload_n ok (i := 1) d_P_turn_1 rfl rfl ?_
  refine P_find_row ok hb (by decide) (by decide) (by decide) d_P_turn_2 cb_P_48 (fun h2_0 hi => ?_) (fun h2_0 => ?_)
  · refine mr_astore_n ok (i := 3) d_P_turn_5 rfl (by decide) ?_
    refine mr_aload_n ok (i := 3) d_P_turn_6 rfl rfl ?_
    refine mr_ifnull ok d_P_turn_7 ?_
    refine mr_aload_n ok (i := 3) d_P_turn_10 rfl rfl ?_
    refine cx_geti ok hB rfl fl_P_52 (tm_0 hb hi) rfl d_P_turn_11 ?_
    refine mr_iload_n ok (i := 2) d_P_turn_14 rfl rfl ?_
    refine mr_icmp_ne ok 20 d_P_turn_15 (by decide) (fun h15_1 => ?_) (fun h15_1 => ?_)
    · refine mr_aload_n ok (i := 3) d_P_turn_20 rfl rfl ?_
      refine mr_iload_n ok (i := 2) d_P_turn_21 rfl rfl ?_
      refine cx_put ok hB rfl fw_P_52 (tm_0 hb hi) rfl hy.1 hy.2 d_P_turn_22 ?_
      refine mr_aload_n ok (i := 3) d_P_turn_25 rfl rfl ?_
      refine sx_cVv ok hB [] rfl cb_P_114 cv_R_forget (tm_0 hb hi) rfl rfl (c_R_forget hb hi) rfl (Nat.le_of_ble_eq_true rfl) (by decide) ⟨Nat.le_refl _, Nat.le_refl _⟩ d_P_turn_26 ?_
      have hc : kI N (s_R_forget N L (sU c 0 ((x : Int32).toNatClampNeg) 3 y) ((x : Int32).toNatClampNeg)) := kI_R_forget (L := L) hi hc
      refine mr_iconst ok 1 d_P_turn_29 (by decide) ?_
      refine sx_zret rfl ok en (Nat.le_refl _) (Nat.le_refl _) d_P_turn_30 ?_
      exact ⟨(by first | rfl | simp only [v_P_turn, if_pos h2_0, if_neg h15_1]), (by first | rfl | simp only [s_P_turn, if_pos h2_0, if_neg h15_1])⟩
    · refine mr_iconst ok 0 d_P_turn_18 (by decide) ?_
      refine sx_zret rfl ok en (Nat.le_refl _) (Nat.le_refl _) d_P_turn_19 ?_
      exact ⟨(by first | rfl | simp only [v_P_turn, if_pos h2_0, if_pos h15_1]), (by first | rfl | simp only [s_P_turn, if_pos h2_0, if_pos h15_1])⟩
  · refine mr_astore_nN ok (i := 3) d_P_turn_5 rfl (by decide) ?_
    refine mr_aload_nN ok (i := 3) d_P_turn_6 rfl rfl ?_
    refine mr_ifnullN ok 18 d_P_turn_7 (by decide) ?_
    refine mr_iconst ok 0 d_P_turn_18 (by decide) ?_
    refine sx_zret rfl ok en (Nat.le_refl _) (Nat.le_refl _) d_P_turn_19 ?_
    exact ⟨(by first | rfl | simp only [v_P_turn, if_neg h2_0]), (by first | rfl | simp only [s_P_turn, if_neg h2_0])⟩
def v_P_replica (N L : Nat) (c : sh_S) (x : Int32) (y : Int32) : Int32 := (if kF N x then (if y = 0 then (if (c 0 ((x : Int32).toNatClampNeg) 3) = 0 then 0 else 1) else (if y = 1 then (c 1 ((x : Int32).toNatClampNeg) 2) else (if y = 2 then (c 1 ((x : Int32).toNatClampNeg) 3) else (if y = 3 then (v_G_ahead N L c ((x : Int32).toNatClampNeg)) else (if y = 4 then (c 0 ((x : Int32).toNatClampNeg) 4) else (if y = 5 then (if (v_R_hasAccepted N L c ((x : Int32).toNatClampNeg)) = 0 then (-1) else (c 0 ((x : Int32).toNatClampNeg) 5)) else (if y = 6 then (c 0 ((x : Int32).toNatClampNeg) 6) else (if (c 0 ((x : Int32).toNatClampNeg) 3) = 0 then (-1) else (v_R_passing N L c ((x : Int32).toNatClampNeg) y))))))))) else (-1))
set_option maxHeartbeats 4000000 in
set_option maxRecDepth 100000 in
theorem c_P_replica {B : sh_B} {Z : mx_Z} {N L : Nat} {cI cR cZ : ClassId} (hb : wB B Z N L cI cR cZ) {c r : sh_S} {x : Int32} {y : Int32} (hc : kI N c) : sc B Z y_P_replica b_P_replica 4 (some (.int)) (rmm 2 42) [.ref (B.2.1 8 0), .int x, .int y] (jn c r) (qe (some (.int (v_P_replica N L c x y))) (jn c r)) := by
  refine ct_of (by decide) (Nat.le_of_ble_eq_true rfl) (cat_of rfl) ?_
  intro X ok en _
  have hB := hb.1
  refine mr_lv [(0, .ref (B.2.1 8 0)), (1, .int x), (2, .int y)] ⟨rfl, rfl, rfl, trivial⟩ ?_
  refine mr_aload_n ok (i := 0) d_P_replica_0 rfl rfl ?_
  refine mr_iload_n ok (i := 1) d_P_replica_1 rfl rfl ?_
  refine P_find_row ok hb (by decide) (by decide) (by decide) d_P_replica_2 cb_P_48 (fun h2_0 hi => ?_) (fun h2_0 => ?_)
  · refine mr_astore_n ok (i := 3) d_P_replica_5 rfl (by decide) ?_
    refine mr_aload_n ok (i := 3) d_P_replica_6 rfl rfl ?_
    refine mr_ifnonnull ok 12 d_P_replica_7 (by decide) ?_
    refine mr_iload_n ok (i := 2) d_P_replica_12 rfl rfl ?_
    by_cases h13_1_0 : y = 0
    · refine mr_tableIn (off := 43) ok 56 d_P_replica_13 (by rw [h13_1_0]; decide) (by rw [h13_1_0]; decide) (by rw [h13_1_0]; decide) (by decide) ?_
      refine mr_aload_n ok (i := 3) d_P_replica_56 rfl rfl ?_
      refine cx_geti ok hB rfl fl_P_52 (tm_0 hb hi) rfl d_P_replica_57 ?_
      refine mr_if_eq ok 67 d_P_replica_60 (by decide) (fun h60_2 => ?_) (fun h60_2 => ?_)
      · refine mr_iconst ok 0 d_P_replica_67 (by decide) ?_
        refine sx_iret ok en (Nat.le_refl _) (Nat.le_refl _) d_P_replica_68 ?_
        exact ⟨(by first | rfl | simp only [v_P_replica, if_pos h2_0, if_pos h13_1_0, if_pos h60_2]), (by first | rfl | simp only [s_P_replica, if_pos h2_0, if_pos h13_1_0, if_pos h60_2])⟩
      · refine mr_iconst ok 1 d_P_replica_63 (by decide) ?_
        refine mr_goto ok 68 d_P_replica_64 (by decide) ?_
        refine sx_iret ok en (Nat.le_refl _) (Nat.le_refl _) d_P_replica_68 ?_
        exact ⟨(by first | rfl | simp only [v_P_replica, if_pos h2_0, if_pos h13_1_0, if_neg h60_2]), (by first | rfl | simp only [s_P_replica, if_pos h2_0, if_pos h13_1_0, if_neg h60_2])⟩
    by_cases h13_1_1 : y = 1
    · refine mr_tableIn (off := 56) ok 69 d_P_replica_13 (by rw [h13_1_1]; decide) (by rw [h13_1_1]; decide) (by rw [h13_1_1]; decide) (by decide) ?_
      refine mr_aload_n ok (i := 3) d_P_replica_69 rfl rfl ?_
      refine sx_getr ok hB fl_P_117 (tm_0 hb hi) rfl d_P_replica_70 ?_
      refine cx_geti ok hB rfl fl_P_121 (tm_1 hb hi) rfl d_P_replica_73 ?_
      refine sx_iret ok en (Nat.le_refl _) (Nat.le_refl _) d_P_replica_76 ?_
      exact ⟨(by first | rfl | simp only [v_P_replica, if_pos h2_0, if_neg h13_1_0, if_pos h13_1_1]), (by first | rfl | simp only [s_P_replica, if_pos h2_0, if_neg h13_1_0, if_pos h13_1_1])⟩
    by_cases h13_1_2 : y = 2
    · refine mr_tableIn (off := 64) ok 77 d_P_replica_13 (by rw [h13_1_2]; decide) (by rw [h13_1_2]; decide) (by rw [h13_1_2]; decide) (by decide) ?_
      refine mr_aload_n ok (i := 3) d_P_replica_77 rfl rfl ?_
      refine sx_getr ok hB fl_P_117 (tm_0 hb hi) rfl d_P_replica_78 ?_
      refine cx_geti ok hB rfl fl_P_126 (tm_1 hb hi) rfl d_P_replica_81 ?_
      refine sx_iret ok en (Nat.le_refl _) (Nat.le_refl _) d_P_replica_84 ?_
      exact ⟨(by first | rfl | simp only [v_P_replica, if_pos h2_0, if_neg h13_1_0, if_neg h13_1_1, if_pos h13_1_2]), (by first | rfl | simp only [s_P_replica, if_pos h2_0, if_neg h13_1_0, if_neg h13_1_1, if_pos h13_1_2])⟩
    by_cases h13_1_3 : y = 3
    · refine mr_tableIn (off := 72) ok 85 d_P_replica_13 (by rw [h13_1_3]; decide) (by rw [h13_1_3]; decide) (by rw [h13_1_3]; decide) (by decide) ?_
      refine mr_aload_n ok (i := 3) d_P_replica_85 rfl rfl ?_
      refine sx_getr ok hB fl_P_117 (tm_0 hb hi) rfl d_P_replica_86 ?_
      refine sx_cVi ok hB [] rfl cb_P_129 cv_G_ahead (tm_1 hb hi) rfl rfl (c_G_ahead hb hi) rfl (Nat.le_of_ble_eq_true rfl) (by decide) ⟨Nat.le_refl _, Nat.le_refl _⟩ d_P_replica_89 ?_
      refine sx_iret ok en (Nat.le_refl _) (Nat.le_refl _) d_P_replica_92 ?_
      exact ⟨(by first | rfl | simp only [v_P_replica, if_pos h2_0, if_neg h13_1_0, if_neg h13_1_1, if_neg h13_1_2, if_pos h13_1_3]), (by first | rfl | simp only [s_P_replica, if_pos h2_0, if_neg h13_1_0, if_neg h13_1_1, if_neg h13_1_2, if_pos h13_1_3])⟩
    by_cases h13_1_4 : y = 4
    · refine mr_tableIn (off := 80) ok 93 d_P_replica_13 (by rw [h13_1_4]; decide) (by rw [h13_1_4]; decide) (by rw [h13_1_4]; decide) (by decide) ?_
      refine mr_aload_n ok (i := 3) d_P_replica_93 rfl rfl ?_
      refine cx_geti ok hB rfl fl_P_133 (tm_0 hb hi) rfl d_P_replica_94 ?_
      refine sx_iret ok en (Nat.le_refl _) (Nat.le_refl _) d_P_replica_97 ?_
      exact ⟨(by first | rfl | simp only [v_P_replica, if_pos h2_0, if_neg h13_1_0, if_neg h13_1_1, if_neg h13_1_2, if_neg h13_1_3, if_pos h13_1_4]), (by first | rfl | simp only [s_P_replica, if_pos h2_0, if_neg h13_1_0, if_neg h13_1_1, if_neg h13_1_2, if_neg h13_1_3, if_pos h13_1_4])⟩
    by_cases h13_1_5 : y = 5
    · refine mr_tableIn (off := 85) ok 98 d_P_replica_13 (by rw [h13_1_5]; decide) (by rw [h13_1_5]; decide) (by rw [h13_1_5]; decide) (by decide) ?_
      refine mr_aload_n ok (i := 3) d_P_replica_98 rfl rfl ?_
      refine sx_cVi ok hB [] rfl cb_P_136 cv_R_hasAccepted (tm_0 hb hi) rfl rfl (c_R_hasAccepted hb hi) rfl (Nat.le_of_ble_eq_true rfl) (by decide) ⟨Nat.le_refl _, Nat.le_refl _⟩ d_P_replica_99 ?_
      refine mr_if_eq ok 112 d_P_replica_102 (by decide) (fun h102_7 => ?_) (fun h102_7 => ?_)
      · refine mr_iconst ok (-1) d_P_replica_112 (by decide) ?_
        refine sx_iret ok en (Nat.le_refl _) (Nat.le_refl _) d_P_replica_113 ?_
        exact ⟨(by first | rfl | simp only [v_P_replica, if_pos h2_0, if_neg h13_1_0, if_neg h13_1_1, if_neg h13_1_2, if_neg h13_1_3, if_neg h13_1_4, if_pos h13_1_5, if_pos h102_7]), (by first | rfl | simp only [s_P_replica, if_pos h2_0, if_neg h13_1_0, if_neg h13_1_1, if_neg h13_1_2, if_neg h13_1_3, if_neg h13_1_4, if_pos h13_1_5, if_pos h102_7])⟩
      · refine mr_aload_n ok (i := 3) d_P_replica_105 rfl rfl ?_
        refine cx_geti ok hB rfl fl_P_140 (tm_0 hb hi) rfl d_P_replica_106 ?_
        refine mr_goto ok 113 d_P_replica_109 (by decide) ?_
        refine sx_iret ok en (Nat.le_refl _) (Nat.le_refl _) d_P_replica_113 ?_
        exact ⟨(by first | rfl | simp only [v_P_replica, if_pos h2_0, if_neg h13_1_0, if_neg h13_1_1, if_neg h13_1_2, if_neg h13_1_3, if_neg h13_1_4, if_pos h13_1_5, if_neg h102_7]), (by first | rfl | simp only [s_P_replica, if_pos h2_0, if_neg h13_1_0, if_neg h13_1_1, if_neg h13_1_2, if_neg h13_1_3, if_neg h13_1_4, if_pos h13_1_5, if_neg h102_7])⟩
    by_cases h13_1_6 : y = 6
    · refine mr_tableIn (off := 101) ok 114 d_P_replica_13 (by rw [h13_1_6]; decide) (by rw [h13_1_6]; decide) (by rw [h13_1_6]; decide) (by decide) ?_
      refine mr_aload_n ok (i := 3) d_P_replica_114 rfl rfl ?_
      refine cx_geti ok hB rfl fl_P_143 (tm_0 hb hi) rfl d_P_replica_115 ?_
      refine sx_iret ok en (Nat.le_refl _) (Nat.le_refl _) d_P_replica_118 ?_
      exact ⟨(by first | rfl | simp only [v_P_replica, if_pos h2_0, if_neg h13_1_0, if_neg h13_1_1, if_neg h13_1_2, if_neg h13_1_3, if_neg h13_1_4, if_neg h13_1_5, if_pos h13_1_6]), (by first | rfl | simp only [s_P_replica, if_pos h2_0, if_neg h13_1_0, if_neg h13_1_1, if_neg h13_1_2, if_neg h13_1_3, if_neg h13_1_4, if_neg h13_1_5, if_pos h13_1_6])⟩
    have th13_1_0 := lv_neT h13_1_0 (a := 0) (by decide)
    have th13_1_1 := lv_neT h13_1_1 (a := 1) (by decide)
    have th13_1_2 := lv_neT h13_1_2 (a := 2) (by decide)
    have th13_1_3 := lv_neT h13_1_3 (a := 3) (by decide)
    have th13_1_4 := lv_neT h13_1_4 (a := 4) (by decide)
    have th13_1_5 := lv_neT h13_1_5 (a := 5) (by decide)
    have th13_1_6 := lv_neT h13_1_6 (a := 6) (by decide)
    refine mr_tableOut ok 119 d_P_replica_13 (by omega) (by decide) ?_
    refine mr_aload_n ok (i := 3) d_P_replica_119 rfl rfl ?_
    refine cx_geti ok hB rfl fl_P_52 (tm_0 hb hi) rfl d_P_replica_120 ?_
    refine mr_if_eq ok 134 d_P_replica_123 (by decide) (fun h123_8 => ?_) (fun h123_8 => ?_)
    · refine mr_iconst ok (-1) d_P_replica_134 (by decide) ?_
      refine sx_iret ok en (Nat.le_refl _) (Nat.le_refl _) d_P_replica_135 ?_
      exact ⟨(by first | rfl | simp only [v_P_replica, if_pos h2_0, if_neg h13_1_0, if_neg h13_1_1, if_neg h13_1_2, if_neg h13_1_3, if_neg h13_1_4, if_neg h13_1_5, if_neg h13_1_6, if_pos h123_8]), (by first | rfl | simp only [s_P_replica, if_pos h2_0, if_neg h13_1_0, if_neg h13_1_1, if_neg h13_1_2, if_neg h13_1_3, if_neg h13_1_4, if_neg h13_1_5, if_neg h13_1_6, if_pos h123_8])⟩
    · refine mr_aload_n ok (i := 3) d_P_replica_126 rfl rfl ?_
      refine mr_iload_n ok (i := 2) d_P_replica_127 rfl rfl ?_
      refine sx_cVi ok hB [_] rfl cb_P_146 cv_R_passing (tm_0 hb hi) rfl rfl (c_R_passing hb hi) rfl (Nat.le_of_ble_eq_true rfl) (by decide) ⟨Nat.le_refl _, Nat.le_refl _⟩ d_P_replica_128 ?_
      refine mr_goto ok 135 d_P_replica_131 (by decide) ?_
      refine sx_iret ok en (Nat.le_refl _) (Nat.le_refl _) d_P_replica_135 ?_
      exact ⟨(by first | rfl | simp only [v_P_replica, if_pos h2_0, if_neg h13_1_0, if_neg h13_1_1, if_neg h13_1_2, if_neg h13_1_3, if_neg h13_1_4, if_neg h13_1_5, if_neg h13_1_6, if_neg h123_8]), (by first | rfl | simp only [s_P_replica, if_pos h2_0, if_neg h13_1_0, if_neg h13_1_1, if_neg h13_1_2, if_neg h13_1_3, if_neg h13_1_4, if_neg h13_1_5, if_neg h13_1_6, if_neg h123_8])⟩
  · refine mr_astore_nN ok (i := 3) d_P_replica_5 rfl (by decide) ?_
    refine mr_aload_nN ok (i := 3) d_P_replica_6 rfl rfl ?_
    refine mr_ifnonnullN ok d_P_replica_7 ?_
    refine mr_iconst ok (-1) d_P_replica_10 (by decide) ?_
    refine sx_iret ok en (Nat.le_refl _) (Nat.le_refl _) d_P_replica_11 ?_
    exact ⟨(by first | rfl | simp only [v_P_replica, if_neg h2_0]), (by first | rfl | simp only [s_P_replica, if_neg h2_0])⟩
def v_P_slot (N L : Nat) (c : sh_S) (x : Int32) (y : Int32) : Int32 := (if kF N x then (v_G_numberOf N L c ((x : Int32).toNatClampNeg) y) else 0)
set_option maxHeartbeats 4000000 in
set_option maxRecDepth 100000 in
theorem c_P_slot {B : sh_B} {Z : mx_Z} {N L : Nat} {cI cR cZ : ClassId} (hb : wB B Z N L cI cR cZ) {c r : sh_S} {x : Int32} {y : Int32} (hc : kI N c) : sc B Z y_P_slot b_P_slot 4 (some (.int)) (rmm 4 84) [.ref (B.2.1 8 0), .int x, .int y] (jn c r) (qe (some (.int (v_P_slot N L c x y))) (jn c r)) := by
  refine ct_of (by decide) (Nat.le_of_ble_eq_true rfl) (cat_of rfl) ?_
  intro X ok en _
  have hB := hb.1
  refine mr_lv [(0, .ref (B.2.1 8 0)), (1, .int x), (2, .int y)] ⟨rfl, rfl, rfl, trivial⟩ ?_
  refine mr_aload_n ok (i := 0) d_P_slot_0 rfl rfl ?_
  refine mr_iload_n ok (i := 1) d_P_slot_1 rfl rfl ?_
  refine P_find_row ok hb (by decide) (by decide) (by decide) d_P_slot_2 cb_P_48 (fun h2_0 hi => ?_) (fun h2_0 => ?_)
  · refine mr_astore_n ok (i := 3) d_P_slot_5 rfl (by decide) ?_
    refine mr_aload_n ok (i := 3) d_P_slot_6 rfl rfl ?_
    refine mr_ifnonnull ok 14 d_P_slot_7 (by decide) ?_
    refine mr_aload_n ok (i := 3) d_P_slot_14 rfl rfl ?_
    refine sx_getr ok hB fl_P_117 (tm_0 hb hi) rfl d_P_slot_15 ?_
    refine mr_iload_n ok (i := 2) d_P_slot_18 rfl rfl ?_
    refine sx_cVi ok hB [_] rfl cb_P_150 cv_G_numberOf (tm_1 hb hi) rfl rfl (c_G_numberOf hb hi) rfl (Nat.le_of_ble_eq_true rfl) (by decide) ⟨Nat.le_refl _, Nat.le_refl _⟩ d_P_slot_19 ?_
    refine sx_iret ok en (Nat.le_refl _) (Nat.le_refl _) d_P_slot_22 ?_
    exact ⟨(by first | rfl | simp only [v_P_slot, if_pos h2_0]), (by first | rfl | simp only [s_P_slot, if_pos h2_0])⟩
  · refine mr_astore_nN ok (i := 3) d_P_slot_5 rfl (by decide) ?_
    refine mr_aload_nN ok (i := 3) d_P_slot_6 rfl rfl ?_
    refine mr_ifnonnullN ok d_P_slot_7 ?_
    refine mr_iconst ok 0 d_P_slot_10 (by decide) ?_
    refine mr_goto ok 22 d_P_slot_11 (by decide) ?_
    refine sx_iret ok en (Nat.le_refl _) (Nat.le_refl _) d_P_slot_22 ?_
    exact ⟨(by first | rfl | simp only [v_P_slot, if_neg h2_0]), (by first | rfl | simp only [s_P_slot, if_neg h2_0])⟩
def v_P_waiting (N L : Nat) (c : sh_S) (x : Int32) (y : Int32) : Int32 := (if kF N x then (if (c 0 ((x : Int32).toNatClampNeg) 3) = 0 then 0 else (v_L_at N L c ((x : Int32).toNatClampNeg) y)) else 0)
set_option maxHeartbeats 4000000 in
set_option maxRecDepth 100000 in
theorem c_P_waiting {B : sh_B} {Z : mx_Z} {N L : Nat} {cI cR cZ : ClassId} (hb : wB B Z N L cI cR cZ) {c r : sh_S} {x : Int32} {y : Int32} (hc : kI N c) : sc B Z y_P_waiting b_P_waiting 4 (some (.int)) (rmm 1 21) [.ref (B.2.1 8 0), .int x, .int y] (jn c r) (qe (some (.int (v_P_waiting N L c x y))) (jn c r)) := by
  refine ct_of (by decide) (Nat.le_of_ble_eq_true rfl) (cat_of rfl) ?_
  intro X ok en _
  have hB := hb.1
  refine mr_lv [(0, .ref (B.2.1 8 0)), (1, .int x), (2, .int y)] ⟨rfl, rfl, rfl, trivial⟩ ?_
  refine mr_aload_n ok (i := 0) d_P_waiting_0 rfl rfl ?_
  refine mr_iload_n ok (i := 1) d_P_waiting_1 rfl rfl ?_
  refine P_find_row ok hb (by decide) (by decide) (by decide) d_P_waiting_2 cb_P_48 (fun h2_0 hi => ?_) (fun h2_0 => ?_)
  · refine mr_astore_n ok (i := 3) d_P_waiting_5 rfl (by decide) ?_
    refine mr_aload_n ok (i := 3) d_P_waiting_6 rfl rfl ?_
    refine mr_ifnull ok d_P_waiting_7 ?_
    refine mr_aload_n ok (i := 3) d_P_waiting_10 rfl rfl ?_
    refine cx_geti ok hB rfl fl_P_52 (tm_0 hb hi) rfl d_P_waiting_11 ?_
    refine mr_if_ne ok 21 d_P_waiting_14 (by decide) (fun h14_1 => ?_) (fun h14_1 => ?_)
    · refine mr_aload_n ok (i := 3) d_P_waiting_21 rfl rfl ?_
      refine sx_getr ok hB fl_P_56 (tm_0 hb hi) rfl d_P_waiting_22 ?_
      refine mr_iload_n ok (i := 2) d_P_waiting_25 rfl rfl ?_
      refine sx_cVi ok hB [_] rfl cb_P_153 cv_L_at (tm_3 hb hi) rfl rfl (c_L_at hb hi (by exact hc.2 _ hi)) rfl (Nat.le_of_ble_eq_true rfl) (by decide) ⟨Nat.le_refl _, Nat.le_refl _⟩ d_P_waiting_26 ?_
      refine sx_iret ok en (Nat.le_refl _) (Nat.le_refl _) d_P_waiting_29 ?_
      exact ⟨(by first | rfl | simp only [v_P_waiting, if_pos h2_0, if_neg h14_1]), (by first | rfl | simp only [s_P_waiting, if_pos h2_0, if_neg h14_1])⟩
    · refine mr_iconst ok 0 d_P_waiting_17 (by decide) ?_
      refine mr_goto ok 29 d_P_waiting_18 (by decide) ?_
      refine sx_iret ok en (Nat.le_refl _) (Nat.le_refl _) d_P_waiting_29 ?_
      exact ⟨(by first | rfl | simp only [v_P_waiting, if_pos h2_0, if_pos h14_1]), (by first | rfl | simp only [s_P_waiting, if_pos h2_0, if_pos h14_1])⟩
  · refine mr_astore_nN ok (i := 3) d_P_waiting_5 rfl (by decide) ?_
    refine mr_aload_nN ok (i := 3) d_P_waiting_6 rfl rfl ?_
    refine mr_ifnullN ok 17 d_P_waiting_7 (by decide) ?_
    refine mr_iconst ok 0 d_P_waiting_17 (by decide) ?_
    refine mr_goto ok 29 d_P_waiting_18 (by decide) ?_
    refine sx_iret ok en (Nat.le_refl _) (Nat.le_refl _) d_P_waiting_29 ?_
    exact ⟨(by first | rfl | simp only [v_P_waiting, if_neg h2_0]), (by first | rfl | simp only [s_P_waiting, if_neg h2_0])⟩
def v_P_message (N L : Nat) (c : sh_S) (x : Int32) (y : Int32) : Int32 := (v_F_cell N L c x y)
set_option maxHeartbeats 4000000 in
set_option maxRecDepth 100000 in
theorem c_P_message {B : sh_B} {Z : mx_Z} {N L : Nat} {cI cR cZ : ClassId} (hb : wB B Z N L cI cR cZ) {c r : sh_S} {x : Int32} {y : Int32} (hc : kI N c) : sc B Z y_P_message b_P_message 3 (some (.int)) (rmm 2 43) [.ref (B.2.1 8 0), .int x, .int y] (jn c r) (qe (some (.int (v_P_message N L c x y))) (jn c r)) := by
  refine ct_of (by decide) (Nat.le_of_ble_eq_true rfl) (cat_of rfl) ?_
  intro X ok en _
  have hB := hb.1
  refine mr_lv [(0, .ref (B.2.1 8 0)), (1, .int x), (2, .int y)] ⟨rfl, rfl, rfl, trivial⟩ ?_
  refine mr_aload_n ok (i := 0) d_P_message_0 rfl rfl ?_
  refine sx_getr ok hB fl_P_37 (tm_8 hb) rfl d_P_message_1 ?_
  refine mr_iload_n ok (i := 1) d_P_message_4 rfl rfl ?_
  refine mr_iload_n ok (i := 2) d_P_message_5 rfl rfl ?_
  refine sx_cVi ok hB [_, _] rfl cb_P_156 cv_F_cell (tm_5 hb) rfl rfl (c_F_cell hb (by exact hc.1)) rfl (Nat.le_of_ble_eq_true rfl) (by decide) ⟨Nat.le_refl _, Nat.le_refl _⟩ d_P_message_6 ?_
  refine sx_iret ok en (Nat.le_refl _) (Nat.le_refl _) d_P_message_9 ?_
  exact ⟨(by first | rfl | simp only [v_P_message]), (by first | rfl | simp only [s_P_message])⟩
def v_P_look (N L : Nat) (c : sh_S) (x : Int32) : Int32 := (if x = 0 then (nI N) else (if x = 1 then (nI L) else (if x = 2 then (c 5 0 1) else (if x = 3 then (c 5 0 2) else (if x = 4 then (c 5 0 3) else (if x = 5 then (v_P_greatestIndex N L c) else (-1)))))))
set_option maxHeartbeats 4000000 in
set_option maxRecDepth 100000 in
theorem c_P_look {B : sh_B} {Z : mx_Z} {N L : Nat} {cI cR cZ : ClassId} (hb : wB B Z N L cI cR cZ) {c r : sh_S} {x : Int32} (hc : kI N c) : sc B Z y_P_look b_P_look 2 (some (.int)) (rmm 2 44) [.ref (B.2.1 8 0), .int x] (jn c r) (qe (some (.int (v_P_look N L c x))) (jn c r)) := by
  refine ct_of (by decide) (Nat.le_of_ble_eq_true rfl) (cat_of rfl) ?_
  intro X ok en _
  have hB := hb.1
  refine mr_lv [(0, .ref (B.2.1 8 0)), (1, .int x)] ⟨rfl, rfl, trivial⟩ ?_
  refine mr_iload_n ok (i := 1) d_P_look_0 rfl rfl ?_
  by_cases h1_0_0 : x = 0
  · refine mr_tableIn (off := 39) ok 40 d_P_look_1 (by rw [h1_0_0]; decide) (by rw [h1_0_0]; decide) (by rw [h1_0_0]; decide) (by decide) ?_
    refine mr_aload_n ok (i := 0) d_P_look_40 rfl rfl ?_
    refine sx_getr ok hB fl_P_18 (tm_8 hb) rfl d_P_look_41 ?_
    refine sx_iret ok en (Nat.le_refl _) (Nat.le_refl _) d_P_look_44 ?_
    exact ⟨(by first | rfl | simp only [v_P_look, if_pos h1_0_0]), (by first | rfl | simp only [s_P_look, if_pos h1_0_0])⟩
  by_cases h1_0_1 : x = 1
  · refine mr_tableIn (off := 44) ok 45 d_P_look_1 (by rw [h1_0_1]; decide) (by rw [h1_0_1]; decide) (by rw [h1_0_1]; decide) (by decide) ?_
    refine mr_aload_n ok (i := 0) d_P_look_45 rfl rfl ?_
    refine sx_getr ok hB fl_P_22 (tm_8 hb) rfl d_P_look_46 ?_
    refine sx_iret ok en (Nat.le_refl _) (Nat.le_refl _) d_P_look_49 ?_
    exact ⟨(by first | rfl | simp only [v_P_look, if_neg h1_0_0, if_pos h1_0_1]), (by first | rfl | simp only [s_P_look, if_neg h1_0_0, if_pos h1_0_1])⟩
  by_cases h1_0_2 : x = 2
  · refine mr_tableIn (off := 49) ok 50 d_P_look_1 (by rw [h1_0_2]; decide) (by rw [h1_0_2]; decide) (by rw [h1_0_2]; decide) (by decide) ?_
    refine mr_aload_n ok (i := 0) d_P_look_50 rfl rfl ?_
    refine sx_getr ok hB fl_P_37 (tm_8 hb) rfl d_P_look_51 ?_
    refine cx_geti ok hB rfl fl_P_89 (tm_5 hb) rfl d_P_look_54 ?_
    refine sx_iret ok en (Nat.le_refl _) (Nat.le_refl _) d_P_look_57 ?_
    exact ⟨(by first | rfl | simp only [v_P_look, if_neg h1_0_0, if_neg h1_0_1, if_pos h1_0_2]), (by first | rfl | simp only [s_P_look, if_neg h1_0_0, if_neg h1_0_1, if_pos h1_0_2])⟩
  by_cases h1_0_3 : x = 3
  · refine mr_tableIn (off := 57) ok 58 d_P_look_1 (by rw [h1_0_3]; decide) (by rw [h1_0_3]; decide) (by rw [h1_0_3]; decide) (by decide) ?_
    refine mr_aload_n ok (i := 0) d_P_look_58 rfl rfl ?_
    refine sx_getr ok hB fl_P_37 (tm_8 hb) rfl d_P_look_59 ?_
    refine cx_geti ok hB rfl fl_P_159 (tm_5 hb) rfl d_P_look_62 ?_
    refine sx_iret ok en (Nat.le_refl _) (Nat.le_refl _) d_P_look_65 ?_
    exact ⟨(by first | rfl | simp only [v_P_look, if_neg h1_0_0, if_neg h1_0_1, if_neg h1_0_2, if_pos h1_0_3]), (by first | rfl | simp only [s_P_look, if_neg h1_0_0, if_neg h1_0_1, if_neg h1_0_2, if_pos h1_0_3])⟩
  by_cases h1_0_4 : x = 4
  · refine mr_tableIn (off := 65) ok 66 d_P_look_1 (by rw [h1_0_4]; decide) (by rw [h1_0_4]; decide) (by rw [h1_0_4]; decide) (by decide) ?_
    refine mr_aload_n ok (i := 0) d_P_look_66 rfl rfl ?_
    refine sx_getr ok hB fl_P_37 (tm_8 hb) rfl d_P_look_67 ?_
    refine cx_geti ok hB rfl fl_P_162 (tm_5 hb) rfl d_P_look_70 ?_
    refine sx_iret ok en (Nat.le_refl _) (Nat.le_refl _) d_P_look_73 ?_
    exact ⟨(by first | rfl | simp only [v_P_look, if_neg h1_0_0, if_neg h1_0_1, if_neg h1_0_2, if_neg h1_0_3, if_pos h1_0_4]), (by first | rfl | simp only [s_P_look, if_neg h1_0_0, if_neg h1_0_1, if_neg h1_0_2, if_neg h1_0_3, if_pos h1_0_4])⟩
  by_cases h1_0_5 : x = 5
  · refine mr_tableIn (off := 73) ok 74 d_P_look_1 (by rw [h1_0_5]; decide) (by rw [h1_0_5]; decide) (by rw [h1_0_5]; decide) (by decide) ?_
    refine mr_aload_n ok (i := 0) d_P_look_74 rfl rfl ?_
    refine sx_cVi ok hB [] rfl cb_P_165 cv_P_greatestIndex (tm_8 hb) rfl rfl (c_P_greatestIndex hb) rfl (Nat.le_of_ble_eq_true rfl) (by decide) ⟨Nat.le_refl _, Nat.le_refl _⟩ d_P_look_75 ?_
    refine sx_iret ok en (Nat.le_refl _) (Nat.le_refl _) d_P_look_78 ?_
    exact ⟨(by first | rfl | simp only [v_P_look, if_neg h1_0_0, if_neg h1_0_1, if_neg h1_0_2, if_neg h1_0_3, if_neg h1_0_4, if_pos h1_0_5]), (by first | rfl | simp only [s_P_look, if_neg h1_0_0, if_neg h1_0_1, if_neg h1_0_2, if_neg h1_0_3, if_neg h1_0_4, if_pos h1_0_5])⟩
  have th1_0_0 := lv_neT h1_0_0 (a := 0) (by decide)
  have th1_0_1 := lv_neT h1_0_1 (a := 1) (by decide)
  have th1_0_2 := lv_neT h1_0_2 (a := 2) (by decide)
  have th1_0_3 := lv_neT h1_0_3 (a := 3) (by decide)
  have th1_0_4 := lv_neT h1_0_4 (a := 4) (by decide)
  have th1_0_5 := lv_neT h1_0_5 (a := 5) (by decide)
  refine mr_tableOut ok 79 d_P_look_1 (by omega) (by decide) ?_
  refine mr_iconst ok (-1) d_P_look_79 (by decide) ?_
  refine sx_iret ok en (Nat.le_refl _) (Nat.le_refl _) d_P_look_80 ?_
  exact ⟨(by first | rfl | simp only [v_P_look, if_neg h1_0_0, if_neg h1_0_1, if_neg h1_0_2, if_neg h1_0_3, if_neg h1_0_4, if_neg h1_0_5]), (by first | rfl | simp only [s_P_look, if_neg h1_0_0, if_neg h1_0_1, if_neg h1_0_2, if_neg h1_0_3, if_neg h1_0_4, if_neg h1_0_5])⟩
end
section
/-! the reference's bounds -/
def rK (N : Nat) (r : sh_S) : Prop := (∃ q : Nat, q ≤ 200 ∧ r 20 0 21 = nI q) ∧ ∀ i, i < N → (∃ q : Nat, q ≤ 8 ∧ r 39 0 i = nI q) ∧ ¬ r 24 0 i < 0 ∧ ¬ r 26 0 i < 0
theorem lt5 {B : sh_B} {Z : mx_Z} {N L : Nat} {cI cR cZ : ClassId} (hb : wB B Z N L cI cR cZ) {i : Nat} (hi : i < N) : i < 5 := Nat.lt_of_lt_of_le hi hb.2.2.2.1.2
theorem sx_top {B : sh_B} {X : mx_C} {n : Nat × Nat} {pc : Nat} {lv : List (Nat × Value)} {st : List Value} {S : sh_S} {x y : Int32} (h : x = y) (kk : sx B X n pc lv (.int y :: st) S) : sx B X n pc lv (.int x :: st) S := by
  subst h
  exact kk
theorem kF_in {N i : Nat} (hi : i < N) (hN : N ≤ 5) : kF N (nI i) := ⟨nI_pos (by omega), nI_ge hi (by omega)⟩
set_option maxHeartbeats 4000000 in
set_option maxRecDepth 100000 in
theorem c_T_isReplicaG {B : sh_B} {Z : mx_Z} {N L : Nat} {cI cR cZ : ClassId} (hb : wB B Z N L cI cR cZ) {S : sh_S} {x : Int32} : sc B Z y_T_isReplica b_T_isReplica 2 (some (.boolean)) (rmm 0 0) [.ref (B.2.1 20 0), .int x] S (qe (some (.int (if kF N x then 1 else 0))) S) := by
  refine ct_of (by decide) (Nat.le_of_ble_eq_true rfl) (cat_of rfl) ?_
  intro X ok en _
  have hB := hb.1
  refine mr_lv [(0, .ref (B.2.1 20 0)), (1, .int x)] ⟨rfl, rfl, trivial⟩ ?_
  refine mr_iload_n ok (i := 1) d_T_isReplica_0 rfl rfl ?_
  refine mr_if_lt ok 16 d_T_isReplica_1 (by decide) (fun h1 => ?_) (fun h1 => ?_)
  · refine mr_iconst ok 0 d_T_isReplica_16 (by decide) ?_
    refine sx_zret rfl ok en (Nat.le_refl _) (Nat.le_refl _) d_T_isReplica_17 ?_
    exact ⟨by rw [if_neg (fun z => z.1 h1)], rfl⟩
  · refine mr_iload_n ok (i := 1) d_T_isReplica_4 rfl rfl ?_
    refine mr_aload_n ok (i := 0) d_T_isReplica_5 rfl rfl ?_
    refine sx_getr ok hB fl_T_65 (tm_20 hb) rfl d_T_isReplica_6 ?_
    refine mr_icmp_ge ok 16 d_T_isReplica_9 (by decide) (fun h9 => ?_) (fun h9 => ?_)
    · refine mr_iconst ok 0 d_T_isReplica_16 (by decide) ?_
      refine sx_zret rfl ok en (Nat.le_refl _) (Nat.le_refl _) d_T_isReplica_17 ?_
      exact ⟨by rw [if_neg (fun z => z.2 h9)], rfl⟩
    · refine mr_iconst ok 1 d_T_isReplica_12 (by decide) ?_
      refine mr_goto ok 17 d_T_isReplica_13 (by decide) ?_
      refine sx_zret rfl ok en (Nat.le_refl _) (Nat.le_refl _) d_T_isReplica_17 ?_
      exact ⟨by rw [if_pos ⟨h1, h9⟩], rfl⟩
theorem c_T_isReplica {B : sh_B} {Z : mx_Z} {N L : Nat} {cI cR cZ : ClassId} (hb : wB B Z N L cI cR cZ) {c r : sh_S} {i : Nat} (hi : i < N) : sc B Z y_T_isReplica b_T_isReplica 2 (some (.boolean)) (rmm 0 0) [.ref (B.2.1 20 0), .int (nI i)] (jn c r) (qe (some (.int 1)) (jn c r)) := by
  have h := c_T_isReplicaG hb (S := jn c r) (x := nI i)
  rw [if_pos (kF_in hi hb.2.2.2.1.2)] at h
  exact h
theorem c_T_isReplica_o {B : sh_B} {Z : mx_Z} {N L : Nat} {cI cR cZ : ClassId} (hb : wB B Z N L cI cR cZ) {c r : sh_S} {x : Int32} (ho : ¬ kF N x) : sc B Z y_T_isReplica b_T_isReplica 2 (some (.boolean)) (rmm 0 0) [.ref (B.2.1 20 0), .int x] (jn c r) (qe (some (.int 0)) (jn c r)) := by
  have h := c_T_isReplicaG hb (S := jn c r) (x := x)
  rw [if_neg ho] at h
  exact h
theorem kt_lt {q : Nat} {y : Int32} (h1 : q ≤ 200) (h2 : y = nI q) (h : ¬ y = 200) : q < 200 := by
  rcases Nat.lt_or_ge q 200 with z | z
  · exact z
  · exact absurd (by rw [h2, show q = 200 by omega]; rfl) h
theorem kt_s0 {r : sh_S} (hc : ∃ q : Nat, q ≤ 200 ∧ r 20 0 21 = nI q) (h : ¬ r 20 0 21 = 200) : vp_in (7 * r 20 0 21) 1407 := by
  obtain ⟨q, h1, h2⟩ := hc
  have := kt_lt h1 h2 h
  rw [h2, n7, pk_mul]
  exact vp_in_nI (by omega) (by decide)
theorem kt_s {r : sh_S} (hc : ∃ q : Nat, q ≤ 200 ∧ r 20 0 21 = nI q) (h : ¬ r 20 0 21 = 200) (k : Nat) (hk : k < 7) : vp_in (7 * r 20 0 21 + nI k) 1407 := by
  obtain ⟨q, h1, h2⟩ := hc
  have := kt_lt h1 h2 h
  rw [h2, n7, pk_mul, nI_add]
  exact vp_in_nI (by omega) (by decide)
theorem kt_r1 {q k n : Nat} {r : sh_S} {a : Int32} (h1 : q ≤ 199) (h2 : r 20 0 21 = nI q) (h3 : a = nI k) (h4 : k ≤ 7 * q) (h : ¬ 7 * r 20 0 21 ≤ a) : k < 7 * q := by
  rw [h2, h3, n7, pk_mul] at h
  exact Nat.lt_of_not_le fun z => h (nI_le z (by omega))
theorem kt_in {k : Nat} {a : Int32} (N : Nat) (h3 : a = nI k) (h : k < N) (hN : N ≤ 100000) : vp_in a N := by
  rw [h3]
  exact vp_in_nI h (by omega)
theorem kt_in7 {k : Nat} {a : Int32} (N : Nat) (h3 : a = nI k) (h : k + 7 < N) (hN : N ≤ 100000) : vp_in (a + 7) N := by
  rw [h3, n7, nI_add]
  exact vp_in_nI h (by omega)
theorem kt_8 {i k : Nat} {b : Int32} (hi : i < 5) (h3 : b = nI k) (h : k < 8) : vp_in (8 * nI i + b) 40 := by
  rw [h3, show (8 : Int32) = nI 8 from rfl, pk_mul, nI_add]
  exact vp_in_nI (by omega) (by decide)
theorem kt_80 {i : Nat} (hi : i < 5) : vp_in (8 * nI i) 40 := by
  rw [show (8 : Int32) = nI 8 from rfl, pk_mul]
  exact vp_in_nI (by omega) (by decide)
theorem kt_40 {i : Nat} {y : Int32} (hi : i < 5) (h : ¬ y < 0) : vp_in (40 * nI i + (y - y / 40 * 40)) 200 := by
  obtain ⟨q, hq, rfl⟩ := nI_of h
  rw [show (40 : Int32) = nI 40 from rfl, pk_rem hq (by decide) (by decide), pk_mul, nI_add]
  have := Nat.mod_lt q (show 0 < 40 by decide)
  exact vp_in_nI (by omega) (by decide)
theorem kt_lnn {a b : Int32} (h : ¬ a < 0) (h2 : a < b) : ¬ b < 0 := by
  intro z
  exact h (Int32.lt_trans h2 z)
theorem kt_lnn' {a b : Int32} (h : ¬ a < 0) (h2 : ¬ b ≤ a) : ¬ b < 0 := kt_lnn h (Int32.not_le.mp h2)
theorem sU_self {S : sh_S} {k i j : Nat} {v : Int32} : sU S k i j v k i j = v := by
  unfold sU
  rw [Nat.beq_refl, Nat.beq_refl, Nat.beq_refl]
  rfl
theorem kc_rec {N k n : Nat} {M : Nat} {m b : Int32} (h0 : M ≤ 10000) (h1 : m = nI M) (h2 : b = nI k) (h3 : k ≤ M + 5) (h4 : M + 7 ≤ k + (n + 1)) (h : ¬ m < b) (hN : 3 ≤ N ∧ N ≤ 5) : ∃ M k : Nat, M ≤ 10000 ∧ m = nI M ∧ b + nI N = nI k ∧ k ≤ M + 5 ∧ M + 7 ≤ k + n := by
  rw [h1, h2] at h
  have : k ≤ M := Nat.le_of_not_lt fun z => h (nI_lt z (by omega))
  exact ⟨M, k + N, h0, h1, by rw [h2, nI_add], by omega, by omega⟩

def v_T_isUp (N L : Nat) (r : sh_S) (i : Nat) : Int32 := (if (r 23 0 i) = 0 then 0 else 1)
set_option maxHeartbeats 4000000 in
set_option maxRecDepth 100000 in
theorem c_T_isUp {B : sh_B} {Z : mx_Z} {N L : Nat} {cI cR cZ : ClassId} (hb : wB B Z N L cI cR cZ) {c r : sh_S} {i : Nat} (hi : i < N) : sc B Z y_T_isUp b_T_isUp 2 (some (.boolean)) (rmm 1 21) [.ref (B.2.1 20 0), .int (nI i)] (jn c r) (qe (some (.int (v_T_isUp N L r i))) (jn c r)) := by
  refine ct_of (by decide) (Nat.le_of_ble_eq_true rfl) (cat_of rfl) ?_
  intro X ok en _
  have hB := hb.1
  refine mr_lv [(0, .ref (B.2.1 20 0)), (1, .int (nI i))] ⟨rfl, rfl, trivial⟩ ?_
  refine mr_aload_n ok (i := 0) d_T_isUp_0 rfl rfl ?_
  refine mr_iload_n ok (i := 1) d_T_isUp_1 rfl rfl ?_
  refine sx_cVi ok hB [_] rfl cb_T_75 cv_T_isReplica (tm_20 hb) rfl rfl (c_T_isReplica hb hi) rfl (Nat.le_of_ble_eq_true rfl) (by decide) ⟨Nat.le_refl _, Nat.le_refl _⟩ d_T_isUp_2 ?_
  refine mr_if_eq ok 33 d_T_isUp_5 (by decide) (fun h => absurd h (by decide)) (fun _ => ?_)
  refine mr_aload_n ok (i := 0) d_T_isUp_8 rfl rfl ?_
  refine sx_getr ok hB fl_T_7 (tm_20 hb) rfl d_T_isUp_9 ?_
  refine mr_aload_n ok (i := 0) d_T_isUp_12 rfl rfl ?_
  refine mr_iload_n ok (i := 1) d_T_isUp_13 rfl rfl ?_
  refine sx_cVi ok hB [_] rfl cb_T_75 cv_T_isReplica (tm_20 hb) rfl rfl (c_T_isReplica hb hi) rfl (Nat.le_of_ble_eq_true rfl) (by decide) ⟨Nat.le_refl _, Nat.le_refl _⟩ d_T_isUp_14 ?_
  refine mr_if_eq ok 24 d_T_isUp_17 (by decide) (fun h => absurd h (by decide)) (fun _ => ?_)
  refine mr_iload_n ok (i := 1) d_T_isUp_20 rfl rfl ?_
  refine mr_goto ok 25 d_T_isUp_21 (by decide) ?_
  refine rx_zald ok hB rfl (tm_23 hb) (ty_2 hb) rfl (lt5 hb hi) (by decide) d_T_isUp_25 ?_
  refine mr_if_eq ok 33 d_T_isUp_26 (by decide) (fun h26_0 => ?_) (fun h26_0 => ?_)
  · refine mr_iconst ok 0 d_T_isUp_33 (by decide) ?_
    refine sx_zret rfl ok en (Nat.le_refl _) (Nat.le_refl _) d_T_isUp_34 ?_
    exact ⟨(by first | rfl | simp only [v_T_isUp, if_pos h26_0]), (by first | rfl | simp only [s_T_isUp, if_pos h26_0])⟩
  · refine mr_iconst ok 1 d_T_isUp_29 (by decide) ?_
    refine mr_goto ok 34 d_T_isUp_30 (by decide) ?_
    refine sx_zret rfl ok en (Nat.le_refl _) (Nat.le_refl _) d_T_isUp_34 ?_
    exact ⟨(by first | rfl | simp only [v_T_isUp, if_neg h26_0]), (by first | rfl | simp only [s_T_isUp, if_neg h26_0])⟩
def v_T_isUp_o (N L : Nat) (r : sh_S) (x : Int32) : Int32 := 0
set_option maxHeartbeats 4000000 in
set_option maxRecDepth 100000 in
theorem c_T_isUp_o {B : sh_B} {Z : mx_Z} {N L : Nat} {cI cR cZ : ClassId} (hb : wB B Z N L cI cR cZ) {c r : sh_S} {x : Int32} (ho : ¬ kF N x) : sc B Z y_T_isUp b_T_isUp 2 (some (.boolean)) (rmm 1 21) [.ref (B.2.1 20 0), .int x] (jn c r) (qe (some (.int (v_T_isUp_o N L r x))) (jn c r)) := by
  refine ct_of (by decide) (Nat.le_of_ble_eq_true rfl) (cat_of rfl) ?_
  intro X ok en _
  have hB := hb.1
  refine mr_lv [(0, .ref (B.2.1 20 0)), (1, .int x)] ⟨rfl, rfl, trivial⟩ ?_
  refine mr_aload_n ok (i := 0) d_T_isUp_0 rfl rfl ?_
  refine mr_iload_n ok (i := 1) d_T_isUp_1 rfl rfl ?_
  refine sx_cVi ok hB [_] rfl cb_T_75 cv_T_isReplica (tm_20 hb) rfl rfl (c_T_isReplica_o hb ho) rfl (Nat.le_of_ble_eq_true rfl) (by decide) ⟨Nat.le_refl _, Nat.le_refl _⟩ d_T_isUp_2 ?_
  refine mr_if_eq ok 33 d_T_isUp_5 (by decide) (fun _ => ?_) (fun h => absurd h (by decide))
  refine mr_iconst ok 0 d_T_isUp_33 (by decide) ?_
  refine sx_zret rfl ok en (Nat.le_refl _) (Nat.le_refl _) d_T_isUp_34 ?_
  exact ⟨(by first | rfl | simp only [v_T_isUp_o]), (by first | rfl | simp only [s_T_isUp_o])⟩
def s_T_send (N L : Nat) (r : sh_S) (x1 : Int32) (x2 : Int32) (x3 : Int32) (x4 : Int32) (x5 : Int32) (x6 : Int32) (x7 : Int32) : sh_S := (let r1 := sU r 20 0 22 ((r 20 0 22) + 1); (if (r1 20 0 21) = 200 then (let r10 := sU r1 20 0 23 ((r1 20 0 23) + 1); r10) else (let r2 := sU r1 40 0 (((7 * (r1 20 0 21)) : Int32).toNatClampNeg) x1; (let r3 := sU r2 40 0 ((((7 * (r1 20 0 21)) + 1) : Int32).toNatClampNeg) x2; (let r4 := sU r3 40 0 ((((7 * (r1 20 0 21)) + 2) : Int32).toNatClampNeg) x3; (let r5 := sU r4 40 0 ((((7 * (r1 20 0 21)) + 3) : Int32).toNatClampNeg) x4; (let r6 := sU r5 40 0 ((((7 * (r1 20 0 21)) + 4) : Int32).toNatClampNeg) x5; (let r7 := sU r6 40 0 ((((7 * (r1 20 0 21)) + 5) : Int32).toNatClampNeg) x6; (let r8 := sU r7 40 0 ((((7 * (r1 20 0 21)) + 6) : Int32).toNatClampNeg) x7; (let r9 := sU r8 20 0 21 ((r8 20 0 21) + 1); r9))))))))))
set_option maxHeartbeats 4000000 in
set_option maxRecDepth 100000 in
theorem c_T_send {B : sh_B} {Z : mx_Z} {N L : Nat} {cI cR cZ : ClassId} (hb : wB B Z N L cI cR cZ) {c r : sh_S} {x1 : Int32} {x2 : Int32} {x3 : Int32} {x4 : Int32} {x5 : Int32} {x6 : Int32} {x7 : Int32} (hc : ∃ q : Nat, q ≤ 200 ∧ r 20 0 21 = nI q) : sc B Z y_T_send b_T_send 9 none (rmm 0 0) [.ref (B.2.1 20 0), .int x1, .int x2, .int x3, .int x4, .int x5, .int x6, .int x7] (jn c r) (qe none (jn c (s_T_send N L r x1 x2 x3 x4 x5 x6 x7))) := by
  refine ct_of (by decide) (Nat.le_of_ble_eq_true rfl) (cat_of rfl) ?_
  intro X ok en _
  have hB := hb.1
  refine mr_lv [(0, .ref (B.2.1 20 0)), (1, .int x1), (2, .int x2), (3, .int x3), (4, .int x4), (5, .int x5), (6, .int x6), (7, .int x7)] ⟨rfl, rfl, rfl, rfl, rfl, rfl, rfl, rfl, trivial⟩ ?_
  refine mr_aload_n ok (i := 0) d_T_send_0 rfl rfl ?_
  refine mr_dup ok d_T_send_1 rfl ?_
  refine rx_geti ok hB rfl fl_T_79 (tm_20 hb) rfl d_T_send_2 ?_
  refine mr_iconst ok 1 d_T_send_5 (by decide) ?_
  refine mr_iadd ok d_T_send_6 ?_
  refine rx_put ok hB rfl fw_T_79 (tm_20 hb) rfl rfl rfl d_T_send_7 ?_
  refine mr_aload_n ok (i := 0) d_T_send_10 rfl rfl ?_
  refine rx_geti ok hB rfl fl_T_82 (tm_20 hb) rfl d_T_send_11 ?_
  refine mr_sipush ok 200 d_T_send_14 (by decide) ?_
  refine mr_icmp_ne ok 31 d_T_send_17 (by decide) (fun h17_0 => ?_) (fun h17_0 => ?_)
  · refine mr_bipush ok 7 d_T_send_31 (by decide) ?_
    refine mr_aload_n ok (i := 0) d_T_send_33 rfl rfl ?_
    refine rx_geti ok hB rfl fl_T_82 (tm_20 hb) rfl d_T_send_34 ?_
    refine mr_imul ok d_T_send_37 ?_
    refine mr_istore ok d_T_send_38 (by decide) ?_
    refine mr_aload_n ok (i := 0) d_T_send_40 rfl rfl ?_
    refine sx_getr ok hB fl_T_62 (tm_20 hb) rfl d_T_send_41 ?_
    refine mr_iload ok d_T_send_44 rfl ?_
    refine mr_iload_n ok (i := 1) d_T_send_46 rfl rfl ?_
    refine rx_iastC ok hB rfl (tm_40 hb) (ty_0 hb) (kt_s0 hc ‹_›) d_T_send_47 ?_
    refine mr_aload_n ok (i := 0) d_T_send_48 rfl rfl ?_
    refine sx_getr ok hB fl_T_62 (tm_20 hb) rfl d_T_send_49 ?_
    refine mr_iload ok d_T_send_52 rfl ?_
    refine mr_iconst ok 1 d_T_send_54 (by decide) ?_
    refine mr_iadd ok d_T_send_55 ?_
    refine mr_iload_n ok (i := 2) d_T_send_56 rfl rfl ?_
    refine rx_iastC ok hB rfl (tm_40 hb) (ty_0 hb) (kt_s hc ‹_› 1 (by decide)) d_T_send_57 ?_
    refine mr_aload_n ok (i := 0) d_T_send_58 rfl rfl ?_
    refine sx_getr ok hB fl_T_62 (tm_20 hb) rfl d_T_send_59 ?_
    refine mr_iload ok d_T_send_62 rfl ?_
    refine mr_iconst ok 2 d_T_send_64 (by decide) ?_
    refine mr_iadd ok d_T_send_65 ?_
    refine mr_iload_n ok (i := 3) d_T_send_66 rfl rfl ?_
    refine rx_iastC ok hB rfl (tm_40 hb) (ty_0 hb) (kt_s hc ‹_› 2 (by decide)) d_T_send_67 ?_
    refine mr_aload_n ok (i := 0) d_T_send_68 rfl rfl ?_
    refine sx_getr ok hB fl_T_62 (tm_20 hb) rfl d_T_send_69 ?_
    refine mr_iload ok d_T_send_72 rfl ?_
    refine mr_iconst ok 3 d_T_send_74 (by decide) ?_
    refine mr_iadd ok d_T_send_75 ?_
    refine mr_iload ok d_T_send_76 rfl ?_
    refine rx_iastC ok hB rfl (tm_40 hb) (ty_0 hb) (kt_s hc ‹_› 3 (by decide)) d_T_send_78 ?_
    refine mr_aload_n ok (i := 0) d_T_send_79 rfl rfl ?_
    refine sx_getr ok hB fl_T_62 (tm_20 hb) rfl d_T_send_80 ?_
    refine mr_iload ok d_T_send_83 rfl ?_
    refine mr_iconst ok 4 d_T_send_85 (by decide) ?_
    refine mr_iadd ok d_T_send_86 ?_
    refine mr_iload ok d_T_send_87 rfl ?_
    refine rx_iastC ok hB rfl (tm_40 hb) (ty_0 hb) (kt_s hc ‹_› 4 (by decide)) d_T_send_89 ?_
    refine mr_aload_n ok (i := 0) d_T_send_90 rfl rfl ?_
    refine sx_getr ok hB fl_T_62 (tm_20 hb) rfl d_T_send_91 ?_
    refine mr_iload ok d_T_send_94 rfl ?_
    refine mr_iconst ok 5 d_T_send_96 (by decide) ?_
    refine mr_iadd ok d_T_send_97 ?_
    refine mr_iload ok d_T_send_98 rfl ?_
    refine rx_iastC ok hB rfl (tm_40 hb) (ty_0 hb) (kt_s hc ‹_› 5 (by decide)) d_T_send_100 ?_
    refine mr_aload_n ok (i := 0) d_T_send_101 rfl rfl ?_
    refine sx_getr ok hB fl_T_62 (tm_20 hb) rfl d_T_send_102 ?_
    refine mr_iload ok d_T_send_105 rfl ?_
    refine mr_bipush ok 6 d_T_send_107 (by decide) ?_
    refine mr_iadd ok d_T_send_109 ?_
    refine mr_iload ok d_T_send_110 rfl ?_
    refine rx_iastC ok hB rfl (tm_40 hb) (ty_0 hb) (kt_s hc ‹_› 6 (by decide)) d_T_send_112 ?_
    refine mr_aload_n ok (i := 0) d_T_send_113 rfl rfl ?_
    refine mr_dup ok d_T_send_114 rfl ?_
    refine rx_geti ok hB rfl fl_T_82 (tm_20 hb) rfl d_T_send_115 ?_
    refine mr_iconst ok 1 d_T_send_118 (by decide) ?_
    refine mr_iadd ok d_T_send_119 ?_
    refine rx_put ok hB rfl fw_T_82 (tm_20 hb) rfl rfl rfl d_T_send_120 ?_
    refine sx_vret ok en (Nat.le_refl _) (Nat.le_refl _) d_T_send_123 ?_
    exact ⟨rfl, (by first | rfl | simp only [s_T_send, if_neg h17_0])⟩
  · refine mr_aload_n ok (i := 0) d_T_send_20 rfl rfl ?_
    refine mr_dup ok d_T_send_21 rfl ?_
    refine rx_geti ok hB rfl fl_T_85 (tm_20 hb) rfl d_T_send_22 ?_
    refine mr_iconst ok 1 d_T_send_25 (by decide) ?_
    refine mr_iadd ok d_T_send_26 ?_
    refine rx_put ok hB rfl fw_T_85 (tm_20 hb) rfl rfl rfl d_T_send_27 ?_
    refine sx_vret ok en (Nat.le_refl _) (Nat.le_refl _) d_T_send_30 ?_
    exact ⟨rfl, (by first | rfl | simp only [s_T_send, if_pos h17_0])⟩
theorem rK_T_send {N L : Nat} {r : sh_S} {x1 x2 x3 x4 x5 x6 x7 : Int32} (hc : rK N r) : rK N (s_T_send N L r x1 x2 x3 x4 x5 x6 x7) := by
  unfold s_T_send
  dsimp only
  obtain ⟨⟨q, h1, h2⟩, h3⟩ := hc
  split
  · exact ⟨⟨q, h1, h2⟩, h3⟩
  next h =>
    have := kt_lt h1 h2 h
    refine ⟨⟨q + 1, by omega, ?_⟩, h3⟩
    show r 20 0 21 + 1 = nI (q + 1)
    rw [h2, nI_1]

def ls_T_sendAll (N L : Nat) : Nat → sh_S → Int32 → Int32 → Int32 → Int32 → Int32 → Int32 → sh_S
  | 0, r, _, _, _, _, _, _ => r
  | n + 1, r, x1, x2, x3, x4, x5, a => (if (nI N) ≤ a then r else (if a = x2 then (ls_T_sendAll N L n r x1 x2 x3 x4 x5 (a + 1)) else (let r1 := s_T_send N L r x1 x2 a x3 x4 x5 0; (ls_T_sendAll N L n r1 x1 x2 x3 x4 x5 (a + 1)))))
set_option maxHeartbeats 4000000 in
set_option maxRecDepth 100000 in
theorem l_T_sendAll {B : sh_B} {Z : mx_Z} {N L : Nat} {cI cR cZ : ClassId} (hb : wB B Z N L cI cR cZ) {c : sh_S} {x1 : Int32} {x2 : Int32} {x3 : Int32} {x4 : Int32} {x5 : Int32} {X : mx_C} {V0 : Option Value} {S0 : sh_S} (ok : mx_ok X Z R_T b_T_sendAll 7 (rmm 1 28)) (en : sx_end B X none (rmm 1 28) (qe V0 S0)) (hV : V0 = none) : ∀ (n : Nat) (r : sh_S) (a : Int32), (rK N r ∧ ∃ k : Nat, a = nI k ∧ k ≤ N ∧ N + 1 ≤ k + n) → S0 = (jn c (ls_T_sendAll N L n r x1 x2 x3 x4 x5 a)) → sx B X (0, 0) 3 [(0, .ref (B.2.1 20 0)), (1, .int x1), (2, .int x2), (3, .int x3), (4, .int x4), (5, .int x5), (6, .int a)] [] (jn c r) := by
  have hB := hb.1
  intro n
  induction n with
  | zero =>
    intro r a hh _
    obtain ⟨-, k, h1, h2, h3⟩ := hh
    omega
  | succ n ih =>
    intro r a hh hS
    obtain ⟨hc, k, h1, h2, h3⟩ := hh
    refine mr_iload ok d_T_sendAll_3 rfl ?_
    refine mr_aload_n ok (i := 0) d_T_sendAll_5 rfl rfl ?_
    refine sx_getr ok hB fl_T_65 (tm_20 hb) rfl d_T_sendAll_6 ?_
    refine mr_icmp_ge ok 38 d_T_sendAll_9 (by decide) (fun h9_0 => ?_) (fun h9_0 => ?_)
    · refine sx_vret ok en (Nat.le_refl _) (Nat.le_refl _) d_T_sendAll_38 ?_
      exact ⟨(by rw [hV]), (by rw [hS]; simp only [ls_T_sendAll, if_pos h9_0])⟩
    · refine mr_iload ok d_T_sendAll_12 rfl ?_
      refine mr_iload_n ok (i := 2) d_T_sendAll_14 rfl rfl ?_
      refine mr_icmp_eq ok 32 d_T_sendAll_15 (by decide) (fun h15_1 => ?_) (fun h15_1 => ?_)
      · refine mr_iinc ok _ d_T_sendAll_32 rfl rfl (by decide) ?_
        refine mr_goto ok 3 d_T_sendAll_35 (by decide) ?_
        refine mr_lv [(0, .ref (B.2.1 20 0)), (1, .int x1), (2, .int x2), (3, .int x3), (4, .int x4), (5, .int x5), (6, .int (a + 1))] ⟨rfl, rfl, rfl, rfl, rfl, rfl, rfl, trivial⟩ ?_
        exact ih _ _ ⟨hc, ks_rec h1 h2 h3 ‹_› (by have := hb.2.2.2.1.2; omega)⟩ (hS.trans (by simp only [ls_T_sendAll, if_neg h9_0, if_pos h15_1]))
      · refine mr_aload_n ok (i := 0) d_T_sendAll_18 rfl rfl ?_
        refine mr_iload_n ok (i := 1) d_T_sendAll_19 rfl rfl ?_
        refine mr_iload_n ok (i := 2) d_T_sendAll_20 rfl rfl ?_
        refine mr_iload ok d_T_sendAll_21 rfl ?_
        refine mr_iload_n ok (i := 3) d_T_sendAll_23 rfl rfl ?_
        refine mr_iload ok d_T_sendAll_24 rfl ?_
        refine mr_iload ok d_T_sendAll_26 rfl ?_
        refine mr_iconst ok 0 d_T_sendAll_28 (by decide) ?_
        refine sx_cVv ok hB [_, _, _, _, _, _, _] rfl cb_T_88 cv_T_send (tm_20 hb) rfl rfl (c_T_send hb (by exact hc.1)) rfl (Nat.le_of_ble_eq_true rfl) (by decide) ⟨Nat.le_refl _, Nat.le_refl _⟩ d_T_sendAll_29 ?_
        have hc : rK N (s_T_send N L r x1 x2 a x3 x4 x5 0) := rK_T_send (L := L) hc
        refine mr_iinc ok _ d_T_sendAll_32 rfl rfl (by decide) ?_
        refine mr_goto ok 3 d_T_sendAll_35 (by decide) ?_
        refine mr_lv [(0, .ref (B.2.1 20 0)), (1, .int x1), (2, .int x2), (3, .int x3), (4, .int x4), (5, .int x5), (6, .int (a + 1))] ⟨rfl, rfl, rfl, rfl, rfl, rfl, rfl, trivial⟩ ?_
        exact ih _ _ ⟨hc, ks_rec h1 h2 h3 ‹_› (by have := hb.2.2.2.1.2; omega)⟩ (hS.trans (by simp only [ls_T_sendAll, if_neg h9_0, if_neg h15_1]))
def s_T_sendAll (N L : Nat) (r : sh_S) (x1 : Int32) (x2 : Int32) (x3 : Int32) (x4 : Int32) (x5 : Int32) : sh_S := (ls_T_sendAll N L 6 r x1 x2 x3 x4 x5 0)
set_option maxHeartbeats 4000000 in
set_option maxRecDepth 100000 in
theorem c_T_sendAll {B : sh_B} {Z : mx_Z} {N L : Nat} {cI cR cZ : ClassId} (hb : wB B Z N L cI cR cZ) {c r : sh_S} {x1 : Int32} {x2 : Int32} {x3 : Int32} {x4 : Int32} {x5 : Int32} (hc : rK N r) : sc B Z y_T_sendAll b_T_sendAll 7 none (rmm 1 28) [.ref (B.2.1 20 0), .int x1, .int x2, .int x3, .int x4, .int x5] (jn c r) (qe none (jn c (s_T_sendAll N L r x1 x2 x3 x4 x5))) := by
  refine ct_of (by decide) (Nat.le_of_ble_eq_true rfl) (cat_of rfl) ?_
  intro X ok en _
  have hB := hb.1
  refine mr_lv [(0, .ref (B.2.1 20 0)), (1, .int x1), (2, .int x2), (3, .int x3), (4, .int x4), (5, .int x5)] ⟨rfl, rfl, rfl, rfl, rfl, rfl, trivial⟩ ?_
  refine mr_iconst ok 0 d_T_sendAll_0 (by decide) ?_
  refine mr_istore ok d_T_sendAll_1 (by decide) ?_
  refine mr_lv [(0, .ref (B.2.1 20 0)), (1, .int x1), (2, .int x2), (3, .int x3), (4, .int x4), (5, .int x5), (6, .int 0)] ⟨rfl, rfl, rfl, rfl, rfl, rfl, rfl, trivial⟩ ?_
  exact l_T_sendAll hb ok en rfl 6 _ _ ⟨hc, 0, rfl, Nat.zero_le _, by have := hb.2.2.2.1.2; omega⟩ rfl
theorem rK_lsendAll {N L : Nat} {x1 x2 x3 x4 x5 : Int32} : ∀ (n : Nat) (r : sh_S) (a : Int32), rK N r → rK N (ls_T_sendAll N L n r x1 x2 x3 x4 x5 a) := by
  intro n
  induction n with
  | zero =>
    intro r a hc
    exact hc
  | succ n ih =>
    intro r a hc
    unfold ls_T_sendAll
    split
    · exact hc
    · split
      · exact ih _ _ hc
      · exact ih _ _ (rK_T_send hc)
theorem rK_T_sendAll {N L : Nat} {r : sh_S} {x1 x2 x3 x4 x5 : Int32} (hc : rK N r) : rK N (s_T_sendAll N L r x1 x2 x3 x4 x5) := rK_lsendAll 6 r 0 hc
theorem kt_rinit {r : sh_S} {x : Int32} (hc : ∃ q j : Nat, q ≤ 200 ∧ r 20 0 21 = nI q ∧ j < q ∧ x = nI j) : ∃ q k : Nat, q ≤ 199 ∧ (sU r 20 0 21 (r 20 0 21 - 1)) 20 0 21 = nI q ∧ 7 * x = nI k ∧ k ≤ 7 * q ∧ 7 * q + 1 ≤ k + 1400 := by
  obtain ⟨q, j, h1, h2, h3, h4⟩ := hc
  refine ⟨q - 1, 7 * j, by omega, ?_, ?_, by omega, by omega⟩
  · show r 20 0 21 - 1 = nI (q - 1)
    rw [h2, show (1 : Int32) = nI 1 from rfl, pk_sub (by omega)]
  · rw [h4, n7, pk_mul]

def ls_T_remove (N L : Nat) : Nat → sh_S → Int32 → Int32 → sh_S
  | 0, r, _, _ => r
  | n + 1, r, x, a => (if (7 * (r 20 0 21)) ≤ a then r else (let r1 := sU r 40 0 ((a : Int32).toNatClampNeg) (r 40 0 (((a + 7) : Int32).toNatClampNeg)); (ls_T_remove N L n r1 x (a + 1))))
set_option maxHeartbeats 4000000 in
set_option maxRecDepth 100000 in
theorem l_T_remove {B : sh_B} {Z : mx_Z} {N L : Nat} {cI cR cZ : ClassId} (hb : wB B Z N L cI cR cZ) {c : sh_S} {x : Int32} {X : mx_C} {V0 : Option Value} {S0 : sh_S} (ok : mx_ok X Z R_T b_T_remove 3 (rmm 0 0)) (en : sx_end B X none (rmm 0 0) (qe V0 S0)) (hV : V0 = none) : ∀ (n : Nat) (r : sh_S) (a : Int32), (∃ q k : Nat, q ≤ 199 ∧ r 20 0 21 = nI q ∧ a = nI k ∧ k ≤ 7 * q ∧ 7 * q + 1 ≤ k + n) → S0 = (jn c (ls_T_remove N L n r x a)) → sx B X (0, 0) 15 [(0, .ref (B.2.1 20 0)), (1, .int x), (2, .int a)] [] (jn c r) := by
  have hB := hb.1
  intro n
  induction n with
  | zero =>
    intro r a hh _
    obtain ⟨q, k, h1, h2, h3, h4, h5⟩ := hh
    omega
  | succ n ih =>
    intro r a hh hS
    obtain ⟨q, k, h1, h2, h3, h4, h5⟩ := hh
    refine mr_iload_n ok (i := 2) d_T_remove_15 rfl rfl ?_
    refine mr_bipush ok 7 d_T_remove_16 (by decide) ?_
    refine mr_aload_n ok (i := 0) d_T_remove_18 rfl rfl ?_
    refine rx_geti ok hB rfl fl_T_82 (tm_20 hb) rfl d_T_remove_19 ?_
    refine mr_imul ok d_T_remove_22 ?_
    refine mr_icmp_ge ok 47 d_T_remove_23 (by decide) (fun h23_0 => ?_) (fun h23_0 => ?_)
    · refine sx_vret ok en (Nat.le_refl _) (Nat.le_refl _) d_T_remove_47 ?_
      exact ⟨(by rw [hV]), (by rw [hS]; simp only [ls_T_remove, if_pos h23_0])⟩
    · refine mr_aload_n ok (i := 0) d_T_remove_26 rfl rfl ?_
      refine sx_getr ok hB fl_T_62 (tm_20 hb) rfl d_T_remove_27 ?_
      refine mr_iload_n ok (i := 2) d_T_remove_30 rfl rfl ?_
      refine mr_aload_n ok (i := 0) d_T_remove_31 rfl rfl ?_
      refine sx_getr ok hB fl_T_62 (tm_20 hb) rfl d_T_remove_32 ?_
      refine mr_iload_n ok (i := 2) d_T_remove_35 rfl rfl ?_
      refine mr_bipush ok 7 d_T_remove_36 (by decide) ?_
      refine mr_iadd ok d_T_remove_38 ?_
      refine rx_ialdC ok hB rfl (tm_40 hb) (ty_0 hb) (by have := kt_r1 (n := 0) h1 h2 h3 h4 ‹_›; exact kt_in7 1407 h3 (by omega) (by decide)) d_T_remove_39 ?_
      refine rx_iastC ok hB rfl (tm_40 hb) (ty_0 hb) (by have := kt_r1 (n := 0) h1 h2 h3 h4 ‹_›; exact kt_in 1407 h3 (by omega) (by decide)) d_T_remove_40 ?_
      refine mr_iinc ok _ d_T_remove_41 rfl rfl (by decide) ?_
      refine mr_goto ok 15 d_T_remove_44 (by decide) ?_
      refine mr_lv [(0, .ref (B.2.1 20 0)), (1, .int x), (2, .int (a + 1))] ⟨rfl, rfl, rfl, trivial⟩ ?_
      exact ih _ _ ⟨q, k + 1, h1, h2, by rw [h3, nI_1], by have := kt_r1 (n := 0) h1 h2 h3 h4 ‹_›; omega, by omega⟩ (hS.trans (by simp only [ls_T_remove, if_neg h23_0]))
def s_T_remove (N L : Nat) (r : sh_S) (x : Int32) : sh_S := (let r1 := sU r 20 0 21 ((r 20 0 21) - 1); (ls_T_remove N L 1400 r1 x (7 * x)))
set_option maxHeartbeats 4000000 in
set_option maxRecDepth 100000 in
theorem c_T_remove {B : sh_B} {Z : mx_Z} {N L : Nat} {cI cR cZ : ClassId} (hb : wB B Z N L cI cR cZ) {c r : sh_S} {x : Int32} (hc : ∃ q j : Nat, q ≤ 200 ∧ r 20 0 21 = nI q ∧ j < q ∧ x = nI j) : sc B Z y_T_remove b_T_remove 3 none (rmm 0 0) [.ref (B.2.1 20 0), .int x] (jn c r) (qe none (jn c (s_T_remove N L r x))) := by
  refine ct_of (by decide) (Nat.le_of_ble_eq_true rfl) (cat_of rfl) ?_
  intro X ok en _
  have hB := hb.1
  refine mr_lv [(0, .ref (B.2.1 20 0)), (1, .int x)] ⟨rfl, rfl, trivial⟩ ?_
  refine mr_aload_n ok (i := 0) d_T_remove_0 rfl rfl ?_
  refine mr_dup ok d_T_remove_1 rfl ?_
  refine rx_geti ok hB rfl fl_T_82 (tm_20 hb) rfl d_T_remove_2 ?_
  refine mr_iconst ok 1 d_T_remove_5 (by decide) ?_
  refine mr_isub ok d_T_remove_6 ?_
  refine rx_put ok hB rfl fw_T_82 (tm_20 hb) rfl rfl rfl d_T_remove_7 ?_
  refine mr_bipush ok 7 d_T_remove_10 (by decide) ?_
  refine mr_iload_n ok (i := 1) d_T_remove_12 rfl rfl ?_
  refine mr_imul ok d_T_remove_13 ?_
  refine mr_istore_n ok (i := 2) d_T_remove_14 rfl (by decide) ?_
  refine mr_lv [(0, .ref (B.2.1 20 0)), (1, .int x), (2, .int (7 * x))] ⟨rfl, rfl, rfl, trivial⟩ ?_
  exact l_T_remove hb ok en rfl 1400 _ _ (kt_rinit hc) rfl
def s_T_follow (N L : Nat) (r : sh_S) (i : Nat) : sh_S := (let r1 := sU r 31 0 i 0; (let r2 := sU r1 32 0 i 0; (let r3 := sU r2 33 0 i 0; (let r4 := sU r3 34 0 i 0; (let r5 := sU r4 35 0 i 0; (let r6 := sU r5 36 0 i 0; r6))))))
set_option maxHeartbeats 4000000 in
set_option maxRecDepth 100000 in
theorem c_T_follow {B : sh_B} {Z : mx_Z} {N L : Nat} {cI cR cZ : ClassId} (hb : wB B Z N L cI cR cZ) {c r : sh_S} {i : Nat} (hi : i < N) : sc B Z y_T_follow b_T_follow 2 none (rmm 0 0) [.ref (B.2.1 20 0), .int (nI i)] (jn c r) (qe none (jn c (s_T_follow N L r i))) := by
  refine ct_of (by decide) (Nat.le_of_ble_eq_true rfl) (cat_of rfl) ?_
  intro X ok en _
  have hB := hb.1
  refine mr_lv [(0, .ref (B.2.1 20 0)), (1, .int (nI i))] ⟨rfl, rfl, trivial⟩ ?_
  refine mr_aload_n ok (i := 0) d_T_follow_0 rfl rfl ?_
  refine sx_getr ok hB fl_T_35 (tm_20 hb) rfl d_T_follow_1 ?_
  refine mr_iload_n ok (i := 1) d_T_follow_4 rfl rfl ?_
  refine mr_iconst ok 0 d_T_follow_5 (by decide) ?_
  refine rx_iast ok hB rfl (tm_31 hb) (ty_0 hb) rfl (lt5 hb hi) (by decide) d_T_follow_6 ?_
  refine mr_aload_n ok (i := 0) d_T_follow_7 rfl rfl ?_
  refine sx_getr ok hB fl_T_38 (tm_20 hb) rfl d_T_follow_8 ?_
  refine mr_iload_n ok (i := 1) d_T_follow_11 rfl rfl ?_
  refine mr_iconst ok 0 d_T_follow_12 (by decide) ?_
  refine rx_iast ok hB rfl (tm_32 hb) (ty_0 hb) rfl (lt5 hb hi) (by decide) d_T_follow_13 ?_
  refine mr_aload_n ok (i := 0) d_T_follow_14 rfl rfl ?_
  refine sx_getr ok hB fl_T_41 (tm_20 hb) rfl d_T_follow_15 ?_
  refine mr_iload_n ok (i := 1) d_T_follow_18 rfl rfl ?_
  refine mr_iconst ok 0 d_T_follow_19 (by decide) ?_
  refine rx_iast ok hB rfl (tm_33 hb) (ty_0 hb) rfl (lt5 hb hi) (by decide) d_T_follow_20 ?_
  refine mr_aload_n ok (i := 0) d_T_follow_21 rfl rfl ?_
  refine sx_getr ok hB fl_T_44 (tm_20 hb) rfl d_T_follow_22 ?_
  refine mr_iload_n ok (i := 1) d_T_follow_25 rfl rfl ?_
  refine mr_iconst ok 0 d_T_follow_26 (by decide) ?_
  refine rx_iast ok hB rfl (tm_34 hb) (ty_0 hb) rfl (lt5 hb hi) (by decide) d_T_follow_27 ?_
  refine mr_aload_n ok (i := 0) d_T_follow_28 rfl rfl ?_
  refine sx_getr ok hB fl_T_47 (tm_20 hb) rfl d_T_follow_29 ?_
  refine mr_iload_n ok (i := 1) d_T_follow_32 rfl rfl ?_
  refine mr_iconst ok 0 d_T_follow_33 (by decide) ?_
  refine rx_iast ok hB rfl (tm_35 hb) (ty_0 hb) rfl (lt5 hb hi) (by decide) d_T_follow_34 ?_
  refine mr_aload_n ok (i := 0) d_T_follow_35 rfl rfl ?_
  refine sx_getr ok hB fl_T_50 (tm_20 hb) rfl d_T_follow_36 ?_
  refine mr_iload_n ok (i := 1) d_T_follow_39 rfl rfl ?_
  refine mr_iconst ok 0 d_T_follow_40 (by decide) ?_
  refine rx_iast ok hB rfl (tm_36 hb) (ty_0 hb) rfl (lt5 hb hi) (by decide) d_T_follow_41 ?_
  refine sx_vret ok en (Nat.le_refl _) (Nat.le_refl _) d_T_follow_42 ?_
  exact ⟨rfl, (by first | rfl | simp only [s_T_follow])⟩
def lv_T_count (N L : Nat) : Nat → sh_S → Int32 → Int32 → Int32 → Int32
  | 0, _, _, _, _ => 0
  | n + 1, r, x, a, b => (if (nI N) ≤ b then a else (lv_T_count N L n r x (a + ((x >>> (b &&& 31)) &&& 1)) (b + 1)))
set_option maxHeartbeats 4000000 in
set_option maxRecDepth 100000 in
theorem l_T_count {B : sh_B} {Z : mx_Z} {N L : Nat} {cI cR cZ : ClassId} (hb : wB B Z N L cI cR cZ) {c : sh_S} {x : Int32} {X : mx_C} {V0 : Option Value} {S0 : sh_S} (ok : mx_ok X Z R_T b_T_count 4 (rmm 0 0)) (en : sx_end B X (some (.int)) (rmm 0 0) (qe V0 S0)) : ∀ (n : Nat) (r : sh_S) (a : Int32) (b : Int32), (∃ k : Nat, b = nI k ∧ k ≤ N ∧ N + 1 ≤ k + n) → V0 = some (.int (lv_T_count N L n r x a b)) → S0 = (jn c r) → sx B X (0, 0) 4 [(0, .ref (B.2.1 20 0)), (1, .int x), (2, .int a), (3, .int b)] [] (jn c r) := by
  have hB := hb.1
  intro n
  induction n with
  | zero =>
    intro r a b hh _ _
    obtain ⟨k, h1, h2, h3⟩ := hh
    omega
  | succ n ih =>
    intro r a b hh hV hS
    obtain ⟨k, h1, h2, h3⟩ := hh
    refine mr_iload_n ok (i := 3) d_T_count_4 rfl rfl ?_
    refine mr_aload_n ok (i := 0) d_T_count_5 rfl rfl ?_
    refine sx_getr ok hB fl_T_65 (tm_20 hb) rfl d_T_count_6 ?_
    refine mr_icmp_ge ok 26 d_T_count_9 (by decide) (fun h9_0 => ?_) (fun h9_0 => ?_)
    · refine mr_iload_n ok (i := 2) d_T_count_26 rfl rfl ?_
      refine sx_iret ok en (Nat.le_refl _) (Nat.le_refl _) d_T_count_27 ?_
      exact ⟨(by rw [hV]; simp only [lv_T_count, if_pos h9_0]), (by rw [hS])⟩
    · refine mr_iload_n ok (i := 2) d_T_count_12 rfl rfl ?_
      refine mr_iload_n ok (i := 1) d_T_count_13 rfl rfl ?_
      refine mr_iload_n ok (i := 3) d_T_count_14 rfl rfl ?_
      refine mr_ishr ok d_T_count_15 ?_
      refine mr_iconst ok 1 d_T_count_16 (by decide) ?_
      refine mr_iand ok d_T_count_17 ?_
      refine mr_iadd ok d_T_count_18 ?_
      refine mr_istore_n ok (i := 2) d_T_count_19 rfl (by decide) ?_
      refine mr_iinc ok _ d_T_count_20 rfl rfl (by decide) ?_
      refine mr_goto ok 4 d_T_count_23 (by decide) ?_
      refine mr_lv [(0, .ref (B.2.1 20 0)), (1, .int x), (2, .int (a + ((x >>> (b &&& 31)) &&& 1))), (3, .int (b + 1))] ⟨rfl, rfl, rfl, rfl, trivial⟩ ?_
      exact ih _ _ _ (ks_rec h1 h2 h3 ‹_› (by have := hb.2.2.2.1.2; omega)) (hV.trans (by simp only [lv_T_count, if_neg h9_0])) hS
def v_T_count (N L : Nat) (r : sh_S) (x : Int32) : Int32 := (lv_T_count N L 6 r x 0 0)
set_option maxHeartbeats 4000000 in
set_option maxRecDepth 100000 in
theorem c_T_count {B : sh_B} {Z : mx_Z} {N L : Nat} {cI cR cZ : ClassId} (hb : wB B Z N L cI cR cZ) {c r : sh_S} {x : Int32} : sc B Z y_T_count b_T_count 4 (some (.int)) (rmm 0 0) [.ref (B.2.1 20 0), .int x] (jn c r) (qe (some (.int (v_T_count N L r x))) (jn c r)) := by
  refine ct_of (by decide) (Nat.le_of_ble_eq_true rfl) (cat_of rfl) ?_
  intro X ok en _
  have hB := hb.1
  refine mr_lv [(0, .ref (B.2.1 20 0)), (1, .int x)] ⟨rfl, rfl, trivial⟩ ?_
  refine mr_iconst ok 0 d_T_count_0 (by decide) ?_
  refine mr_istore_n ok (i := 2) d_T_count_1 rfl (by decide) ?_
  refine mr_iconst ok 0 d_T_count_2 (by decide) ?_
  refine mr_istore_n ok (i := 3) d_T_count_3 rfl (by decide) ?_
  refine mr_lv [(0, .ref (B.2.1 20 0)), (1, .int x), (2, .int 0), (3, .int 0)] ⟨rfl, rfl, rfl, rfl, trivial⟩ ?_
  exact l_T_count hb ok en 6 _ _ _ ⟨0, rfl, Nat.zero_le _, by have := hb.2.2.2.1.2; omega⟩ rfl rfl
def s_T_proposeIt (N L : Nat) (r : sh_S) (i : Nat) (x : Int32) : sh_S := (let r1 := sU r 34 0 i x; (let r2 := sU r1 29 0 i x; (let r3 := sU r2 28 0 i (r2 32 0 i); (let r4 := sU r3 33 0 i (1 <<< ((nI i) &&& 31)); (let r5 := s_T_sendAll N L r4 3 (nI i) (r4 32 0 i) ((r4 24 0 i) + 1) x; r5)))))
set_option maxHeartbeats 4000000 in
set_option maxRecDepth 100000 in
theorem c_T_proposeIt {B : sh_B} {Z : mx_Z} {N L : Nat} {cI cR cZ : ClassId} (hb : wB B Z N L cI cR cZ) {c r : sh_S} {i : Nat} (hi : i < N) {x : Int32} (hc : rK N r) : sc B Z y_T_proposeIt b_T_proposeIt 3 none (rmm 2 54) [.ref (B.2.1 20 0), .int (nI i), .int x] (jn c r) (qe none (jn c (s_T_proposeIt N L r i x))) := by
  refine ct_of (by decide) (Nat.le_of_ble_eq_true rfl) (cat_of rfl) ?_
  intro X ok en _
  have hB := hb.1
  refine mr_lv [(0, .ref (B.2.1 20 0)), (1, .int (nI i)), (2, .int x)] ⟨rfl, rfl, rfl, trivial⟩ ?_
  refine mr_aload_n ok (i := 0) d_T_proposeIt_0 rfl rfl ?_
  refine sx_getr ok hB fl_T_44 (tm_20 hb) rfl d_T_proposeIt_1 ?_
  refine mr_iload_n ok (i := 1) d_T_proposeIt_4 rfl rfl ?_
  refine mr_iload_n ok (i := 2) d_T_proposeIt_5 rfl rfl ?_
  refine rx_iast ok hB rfl (tm_34 hb) (ty_0 hb) rfl (lt5 hb hi) (by decide) d_T_proposeIt_6 ?_
  refine mr_aload_n ok (i := 0) d_T_proposeIt_7 rfl rfl ?_
  refine sx_getr ok hB fl_T_29 (tm_20 hb) rfl d_T_proposeIt_8 ?_
  refine mr_iload_n ok (i := 1) d_T_proposeIt_11 rfl rfl ?_
  refine mr_iload_n ok (i := 2) d_T_proposeIt_12 rfl rfl ?_
  refine rx_iast ok hB rfl (tm_29 hb) (ty_0 hb) rfl (lt5 hb hi) (by decide) d_T_proposeIt_13 ?_
  refine mr_aload_n ok (i := 0) d_T_proposeIt_14 rfl rfl ?_
  refine sx_getr ok hB fl_T_26 (tm_20 hb) rfl d_T_proposeIt_15 ?_
  refine mr_iload_n ok (i := 1) d_T_proposeIt_18 rfl rfl ?_
  refine mr_aload_n ok (i := 0) d_T_proposeIt_19 rfl rfl ?_
  refine sx_getr ok hB fl_T_38 (tm_20 hb) rfl d_T_proposeIt_20 ?_
  refine mr_iload_n ok (i := 1) d_T_proposeIt_23 rfl rfl ?_
  refine rx_iald ok hB rfl (tm_32 hb) (ty_0 hb) rfl (lt5 hb hi) (by decide) d_T_proposeIt_24 ?_
  refine rx_iast ok hB rfl (tm_28 hb) (ty_0 hb) rfl (lt5 hb hi) (by decide) d_T_proposeIt_25 ?_
  refine mr_aload_n ok (i := 0) d_T_proposeIt_26 rfl rfl ?_
  refine sx_getr ok hB fl_T_41 (tm_20 hb) rfl d_T_proposeIt_27 ?_
  refine mr_iload_n ok (i := 1) d_T_proposeIt_30 rfl rfl ?_
  refine mr_iconst ok 1 d_T_proposeIt_31 (by decide) ?_
  refine mr_iload_n ok (i := 1) d_T_proposeIt_32 rfl rfl ?_
  refine mr_ishl ok d_T_proposeIt_33 ?_
  refine rx_iast ok hB rfl (tm_33 hb) (ty_0 hb) rfl (lt5 hb hi) (by decide) d_T_proposeIt_34 ?_
  refine mr_aload_n ok (i := 0) d_T_proposeIt_35 rfl rfl ?_
  refine mr_iconst ok 3 d_T_proposeIt_36 (by decide) ?_
  refine mr_iload_n ok (i := 1) d_T_proposeIt_37 rfl rfl ?_
  refine mr_aload_n ok (i := 0) d_T_proposeIt_38 rfl rfl ?_
  refine sx_getr ok hB fl_T_38 (tm_20 hb) rfl d_T_proposeIt_39 ?_
  refine mr_iload_n ok (i := 1) d_T_proposeIt_42 rfl rfl ?_
  refine rx_iald ok hB rfl (tm_32 hb) (ty_0 hb) rfl (lt5 hb hi) (by decide) d_T_proposeIt_43 ?_
  refine mr_aload_n ok (i := 0) d_T_proposeIt_44 rfl rfl ?_
  refine sx_getr ok hB fl_T_13 (tm_20 hb) rfl d_T_proposeIt_45 ?_
  refine mr_iload_n ok (i := 1) d_T_proposeIt_48 rfl rfl ?_
  refine rx_iald ok hB rfl (tm_24 hb) (ty_0 hb) rfl (lt5 hb hi) (by decide) d_T_proposeIt_49 ?_
  refine mr_iconst ok 1 d_T_proposeIt_50 (by decide) ?_
  refine mr_iadd ok d_T_proposeIt_51 ?_
  refine mr_iload_n ok (i := 2) d_T_proposeIt_52 rfl rfl ?_
  refine sx_cVv ok hB [_, _, _, _, _] rfl cb_T_96 cv_T_sendAll (tm_20 hb) rfl rfl (c_T_sendAll hb (by exact hc)) rfl (Nat.le_of_ble_eq_true rfl) (by decide) ⟨Nat.le_refl _, Nat.le_refl _⟩ d_T_proposeIt_53 ?_
  have hc : rK N (s_T_sendAll N L (sU (sU (sU (sU r 34 0 i x) 29 0 i x) 28 0 i ((sU (sU r 34 0 i x) 29 0 i x) 32 0 i)) 33 0 i (1 <<< ((nI i) &&& 31))) 3 (nI i) ((sU (sU (sU (sU r 34 0 i x) 29 0 i x) 28 0 i ((sU (sU r 34 0 i x) 29 0 i x) 32 0 i)) 33 0 i (1 <<< ((nI i) &&& 31))) 32 0 i) (((sU (sU (sU (sU r 34 0 i x) 29 0 i x) 28 0 i ((sU (sU r 34 0 i x) 29 0 i x) 32 0 i)) 33 0 i (1 <<< ((nI i) &&& 31))) 24 0 i) + 1) x) := rK_T_sendAll (L := L) hc
  refine sx_vret ok en (Nat.le_refl _) (Nat.le_refl _) d_T_proposeIt_56 ?_
  exact ⟨rfl, (by first | rfl | simp only [s_T_proposeIt])⟩
def s_T_propose (N L : Nat) (r : sh_S) (i : Nat) : sh_S := (if (r 39 0 i) ≤ 0 then r else (let r1 := s_T_proposeIt N L r i (r 38 0 (((8 * (nI i)) : Int32).toNatClampNeg)); r1))
set_option maxHeartbeats 4000000 in
set_option maxRecDepth 100000 in
theorem c_T_propose {B : sh_B} {Z : mx_Z} {N L : Nat} {cI cR cZ : ClassId} (hb : wB B Z N L cI cR cZ) {c r : sh_S} {i : Nat} (hi : i < N) (hc : rK N r) : sc B Z y_T_propose b_T_propose 2 none (rmm 3 76) [.ref (B.2.1 20 0), .int (nI i)] (jn c r) (qe none (jn c (s_T_propose N L r i))) := by
  refine ct_of (by decide) (Nat.le_of_ble_eq_true rfl) (cat_of rfl) ?_
  intro X ok en _
  have hB := hb.1
  refine mr_lv [(0, .ref (B.2.1 20 0)), (1, .int (nI i))] ⟨rfl, rfl, trivial⟩ ?_
  refine mr_aload_n ok (i := 0) d_T_propose_0 rfl rfl ?_
  refine sx_getr ok hB fl_T_59 (tm_20 hb) rfl d_T_propose_1 ?_
  refine mr_iload_n ok (i := 1) d_T_propose_4 rfl rfl ?_
  refine rx_iald ok hB rfl (tm_39 hb) (ty_0 hb) rfl (lt5 hb hi) (by decide) d_T_propose_5 ?_
  refine mr_if_le ok 23 d_T_propose_6 (by decide) (fun h6_0 => ?_) (fun h6_0 => ?_)
  · refine sx_vret ok en (Nat.le_refl _) (Nat.le_refl _) d_T_propose_23 ?_
    exact ⟨rfl, (by first | rfl | simp only [s_T_propose, if_pos h6_0])⟩
  · refine mr_aload_n ok (i := 0) d_T_propose_9 rfl rfl ?_
    refine mr_iload_n ok (i := 1) d_T_propose_10 rfl rfl ?_
    refine mr_aload_n ok (i := 0) d_T_propose_11 rfl rfl ?_
    refine sx_getr ok hB fl_T_56 (tm_20 hb) rfl d_T_propose_12 ?_
    refine mr_bipush ok 8 d_T_propose_15 (by decide) ?_
    refine mr_iload_n ok (i := 1) d_T_propose_17 rfl rfl ?_
    refine mr_imul ok d_T_propose_18 ?_
    refine rx_ialdC ok hB rfl (tm_38 hb) (ty_0 hb) (kt_80 (lt5 hb hi)) d_T_propose_19 ?_
    refine sx_cVv ok hB [_, _] rfl cb_T_100 cv_T_proposeIt (tm_20 hb) rfl rfl (c_T_proposeIt hb hi (by exact hc)) rfl (Nat.le_of_ble_eq_true rfl) (by decide) ⟨Nat.le_refl _, Nat.le_refl _⟩ d_T_propose_20 ?_
    refine sx_vret ok en (Nat.le_refl _) (Nat.le_refl _) d_T_propose_23 ?_
    exact ⟨rfl, (by first | rfl | simp only [s_T_propose, if_neg h6_0])⟩
def ls_T_campaign (N L : Nat) : Nat → sh_S → Nat → Int32 → Int32 → sh_S
  | 0, r, _, _, _ => r
  | n + 1, r, i, m, b => (if m < b then (let r1 := s_T_follow N L r i; (let r2 := sU r1 27 0 i b; (let r3 := sU r2 31 0 i 1; (let r4 := sU r3 32 0 i b; (let r5 := sU r4 33 0 i (1 <<< ((nI i) &&& 31)); (let r6 := sU r5 35 0 i (r5 29 0 i); (let r7 := sU r6 36 0 i (r6 28 0 i); (let r8 := s_T_sendAll N L r7 1 (nI i) b ((r7 24 0 i) + 1) 0; r8)))))))) else (ls_T_campaign N L n r i m (b + (nI N))))
set_option maxHeartbeats 4000000 in
set_option maxRecDepth 100000 in
theorem l_T_campaign {B : sh_B} {Z : mx_Z} {N L : Nat} {cI cR cZ : ClassId} (hb : wB B Z N L cI cR cZ) {c : sh_S} {i : Nat} (hi : i < N) {X : mx_C} {V0 : Option Value} {S0 : sh_S} (ok : mx_ok X Z R_T b_T_campaign 4 (rmm 2 54)) (en : sx_end B X none (rmm 2 54) (qe V0 S0)) (hV : V0 = none) : ∀ (n : Nat) (r : sh_S) (m : Int32) (b : Int32), (rK N r ∧ ∃ M k : Nat, M ≤ 10000 ∧ m = nI M ∧ b = nI k ∧ k ≤ M + 5 ∧ M + 7 ≤ k + n) → S0 = (jn c (ls_T_campaign N L n r i m b)) → sx B X (0, 0) 44 [(0, .ref (B.2.1 20 0)), (1, .int (nI i)), (2, .int m), (3, .int b)] [] (jn c r) := by
  have hB := hb.1
  intro n
  induction n with
  | zero =>
    intro r m b hh _
    obtain ⟨-, M, k, h0, h1, h2, h3, h4⟩ := hh
    omega
  | succ n ih =>
    intro r m b hh hS
    obtain ⟨hc, M, k, h0, h1, h2, h3, h4⟩ := hh
    refine mr_iload_n ok (i := 3) d_T_campaign_44 rfl rfl ?_
    refine mr_iload_n ok (i := 2) d_T_campaign_45 rfl rfl ?_
    refine mr_icmp_gt ok 59 d_T_campaign_46 (by decide) (fun h46_0 => ?_) (fun h46_0 => ?_)
    · refine mr_aload_n ok (i := 0) d_T_campaign_59 rfl rfl ?_
      refine mr_iload_n ok (i := 1) d_T_campaign_60 rfl rfl ?_
      refine sx_cVv ok hB [_] rfl cb_T_92 cv_T_follow (tm_20 hb) rfl rfl (c_T_follow hb hi) rfl (Nat.le_of_ble_eq_true rfl) (by decide) ⟨Nat.le_refl _, Nat.le_refl _⟩ d_T_campaign_61 ?_
      refine mr_aload_n ok (i := 0) d_T_campaign_64 rfl rfl ?_
      refine sx_getr ok hB fl_T_23 (tm_20 hb) rfl d_T_campaign_65 ?_
      refine mr_iload_n ok (i := 1) d_T_campaign_68 rfl rfl ?_
      refine mr_iload_n ok (i := 3) d_T_campaign_69 rfl rfl ?_
      refine rx_iast ok hB rfl (tm_27 hb) (ty_0 hb) rfl (lt5 hb hi) (by decide) d_T_campaign_70 ?_
      refine mr_aload_n ok (i := 0) d_T_campaign_71 rfl rfl ?_
      refine sx_getr ok hB fl_T_35 (tm_20 hb) rfl d_T_campaign_72 ?_
      refine mr_iload_n ok (i := 1) d_T_campaign_75 rfl rfl ?_
      refine mr_iconst ok 1 d_T_campaign_76 (by decide) ?_
      refine rx_iast ok hB rfl (tm_31 hb) (ty_0 hb) rfl (lt5 hb hi) (by decide) d_T_campaign_77 ?_
      refine mr_aload_n ok (i := 0) d_T_campaign_78 rfl rfl ?_
      refine sx_getr ok hB fl_T_38 (tm_20 hb) rfl d_T_campaign_79 ?_
      refine mr_iload_n ok (i := 1) d_T_campaign_82 rfl rfl ?_
      refine mr_iload_n ok (i := 3) d_T_campaign_83 rfl rfl ?_
      refine rx_iast ok hB rfl (tm_32 hb) (ty_0 hb) rfl (lt5 hb hi) (by decide) d_T_campaign_84 ?_
      refine mr_aload_n ok (i := 0) d_T_campaign_85 rfl rfl ?_
      refine sx_getr ok hB fl_T_41 (tm_20 hb) rfl d_T_campaign_86 ?_
      refine mr_iload_n ok (i := 1) d_T_campaign_89 rfl rfl ?_
      refine mr_iconst ok 1 d_T_campaign_90 (by decide) ?_
      refine mr_iload_n ok (i := 1) d_T_campaign_91 rfl rfl ?_
      refine mr_ishl ok d_T_campaign_92 ?_
      refine rx_iast ok hB rfl (tm_33 hb) (ty_0 hb) rfl (lt5 hb hi) (by decide) d_T_campaign_93 ?_
      refine mr_aload_n ok (i := 0) d_T_campaign_94 rfl rfl ?_
      refine sx_getr ok hB fl_T_47 (tm_20 hb) rfl d_T_campaign_95 ?_
      refine mr_iload_n ok (i := 1) d_T_campaign_98 rfl rfl ?_
      refine mr_aload_n ok (i := 0) d_T_campaign_99 rfl rfl ?_
      refine sx_getr ok hB fl_T_29 (tm_20 hb) rfl d_T_campaign_100 ?_
      refine mr_iload_n ok (i := 1) d_T_campaign_103 rfl rfl ?_
      refine rx_iald ok hB rfl (tm_29 hb) (ty_0 hb) rfl (lt5 hb hi) (by decide) d_T_campaign_104 ?_
      refine rx_iast ok hB rfl (tm_35 hb) (ty_0 hb) rfl (lt5 hb hi) (by decide) d_T_campaign_105 ?_
      refine mr_aload_n ok (i := 0) d_T_campaign_106 rfl rfl ?_
      refine sx_getr ok hB fl_T_50 (tm_20 hb) rfl d_T_campaign_107 ?_
      refine mr_iload_n ok (i := 1) d_T_campaign_110 rfl rfl ?_
      refine mr_aload_n ok (i := 0) d_T_campaign_111 rfl rfl ?_
      refine sx_getr ok hB fl_T_26 (tm_20 hb) rfl d_T_campaign_112 ?_
      refine mr_iload_n ok (i := 1) d_T_campaign_115 rfl rfl ?_
      refine rx_iald ok hB rfl (tm_28 hb) (ty_0 hb) rfl (lt5 hb hi) (by decide) d_T_campaign_116 ?_
      refine rx_iast ok hB rfl (tm_36 hb) (ty_0 hb) rfl (lt5 hb hi) (by decide) d_T_campaign_117 ?_
      refine mr_aload_n ok (i := 0) d_T_campaign_118 rfl rfl ?_
      refine mr_iconst ok 1 d_T_campaign_119 (by decide) ?_
      refine mr_iload_n ok (i := 1) d_T_campaign_120 rfl rfl ?_
      refine mr_iload_n ok (i := 3) d_T_campaign_121 rfl rfl ?_
      refine mr_aload_n ok (i := 0) d_T_campaign_122 rfl rfl ?_
      refine sx_getr ok hB fl_T_13 (tm_20 hb) rfl d_T_campaign_123 ?_
      refine mr_iload_n ok (i := 1) d_T_campaign_126 rfl rfl ?_
      refine rx_iald ok hB rfl (tm_24 hb) (ty_0 hb) rfl (lt5 hb hi) (by decide) d_T_campaign_127 ?_
      refine mr_iconst ok 1 d_T_campaign_128 (by decide) ?_
      refine mr_iadd ok d_T_campaign_129 ?_
      refine mr_iconst ok 0 d_T_campaign_130 (by decide) ?_
      refine sx_cVv ok hB [_, _, _, _, _] rfl cb_T_96 cv_T_sendAll (tm_20 hb) rfl rfl (c_T_sendAll hb (by exact hc)) rfl (Nat.le_of_ble_eq_true rfl) (by decide) ⟨Nat.le_refl _, Nat.le_refl _⟩ d_T_campaign_131 ?_
      have hc : rK N (s_T_sendAll N L (sU (sU (sU (sU (sU (sU (s_T_follow N L r i) 27 0 i b) 31 0 i 1) 32 0 i b) 33 0 i (1 <<< ((nI i) &&& 31))) 35 0 i ((sU (sU (sU (sU (s_T_follow N L r i) 27 0 i b) 31 0 i 1) 32 0 i b) 33 0 i (1 <<< ((nI i) &&& 31))) 29 0 i)) 36 0 i ((sU (sU (sU (sU (sU (s_T_follow N L r i) 27 0 i b) 31 0 i 1) 32 0 i b) 33 0 i (1 <<< ((nI i) &&& 31))) 35 0 i ((sU (sU (sU (sU (s_T_follow N L r i) 27 0 i b) 31 0 i 1) 32 0 i b) 33 0 i (1 <<< ((nI i) &&& 31))) 29 0 i)) 28 0 i)) 1 (nI i) b (((sU (sU (sU (sU (sU (sU (s_T_follow N L r i) 27 0 i b) 31 0 i 1) 32 0 i b) 33 0 i (1 <<< ((nI i) &&& 31))) 35 0 i ((sU (sU (sU (sU (s_T_follow N L r i) 27 0 i b) 31 0 i 1) 32 0 i b) 33 0 i (1 <<< ((nI i) &&& 31))) 29 0 i)) 36 0 i ((sU (sU (sU (sU (sU (s_T_follow N L r i) 27 0 i b) 31 0 i 1) 32 0 i b) 33 0 i (1 <<< ((nI i) &&& 31))) 35 0 i ((sU (sU (sU (sU (s_T_follow N L r i) 27 0 i b) 31 0 i 1) 32 0 i b) 33 0 i (1 <<< ((nI i) &&& 31))) 29 0 i)) 28 0 i)) 24 0 i) + 1) 0) := rK_T_sendAll (L := L) hc
      refine sx_vret ok en (Nat.le_refl _) (Nat.le_refl _) d_T_campaign_134 ?_
      exact ⟨(by rw [hV]), (by rw [hS]; simp only [ls_T_campaign, if_pos h46_0])⟩
    · refine mr_iload_n ok (i := 3) d_T_campaign_49 rfl rfl ?_
      refine mr_aload_n ok (i := 0) d_T_campaign_50 rfl rfl ?_
      refine sx_getr ok hB fl_T_65 (tm_20 hb) rfl d_T_campaign_51 ?_
      refine mr_iadd ok d_T_campaign_54 ?_
      refine mr_istore_n ok (i := 3) d_T_campaign_55 rfl (by decide) ?_
      refine mr_goto ok 44 d_T_campaign_56 (by decide) ?_
      refine mr_lv [(0, .ref (B.2.1 20 0)), (1, .int (nI i)), (2, .int m), (3, .int (b + (nI N)))] ⟨rfl, rfl, rfl, rfl, trivial⟩ ?_
      exact ih _ _ _ ⟨hc, kc_rec h0 h1 h2 h3 h4 ‹_› hb.2.2.2.1⟩ (hS.trans (by simp only [ls_T_campaign, if_neg h46_0]))
def s_T_campaign (N L : Nat) (r : sh_S) (i : Nat) : sh_S := (if (r 27 0 i) ≤ (r 37 0 i) then (if (nI i) = 0 then (ls_T_campaign N L 10007 r i (r 37 0 i) (nI N)) else (ls_T_campaign N L 10007 r i (r 37 0 i) (nI i))) else (if (nI i) = 0 then (ls_T_campaign N L 10007 r i (r 27 0 i) (nI N)) else (ls_T_campaign N L 10007 r i (r 27 0 i) (nI i))))
set_option maxHeartbeats 4000000 in
set_option maxRecDepth 100000 in
theorem c_T_campaign {B : sh_B} {Z : mx_Z} {N L : Nat} {cI cR cZ : ClassId} (hb : wB B Z N L cI cR cZ) {c r : sh_S} {i : Nat} (hi : i < N) (hc : rK N r) (hx : ∃ a b : Nat, a ≤ 10000 ∧ b ≤ 10000 ∧ r 27 0 i = nI a ∧ r 37 0 i = nI b) : sc B Z y_T_campaign b_T_campaign 4 none (rmm 2 54) [.ref (B.2.1 20 0), .int (nI i)] (jn c r) (qe none (jn c (s_T_campaign N L r i))) := by
  refine ct_of (by decide) (Nat.le_of_ble_eq_true rfl) (cat_of rfl) ?_
  intro X ok en _
  have hB := hb.1
  refine mr_lv [(0, .ref (B.2.1 20 0)), (1, .int (nI i))] ⟨rfl, rfl, trivial⟩ ?_
  refine mr_aload_n ok (i := 0) d_T_campaign_0 rfl rfl ?_
  refine sx_getr ok hB fl_T_23 (tm_20 hb) rfl d_T_campaign_1 ?_
  refine mr_iload_n ok (i := 1) d_T_campaign_4 rfl rfl ?_
  refine rx_iald ok hB rfl (tm_27 hb) (ty_0 hb) rfl (lt5 hb hi) (by decide) d_T_campaign_5 ?_
  refine mr_aload_n ok (i := 0) d_T_campaign_6 rfl rfl ?_
  refine sx_getr ok hB fl_T_53 (tm_20 hb) rfl d_T_campaign_7 ?_
  refine mr_iload_n ok (i := 1) d_T_campaign_10 rfl rfl ?_
  refine rx_iald ok hB rfl (tm_37 hb) (ty_0 hb) rfl (lt5 hb hi) (by decide) d_T_campaign_11 ?_
  refine mr_icmp_le ok 24 d_T_campaign_12 (by decide) (fun h12_0 => ?_) (fun h12_0 => ?_)
  · refine mr_aload_n ok (i := 0) d_T_campaign_24 rfl rfl ?_
    refine sx_getr ok hB fl_T_53 (tm_20 hb) rfl d_T_campaign_25 ?_
    refine mr_iload_n ok (i := 1) d_T_campaign_28 rfl rfl ?_
    refine rx_iald ok hB rfl (tm_37 hb) (ty_0 hb) rfl (lt5 hb hi) (by decide) d_T_campaign_29 ?_
    refine mr_istore_n ok (i := 2) d_T_campaign_30 rfl (by decide) ?_
    refine mr_iload_n ok (i := 1) d_T_campaign_31 rfl rfl ?_
    refine mr_if_ne ok 42 d_T_campaign_32 (by decide) (fun h32_1 => ?_) (fun h32_1 => ?_)
    · refine mr_iload_n ok (i := 1) d_T_campaign_42 rfl rfl ?_
      refine mr_istore_n ok (i := 3) d_T_campaign_43 rfl (by decide) ?_
      refine mr_lv [(0, .ref (B.2.1 20 0)), (1, .int (nI i)), (2, .int (r 37 0 i)), (3, .int (nI i))] ⟨rfl, rfl, rfl, rfl, trivial⟩ ?_
      exact l_T_campaign hb hi ok en rfl 10007 _ _ _ ⟨hc, by obtain ⟨a, b, ha, hb2, e1, e2⟩ := hx; have h5 := hb.2.2.2.1; first | exact ⟨a, N, ha, e1, rfl, by omega, by omega⟩ | exact ⟨b, N, hb2, e2, rfl, by omega, by omega⟩ | exact ⟨a, i, ha, e1, rfl, by omega, by omega⟩ | exact ⟨b, i, hb2, e2, rfl, by omega, by omega⟩⟩ (by simp only [s_T_campaign, if_pos h12_0, if_neg h32_1])
    · refine mr_aload_n ok (i := 0) d_T_campaign_35 rfl rfl ?_
      refine sx_getr ok hB fl_T_65 (tm_20 hb) rfl d_T_campaign_36 ?_
      refine mr_goto ok 43 d_T_campaign_39 (by decide) ?_
      refine mr_istore_n ok (i := 3) d_T_campaign_43 rfl (by decide) ?_
      refine mr_lv [(0, .ref (B.2.1 20 0)), (1, .int (nI i)), (2, .int (r 37 0 i)), (3, .int (nI N))] ⟨rfl, rfl, rfl, rfl, trivial⟩ ?_
      exact l_T_campaign hb hi ok en rfl 10007 _ _ _ ⟨hc, by obtain ⟨a, b, ha, hb2, e1, e2⟩ := hx; have h5 := hb.2.2.2.1; first | exact ⟨a, N, ha, e1, rfl, by omega, by omega⟩ | exact ⟨b, N, hb2, e2, rfl, by omega, by omega⟩ | exact ⟨a, i, ha, e1, rfl, by omega, by omega⟩ | exact ⟨b, i, hb2, e2, rfl, by omega, by omega⟩⟩ (by simp only [s_T_campaign, if_pos h12_0, if_pos h32_1])
  · refine mr_aload_n ok (i := 0) d_T_campaign_15 rfl rfl ?_
    refine sx_getr ok hB fl_T_23 (tm_20 hb) rfl d_T_campaign_16 ?_
    refine mr_iload_n ok (i := 1) d_T_campaign_19 rfl rfl ?_
    refine rx_iald ok hB rfl (tm_27 hb) (ty_0 hb) rfl (lt5 hb hi) (by decide) d_T_campaign_20 ?_
    refine mr_goto ok 30 d_T_campaign_21 (by decide) ?_
    refine mr_istore_n ok (i := 2) d_T_campaign_30 rfl (by decide) ?_
    refine mr_iload_n ok (i := 1) d_T_campaign_31 rfl rfl ?_
    refine mr_if_ne ok 42 d_T_campaign_32 (by decide) (fun h32_1 => ?_) (fun h32_1 => ?_)
    · refine mr_iload_n ok (i := 1) d_T_campaign_42 rfl rfl ?_
      refine mr_istore_n ok (i := 3) d_T_campaign_43 rfl (by decide) ?_
      refine mr_lv [(0, .ref (B.2.1 20 0)), (1, .int (nI i)), (2, .int (r 27 0 i)), (3, .int (nI i))] ⟨rfl, rfl, rfl, rfl, trivial⟩ ?_
      exact l_T_campaign hb hi ok en rfl 10007 _ _ _ ⟨hc, by obtain ⟨a, b, ha, hb2, e1, e2⟩ := hx; have h5 := hb.2.2.2.1; first | exact ⟨a, N, ha, e1, rfl, by omega, by omega⟩ | exact ⟨b, N, hb2, e2, rfl, by omega, by omega⟩ | exact ⟨a, i, ha, e1, rfl, by omega, by omega⟩ | exact ⟨b, i, hb2, e2, rfl, by omega, by omega⟩⟩ (by simp only [s_T_campaign, if_neg h12_0, if_neg h32_1])
    · refine mr_aload_n ok (i := 0) d_T_campaign_35 rfl rfl ?_
      refine sx_getr ok hB fl_T_65 (tm_20 hb) rfl d_T_campaign_36 ?_
      refine mr_goto ok 43 d_T_campaign_39 (by decide) ?_
      refine mr_istore_n ok (i := 3) d_T_campaign_43 rfl (by decide) ?_
      refine mr_lv [(0, .ref (B.2.1 20 0)), (1, .int (nI i)), (2, .int (r 27 0 i)), (3, .int (nI N))] ⟨rfl, rfl, rfl, rfl, trivial⟩ ?_
      exact l_T_campaign hb hi ok en rfl 10007 _ _ _ ⟨hc, by obtain ⟨a, b, ha, hb2, e1, e2⟩ := hx; have h5 := hb.2.2.2.1; first | exact ⟨a, N, ha, e1, rfl, by omega, by omega⟩ | exact ⟨b, N, hb2, e2, rfl, by omega, by omega⟩ | exact ⟨a, i, ha, e1, rfl, by omega, by omega⟩ | exact ⟨b, i, hb2, e2, rfl, by omega, by omega⟩⟩ (by simp only [s_T_campaign, if_neg h12_0, if_pos h32_1])
end
section
theorem x24_lsendAll {N L : Nat} {x1 x2 x3 x4 x5 : Int32} : ∀ (n : Nat) (r : sh_S) (a : Int32) (j : Nat), (ls_T_sendAll N L n r x1 x2 x3 x4 x5 a) 24 0 j = r 24 0 j := by
  intro n
  induction n with
  | zero =>
    intro r a j
    rfl
  | succ n ih =>
    intro r a j
    unfold ls_T_sendAll
    split
    · rfl
    · split
      · exact ih _ _ _
      · refine (ih _ _ _).trans ?_
        unfold s_T_send
        dsimp only
        split <;> rfl
theorem x24_sendAll {N L : Nat} {r : sh_S} {x1 x2 x3 x4 x5 : Int32} {j : Nat} : (s_T_sendAll N L r x1 x2 x3 x4 x5) 24 0 j = r 24 0 j := x24_lsendAll 6 r 0 j
theorem rK_lsremove {N L : Nat} {x : Int32} : ∀ (n : Nat) (r : sh_S) (a : Int32), rK N r → rK N (ls_T_remove N L n r x a) := by
  intro n
  induction n with
  | zero =>
    intro r a hc
    exact hc
  | succ n ih =>
    intro r a hc
    unfold ls_T_remove
    split
    · exact hc
    · exact ih _ _ hc
theorem rK_T_remove {N L : Nat} {r : sh_S} {x : Int32} (hc : rK N r) (hx : ∃ q j : Nat, q ≤ 200 ∧ r 20 0 21 = nI q ∧ j < q ∧ x = nI j) : rK N (s_T_remove N L r x) := by
  refine rK_lsremove 1400 _ _ ⟨?_, hc.2⟩
  obtain ⟨q, j, h1, h2, h3, -⟩ := hx
  refine ⟨q - 1, by omega, ?_⟩
  show r 20 0 21 - 1 = nI (q - 1)
  rw [h2, show (1 : Int32) = nI 1 from rfl, pk_sub (by omega)]
theorem x24_lsremove {N L : Nat} {x : Int32} (k : Nat) (hk : Nat.beq k 40 = false) : ∀ (n : Nat) (r : sh_S) (a : Int32) (j : Nat), (ls_T_remove N L n r x a) k 0 j = r k 0 j := by
  intro n
  induction n with
  | zero =>
    intro r a j
    rfl
  | succ n ih =>
    intro r a j
    unfold ls_T_remove
    split
    · rfl
    · refine (ih _ _ _).trans ?_
      unfold sU
      rw [hk]
      rfl
theorem kl_rec {r r' : sh_S} {i q k p n : Nat} {a b a' : Int32} (h1 : q ≤ 8) (h2 : r 39 0 i = nI q) (h3 : b = nI k) (h4 : a = nI p) (h5 : p ≤ k) (h6 : k ≤ q) (h7 : q + 1 ≤ k + (n + 1)) (h : ¬ r 39 0 i ≤ b) (hc' : r' 39 0 i = r 39 0 i) (ha : a' = a ∨ a' = a + 1) : ∃ q k p : Nat, q ≤ 8 ∧ r' 39 0 i = nI q ∧ b + 1 = nI k ∧ a' = nI p ∧ p ≤ k ∧ k ≤ q ∧ q + 1 ≤ k + n := by
  have hl : k < q := by
    rw [h2, h3] at h
    exact Nat.lt_of_not_le fun z => h (nI_le z (by omega))
  rcases ha with ha | ha
  · exact ⟨q, k + 1, p, h1, hc'.trans h2, by rw [h3, nI_1], by rw [ha, h4], by omega, by omega, by omega⟩
  · exact ⟨q, k + 1, p + 1, h1, hc'.trans h2, by rw [h3, nI_1], by rw [ha, h4, nI_1], by omega, by omega, by omega⟩
theorem kl_lt {r : sh_S} {i q k : Nat} {b : Int32} (h1 : q ≤ 8) (h2 : r 39 0 i = nI q) (h3 : b = nI k) (h6 : k ≤ q) (h : ¬ r 39 0 i ≤ b) : k < q := by
  rw [h2, h3] at h
  exact Nat.lt_of_not_le fun z => h (nI_le z (by omega))
theorem kl_init {r : sh_S} {i : Nat} (hc : ∃ q : Nat, q ≤ 8 ∧ r 39 0 i = nI q) : ∃ q k p : Nat, q ≤ 8 ∧ r 39 0 i = nI q ∧ (0 : Int32) = nI k ∧ (0 : Int32) = nI p ∧ p ≤ k ∧ k ≤ q ∧ q + 1 ≤ k + 9 := by
  obtain ⟨q, h1, h2⟩ := hc
  exact ⟨q, 0, 0, h1, h2, rfl, rfl, Nat.le_refl _, Nat.zero_le _, by omega⟩

def ls_T_learn (N L : Nat) : Nat → sh_S → Nat → Int32 → Int32 → Int32 → sh_S
  | 0, r, _, _, _, _ => r
  | n + 1, r, i, x, a, b => (if (r 39 0 i) ≤ b then (let r1 := sU r 39 0 i a; r1) else (if (r 38 0 ((((8 * (nI i)) + b) : Int32).toNatClampNeg)) = x then (ls_T_learn N L n r i x a (b + 1)) else (let r2 := sU r 38 0 ((((8 * (nI i)) + a) : Int32).toNatClampNeg) (r 38 0 ((((8 * (nI i)) + b) : Int32).toNatClampNeg)); (ls_T_learn N L n r2 i x (a + 1) (b + 1)))))
set_option maxHeartbeats 4000000 in
set_option maxRecDepth 100000 in
theorem l_T_learn {B : sh_B} {Z : mx_Z} {N L : Nat} {cI cR cZ : ClassId} (hb : wB B Z N L cI cR cZ) {c : sh_S} {i : Nat} (hi : i < N) {x : Int32} {X : mx_C} {V0 : Option Value} {S0 : sh_S} (ok : mx_ok X Z R_T b_T_learn 5 (rmm 1 21)) (en : sx_end B X none (rmm 1 21) (qe V0 S0)) (hV : V0 = none) : ∀ (n : Nat) (r : sh_S) (a : Int32) (b : Int32), (∃ q k p : Nat, q ≤ 8 ∧ r 39 0 i = nI q ∧ b = nI k ∧ a = nI p ∧ p ≤ k ∧ k ≤ q ∧ q + 1 ≤ k + n) → S0 = (jn c (ls_T_learn N L n r i x a b)) → sx B X (0, 0) 132 [(0, .ref (B.2.1 20 0)), (1, .int (nI i)), (2, .int x), (3, .int a), (4, .int b)] [] (jn c r) := by
  have hB := hb.1
  intro n
  induction n with
  | zero =>
    intro r a b hh _
    obtain ⟨q, k, p, h1, h2, h3, h4, h5, h6, h7⟩ := hh
    omega
  | succ n ih =>
    intro r a b hh hS
    obtain ⟨q, k, p, h1, h2, h3, h4, h5, h6, h7⟩ := hh
    refine mr_iload ok d_T_learn_132 rfl ?_
    refine mr_aload_n ok (i := 0) d_T_learn_134 rfl rfl ?_
    refine sx_getr ok hB fl_T_59 (tm_20 hb) rfl d_T_learn_135 ?_
    refine mr_iload_n ok (i := 1) d_T_learn_138 rfl rfl ?_
    refine rx_iald ok hB rfl (tm_39 hb) (ty_0 hb) rfl (lt5 hb hi) (by decide) d_T_learn_139 ?_
    refine mr_icmp_ge ok 191 d_T_learn_140 (by decide) (fun h140_0 => ?_) (fun h140_0 => ?_)
    · refine mr_aload_n ok (i := 0) d_T_learn_191 rfl rfl ?_
      refine sx_getr ok hB fl_T_59 (tm_20 hb) rfl d_T_learn_192 ?_
      refine mr_iload_n ok (i := 1) d_T_learn_195 rfl rfl ?_
      refine mr_iload_n ok (i := 3) d_T_learn_196 rfl rfl ?_
      refine rx_iast ok hB rfl (tm_39 hb) (ty_0 hb) rfl (lt5 hb hi) (by decide) d_T_learn_197 ?_
      refine sx_vret ok en (Nat.le_refl _) (Nat.le_refl _) d_T_learn_198 ?_
      exact ⟨(by rw [hV]), (by rw [hS]; simp only [ls_T_learn, if_pos h140_0])⟩
    · refine mr_aload_n ok (i := 0) d_T_learn_143 rfl rfl ?_
      refine sx_getr ok hB fl_T_56 (tm_20 hb) rfl d_T_learn_144 ?_
      refine mr_bipush ok 8 d_T_learn_147 (by decide) ?_
      refine mr_iload_n ok (i := 1) d_T_learn_149 rfl rfl ?_
      refine mr_imul ok d_T_learn_150 ?_
      refine mr_iload ok d_T_learn_151 rfl ?_
      refine mr_iadd ok d_T_learn_153 ?_
      refine rx_ialdC ok hB rfl (tm_38 hb) (ty_0 hb) (by have := kl_lt h1 h2 h3 h6 ‹_›; exact kt_8 (lt5 hb hi) h3 (by omega)) d_T_learn_154 ?_
      refine mr_iload_n ok (i := 2) d_T_learn_155 rfl rfl ?_
      refine mr_icmp_eq ok 185 d_T_learn_156 (by decide) (fun h156_1 => ?_) (fun h156_1 => ?_)
      · refine mr_iinc ok _ d_T_learn_185 rfl rfl (by decide) ?_
        refine mr_goto ok 132 d_T_learn_188 (by decide) ?_
        refine mr_lv [(0, .ref (B.2.1 20 0)), (1, .int (nI i)), (2, .int x), (3, .int a), (4, .int (b + 1))] ⟨rfl, rfl, rfl, rfl, rfl, trivial⟩ ?_
        exact ih _ _ _ (kl_rec h1 h2 h3 h4 h5 h6 h7 ‹_› rfl (by first | exact Or.inl rfl | exact Or.inr rfl)) (hS.trans (by simp only [ls_T_learn, if_neg h140_0, if_pos h156_1]))
      · refine mr_aload_n ok (i := 0) d_T_learn_159 rfl rfl ?_
        refine sx_getr ok hB fl_T_56 (tm_20 hb) rfl d_T_learn_160 ?_
        refine mr_bipush ok 8 d_T_learn_163 (by decide) ?_
        refine mr_iload_n ok (i := 1) d_T_learn_165 rfl rfl ?_
        refine mr_imul ok d_T_learn_166 ?_
        refine mr_iload_n ok (i := 3) d_T_learn_167 rfl rfl ?_
        refine mr_iadd ok d_T_learn_168 ?_
        refine mr_aload_n ok (i := 0) d_T_learn_169 rfl rfl ?_
        refine sx_getr ok hB fl_T_56 (tm_20 hb) rfl d_T_learn_170 ?_
        refine mr_bipush ok 8 d_T_learn_173 (by decide) ?_
        refine mr_iload_n ok (i := 1) d_T_learn_175 rfl rfl ?_
        refine mr_imul ok d_T_learn_176 ?_
        refine mr_iload ok d_T_learn_177 rfl ?_
        refine mr_iadd ok d_T_learn_179 ?_
        refine rx_ialdC ok hB rfl (tm_38 hb) (ty_0 hb) (by have := kl_lt h1 h2 h3 h6 ‹_›; exact kt_8 (lt5 hb hi) h3 (by omega)) d_T_learn_180 ?_
        refine rx_iastC ok hB rfl (tm_38 hb) (ty_0 hb) (by have := kl_lt h1 h2 h3 h6 ‹_›; exact kt_8 (lt5 hb hi) h4 (by omega)) d_T_learn_181 ?_
        refine mr_iinc ok _ d_T_learn_182 rfl rfl (by decide) ?_
        refine mr_iinc ok _ d_T_learn_185 rfl rfl (by decide) ?_
        refine mr_goto ok 132 d_T_learn_188 (by decide) ?_
        refine mr_lv [(0, .ref (B.2.1 20 0)), (1, .int (nI i)), (2, .int x), (3, .int (a + 1)), (4, .int (b + 1))] ⟨rfl, rfl, rfl, rfl, rfl, trivial⟩ ?_
        exact ih _ _ _ (kl_rec h1 h2 h3 h4 h5 h6 h7 ‹_› rfl (by first | exact Or.inl rfl | exact Or.inr rfl)) (hS.trans (by simp only [ls_T_learn, if_neg h140_0, if_neg h156_1]))
def s_T_learn (N L : Nat) (r : sh_S) (i : Nat) (x : Int32) : sh_S := (let r1 := sU r 24 0 i ((r 24 0 i) + 1); (let r2 := sU r1 25 0 i ((31 * (r1 25 0 i)) + x); (let r3 := sU r2 30 0 ((((40 * (nI i)) + ((r2 24 0 i) - (r2 24 0 i) / 40 * 40)) : Int32).toNatClampNeg) x; (if ((r3 24 0 i) - (nI L)) ≤ (r3 26 0 i) then (let r4 := sU r3 29 0 i 0; (let r5 := sU r4 28 0 i 0; (if (r5 31 0 i) = 1 then (let r8 := s_T_follow N L r5 i; (let r9 := sU r8 34 0 i 0; (let r10 := sU r9 33 0 i 0; (ls_T_learn N L 9 r10 i x 0 0)))) else (let r6 := sU r5 34 0 i 0; (let r7 := sU r6 33 0 i 0; (ls_T_learn N L 9 r7 i x 0 0)))))) else (let r11 := sU r3 26 0 i ((r3 24 0 i) - (nI L)); (let r12 := sU r11 29 0 i 0; (let r13 := sU r12 28 0 i 0; (if (r13 31 0 i) = 1 then (let r16 := s_T_follow N L r13 i; (let r17 := sU r16 34 0 i 0; (let r18 := sU r17 33 0 i 0; (ls_T_learn N L 9 r18 i x 0 0)))) else (let r14 := sU r13 34 0 i 0; (let r15 := sU r14 33 0 i 0; (ls_T_learn N L 9 r15 i x 0 0)))))))))))
set_option maxHeartbeats 4000000 in
set_option maxRecDepth 100000 in
theorem c_T_learn {B : sh_B} {Z : mx_Z} {N L : Nat} {cI cR cZ : ClassId} (hb : wB B Z N L cI cR cZ) {c r : sh_S} {i : Nat} (hi : i < N) {x : Int32} (hc : rK N r) (hx : ¬ r 24 0 i + 1 < 0) : sc B Z y_T_learn b_T_learn 5 none (rmm 1 21) [.ref (B.2.1 20 0), .int (nI i), .int x] (jn c r) (qe none (jn c (s_T_learn N L r i x))) := by
  refine ct_of (by decide) (Nat.le_of_ble_eq_true rfl) (cat_of rfl) ?_
  intro X ok en _
  have hB := hb.1
  refine mr_lv [(0, .ref (B.2.1 20 0)), (1, .int (nI i)), (2, .int x)] ⟨rfl, rfl, rfl, trivial⟩ ?_
  refine mr_aload_n ok (i := 0) d_T_learn_0 rfl rfl ?_
  refine sx_getr ok hB fl_T_13 (tm_20 hb) rfl d_T_learn_1 ?_
  refine mr_iload_n ok (i := 1) d_T_learn_4 rfl rfl ?_
  refine mr_dup2 ok d_T_learn_5 rfl rfl ?_
  refine rx_iald ok hB rfl (tm_24 hb) (ty_0 hb) rfl (lt5 hb hi) (by decide) d_T_learn_6 ?_
  refine mr_iconst ok 1 d_T_learn_7 (by decide) ?_
  refine mr_iadd ok d_T_learn_8 ?_
  refine rx_iast ok hB rfl (tm_24 hb) (ty_0 hb) rfl (lt5 hb hi) (by decide) d_T_learn_9 ?_
  refine mr_aload_n ok (i := 0) d_T_learn_10 rfl rfl ?_
  refine sx_getr ok hB fl_T_17 (tm_20 hb) rfl d_T_learn_11 ?_
  refine mr_iload_n ok (i := 1) d_T_learn_14 rfl rfl ?_
  refine mr_bipush ok 31 d_T_learn_15 (by decide) ?_
  refine mr_aload_n ok (i := 0) d_T_learn_17 rfl rfl ?_
  refine sx_getr ok hB fl_T_17 (tm_20 hb) rfl d_T_learn_18 ?_
  refine mr_iload_n ok (i := 1) d_T_learn_21 rfl rfl ?_
  refine rx_iald ok hB rfl (tm_25 hb) (ty_0 hb) rfl (lt5 hb hi) (by decide) d_T_learn_22 ?_
  refine mr_imul ok d_T_learn_23 ?_
  refine mr_iload_n ok (i := 2) d_T_learn_24 rfl rfl ?_
  refine mr_iadd ok d_T_learn_25 ?_
  refine rx_iast ok hB rfl (tm_25 hb) (ty_0 hb) rfl (lt5 hb hi) (by decide) d_T_learn_26 ?_
  refine mr_aload_n ok (i := 0) d_T_learn_27 rfl rfl ?_
  refine sx_getr ok hB fl_T_32 (tm_20 hb) rfl d_T_learn_28 ?_
  refine mr_bipush ok 40 d_T_learn_31 (by decide) ?_
  refine mr_iload_n ok (i := 1) d_T_learn_33 rfl rfl ?_
  refine mr_imul ok d_T_learn_34 ?_
  refine mr_aload_n ok (i := 0) d_T_learn_35 rfl rfl ?_
  refine sx_getr ok hB fl_T_13 (tm_20 hb) rfl d_T_learn_36 ?_
  refine mr_iload_n ok (i := 1) d_T_learn_39 rfl rfl ?_
  refine rx_iald ok hB rfl (tm_24 hb) (ty_0 hb) rfl (lt5 hb hi) (by decide) d_T_learn_40 ?_
  refine mr_bipush ok 40 d_T_learn_41 (by decide) ?_
  refine mr_irem ok d_T_learn_43 (by decide) ?_
  refine mr_iadd ok d_T_learn_44 ?_
  refine mr_iload_n ok (i := 2) d_T_learn_45 rfl rfl ?_
  refine rx_iastC ok hB rfl (tm_30 hb) (ty_0 hb) (kt_40 (lt5 hb hi) (by show ¬ (sU r 24 0 i (r 24 0 i + 1)) 24 0 i < 0; rw [sU_self]; exact hx)) d_T_learn_46 ?_
  refine mr_aload_n ok (i := 0) d_T_learn_47 rfl rfl ?_
  refine sx_getr ok hB fl_T_20 (tm_20 hb) rfl d_T_learn_48 ?_
  refine mr_iload_n ok (i := 1) d_T_learn_51 rfl rfl ?_
  refine rx_iald ok hB rfl (tm_26 hb) (ty_0 hb) rfl (lt5 hb hi) (by decide) d_T_learn_52 ?_
  refine mr_aload_n ok (i := 0) d_T_learn_53 rfl rfl ?_
  refine sx_getr ok hB fl_T_13 (tm_20 hb) rfl d_T_learn_54 ?_
  refine mr_iload_n ok (i := 1) d_T_learn_57 rfl rfl ?_
  refine rx_iald ok hB rfl (tm_24 hb) (ty_0 hb) rfl (lt5 hb hi) (by decide) d_T_learn_58 ?_
  refine mr_aload_n ok (i := 0) d_T_learn_59 rfl rfl ?_
  refine sx_getr ok hB fl_T_69 (tm_20 hb) rfl d_T_learn_60 ?_
  refine mr_isub ok d_T_learn_63 ?_
  refine mr_icmp_ge ok 84 d_T_learn_64 (by decide) (fun h64_0 => ?_) (fun h64_0 => ?_)
  · refine mr_aload_n ok (i := 0) d_T_learn_84 rfl rfl ?_
    refine sx_getr ok hB fl_T_29 (tm_20 hb) rfl d_T_learn_85 ?_
    refine mr_iload_n ok (i := 1) d_T_learn_88 rfl rfl ?_
    refine mr_iconst ok 0 d_T_learn_89 (by decide) ?_
    refine rx_iast ok hB rfl (tm_29 hb) (ty_0 hb) rfl (lt5 hb hi) (by decide) d_T_learn_90 ?_
    refine mr_aload_n ok (i := 0) d_T_learn_91 rfl rfl ?_
    refine sx_getr ok hB fl_T_26 (tm_20 hb) rfl d_T_learn_92 ?_
    refine mr_iload_n ok (i := 1) d_T_learn_95 rfl rfl ?_
    refine mr_iconst ok 0 d_T_learn_96 (by decide) ?_
    refine rx_iast ok hB rfl (tm_28 hb) (ty_0 hb) rfl (lt5 hb hi) (by decide) d_T_learn_97 ?_
    refine mr_aload_n ok (i := 0) d_T_learn_98 rfl rfl ?_
    refine sx_getr ok hB fl_T_35 (tm_20 hb) rfl d_T_learn_99 ?_
    refine mr_iload_n ok (i := 1) d_T_learn_102 rfl rfl ?_
    refine rx_iald ok hB rfl (tm_31 hb) (ty_0 hb) rfl (lt5 hb hi) (by decide) d_T_learn_103 ?_
    refine mr_iconst ok 1 d_T_learn_104 (by decide) ?_
    refine mr_icmp_ne ok 113 d_T_learn_105 (by decide) (fun h105_1 => ?_) (fun h105_1 => ?_)
    · refine mr_aload_n ok (i := 0) d_T_learn_113 rfl rfl ?_
      refine sx_getr ok hB fl_T_44 (tm_20 hb) rfl d_T_learn_114 ?_
      refine mr_iload_n ok (i := 1) d_T_learn_117 rfl rfl ?_
      refine mr_iconst ok 0 d_T_learn_118 (by decide) ?_
      refine rx_iast ok hB rfl (tm_34 hb) (ty_0 hb) rfl (lt5 hb hi) (by decide) d_T_learn_119 ?_
      refine mr_aload_n ok (i := 0) d_T_learn_120 rfl rfl ?_
      refine sx_getr ok hB fl_T_41 (tm_20 hb) rfl d_T_learn_121 ?_
      refine mr_iload_n ok (i := 1) d_T_learn_124 rfl rfl ?_
      refine mr_iconst ok 0 d_T_learn_125 (by decide) ?_
      refine rx_iast ok hB rfl (tm_33 hb) (ty_0 hb) rfl (lt5 hb hi) (by decide) d_T_learn_126 ?_
      refine mr_iconst ok 0 d_T_learn_127 (by decide) ?_
      refine mr_istore_n ok (i := 3) d_T_learn_128 rfl (by decide) ?_
      refine mr_iconst ok 0 d_T_learn_129 (by decide) ?_
      refine mr_istore ok d_T_learn_130 (by decide) ?_
      refine mr_lv [(0, .ref (B.2.1 20 0)), (1, .int (nI i)), (2, .int x), (3, .int 0), (4, .int 0)] ⟨rfl, rfl, rfl, rfl, rfl, trivial⟩ ?_
      exact l_T_learn hb hi ok en rfl 9 _ _ _ (kl_init (hc.2 i hi).1) (by simp only [s_T_learn, if_pos h64_0, if_neg h105_1])
    · refine mr_aload_n ok (i := 0) d_T_learn_108 rfl rfl ?_
      refine mr_iload_n ok (i := 1) d_T_learn_109 rfl rfl ?_
      refine sx_cVv ok hB [_] rfl cb_T_92 cv_T_follow (tm_20 hb) rfl rfl (c_T_follow hb hi) rfl (Nat.le_of_ble_eq_true rfl) (by decide) ⟨Nat.le_refl _, Nat.le_refl _⟩ d_T_learn_110 ?_
      refine mr_aload_n ok (i := 0) d_T_learn_113 rfl rfl ?_
      refine sx_getr ok hB fl_T_44 (tm_20 hb) rfl d_T_learn_114 ?_
      refine mr_iload_n ok (i := 1) d_T_learn_117 rfl rfl ?_
      refine mr_iconst ok 0 d_T_learn_118 (by decide) ?_
      refine rx_iast ok hB rfl (tm_34 hb) (ty_0 hb) rfl (lt5 hb hi) (by decide) d_T_learn_119 ?_
      refine mr_aload_n ok (i := 0) d_T_learn_120 rfl rfl ?_
      refine sx_getr ok hB fl_T_41 (tm_20 hb) rfl d_T_learn_121 ?_
      refine mr_iload_n ok (i := 1) d_T_learn_124 rfl rfl ?_
      refine mr_iconst ok 0 d_T_learn_125 (by decide) ?_
      refine rx_iast ok hB rfl (tm_33 hb) (ty_0 hb) rfl (lt5 hb hi) (by decide) d_T_learn_126 ?_
      refine mr_iconst ok 0 d_T_learn_127 (by decide) ?_
      refine mr_istore_n ok (i := 3) d_T_learn_128 rfl (by decide) ?_
      refine mr_iconst ok 0 d_T_learn_129 (by decide) ?_
      refine mr_istore ok d_T_learn_130 (by decide) ?_
      refine mr_lv [(0, .ref (B.2.1 20 0)), (1, .int (nI i)), (2, .int x), (3, .int 0), (4, .int 0)] ⟨rfl, rfl, rfl, rfl, rfl, trivial⟩ ?_
      exact l_T_learn hb hi ok en rfl 9 _ _ _ (kl_init (hc.2 i hi).1) (by simp only [s_T_learn, if_pos h64_0, if_pos h105_1])
  · refine mr_aload_n ok (i := 0) d_T_learn_67 rfl rfl ?_
    refine sx_getr ok hB fl_T_20 (tm_20 hb) rfl d_T_learn_68 ?_
    refine mr_iload_n ok (i := 1) d_T_learn_71 rfl rfl ?_
    refine mr_aload_n ok (i := 0) d_T_learn_72 rfl rfl ?_
    refine sx_getr ok hB fl_T_13 (tm_20 hb) rfl d_T_learn_73 ?_
    refine mr_iload_n ok (i := 1) d_T_learn_76 rfl rfl ?_
    refine rx_iald ok hB rfl (tm_24 hb) (ty_0 hb) rfl (lt5 hb hi) (by decide) d_T_learn_77 ?_
    refine mr_aload_n ok (i := 0) d_T_learn_78 rfl rfl ?_
    refine sx_getr ok hB fl_T_69 (tm_20 hb) rfl d_T_learn_79 ?_
    refine mr_isub ok d_T_learn_82 ?_
    refine rx_iast ok hB rfl (tm_26 hb) (ty_0 hb) rfl (lt5 hb hi) (by decide) d_T_learn_83 ?_
    refine mr_aload_n ok (i := 0) d_T_learn_84 rfl rfl ?_
    refine sx_getr ok hB fl_T_29 (tm_20 hb) rfl d_T_learn_85 ?_
    refine mr_iload_n ok (i := 1) d_T_learn_88 rfl rfl ?_
    refine mr_iconst ok 0 d_T_learn_89 (by decide) ?_
    refine rx_iast ok hB rfl (tm_29 hb) (ty_0 hb) rfl (lt5 hb hi) (by decide) d_T_learn_90 ?_
    refine mr_aload_n ok (i := 0) d_T_learn_91 rfl rfl ?_
    refine sx_getr ok hB fl_T_26 (tm_20 hb) rfl d_T_learn_92 ?_
    refine mr_iload_n ok (i := 1) d_T_learn_95 rfl rfl ?_
    refine mr_iconst ok 0 d_T_learn_96 (by decide) ?_
    refine rx_iast ok hB rfl (tm_28 hb) (ty_0 hb) rfl (lt5 hb hi) (by decide) d_T_learn_97 ?_
    refine mr_aload_n ok (i := 0) d_T_learn_98 rfl rfl ?_
    refine sx_getr ok hB fl_T_35 (tm_20 hb) rfl d_T_learn_99 ?_
    refine mr_iload_n ok (i := 1) d_T_learn_102 rfl rfl ?_
    refine rx_iald ok hB rfl (tm_31 hb) (ty_0 hb) rfl (lt5 hb hi) (by decide) d_T_learn_103 ?_
    refine mr_iconst ok 1 d_T_learn_104 (by decide) ?_
    refine mr_icmp_ne ok 113 d_T_learn_105 (by decide) (fun h105_1 => ?_) (fun h105_1 => ?_)
    · refine mr_aload_n ok (i := 0) d_T_learn_113 rfl rfl ?_
      refine sx_getr ok hB fl_T_44 (tm_20 hb) rfl d_T_learn_114 ?_
      refine mr_iload_n ok (i := 1) d_T_learn_117 rfl rfl ?_
      refine mr_iconst ok 0 d_T_learn_118 (by decide) ?_
      refine rx_iast ok hB rfl (tm_34 hb) (ty_0 hb) rfl (lt5 hb hi) (by decide) d_T_learn_119 ?_
      refine mr_aload_n ok (i := 0) d_T_learn_120 rfl rfl ?_
      refine sx_getr ok hB fl_T_41 (tm_20 hb) rfl d_T_learn_121 ?_
      refine mr_iload_n ok (i := 1) d_T_learn_124 rfl rfl ?_
      refine mr_iconst ok 0 d_T_learn_125 (by decide) ?_
      refine rx_iast ok hB rfl (tm_33 hb) (ty_0 hb) rfl (lt5 hb hi) (by decide) d_T_learn_126 ?_
      refine mr_iconst ok 0 d_T_learn_127 (by decide) ?_
      refine mr_istore_n ok (i := 3) d_T_learn_128 rfl (by decide) ?_
      refine mr_iconst ok 0 d_T_learn_129 (by decide) ?_
      refine mr_istore ok d_T_learn_130 (by decide) ?_
      refine mr_lv [(0, .ref (B.2.1 20 0)), (1, .int (nI i)), (2, .int x), (3, .int 0), (4, .int 0)] ⟨rfl, rfl, rfl, rfl, rfl, trivial⟩ ?_
      exact l_T_learn hb hi ok en rfl 9 _ _ _ (kl_init (hc.2 i hi).1) (by simp only [s_T_learn, if_neg h64_0, if_neg h105_1])
    · refine mr_aload_n ok (i := 0) d_T_learn_108 rfl rfl ?_
      refine mr_iload_n ok (i := 1) d_T_learn_109 rfl rfl ?_
      refine sx_cVv ok hB [_] rfl cb_T_92 cv_T_follow (tm_20 hb) rfl rfl (c_T_follow hb hi) rfl (Nat.le_of_ble_eq_true rfl) (by decide) ⟨Nat.le_refl _, Nat.le_refl _⟩ d_T_learn_110 ?_
      refine mr_aload_n ok (i := 0) d_T_learn_113 rfl rfl ?_
      refine sx_getr ok hB fl_T_44 (tm_20 hb) rfl d_T_learn_114 ?_
      refine mr_iload_n ok (i := 1) d_T_learn_117 rfl rfl ?_
      refine mr_iconst ok 0 d_T_learn_118 (by decide) ?_
      refine rx_iast ok hB rfl (tm_34 hb) (ty_0 hb) rfl (lt5 hb hi) (by decide) d_T_learn_119 ?_
      refine mr_aload_n ok (i := 0) d_T_learn_120 rfl rfl ?_
      refine sx_getr ok hB fl_T_41 (tm_20 hb) rfl d_T_learn_121 ?_
      refine mr_iload_n ok (i := 1) d_T_learn_124 rfl rfl ?_
      refine mr_iconst ok 0 d_T_learn_125 (by decide) ?_
      refine rx_iast ok hB rfl (tm_33 hb) (ty_0 hb) rfl (lt5 hb hi) (by decide) d_T_learn_126 ?_
      refine mr_iconst ok 0 d_T_learn_127 (by decide) ?_
      refine mr_istore_n ok (i := 3) d_T_learn_128 rfl (by decide) ?_
      refine mr_iconst ok 0 d_T_learn_129 (by decide) ?_
      refine mr_istore ok d_T_learn_130 (by decide) ?_
      refine mr_lv [(0, .ref (B.2.1 20 0)), (1, .int (nI i)), (2, .int x), (3, .int 0), (4, .int 0)] ⟨rfl, rfl, rfl, rfl, rfl, trivial⟩ ?_
      exact l_T_learn hb hi ok en rfl 9 _ _ _ (kl_init (hc.2 i hi).1) (by simp only [s_T_learn, if_neg h64_0, if_pos h105_1])
theorem rK_set39 {N : Nat} {r : sh_S} {i : Nat} {v : Int32} (hc : rK N r) (h : ∃ q : Nat, q ≤ 8 ∧ v = nI q) : rK N (sU r 39 0 i v) := by
  refine ⟨hc.1, fun i' hi' => ⟨?_, (hc.2 i' hi').2⟩⟩
  show ∃ q : Nat, q ≤ 8 ∧ (bif Nat.beq i' i then v else r 39 0 i') = nI q
  cases Nat.beq i' i with
  | true => exact h
  | false => exact (hc.2 i' hi').1
theorem rK_set24 {N : Nat} {r : sh_S} {i : Nat} {v : Int32} (hc : rK N r) (h : ¬ v < 0) : rK N (sU r 24 0 i v) := by
  refine ⟨hc.1, fun i' hi' => ⟨(hc.2 i' hi').1, ?_, (hc.2 i' hi').2.2⟩⟩
  show ¬ (bif Nat.beq i' i then v else r 24 0 i') < 0
  cases Nat.beq i' i with
  | true => exact h
  | false => exact (hc.2 i' hi').2.1
theorem rK_set26 {N : Nat} {r : sh_S} {i : Nat} {v : Int32} (hc : rK N r) (h : ¬ v < 0) : rK N (sU r 26 0 i v) := by
  refine ⟨hc.1, fun i' hi' => ⟨(hc.2 i' hi').1, (hc.2 i' hi').2.1, ?_⟩⟩
  show ¬ (bif Nat.beq i' i then v else r 26 0 i') < 0
  cases Nat.beq i' i with
  | true => exact h
  | false => exact (hc.2 i' hi').2.2
theorem rK_lslearn {N L : Nat} {i : Nat} {x : Int32} : ∀ (n : Nat) (r : sh_S) (a b : Int32), rK N r → (∃ q k p : Nat, q ≤ 8 ∧ r 39 0 i = nI q ∧ b = nI k ∧ a = nI p ∧ p ≤ k ∧ k ≤ q ∧ q + 1 ≤ k + n) → rK N (ls_T_learn N L n r i x a b) := by
  intro n
  induction n with
  | zero =>
    intro r a b hc _
    exact hc
  | succ n ih =>
    intro r a b hc hh
    obtain ⟨q, k, p, h1, h2, h3, h4, h5, h6, h7⟩ := hh
    unfold ls_T_learn
    split
    · exact rK_set39 hc ⟨p, by omega, h4⟩
    next h =>
      split
      · exact ih _ _ _ hc (kl_rec h1 h2 h3 h4 h5 h6 h7 h rfl (Or.inl rfl))
      · exact ih _ _ _ hc (kl_rec h1 h2 h3 h4 h5 h6 h7 h rfl (Or.inr rfl))
theorem rK_T_learn {N L : Nat} {r : sh_S} {i : Nat} {x : Int32} (hi : i < N) (hx : ¬ r 24 0 i + 1 < 0) (hc : rK N r) : rK N (s_T_learn N L r i x) := by
  unfold s_T_learn
  dsimp only
  have h0 : rK N (sU r 24 0 i (r 24 0 i + 1)) := rK_set24 hc hx
  split
  · split
    · exact rK_lslearn 9 _ _ _ h0 (kl_init (hc.2 i hi).1)
    · exact rK_lslearn 9 _ _ _ h0 (kl_init (hc.2 i hi).1)
  next h =>
    have h1 := kt_lnn' (hc.2 i hi).2.2 h
    have h2 : rK N (sU (sU r 24 0 i (r 24 0 i + 1)) 26 0 i _) := rK_set26 h0 h1
    split
    · exact rK_lslearn 9 _ _ _ h2 (kl_init (hc.2 i hi).1)
    · exact rK_lslearn 9 _ _ _ h2 (kl_init (hc.2 i hi).1)

def s_T_help (N L : Nat) (r : sh_S) (i : Nat) (x : Int32) (y : Int32) : sh_S := (if y ≤ (r 26 0 i) then (let r1 := s_T_send N L r 8 (nI i) x 0 (r 24 0 i) (r 25 0 i) 0; r1) else (if (r 24 0 i) < y then (let r2 := s_T_send N L r 8 (nI i) x 0 (r 24 0 i) (r 25 0 i) 0; r2) else (let r3 := s_T_send N L r 5 (nI i) x 0 y (r 30 0 ((((40 * (nI i)) + (y - y / 40 * 40)) : Int32).toNatClampNeg)) 0; r3)))
set_option maxHeartbeats 4000000 in
set_option maxRecDepth 100000 in
theorem c_T_help {B : sh_B} {Z : mx_Z} {N L : Nat} {cI cR cZ : ClassId} (hb : wB B Z N L cI cR cZ) {c r : sh_S} {i : Nat} (hi : i < N) {x : Int32} {y : Int32} (hc : rK N r) : sc B Z y_T_help b_T_help 4 none (rmm 1 28) [.ref (B.2.1 20 0), .int (nI i), .int x, .int y] (jn c r) (qe none (jn c (s_T_help N L r i x y))) := by
  refine ct_of (by decide) (Nat.le_of_ble_eq_true rfl) (cat_of rfl) ?_
  intro X ok en _
  have hB := hb.1
  refine mr_lv [(0, .ref (B.2.1 20 0)), (1, .int (nI i)), (2, .int x), (3, .int y)] ⟨rfl, rfl, rfl, rfl, trivial⟩ ?_
  refine mr_iload_n ok (i := 3) d_T_help_0 rfl rfl ?_
  refine mr_aload_n ok (i := 0) d_T_help_1 rfl rfl ?_
  refine sx_getr ok hB fl_T_20 (tm_20 hb) rfl d_T_help_2 ?_
  refine mr_iload_n ok (i := 1) d_T_help_5 rfl rfl ?_
  refine rx_iald ok hB rfl (tm_26 hb) (ty_0 hb) rfl (lt5 hb hi) (by decide) d_T_help_6 ?_
  refine mr_icmp_le ok 47 d_T_help_7 (by decide) (fun h7_0 => ?_) (fun h7_0 => ?_)
  · refine mr_aload_n ok (i := 0) d_T_help_47 rfl rfl ?_
    refine mr_bipush ok 8 d_T_help_48 (by decide) ?_
    refine mr_iload_n ok (i := 1) d_T_help_50 rfl rfl ?_
    refine mr_iload_n ok (i := 2) d_T_help_51 rfl rfl ?_
    refine mr_iconst ok 0 d_T_help_52 (by decide) ?_
    refine mr_aload_n ok (i := 0) d_T_help_53 rfl rfl ?_
    refine sx_getr ok hB fl_T_13 (tm_20 hb) rfl d_T_help_54 ?_
    refine mr_iload_n ok (i := 1) d_T_help_57 rfl rfl ?_
    refine rx_iald ok hB rfl (tm_24 hb) (ty_0 hb) rfl (lt5 hb hi) (by decide) d_T_help_58 ?_
    refine mr_aload_n ok (i := 0) d_T_help_59 rfl rfl ?_
    refine sx_getr ok hB fl_T_17 (tm_20 hb) rfl d_T_help_60 ?_
    refine mr_iload_n ok (i := 1) d_T_help_63 rfl rfl ?_
    refine rx_iald ok hB rfl (tm_25 hb) (ty_0 hb) rfl (lt5 hb hi) (by decide) d_T_help_64 ?_
    refine mr_iconst ok 0 d_T_help_65 (by decide) ?_
    refine sx_cVv ok hB [_, _, _, _, _, _, _] rfl cb_T_88 cv_T_send (tm_20 hb) rfl rfl (c_T_send hb (by exact hc.1)) rfl (Nat.le_of_ble_eq_true rfl) (by decide) ⟨Nat.le_refl _, Nat.le_refl _⟩ d_T_help_66 ?_
    have hc : rK N (s_T_send N L r 8 (nI i) x 0 (r 24 0 i) (r 25 0 i) 0) := rK_T_send (L := L) hc
    refine sx_vret ok en (Nat.le_refl _) (Nat.le_refl _) d_T_help_69 ?_
    exact ⟨rfl, (by first | rfl | simp only [s_T_help, if_pos h7_0])⟩
  · refine mr_iload_n ok (i := 3) d_T_help_10 rfl rfl ?_
    refine mr_aload_n ok (i := 0) d_T_help_11 rfl rfl ?_
    refine sx_getr ok hB fl_T_13 (tm_20 hb) rfl d_T_help_12 ?_
    refine mr_iload_n ok (i := 1) d_T_help_15 rfl rfl ?_
    refine rx_iald ok hB rfl (tm_24 hb) (ty_0 hb) rfl (lt5 hb hi) (by decide) d_T_help_16 ?_
    refine mr_icmp_gt ok 47 d_T_help_17 (by decide) (fun h17_1 => ?_) (fun h17_1 => ?_)
    · refine mr_aload_n ok (i := 0) d_T_help_47 rfl rfl ?_
      refine mr_bipush ok 8 d_T_help_48 (by decide) ?_
      refine mr_iload_n ok (i := 1) d_T_help_50 rfl rfl ?_
      refine mr_iload_n ok (i := 2) d_T_help_51 rfl rfl ?_
      refine mr_iconst ok 0 d_T_help_52 (by decide) ?_
      refine mr_aload_n ok (i := 0) d_T_help_53 rfl rfl ?_
      refine sx_getr ok hB fl_T_13 (tm_20 hb) rfl d_T_help_54 ?_
      refine mr_iload_n ok (i := 1) d_T_help_57 rfl rfl ?_
      refine rx_iald ok hB rfl (tm_24 hb) (ty_0 hb) rfl (lt5 hb hi) (by decide) d_T_help_58 ?_
      refine mr_aload_n ok (i := 0) d_T_help_59 rfl rfl ?_
      refine sx_getr ok hB fl_T_17 (tm_20 hb) rfl d_T_help_60 ?_
      refine mr_iload_n ok (i := 1) d_T_help_63 rfl rfl ?_
      refine rx_iald ok hB rfl (tm_25 hb) (ty_0 hb) rfl (lt5 hb hi) (by decide) d_T_help_64 ?_
      refine mr_iconst ok 0 d_T_help_65 (by decide) ?_
      refine sx_cVv ok hB [_, _, _, _, _, _, _] rfl cb_T_88 cv_T_send (tm_20 hb) rfl rfl (c_T_send hb (by exact hc.1)) rfl (Nat.le_of_ble_eq_true rfl) (by decide) ⟨Nat.le_refl _, Nat.le_refl _⟩ d_T_help_66 ?_
      have hc : rK N (s_T_send N L r 8 (nI i) x 0 (r 24 0 i) (r 25 0 i) 0) := rK_T_send (L := L) hc
      refine sx_vret ok en (Nat.le_refl _) (Nat.le_refl _) d_T_help_69 ?_
      exact ⟨rfl, (by first | rfl | simp only [s_T_help, if_neg h7_0, if_pos h17_1])⟩
    · refine mr_aload_n ok (i := 0) d_T_help_20 rfl rfl ?_
      refine mr_iconst ok 5 d_T_help_21 (by decide) ?_
      refine mr_iload_n ok (i := 1) d_T_help_22 rfl rfl ?_
      refine mr_iload_n ok (i := 2) d_T_help_23 rfl rfl ?_
      refine mr_iconst ok 0 d_T_help_24 (by decide) ?_
      refine mr_iload_n ok (i := 3) d_T_help_25 rfl rfl ?_
      refine mr_aload_n ok (i := 0) d_T_help_26 rfl rfl ?_
      refine sx_getr ok hB fl_T_32 (tm_20 hb) rfl d_T_help_27 ?_
      refine mr_bipush ok 40 d_T_help_30 (by decide) ?_
      refine mr_iload_n ok (i := 1) d_T_help_32 rfl rfl ?_
      refine mr_imul ok d_T_help_33 ?_
      refine mr_iload_n ok (i := 3) d_T_help_34 rfl rfl ?_
      refine mr_bipush ok 40 d_T_help_35 (by decide) ?_
      refine mr_irem ok d_T_help_37 (by decide) ?_
      refine mr_iadd ok d_T_help_38 ?_
      refine rx_ialdC ok hB rfl (tm_30 hb) (ty_0 hb) (kt_40 (lt5 hb hi) (kt_lnn' (hc.2 i hi).2.2 ‹_›)) d_T_help_39 ?_
      refine mr_iconst ok 0 d_T_help_40 (by decide) ?_
      refine sx_cVv ok hB [_, _, _, _, _, _, _] rfl cb_T_88 cv_T_send (tm_20 hb) rfl rfl (c_T_send hb (by exact hc.1)) rfl (Nat.le_of_ble_eq_true rfl) (by decide) ⟨Nat.le_refl _, Nat.le_refl _⟩ d_T_help_41 ?_
      have hc : rK N (s_T_send N L r 5 (nI i) x 0 y (r 30 0 ((((40 * (nI i)) + (y - y / 40 * 40)) : Int32).toNatClampNeg)) 0) := rK_T_send (L := L) hc
      refine mr_goto ok 69 d_T_help_44 (by decide) ?_
      refine sx_vret ok en (Nat.le_refl _) (Nat.le_refl _) d_T_help_69 ?_
      exact ⟨rfl, (by first | rfl | simp only [s_T_help, if_neg h7_0, if_neg h17_1])⟩
def s_T_prepared (N L : Nat) (r : sh_S) (i : Nat) (x : Int32) (y : Int32) (z : Int32) : sh_S := (if (r 24 0 i) < z then (if y < (r 27 0 i) then (let r1 := s_T_send N L r 7 (nI i) x (r 27 0 i) 0 0 0; r1) else (let r2 := sU r 27 0 i y; (let r3 := s_T_follow N L r2 i; (if z = ((r3 24 0 i) + 1) then (if (r3 29 0 i) ≤ 0 then (let r5 := s_T_send N L r3 2 (nI i) x y z 0 0; r5) else (let r6 := s_T_send N L r3 2 (nI i) x y z (r3 29 0 i) (r3 28 0 i); r6)) else (let r4 := s_T_send N L r3 2 (nI i) x y z 0 0; r4))))) else (let r7 := s_T_help N L r i x z; r7))
set_option maxHeartbeats 4000000 in
set_option maxRecDepth 100000 in
theorem c_T_prepared {B : sh_B} {Z : mx_Z} {N L : Nat} {cI cR cZ : ClassId} (hb : wB B Z N L cI cR cZ) {c r : sh_S} {i : Nat} (hi : i < N) {x : Int32} {y : Int32} {z : Int32} (hc : rK N r) : sc B Z y_T_prepared b_T_prepared 6 none (rmm 2 51) [.ref (B.2.1 20 0), .int (nI i), .int x, .int y, .int z] (jn c r) (qe none (jn c (s_T_prepared N L r i x y z))) := by
  refine ct_of (by decide) (Nat.le_of_ble_eq_true rfl) (cat_of rfl) ?_
  intro X ok en _
  have hB := hb.1
  refine mr_lv [(0, .ref (B.2.1 20 0)), (1, .int (nI i)), (2, .int x), (3, .int y), (4, .int z)] ⟨rfl, rfl, rfl, rfl, rfl, trivial⟩ ?_
  refine mr_iload ok d_T_prepared_0 rfl ?_
  refine mr_aload_n ok (i := 0) d_T_prepared_2 rfl rfl ?_
  refine sx_getr ok hB fl_T_13 (tm_20 hb) rfl d_T_prepared_3 ?_
  refine mr_iload_n ok (i := 1) d_T_prepared_6 rfl rfl ?_
  refine rx_iald ok hB rfl (tm_24 hb) (ty_0 hb) rfl (lt5 hb hi) (by decide) d_T_prepared_7 ?_
  refine mr_icmp_gt ok 22 d_T_prepared_8 (by decide) (fun h8_0 => ?_) (fun h8_0 => ?_)
  · refine mr_iload_n ok (i := 3) d_T_prepared_22 rfl rfl ?_
    refine mr_aload_n ok (i := 0) d_T_prepared_23 rfl rfl ?_
    refine sx_getr ok hB fl_T_23 (tm_20 hb) rfl d_T_prepared_24 ?_
    refine mr_iload_n ok (i := 1) d_T_prepared_27 rfl rfl ?_
    refine rx_iald ok hB rfl (tm_27 hb) (ty_0 hb) rfl (lt5 hb hi) (by decide) d_T_prepared_28 ?_
    refine mr_icmp_lt ok 116 d_T_prepared_29 (by decide) (fun h29_1 => ?_) (fun h29_1 => ?_)
    · refine mr_aload_n ok (i := 0) d_T_prepared_116 rfl rfl ?_
      refine mr_bipush ok 7 d_T_prepared_117 (by decide) ?_
      refine mr_iload_n ok (i := 1) d_T_prepared_119 rfl rfl ?_
      refine mr_iload_n ok (i := 2) d_T_prepared_120 rfl rfl ?_
      refine mr_aload_n ok (i := 0) d_T_prepared_121 rfl rfl ?_
      refine sx_getr ok hB fl_T_23 (tm_20 hb) rfl d_T_prepared_122 ?_
      refine mr_iload_n ok (i := 1) d_T_prepared_125 rfl rfl ?_
      refine rx_iald ok hB rfl (tm_27 hb) (ty_0 hb) rfl (lt5 hb hi) (by decide) d_T_prepared_126 ?_
      refine mr_iconst ok 0 d_T_prepared_127 (by decide) ?_
      refine mr_iconst ok 0 d_T_prepared_128 (by decide) ?_
      refine mr_iconst ok 0 d_T_prepared_129 (by decide) ?_
      refine sx_cVv ok hB [_, _, _, _, _, _, _] rfl cb_T_88 cv_T_send (tm_20 hb) rfl rfl (c_T_send hb (by exact hc.1)) rfl (Nat.le_of_ble_eq_true rfl) (by decide) ⟨Nat.le_refl _, Nat.le_refl _⟩ d_T_prepared_130 ?_
      have hc : rK N (s_T_send N L r 7 (nI i) x (r 27 0 i) 0 0 0) := rK_T_send (L := L) hc
      refine sx_vret ok en (Nat.le_refl _) (Nat.le_refl _) d_T_prepared_133 ?_
      exact ⟨rfl, (by first | rfl | simp only [s_T_prepared, if_pos h8_0, if_pos h29_1])⟩
    · refine mr_aload_n ok (i := 0) d_T_prepared_32 rfl rfl ?_
      refine sx_getr ok hB fl_T_23 (tm_20 hb) rfl d_T_prepared_33 ?_
      refine mr_iload_n ok (i := 1) d_T_prepared_36 rfl rfl ?_
      refine mr_iload_n ok (i := 3) d_T_prepared_37 rfl rfl ?_
      refine rx_iast ok hB rfl (tm_27 hb) (ty_0 hb) rfl (lt5 hb hi) (by decide) d_T_prepared_38 ?_
      refine mr_aload_n ok (i := 0) d_T_prepared_39 rfl rfl ?_
      refine mr_iload_n ok (i := 1) d_T_prepared_40 rfl rfl ?_
      refine sx_cVv ok hB [_] rfl cb_T_92 cv_T_follow (tm_20 hb) rfl rfl (c_T_follow hb hi) rfl (Nat.le_of_ble_eq_true rfl) (by decide) ⟨Nat.le_refl _, Nat.le_refl _⟩ d_T_prepared_41 ?_
      refine mr_iload ok d_T_prepared_44 rfl ?_
      refine mr_aload_n ok (i := 0) d_T_prepared_46 rfl rfl ?_
      refine sx_getr ok hB fl_T_13 (tm_20 hb) rfl d_T_prepared_47 ?_
      refine mr_iload_n ok (i := 1) d_T_prepared_50 rfl rfl ?_
      refine rx_iald ok hB rfl (tm_24 hb) (ty_0 hb) rfl (lt5 hb hi) (by decide) d_T_prepared_51 ?_
      refine mr_iconst ok 1 d_T_prepared_52 (by decide) ?_
      refine mr_iadd ok d_T_prepared_53 ?_
      refine mr_icmp_ne ok 70 d_T_prepared_54 (by decide) (fun h54_2 => ?_) (fun h54_2 => ?_)
      · refine mr_iconst ok 0 d_T_prepared_70 (by decide) ?_
        refine mr_istore ok d_T_prepared_71 (by decide) ?_
        refine mr_aload_n ok (i := 0) d_T_prepared_73 rfl rfl ?_
        refine mr_iconst ok 2 d_T_prepared_74 (by decide) ?_
        refine mr_iload_n ok (i := 1) d_T_prepared_75 rfl rfl ?_
        refine mr_iload_n ok (i := 2) d_T_prepared_76 rfl rfl ?_
        refine mr_iload_n ok (i := 3) d_T_prepared_77 rfl rfl ?_
        refine mr_iload ok d_T_prepared_78 rfl ?_
        refine mr_iload ok d_T_prepared_80 rfl ?_
        refine mr_if_eq ok 94 d_T_prepared_82 (by decide) (fun _ => ?_) (fun h => absurd h (by decide))
        refine mr_iconst ok 0 d_T_prepared_94 (by decide) ?_
        refine mr_iload ok d_T_prepared_95 rfl ?_
        refine mr_if_eq ok 109 d_T_prepared_97 (by decide) (fun _ => ?_) (fun h => absurd h (by decide))
        refine mr_iconst ok 0 d_T_prepared_109 (by decide) ?_
        refine sx_cVv ok hB [_, _, _, _, _, _, _] rfl cb_T_88 cv_T_send (tm_20 hb) rfl rfl (c_T_send hb (by exact hc.1)) rfl (Nat.le_of_ble_eq_true rfl) (by decide) ⟨Nat.le_refl _, Nat.le_refl _⟩ d_T_prepared_110 ?_
        have hc : rK N (s_T_send N L (s_T_follow N L (sU r 27 0 i y) i) 2 (nI i) x y z 0 0) := rK_T_send (L := L) hc
        refine mr_goto ok 133 d_T_prepared_113 (by decide) ?_
        refine sx_vret ok en (Nat.le_refl _) (Nat.le_refl _) d_T_prepared_133 ?_
        exact ⟨rfl, (by first | rfl | simp only [s_T_prepared, if_pos h8_0, if_neg h29_1, if_neg h54_2])⟩
      · refine mr_aload_n ok (i := 0) d_T_prepared_57 rfl rfl ?_
        refine sx_getr ok hB fl_T_29 (tm_20 hb) rfl d_T_prepared_58 ?_
        refine mr_iload_n ok (i := 1) d_T_prepared_61 rfl rfl ?_
        refine rx_iald ok hB rfl (tm_29 hb) (ty_0 hb) rfl (lt5 hb hi) (by decide) d_T_prepared_62 ?_
        refine mr_if_le ok 70 d_T_prepared_63 (by decide) (fun h63_3 => ?_) (fun h63_3 => ?_)
        · refine mr_iconst ok 0 d_T_prepared_70 (by decide) ?_
          refine mr_istore ok d_T_prepared_71 (by decide) ?_
          refine mr_aload_n ok (i := 0) d_T_prepared_73 rfl rfl ?_
          refine mr_iconst ok 2 d_T_prepared_74 (by decide) ?_
          refine mr_iload_n ok (i := 1) d_T_prepared_75 rfl rfl ?_
          refine mr_iload_n ok (i := 2) d_T_prepared_76 rfl rfl ?_
          refine mr_iload_n ok (i := 3) d_T_prepared_77 rfl rfl ?_
          refine mr_iload ok d_T_prepared_78 rfl ?_
          refine mr_iload ok d_T_prepared_80 rfl ?_
          refine mr_if_eq ok 94 d_T_prepared_82 (by decide) (fun _ => ?_) (fun h => absurd h (by decide))
          refine mr_iconst ok 0 d_T_prepared_94 (by decide) ?_
          refine mr_iload ok d_T_prepared_95 rfl ?_
          refine mr_if_eq ok 109 d_T_prepared_97 (by decide) (fun _ => ?_) (fun h => absurd h (by decide))
          refine mr_iconst ok 0 d_T_prepared_109 (by decide) ?_
          refine sx_cVv ok hB [_, _, _, _, _, _, _] rfl cb_T_88 cv_T_send (tm_20 hb) rfl rfl (c_T_send hb (by exact hc.1)) rfl (Nat.le_of_ble_eq_true rfl) (by decide) ⟨Nat.le_refl _, Nat.le_refl _⟩ d_T_prepared_110 ?_
          have hc : rK N (s_T_send N L (s_T_follow N L (sU r 27 0 i y) i) 2 (nI i) x y z 0 0) := rK_T_send (L := L) hc
          refine mr_goto ok 133 d_T_prepared_113 (by decide) ?_
          refine sx_vret ok en (Nat.le_refl _) (Nat.le_refl _) d_T_prepared_133 ?_
          exact ⟨rfl, (by first | rfl | simp only [s_T_prepared, if_pos h8_0, if_neg h29_1, if_pos h54_2, if_pos h63_3])⟩
        · refine mr_iconst ok 1 d_T_prepared_66 (by decide) ?_
          refine mr_goto ok 71 d_T_prepared_67 (by decide) ?_
          refine mr_istore ok d_T_prepared_71 (by decide) ?_
          refine mr_aload_n ok (i := 0) d_T_prepared_73 rfl rfl ?_
          refine mr_iconst ok 2 d_T_prepared_74 (by decide) ?_
          refine mr_iload_n ok (i := 1) d_T_prepared_75 rfl rfl ?_
          refine mr_iload_n ok (i := 2) d_T_prepared_76 rfl rfl ?_
          refine mr_iload_n ok (i := 3) d_T_prepared_77 rfl rfl ?_
          refine mr_iload ok d_T_prepared_78 rfl ?_
          refine mr_iload ok d_T_prepared_80 rfl ?_
          refine mr_if_eq ok 94 d_T_prepared_82 (by decide) (fun h => absurd h (by decide)) (fun _ => ?_)
          refine mr_aload_n ok (i := 0) d_T_prepared_85 rfl rfl ?_
          refine sx_getr ok hB fl_T_29 (tm_20 hb) rfl d_T_prepared_86 ?_
          refine mr_iload_n ok (i := 1) d_T_prepared_89 rfl rfl ?_
          refine rx_iald ok hB rfl (tm_29 hb) (ty_0 hb) rfl (lt5 hb hi) (by decide) d_T_prepared_90 ?_
          refine mr_goto ok 95 d_T_prepared_91 (by decide) ?_
          refine mr_iload ok d_T_prepared_95 rfl ?_
          refine mr_if_eq ok 109 d_T_prepared_97 (by decide) (fun h => absurd h (by decide)) (fun _ => ?_)
          refine mr_aload_n ok (i := 0) d_T_prepared_100 rfl rfl ?_
          refine sx_getr ok hB fl_T_26 (tm_20 hb) rfl d_T_prepared_101 ?_
          refine mr_iload_n ok (i := 1) d_T_prepared_104 rfl rfl ?_
          refine rx_iald ok hB rfl (tm_28 hb) (ty_0 hb) rfl (lt5 hb hi) (by decide) d_T_prepared_105 ?_
          refine mr_goto ok 110 d_T_prepared_106 (by decide) ?_
          refine sx_cVv ok hB [_, _, _, _, _, _, _] rfl cb_T_88 cv_T_send (tm_20 hb) rfl rfl (c_T_send hb (by exact hc.1)) rfl (Nat.le_of_ble_eq_true rfl) (by decide) ⟨Nat.le_refl _, Nat.le_refl _⟩ d_T_prepared_110 ?_
          have hc : rK N (s_T_send N L (s_T_follow N L (sU r 27 0 i y) i) 2 (nI i) x y z ((s_T_follow N L (sU r 27 0 i y) i) 29 0 i) ((s_T_follow N L (sU r 27 0 i y) i) 28 0 i)) := rK_T_send (L := L) hc
          refine mr_goto ok 133 d_T_prepared_113 (by decide) ?_
          refine sx_vret ok en (Nat.le_refl _) (Nat.le_refl _) d_T_prepared_133 ?_
          exact ⟨rfl, (by first | rfl | simp only [s_T_prepared, if_pos h8_0, if_neg h29_1, if_pos h54_2, if_neg h63_3])⟩
  · refine mr_aload_n ok (i := 0) d_T_prepared_11 rfl rfl ?_
    refine mr_iload_n ok (i := 1) d_T_prepared_12 rfl rfl ?_
    refine mr_iload_n ok (i := 2) d_T_prepared_13 rfl rfl ?_
    refine mr_iload ok d_T_prepared_14 rfl ?_
    refine sx_cVv ok hB [_, _, _] rfl cb_T_104 cv_T_help (tm_20 hb) rfl rfl (c_T_help hb hi (by exact hc)) rfl (Nat.le_of_ble_eq_true rfl) (by decide) ⟨Nat.le_refl _, Nat.le_refl _⟩ d_T_prepared_16 ?_
    refine mr_goto ok 133 d_T_prepared_19 (by decide) ?_
    refine sx_vret ok en (Nat.le_refl _) (Nat.le_refl _) d_T_prepared_133 ?_
    exact ⟨rfl, (by first | rfl | simp only [s_T_prepared, if_neg h8_0])⟩
def s_T_gotPromise (N L : Nat) (r : sh_S) (i : Nat) (x1 : Int32) (x2 : Int32) (x3 : Int32) (x4 : Int32) (x5 : Int32) : sh_S := (if (r 31 0 i) = 1 then (if (r 32 0 i) = x2 then (if x3 = ((r 24 0 i) + 1) then (if (((r 33 0 i) >>> (x1 &&& 31)) &&& 1) = 1 then r else (let r1 := sU r 33 0 i ((r 33 0 i) ||| (1 <<< (x1 &&& 31))); (if x5 ≤ (r1 36 0 i) then (if (2 * (v_T_count N L r1 (r1 33 0 i))) ≤ (nI N) then r1 else (let r2 := sU r1 31 0 i 2; (let r3 := sU r2 33 0 i 0; (if (r3 35 0 i) ≤ 0 then (let r4 := s_T_propose N L r3 i; r4) else (let r5 := s_T_proposeIt N L r3 i (r3 35 0 i); r5))))) else (let r6 := sU r1 35 0 i x4; (let r7 := sU r6 36 0 i x5; (if (2 * (v_T_count N L r7 (r7 33 0 i))) ≤ (nI N) then r7 else (let r8 := sU r7 31 0 i 2; (let r9 := sU r8 33 0 i 0; (if (r9 35 0 i) ≤ 0 then (let r10 := s_T_propose N L r9 i; r10) else (let r11 := s_T_proposeIt N L r9 i (r9 35 0 i); r11)))))))))) else r) else r) else r)
set_option maxHeartbeats 4000000 in
set_option maxRecDepth 100000 in
theorem c_T_gotPromise {B : sh_B} {Z : mx_Z} {N L : Nat} {cI cR cZ : ClassId} (hb : wB B Z N L cI cR cZ) {c r : sh_S} {i : Nat} (hi : i < N) {x1 : Int32} {x2 : Int32} {x3 : Int32} {x4 : Int32} {x5 : Int32} (hc : rK N r) : sc B Z y_T_gotPromise b_T_gotPromise 7 none (rmm 4 97) [.ref (B.2.1 20 0), .int (nI i), .int x1, .int x2, .int x3, .int x4, .int x5] (jn c r) (qe none (jn c (s_T_gotPromise N L r i x1 x2 x3 x4 x5))) := by
  refine ct_of (by decide) (Nat.le_of_ble_eq_true rfl) (cat_of rfl) ?_
  intro X ok en _
  have hB := hb.1
  refine mr_lv [(0, .ref (B.2.1 20 0)), (1, .int (nI i)), (2, .int x1), (3, .int x2), (4, .int x3), (5, .int x4), (6, .int x5)] ⟨rfl, rfl, rfl, rfl, rfl, rfl, rfl, trivial⟩ ?_
  refine mr_aload_n ok (i := 0) d_T_gotPromise_0 rfl rfl ?_
  refine sx_getr ok hB fl_T_35 (tm_20 hb) rfl d_T_gotPromise_1 ?_
  refine mr_iload_n ok (i := 1) d_T_gotPromise_4 rfl rfl ?_
  refine rx_iald ok hB rfl (tm_31 hb) (ty_0 hb) rfl (lt5 hb hi) (by decide) d_T_gotPromise_5 ?_
  refine mr_iconst ok 1 d_T_gotPromise_6 (by decide) ?_
  refine mr_icmp_ne ok 47 d_T_gotPromise_7 (by decide) (fun h7_0 => ?_) (fun h7_0 => ?_)
  · refine sx_vret ok en (Nat.le_refl _) (Nat.le_refl _) d_T_gotPromise_47 ?_
    exact ⟨rfl, (by first | rfl | simp only [s_T_gotPromise, if_neg h7_0])⟩
  · refine mr_aload_n ok (i := 0) d_T_gotPromise_10 rfl rfl ?_
    refine sx_getr ok hB fl_T_38 (tm_20 hb) rfl d_T_gotPromise_11 ?_
    refine mr_iload_n ok (i := 1) d_T_gotPromise_14 rfl rfl ?_
    refine rx_iald ok hB rfl (tm_32 hb) (ty_0 hb) rfl (lt5 hb hi) (by decide) d_T_gotPromise_15 ?_
    refine mr_iload_n ok (i := 3) d_T_gotPromise_16 rfl rfl ?_
    refine mr_icmp_ne ok 47 d_T_gotPromise_17 (by decide) (fun h17_1 => ?_) (fun h17_1 => ?_)
    · refine sx_vret ok en (Nat.le_refl _) (Nat.le_refl _) d_T_gotPromise_47 ?_
      exact ⟨rfl, (by first | rfl | simp only [s_T_gotPromise, if_pos h7_0, if_neg h17_1])⟩
    · refine mr_iload ok d_T_gotPromise_20 rfl ?_
      refine mr_aload_n ok (i := 0) d_T_gotPromise_22 rfl rfl ?_
      refine sx_getr ok hB fl_T_13 (tm_20 hb) rfl d_T_gotPromise_23 ?_
      refine mr_iload_n ok (i := 1) d_T_gotPromise_26 rfl rfl ?_
      refine rx_iald ok hB rfl (tm_24 hb) (ty_0 hb) rfl (lt5 hb hi) (by decide) d_T_gotPromise_27 ?_
      refine mr_iconst ok 1 d_T_gotPromise_28 (by decide) ?_
      refine mr_iadd ok d_T_gotPromise_29 ?_
      refine mr_icmp_ne ok 47 d_T_gotPromise_30 (by decide) (fun h30_2 => ?_) (fun h30_2 => ?_)
      · refine sx_vret ok en (Nat.le_refl _) (Nat.le_refl _) d_T_gotPromise_47 ?_
        exact ⟨rfl, (by first | rfl | simp only [s_T_gotPromise, if_pos h7_0, if_pos h17_1, if_neg h30_2])⟩
      · refine mr_aload_n ok (i := 0) d_T_gotPromise_33 rfl rfl ?_
        refine sx_getr ok hB fl_T_41 (tm_20 hb) rfl d_T_gotPromise_34 ?_
        refine mr_iload_n ok (i := 1) d_T_gotPromise_37 rfl rfl ?_
        refine rx_iald ok hB rfl (tm_33 hb) (ty_0 hb) rfl (lt5 hb hi) (by decide) d_T_gotPromise_38 ?_
        refine mr_iload_n ok (i := 2) d_T_gotPromise_39 rfl rfl ?_
        refine mr_ishr ok d_T_gotPromise_40 ?_
        refine mr_iconst ok 1 d_T_gotPromise_41 (by decide) ?_
        refine mr_iand ok d_T_gotPromise_42 ?_
        refine mr_iconst ok 1 d_T_gotPromise_43 (by decide) ?_
        refine mr_icmp_ne ok 48 d_T_gotPromise_44 (by decide) (fun h44_3 => ?_) (fun h44_3 => ?_)
        · refine mr_aload_n ok (i := 0) d_T_gotPromise_48 rfl rfl ?_
          refine sx_getr ok hB fl_T_41 (tm_20 hb) rfl d_T_gotPromise_49 ?_
          refine mr_iload_n ok (i := 1) d_T_gotPromise_52 rfl rfl ?_
          refine mr_dup2 ok d_T_gotPromise_53 rfl rfl ?_
          refine rx_iald ok hB rfl (tm_33 hb) (ty_0 hb) rfl (lt5 hb hi) (by decide) d_T_gotPromise_54 ?_
          refine mr_iconst ok 1 d_T_gotPromise_55 (by decide) ?_
          refine mr_iload_n ok (i := 2) d_T_gotPromise_56 rfl rfl ?_
          refine mr_ishl ok d_T_gotPromise_57 ?_
          refine mr_ior ok d_T_gotPromise_58 ?_
          refine rx_iast ok hB rfl (tm_33 hb) (ty_0 hb) rfl (lt5 hb hi) (by decide) d_T_gotPromise_59 ?_
          refine mr_iload ok d_T_gotPromise_60 rfl ?_
          refine mr_aload_n ok (i := 0) d_T_gotPromise_62 rfl rfl ?_
          refine sx_getr ok hB fl_T_50 (tm_20 hb) rfl d_T_gotPromise_63 ?_
          refine mr_iload_n ok (i := 1) d_T_gotPromise_66 rfl rfl ?_
          refine rx_iald ok hB rfl (tm_36 hb) (ty_0 hb) rfl (lt5 hb hi) (by decide) d_T_gotPromise_67 ?_
          refine mr_icmp_le ok 87 d_T_gotPromise_68 (by decide) (fun h68_4 => ?_) (fun h68_4 => ?_)
          · refine mr_iconst ok 2 d_T_gotPromise_87 (by decide) ?_
            refine mr_aload_n ok (i := 0) d_T_gotPromise_88 rfl rfl ?_
            refine mr_aload_n ok (i := 0) d_T_gotPromise_89 rfl rfl ?_
            refine sx_getr ok hB fl_T_41 (tm_20 hb) rfl d_T_gotPromise_90 ?_
            refine mr_iload_n ok (i := 1) d_T_gotPromise_93 rfl rfl ?_
            refine rx_iald ok hB rfl (tm_33 hb) (ty_0 hb) rfl (lt5 hb hi) (by decide) d_T_gotPromise_94 ?_
            refine sx_cVi ok hB [_] rfl cb_T_108 cv_T_count (tm_20 hb) rfl rfl (c_T_count hb) rfl (Nat.le_of_ble_eq_true rfl) (by decide) ⟨Nat.le_refl _, Nat.le_refl _⟩ d_T_gotPromise_95 ?_
            refine mr_imul ok d_T_gotPromise_98 ?_
            refine mr_aload_n ok (i := 0) d_T_gotPromise_99 rfl rfl ?_
            refine sx_getr ok hB fl_T_65 (tm_20 hb) rfl d_T_gotPromise_100 ?_
            refine mr_icmp_le ok 148 d_T_gotPromise_103 (by decide) (fun h103_5 => ?_) (fun h103_5 => ?_)
            · refine sx_vret ok en (Nat.le_refl _) (Nat.le_refl _) d_T_gotPromise_148 ?_
              exact ⟨rfl, (by first | rfl | simp only [s_T_gotPromise, if_pos h7_0, if_pos h17_1, if_pos h30_2, if_neg h44_3, if_pos h68_4, if_pos h103_5])⟩
            · refine mr_aload_n ok (i := 0) d_T_gotPromise_106 rfl rfl ?_
              refine sx_getr ok hB fl_T_35 (tm_20 hb) rfl d_T_gotPromise_107 ?_
              refine mr_iload_n ok (i := 1) d_T_gotPromise_110 rfl rfl ?_
              refine mr_iconst ok 2 d_T_gotPromise_111 (by decide) ?_
              refine rx_iast ok hB rfl (tm_31 hb) (ty_0 hb) rfl (lt5 hb hi) (by decide) d_T_gotPromise_112 ?_
              refine mr_aload_n ok (i := 0) d_T_gotPromise_113 rfl rfl ?_
              refine sx_getr ok hB fl_T_41 (tm_20 hb) rfl d_T_gotPromise_114 ?_
              refine mr_iload_n ok (i := 1) d_T_gotPromise_117 rfl rfl ?_
              refine mr_iconst ok 0 d_T_gotPromise_118 (by decide) ?_
              refine rx_iast ok hB rfl (tm_33 hb) (ty_0 hb) rfl (lt5 hb hi) (by decide) d_T_gotPromise_119 ?_
              refine mr_aload_n ok (i := 0) d_T_gotPromise_120 rfl rfl ?_
              refine sx_getr ok hB fl_T_47 (tm_20 hb) rfl d_T_gotPromise_121 ?_
              refine mr_iload_n ok (i := 1) d_T_gotPromise_124 rfl rfl ?_
              refine rx_iald ok hB rfl (tm_35 hb) (ty_0 hb) rfl (lt5 hb hi) (by decide) d_T_gotPromise_125 ?_
              refine mr_if_le ok 143 d_T_gotPromise_126 (by decide) (fun h126_6 => ?_) (fun h126_6 => ?_)
              · refine mr_aload_n ok (i := 0) d_T_gotPromise_143 rfl rfl ?_
                refine mr_iload_n ok (i := 1) d_T_gotPromise_144 rfl rfl ?_
                refine sx_cVv ok hB [_] rfl cb_T_112 cv_T_propose (tm_20 hb) rfl rfl (c_T_propose hb hi (by exact hc)) rfl (Nat.le_of_ble_eq_true rfl) (by decide) ⟨Nat.le_refl _, Nat.le_refl _⟩ d_T_gotPromise_145 ?_
                refine sx_vret ok en (Nat.le_refl _) (Nat.le_refl _) d_T_gotPromise_148 ?_
                exact ⟨rfl, (by first | rfl | simp only [s_T_gotPromise, if_pos h7_0, if_pos h17_1, if_pos h30_2, if_neg h44_3, if_pos h68_4, if_neg h103_5, if_pos h126_6])⟩
              · refine mr_aload_n ok (i := 0) d_T_gotPromise_129 rfl rfl ?_
                refine mr_iload_n ok (i := 1) d_T_gotPromise_130 rfl rfl ?_
                refine mr_aload_n ok (i := 0) d_T_gotPromise_131 rfl rfl ?_
                refine sx_getr ok hB fl_T_47 (tm_20 hb) rfl d_T_gotPromise_132 ?_
                refine mr_iload_n ok (i := 1) d_T_gotPromise_135 rfl rfl ?_
                refine rx_iald ok hB rfl (tm_35 hb) (ty_0 hb) rfl (lt5 hb hi) (by decide) d_T_gotPromise_136 ?_
                refine sx_cVv ok hB [_, _] rfl cb_T_100 cv_T_proposeIt (tm_20 hb) rfl rfl (c_T_proposeIt hb hi (by exact hc)) rfl (Nat.le_of_ble_eq_true rfl) (by decide) ⟨Nat.le_refl _, Nat.le_refl _⟩ d_T_gotPromise_137 ?_
                refine mr_goto ok 148 d_T_gotPromise_140 (by decide) ?_
                refine sx_vret ok en (Nat.le_refl _) (Nat.le_refl _) d_T_gotPromise_148 ?_
                exact ⟨rfl, (by first | rfl | simp only [s_T_gotPromise, if_pos h7_0, if_pos h17_1, if_pos h30_2, if_neg h44_3, if_pos h68_4, if_neg h103_5, if_neg h126_6])⟩
          · refine mr_aload_n ok (i := 0) d_T_gotPromise_71 rfl rfl ?_
            refine sx_getr ok hB fl_T_47 (tm_20 hb) rfl d_T_gotPromise_72 ?_
            refine mr_iload_n ok (i := 1) d_T_gotPromise_75 rfl rfl ?_
            refine mr_iload ok d_T_gotPromise_76 rfl ?_
            refine rx_iast ok hB rfl (tm_35 hb) (ty_0 hb) rfl (lt5 hb hi) (by decide) d_T_gotPromise_78 ?_
            refine mr_aload_n ok (i := 0) d_T_gotPromise_79 rfl rfl ?_
            refine sx_getr ok hB fl_T_50 (tm_20 hb) rfl d_T_gotPromise_80 ?_
            refine mr_iload_n ok (i := 1) d_T_gotPromise_83 rfl rfl ?_
            refine mr_iload ok d_T_gotPromise_84 rfl ?_
            refine rx_iast ok hB rfl (tm_36 hb) (ty_0 hb) rfl (lt5 hb hi) (by decide) d_T_gotPromise_86 ?_
            refine mr_iconst ok 2 d_T_gotPromise_87 (by decide) ?_
            refine mr_aload_n ok (i := 0) d_T_gotPromise_88 rfl rfl ?_
            refine mr_aload_n ok (i := 0) d_T_gotPromise_89 rfl rfl ?_
            refine sx_getr ok hB fl_T_41 (tm_20 hb) rfl d_T_gotPromise_90 ?_
            refine mr_iload_n ok (i := 1) d_T_gotPromise_93 rfl rfl ?_
            refine rx_iald ok hB rfl (tm_33 hb) (ty_0 hb) rfl (lt5 hb hi) (by decide) d_T_gotPromise_94 ?_
            refine sx_cVi ok hB [_] rfl cb_T_108 cv_T_count (tm_20 hb) rfl rfl (c_T_count hb) rfl (Nat.le_of_ble_eq_true rfl) (by decide) ⟨Nat.le_refl _, Nat.le_refl _⟩ d_T_gotPromise_95 ?_
            refine mr_imul ok d_T_gotPromise_98 ?_
            refine mr_aload_n ok (i := 0) d_T_gotPromise_99 rfl rfl ?_
            refine sx_getr ok hB fl_T_65 (tm_20 hb) rfl d_T_gotPromise_100 ?_
            refine mr_icmp_le ok 148 d_T_gotPromise_103 (by decide) (fun h103_5 => ?_) (fun h103_5 => ?_)
            · refine sx_vret ok en (Nat.le_refl _) (Nat.le_refl _) d_T_gotPromise_148 ?_
              exact ⟨rfl, (by first | rfl | simp only [s_T_gotPromise, if_pos h7_0, if_pos h17_1, if_pos h30_2, if_neg h44_3, if_neg h68_4, if_pos h103_5])⟩
            · refine mr_aload_n ok (i := 0) d_T_gotPromise_106 rfl rfl ?_
              refine sx_getr ok hB fl_T_35 (tm_20 hb) rfl d_T_gotPromise_107 ?_
              refine mr_iload_n ok (i := 1) d_T_gotPromise_110 rfl rfl ?_
              refine mr_iconst ok 2 d_T_gotPromise_111 (by decide) ?_
              refine rx_iast ok hB rfl (tm_31 hb) (ty_0 hb) rfl (lt5 hb hi) (by decide) d_T_gotPromise_112 ?_
              refine mr_aload_n ok (i := 0) d_T_gotPromise_113 rfl rfl ?_
              refine sx_getr ok hB fl_T_41 (tm_20 hb) rfl d_T_gotPromise_114 ?_
              refine mr_iload_n ok (i := 1) d_T_gotPromise_117 rfl rfl ?_
              refine mr_iconst ok 0 d_T_gotPromise_118 (by decide) ?_
              refine rx_iast ok hB rfl (tm_33 hb) (ty_0 hb) rfl (lt5 hb hi) (by decide) d_T_gotPromise_119 ?_
              refine mr_aload_n ok (i := 0) d_T_gotPromise_120 rfl rfl ?_
              refine sx_getr ok hB fl_T_47 (tm_20 hb) rfl d_T_gotPromise_121 ?_
              refine mr_iload_n ok (i := 1) d_T_gotPromise_124 rfl rfl ?_
              refine rx_iald ok hB rfl (tm_35 hb) (ty_0 hb) rfl (lt5 hb hi) (by decide) d_T_gotPromise_125 ?_
              refine mr_if_le ok 143 d_T_gotPromise_126 (by decide) (fun h126_6 => ?_) (fun h126_6 => ?_)
              · refine mr_aload_n ok (i := 0) d_T_gotPromise_143 rfl rfl ?_
                refine mr_iload_n ok (i := 1) d_T_gotPromise_144 rfl rfl ?_
                refine sx_cVv ok hB [_] rfl cb_T_112 cv_T_propose (tm_20 hb) rfl rfl (c_T_propose hb hi (by exact hc)) rfl (Nat.le_of_ble_eq_true rfl) (by decide) ⟨Nat.le_refl _, Nat.le_refl _⟩ d_T_gotPromise_145 ?_
                refine sx_vret ok en (Nat.le_refl _) (Nat.le_refl _) d_T_gotPromise_148 ?_
                exact ⟨rfl, (by first | rfl | simp only [s_T_gotPromise, if_pos h7_0, if_pos h17_1, if_pos h30_2, if_neg h44_3, if_neg h68_4, if_neg h103_5, if_pos h126_6])⟩
              · refine mr_aload_n ok (i := 0) d_T_gotPromise_129 rfl rfl ?_
                refine mr_iload_n ok (i := 1) d_T_gotPromise_130 rfl rfl ?_
                refine mr_aload_n ok (i := 0) d_T_gotPromise_131 rfl rfl ?_
                refine sx_getr ok hB fl_T_47 (tm_20 hb) rfl d_T_gotPromise_132 ?_
                refine mr_iload_n ok (i := 1) d_T_gotPromise_135 rfl rfl ?_
                refine rx_iald ok hB rfl (tm_35 hb) (ty_0 hb) rfl (lt5 hb hi) (by decide) d_T_gotPromise_136 ?_
                refine sx_cVv ok hB [_, _] rfl cb_T_100 cv_T_proposeIt (tm_20 hb) rfl rfl (c_T_proposeIt hb hi (by exact hc)) rfl (Nat.le_of_ble_eq_true rfl) (by decide) ⟨Nat.le_refl _, Nat.le_refl _⟩ d_T_gotPromise_137 ?_
                refine mr_goto ok 148 d_T_gotPromise_140 (by decide) ?_
                refine sx_vret ok en (Nat.le_refl _) (Nat.le_refl _) d_T_gotPromise_148 ?_
                exact ⟨rfl, (by first | rfl | simp only [s_T_gotPromise, if_pos h7_0, if_pos h17_1, if_pos h30_2, if_neg h44_3, if_neg h68_4, if_neg h103_5, if_neg h126_6])⟩
        · refine sx_vret ok en (Nat.le_refl _) (Nat.le_refl _) d_T_gotPromise_47 ?_
          exact ⟨rfl, (by first | rfl | simp only [s_T_gotPromise, if_pos h7_0, if_pos h17_1, if_pos h30_2, if_pos h44_3])⟩
def s_T_gotAccept (N L : Nat) (r : sh_S) (i : Nat) (x1 : Int32) (x2 : Int32) (x3 : Int32) (x4 : Int32) : sh_S := (if (r 24 0 i) < x3 then (if x3 ≤ ((r 24 0 i) + 1) then (if x2 < (r 27 0 i) then (let r1 := s_T_send N L r 7 (nI i) x1 (r 27 0 i) 0 0 0; r1) else (let r2 := sU r 27 0 i x2; (if (r2 31 0 i) = 1 then (let r3 := s_T_follow N L r2 i; (let r4 := sU r3 29 0 i x4; (let r5 := sU r4 28 0 i x2; (let r6 := s_T_send N L r5 4 (nI i) x1 x2 x3 0 0; r6)))) else (if (r2 31 0 i) = 2 then (if (r2 32 0 i) = x2 then (let r10 := sU r2 29 0 i x4; (let r11 := sU r10 28 0 i x2; (let r12 := s_T_send N L r11 4 (nI i) x1 x2 x3 0 0; r12))) else (let r13 := s_T_follow N L r2 i; (let r14 := sU r13 29 0 i x4; (let r15 := sU r14 28 0 i x2; (let r16 := s_T_send N L r15 4 (nI i) x1 x2 x3 0 0; r16))))) else (let r7 := sU r2 29 0 i x4; (let r8 := sU r7 28 0 i x2; (let r9 := s_T_send N L r8 4 (nI i) x1 x2 x3 0 0; r9))))))) else (let r17 := s_T_send N L r 6 (nI i) x1 0 ((r 24 0 i) + 1) 0 0; r17)) else (let r18 := s_T_help N L r i x1 x3; r18))
set_option maxHeartbeats 4000000 in
set_option maxRecDepth 100000 in
theorem c_T_gotAccept {B : sh_B} {Z : mx_Z} {N L : Nat} {cI cR cZ : ClassId} (hb : wB B Z N L cI cR cZ) {c r : sh_S} {i : Nat} (hi : i < N) {x1 : Int32} {x2 : Int32} {x3 : Int32} {x4 : Int32} (hc : rK N r) : sc B Z y_T_gotAccept b_T_gotAccept 6 none (rmm 2 51) [.ref (B.2.1 20 0), .int (nI i), .int x1, .int x2, .int x3, .int x4] (jn c r) (qe none (jn c (s_T_gotAccept N L r i x1 x2 x3 x4))) := by
  refine ct_of (by decide) (Nat.le_of_ble_eq_true rfl) (cat_of rfl) ?_
  intro X ok en _
  have hB := hb.1
  refine mr_lv [(0, .ref (B.2.1 20 0)), (1, .int (nI i)), (2, .int x1), (3, .int x2), (4, .int x3), (5, .int x4)] ⟨rfl, rfl, rfl, rfl, rfl, rfl, trivial⟩ ?_
  refine mr_iload ok d_T_gotAccept_0 rfl ?_
  refine mr_aload_n ok (i := 0) d_T_gotAccept_2 rfl rfl ?_
  refine sx_getr ok hB fl_T_13 (tm_20 hb) rfl d_T_gotAccept_3 ?_
  refine mr_iload_n ok (i := 1) d_T_gotAccept_6 rfl rfl ?_
  refine rx_iald ok hB rfl (tm_24 hb) (ty_0 hb) rfl (lt5 hb hi) (by decide) d_T_gotAccept_7 ?_
  refine mr_icmp_gt ok 22 d_T_gotAccept_8 (by decide) (fun h8_0 => ?_) (fun h8_0 => ?_)
  · refine mr_iload ok d_T_gotAccept_22 rfl ?_
    refine mr_aload_n ok (i := 0) d_T_gotAccept_24 rfl rfl ?_
    refine sx_getr ok hB fl_T_13 (tm_20 hb) rfl d_T_gotAccept_25 ?_
    refine mr_iload_n ok (i := 1) d_T_gotAccept_28 rfl rfl ?_
    refine rx_iald ok hB rfl (tm_24 hb) (ty_0 hb) rfl (lt5 hb hi) (by decide) d_T_gotAccept_29 ?_
    refine mr_iconst ok 1 d_T_gotAccept_30 (by decide) ?_
    refine mr_iadd ok d_T_gotAccept_31 ?_
    refine mr_icmp_le ok 57 d_T_gotAccept_32 (by decide) (fun h32_1 => ?_) (fun h32_1 => ?_)
    · refine mr_iload_n ok (i := 3) d_T_gotAccept_57 rfl rfl ?_
      refine mr_aload_n ok (i := 0) d_T_gotAccept_58 rfl rfl ?_
      refine sx_getr ok hB fl_T_23 (tm_20 hb) rfl d_T_gotAccept_59 ?_
      refine mr_iload_n ok (i := 1) d_T_gotAccept_62 rfl rfl ?_
      refine rx_iald ok hB rfl (tm_27 hb) (ty_0 hb) rfl (lt5 hb hi) (by decide) d_T_gotAccept_63 ?_
      refine mr_icmp_lt ok 139 d_T_gotAccept_64 (by decide) (fun h64_2 => ?_) (fun h64_2 => ?_)
      · refine mr_aload_n ok (i := 0) d_T_gotAccept_139 rfl rfl ?_
        refine mr_bipush ok 7 d_T_gotAccept_140 (by decide) ?_
        refine mr_iload_n ok (i := 1) d_T_gotAccept_142 rfl rfl ?_
        refine mr_iload_n ok (i := 2) d_T_gotAccept_143 rfl rfl ?_
        refine mr_aload_n ok (i := 0) d_T_gotAccept_144 rfl rfl ?_
        refine sx_getr ok hB fl_T_23 (tm_20 hb) rfl d_T_gotAccept_145 ?_
        refine mr_iload_n ok (i := 1) d_T_gotAccept_148 rfl rfl ?_
        refine rx_iald ok hB rfl (tm_27 hb) (ty_0 hb) rfl (lt5 hb hi) (by decide) d_T_gotAccept_149 ?_
        refine mr_iconst ok 0 d_T_gotAccept_150 (by decide) ?_
        refine mr_iconst ok 0 d_T_gotAccept_151 (by decide) ?_
        refine mr_iconst ok 0 d_T_gotAccept_152 (by decide) ?_
        refine sx_cVv ok hB [_, _, _, _, _, _, _] rfl cb_T_88 cv_T_send (tm_20 hb) rfl rfl (c_T_send hb (by exact hc.1)) rfl (Nat.le_of_ble_eq_true rfl) (by decide) ⟨Nat.le_refl _, Nat.le_refl _⟩ d_T_gotAccept_153 ?_
        have hc : rK N (s_T_send N L r 7 (nI i) x1 (r 27 0 i) 0 0 0) := rK_T_send (L := L) hc
        refine sx_vret ok en (Nat.le_refl _) (Nat.le_refl _) d_T_gotAccept_156 ?_
        exact ⟨rfl, (by first | rfl | simp only [s_T_gotAccept, if_pos h8_0, if_pos h32_1, if_pos h64_2])⟩
      · refine mr_aload_n ok (i := 0) d_T_gotAccept_67 rfl rfl ?_
        refine sx_getr ok hB fl_T_23 (tm_20 hb) rfl d_T_gotAccept_68 ?_
        refine mr_iload_n ok (i := 1) d_T_gotAccept_71 rfl rfl ?_
        refine mr_iload_n ok (i := 3) d_T_gotAccept_72 rfl rfl ?_
        refine rx_iast ok hB rfl (tm_27 hb) (ty_0 hb) rfl (lt5 hb hi) (by decide) d_T_gotAccept_73 ?_
        refine mr_aload_n ok (i := 0) d_T_gotAccept_74 rfl rfl ?_
        refine sx_getr ok hB fl_T_35 (tm_20 hb) rfl d_T_gotAccept_75 ?_
        refine mr_iload_n ok (i := 1) d_T_gotAccept_78 rfl rfl ?_
        refine rx_iald ok hB rfl (tm_31 hb) (ty_0 hb) rfl (lt5 hb hi) (by decide) d_T_gotAccept_79 ?_
        refine mr_iconst ok 1 d_T_gotAccept_80 (by decide) ?_
        refine mr_icmp_eq ok 104 d_T_gotAccept_81 (by decide) (fun h81_3 => ?_) (fun h81_3 => ?_)
        · refine mr_aload_n ok (i := 0) d_T_gotAccept_104 rfl rfl ?_
          refine mr_iload_n ok (i := 1) d_T_gotAccept_105 rfl rfl ?_
          refine sx_cVv ok hB [_] rfl cb_T_92 cv_T_follow (tm_20 hb) rfl rfl (c_T_follow hb hi) rfl (Nat.le_of_ble_eq_true rfl) (by decide) ⟨Nat.le_refl _, Nat.le_refl _⟩ d_T_gotAccept_106 ?_
          refine mr_aload_n ok (i := 0) d_T_gotAccept_109 rfl rfl ?_
          refine sx_getr ok hB fl_T_29 (tm_20 hb) rfl d_T_gotAccept_110 ?_
          refine mr_iload_n ok (i := 1) d_T_gotAccept_113 rfl rfl ?_
          refine mr_iload ok d_T_gotAccept_114 rfl ?_
          refine rx_iast ok hB rfl (tm_29 hb) (ty_0 hb) rfl (lt5 hb hi) (by decide) d_T_gotAccept_116 ?_
          refine mr_aload_n ok (i := 0) d_T_gotAccept_117 rfl rfl ?_
          refine sx_getr ok hB fl_T_26 (tm_20 hb) rfl d_T_gotAccept_118 ?_
          refine mr_iload_n ok (i := 1) d_T_gotAccept_121 rfl rfl ?_
          refine mr_iload_n ok (i := 3) d_T_gotAccept_122 rfl rfl ?_
          refine rx_iast ok hB rfl (tm_28 hb) (ty_0 hb) rfl (lt5 hb hi) (by decide) d_T_gotAccept_123 ?_
          refine mr_aload_n ok (i := 0) d_T_gotAccept_124 rfl rfl ?_
          refine mr_iconst ok 4 d_T_gotAccept_125 (by decide) ?_
          refine mr_iload_n ok (i := 1) d_T_gotAccept_126 rfl rfl ?_
          refine mr_iload_n ok (i := 2) d_T_gotAccept_127 rfl rfl ?_
          refine mr_iload_n ok (i := 3) d_T_gotAccept_128 rfl rfl ?_
          refine mr_iload ok d_T_gotAccept_129 rfl ?_
          refine mr_iconst ok 0 d_T_gotAccept_131 (by decide) ?_
          refine mr_iconst ok 0 d_T_gotAccept_132 (by decide) ?_
          refine sx_cVv ok hB [_, _, _, _, _, _, _] rfl cb_T_88 cv_T_send (tm_20 hb) rfl rfl (c_T_send hb (by exact hc.1)) rfl (Nat.le_of_ble_eq_true rfl) (by decide) ⟨Nat.le_refl _, Nat.le_refl _⟩ d_T_gotAccept_133 ?_
          have hc : rK N (s_T_send N L (sU (sU (s_T_follow N L (sU r 27 0 i x2) i) 29 0 i x4) 28 0 i x2) 4 (nI i) x1 x2 x3 0 0) := rK_T_send (L := L) hc
          refine mr_goto ok 156 d_T_gotAccept_136 (by decide) ?_
          refine sx_vret ok en (Nat.le_refl _) (Nat.le_refl _) d_T_gotAccept_156 ?_
          exact ⟨rfl, (by first | rfl | simp only [s_T_gotAccept, if_pos h8_0, if_pos h32_1, if_neg h64_2, if_pos h81_3])⟩
        · refine mr_aload_n ok (i := 0) d_T_gotAccept_84 rfl rfl ?_
          refine sx_getr ok hB fl_T_35 (tm_20 hb) rfl d_T_gotAccept_85 ?_
          refine mr_iload_n ok (i := 1) d_T_gotAccept_88 rfl rfl ?_
          refine rx_iald ok hB rfl (tm_31 hb) (ty_0 hb) rfl (lt5 hb hi) (by decide) d_T_gotAccept_89 ?_
          refine mr_iconst ok 2 d_T_gotAccept_90 (by decide) ?_
          refine mr_icmp_ne ok 109 d_T_gotAccept_91 (by decide) (fun h91_4 => ?_) (fun h91_4 => ?_)
          · refine mr_aload_n ok (i := 0) d_T_gotAccept_109 rfl rfl ?_
            refine sx_getr ok hB fl_T_29 (tm_20 hb) rfl d_T_gotAccept_110 ?_
            refine mr_iload_n ok (i := 1) d_T_gotAccept_113 rfl rfl ?_
            refine mr_iload ok d_T_gotAccept_114 rfl ?_
            refine rx_iast ok hB rfl (tm_29 hb) (ty_0 hb) rfl (lt5 hb hi) (by decide) d_T_gotAccept_116 ?_
            refine mr_aload_n ok (i := 0) d_T_gotAccept_117 rfl rfl ?_
            refine sx_getr ok hB fl_T_26 (tm_20 hb) rfl d_T_gotAccept_118 ?_
            refine mr_iload_n ok (i := 1) d_T_gotAccept_121 rfl rfl ?_
            refine mr_iload_n ok (i := 3) d_T_gotAccept_122 rfl rfl ?_
            refine rx_iast ok hB rfl (tm_28 hb) (ty_0 hb) rfl (lt5 hb hi) (by decide) d_T_gotAccept_123 ?_
            refine mr_aload_n ok (i := 0) d_T_gotAccept_124 rfl rfl ?_
            refine mr_iconst ok 4 d_T_gotAccept_125 (by decide) ?_
            refine mr_iload_n ok (i := 1) d_T_gotAccept_126 rfl rfl ?_
            refine mr_iload_n ok (i := 2) d_T_gotAccept_127 rfl rfl ?_
            refine mr_iload_n ok (i := 3) d_T_gotAccept_128 rfl rfl ?_
            refine mr_iload ok d_T_gotAccept_129 rfl ?_
            refine mr_iconst ok 0 d_T_gotAccept_131 (by decide) ?_
            refine mr_iconst ok 0 d_T_gotAccept_132 (by decide) ?_
            refine sx_cVv ok hB [_, _, _, _, _, _, _] rfl cb_T_88 cv_T_send (tm_20 hb) rfl rfl (c_T_send hb (by exact hc.1)) rfl (Nat.le_of_ble_eq_true rfl) (by decide) ⟨Nat.le_refl _, Nat.le_refl _⟩ d_T_gotAccept_133 ?_
            have hc : rK N (s_T_send N L (sU (sU (sU r 27 0 i x2) 29 0 i x4) 28 0 i x2) 4 (nI i) x1 x2 x3 0 0) := rK_T_send (L := L) hc
            refine mr_goto ok 156 d_T_gotAccept_136 (by decide) ?_
            refine sx_vret ok en (Nat.le_refl _) (Nat.le_refl _) d_T_gotAccept_156 ?_
            exact ⟨rfl, (by first | rfl | simp only [s_T_gotAccept, if_pos h8_0, if_pos h32_1, if_neg h64_2, if_neg h81_3, if_neg h91_4])⟩
          · refine mr_aload_n ok (i := 0) d_T_gotAccept_94 rfl rfl ?_
            refine sx_getr ok hB fl_T_38 (tm_20 hb) rfl d_T_gotAccept_95 ?_
            refine mr_iload_n ok (i := 1) d_T_gotAccept_98 rfl rfl ?_
            refine rx_iald ok hB rfl (tm_32 hb) (ty_0 hb) rfl (lt5 hb hi) (by decide) d_T_gotAccept_99 ?_
            refine mr_iload_n ok (i := 3) d_T_gotAccept_100 rfl rfl ?_
            refine mr_icmp_eq ok 109 d_T_gotAccept_101 (by decide) (fun h101_5 => ?_) (fun h101_5 => ?_)
            · refine mr_aload_n ok (i := 0) d_T_gotAccept_109 rfl rfl ?_
              refine sx_getr ok hB fl_T_29 (tm_20 hb) rfl d_T_gotAccept_110 ?_
              refine mr_iload_n ok (i := 1) d_T_gotAccept_113 rfl rfl ?_
              refine mr_iload ok d_T_gotAccept_114 rfl ?_
              refine rx_iast ok hB rfl (tm_29 hb) (ty_0 hb) rfl (lt5 hb hi) (by decide) d_T_gotAccept_116 ?_
              refine mr_aload_n ok (i := 0) d_T_gotAccept_117 rfl rfl ?_
              refine sx_getr ok hB fl_T_26 (tm_20 hb) rfl d_T_gotAccept_118 ?_
              refine mr_iload_n ok (i := 1) d_T_gotAccept_121 rfl rfl ?_
              refine mr_iload_n ok (i := 3) d_T_gotAccept_122 rfl rfl ?_
              refine rx_iast ok hB rfl (tm_28 hb) (ty_0 hb) rfl (lt5 hb hi) (by decide) d_T_gotAccept_123 ?_
              refine mr_aload_n ok (i := 0) d_T_gotAccept_124 rfl rfl ?_
              refine mr_iconst ok 4 d_T_gotAccept_125 (by decide) ?_
              refine mr_iload_n ok (i := 1) d_T_gotAccept_126 rfl rfl ?_
              refine mr_iload_n ok (i := 2) d_T_gotAccept_127 rfl rfl ?_
              refine mr_iload_n ok (i := 3) d_T_gotAccept_128 rfl rfl ?_
              refine mr_iload ok d_T_gotAccept_129 rfl ?_
              refine mr_iconst ok 0 d_T_gotAccept_131 (by decide) ?_
              refine mr_iconst ok 0 d_T_gotAccept_132 (by decide) ?_
              refine sx_cVv ok hB [_, _, _, _, _, _, _] rfl cb_T_88 cv_T_send (tm_20 hb) rfl rfl (c_T_send hb (by exact hc.1)) rfl (Nat.le_of_ble_eq_true rfl) (by decide) ⟨Nat.le_refl _, Nat.le_refl _⟩ d_T_gotAccept_133 ?_
              have hc : rK N (s_T_send N L (sU (sU (sU r 27 0 i x2) 29 0 i x4) 28 0 i x2) 4 (nI i) x1 x2 x3 0 0) := rK_T_send (L := L) hc
              refine mr_goto ok 156 d_T_gotAccept_136 (by decide) ?_
              refine sx_vret ok en (Nat.le_refl _) (Nat.le_refl _) d_T_gotAccept_156 ?_
              exact ⟨rfl, (by first | rfl | simp only [s_T_gotAccept, if_pos h8_0, if_pos h32_1, if_neg h64_2, if_neg h81_3, if_pos h91_4, if_pos h101_5])⟩
            · refine mr_aload_n ok (i := 0) d_T_gotAccept_104 rfl rfl ?_
              refine mr_iload_n ok (i := 1) d_T_gotAccept_105 rfl rfl ?_
              refine sx_cVv ok hB [_] rfl cb_T_92 cv_T_follow (tm_20 hb) rfl rfl (c_T_follow hb hi) rfl (Nat.le_of_ble_eq_true rfl) (by decide) ⟨Nat.le_refl _, Nat.le_refl _⟩ d_T_gotAccept_106 ?_
              refine mr_aload_n ok (i := 0) d_T_gotAccept_109 rfl rfl ?_
              refine sx_getr ok hB fl_T_29 (tm_20 hb) rfl d_T_gotAccept_110 ?_
              refine mr_iload_n ok (i := 1) d_T_gotAccept_113 rfl rfl ?_
              refine mr_iload ok d_T_gotAccept_114 rfl ?_
              refine rx_iast ok hB rfl (tm_29 hb) (ty_0 hb) rfl (lt5 hb hi) (by decide) d_T_gotAccept_116 ?_
              refine mr_aload_n ok (i := 0) d_T_gotAccept_117 rfl rfl ?_
              refine sx_getr ok hB fl_T_26 (tm_20 hb) rfl d_T_gotAccept_118 ?_
              refine mr_iload_n ok (i := 1) d_T_gotAccept_121 rfl rfl ?_
              refine mr_iload_n ok (i := 3) d_T_gotAccept_122 rfl rfl ?_
              refine rx_iast ok hB rfl (tm_28 hb) (ty_0 hb) rfl (lt5 hb hi) (by decide) d_T_gotAccept_123 ?_
              refine mr_aload_n ok (i := 0) d_T_gotAccept_124 rfl rfl ?_
              refine mr_iconst ok 4 d_T_gotAccept_125 (by decide) ?_
              refine mr_iload_n ok (i := 1) d_T_gotAccept_126 rfl rfl ?_
              refine mr_iload_n ok (i := 2) d_T_gotAccept_127 rfl rfl ?_
              refine mr_iload_n ok (i := 3) d_T_gotAccept_128 rfl rfl ?_
              refine mr_iload ok d_T_gotAccept_129 rfl ?_
              refine mr_iconst ok 0 d_T_gotAccept_131 (by decide) ?_
              refine mr_iconst ok 0 d_T_gotAccept_132 (by decide) ?_
              refine sx_cVv ok hB [_, _, _, _, _, _, _] rfl cb_T_88 cv_T_send (tm_20 hb) rfl rfl (c_T_send hb (by exact hc.1)) rfl (Nat.le_of_ble_eq_true rfl) (by decide) ⟨Nat.le_refl _, Nat.le_refl _⟩ d_T_gotAccept_133 ?_
              have hc : rK N (s_T_send N L (sU (sU (s_T_follow N L (sU r 27 0 i x2) i) 29 0 i x4) 28 0 i x2) 4 (nI i) x1 x2 x3 0 0) := rK_T_send (L := L) hc
              refine mr_goto ok 156 d_T_gotAccept_136 (by decide) ?_
              refine sx_vret ok en (Nat.le_refl _) (Nat.le_refl _) d_T_gotAccept_156 ?_
              exact ⟨rfl, (by first | rfl | simp only [s_T_gotAccept, if_pos h8_0, if_pos h32_1, if_neg h64_2, if_neg h81_3, if_pos h91_4, if_neg h101_5])⟩
    · refine mr_aload_n ok (i := 0) d_T_gotAccept_35 rfl rfl ?_
      refine mr_bipush ok 6 d_T_gotAccept_36 (by decide) ?_
      refine mr_iload_n ok (i := 1) d_T_gotAccept_38 rfl rfl ?_
      refine mr_iload_n ok (i := 2) d_T_gotAccept_39 rfl rfl ?_
      refine mr_iconst ok 0 d_T_gotAccept_40 (by decide) ?_
      refine mr_aload_n ok (i := 0) d_T_gotAccept_41 rfl rfl ?_
      refine sx_getr ok hB fl_T_13 (tm_20 hb) rfl d_T_gotAccept_42 ?_
      refine mr_iload_n ok (i := 1) d_T_gotAccept_45 rfl rfl ?_
      refine rx_iald ok hB rfl (tm_24 hb) (ty_0 hb) rfl (lt5 hb hi) (by decide) d_T_gotAccept_46 ?_
      refine mr_iconst ok 1 d_T_gotAccept_47 (by decide) ?_
      refine mr_iadd ok d_T_gotAccept_48 ?_
      refine mr_iconst ok 0 d_T_gotAccept_49 (by decide) ?_
      refine mr_iconst ok 0 d_T_gotAccept_50 (by decide) ?_
      refine sx_cVv ok hB [_, _, _, _, _, _, _] rfl cb_T_88 cv_T_send (tm_20 hb) rfl rfl (c_T_send hb (by exact hc.1)) rfl (Nat.le_of_ble_eq_true rfl) (by decide) ⟨Nat.le_refl _, Nat.le_refl _⟩ d_T_gotAccept_51 ?_
      have hc : rK N (s_T_send N L r 6 (nI i) x1 0 ((r 24 0 i) + 1) 0 0) := rK_T_send (L := L) hc
      refine mr_goto ok 156 d_T_gotAccept_54 (by decide) ?_
      refine sx_vret ok en (Nat.le_refl _) (Nat.le_refl _) d_T_gotAccept_156 ?_
      exact ⟨rfl, (by first | rfl | simp only [s_T_gotAccept, if_pos h8_0, if_neg h32_1])⟩
  · refine mr_aload_n ok (i := 0) d_T_gotAccept_11 rfl rfl ?_
    refine mr_iload_n ok (i := 1) d_T_gotAccept_12 rfl rfl ?_
    refine mr_iload_n ok (i := 2) d_T_gotAccept_13 rfl rfl ?_
    refine mr_iload ok d_T_gotAccept_14 rfl ?_
    refine sx_cVv ok hB [_, _, _] rfl cb_T_104 cv_T_help (tm_20 hb) rfl rfl (c_T_help hb hi (by exact hc)) rfl (Nat.le_of_ble_eq_true rfl) (by decide) ⟨Nat.le_refl _, Nat.le_refl _⟩ d_T_gotAccept_16 ?_
    refine mr_goto ok 156 d_T_gotAccept_19 (by decide) ?_
    refine sx_vret ok en (Nat.le_refl _) (Nat.le_refl _) d_T_gotAccept_156 ?_
    exact ⟨rfl, (by first | rfl | simp only [s_T_gotAccept, if_neg h8_0])⟩
def s_T_gotAccepted (N L : Nat) (r : sh_S) (i : Nat) (x1 : Int32) (x2 : Int32) (x3 : Int32) : sh_S := (if (r 31 0 i) = 2 then (if (r 32 0 i) = x2 then (if (r 34 0 i) = 0 then r else (if x3 = ((r 24 0 i) + 1) then (if (((r 33 0 i) >>> (x1 &&& 31)) &&& 1) = 1 then r else (let r1 := sU r 33 0 i ((r 33 0 i) ||| (1 <<< (x1 &&& 31))); (if (2 * (v_T_count N L r1 (r1 33 0 i))) ≤ (nI N) then r1 else (let r2 := s_T_sendAll N L r1 5 (nI i) 0 x3 (r1 34 0 i); (let r3 := s_T_learn N L r2 i (r1 34 0 i); (let r4 := s_T_propose N L r3 i; r4)))))) else r)) else r) else r)
set_option maxHeartbeats 4000000 in
set_option maxRecDepth 100000 in
theorem c_T_gotAccepted {B : sh_B} {Z : mx_Z} {N L : Nat} {cI cR cZ : ClassId} (hb : wB B Z N L cI cR cZ) {c r : sh_S} {i : Nat} (hi : i < N) {x1 : Int32} {x2 : Int32} {x3 : Int32} (hc : rK N r) (hx : ∀ i, i < N → ¬ r 24 0 i + 1 < 0) : sc B Z y_T_gotAccepted b_T_gotAccepted 6 none (rmm 4 97) [.ref (B.2.1 20 0), .int (nI i), .int x1, .int x2, .int x3] (jn c r) (qe none (jn c (s_T_gotAccepted N L r i x1 x2 x3))) := by
  refine ct_of (by decide) (Nat.le_of_ble_eq_true rfl) (cat_of rfl) ?_
  intro X ok en _
  have hB := hb.1
  refine mr_lv [(0, .ref (B.2.1 20 0)), (1, .int (nI i)), (2, .int x1), (3, .int x2), (4, .int x3)] ⟨rfl, rfl, rfl, rfl, rfl, trivial⟩ ?_
  refine mr_aload_n ok (i := 0) d_T_gotAccepted_0 rfl rfl ?_
  refine sx_getr ok hB fl_T_35 (tm_20 hb) rfl d_T_gotAccepted_1 ?_
  refine mr_iload_n ok (i := 1) d_T_gotAccepted_4 rfl rfl ?_
  refine rx_iald ok hB rfl (tm_31 hb) (ty_0 hb) rfl (lt5 hb hi) (by decide) d_T_gotAccepted_5 ?_
  refine mr_iconst ok 2 d_T_gotAccepted_6 (by decide) ?_
  refine mr_icmp_ne ok 56 d_T_gotAccepted_7 (by decide) (fun h7_0 => ?_) (fun h7_0 => ?_)
  · refine sx_vret ok en (Nat.le_refl _) (Nat.le_refl _) d_T_gotAccepted_56 ?_
    exact ⟨rfl, (by first | rfl | simp only [s_T_gotAccepted, if_neg h7_0])⟩
  · refine mr_aload_n ok (i := 0) d_T_gotAccepted_10 rfl rfl ?_
    refine sx_getr ok hB fl_T_38 (tm_20 hb) rfl d_T_gotAccepted_11 ?_
    refine mr_iload_n ok (i := 1) d_T_gotAccepted_14 rfl rfl ?_
    refine rx_iald ok hB rfl (tm_32 hb) (ty_0 hb) rfl (lt5 hb hi) (by decide) d_T_gotAccepted_15 ?_
    refine mr_iload_n ok (i := 3) d_T_gotAccepted_16 rfl rfl ?_
    refine mr_icmp_ne ok 56 d_T_gotAccepted_17 (by decide) (fun h17_1 => ?_) (fun h17_1 => ?_)
    · refine sx_vret ok en (Nat.le_refl _) (Nat.le_refl _) d_T_gotAccepted_56 ?_
      exact ⟨rfl, (by first | rfl | simp only [s_T_gotAccepted, if_pos h7_0, if_neg h17_1])⟩
    · refine mr_aload_n ok (i := 0) d_T_gotAccepted_20 rfl rfl ?_
      refine sx_getr ok hB fl_T_44 (tm_20 hb) rfl d_T_gotAccepted_21 ?_
      refine mr_iload_n ok (i := 1) d_T_gotAccepted_24 rfl rfl ?_
      refine rx_iald ok hB rfl (tm_34 hb) (ty_0 hb) rfl (lt5 hb hi) (by decide) d_T_gotAccepted_25 ?_
      refine mr_if_eq ok 56 d_T_gotAccepted_26 (by decide) (fun h26_2 => ?_) (fun h26_2 => ?_)
      · refine sx_vret ok en (Nat.le_refl _) (Nat.le_refl _) d_T_gotAccepted_56 ?_
        exact ⟨rfl, (by first | rfl | simp only [s_T_gotAccepted, if_pos h7_0, if_pos h17_1, if_pos h26_2])⟩
      · refine mr_iload ok d_T_gotAccepted_29 rfl ?_
        refine mr_aload_n ok (i := 0) d_T_gotAccepted_31 rfl rfl ?_
        refine sx_getr ok hB fl_T_13 (tm_20 hb) rfl d_T_gotAccepted_32 ?_
        refine mr_iload_n ok (i := 1) d_T_gotAccepted_35 rfl rfl ?_
        refine rx_iald ok hB rfl (tm_24 hb) (ty_0 hb) rfl (lt5 hb hi) (by decide) d_T_gotAccepted_36 ?_
        refine mr_iconst ok 1 d_T_gotAccepted_37 (by decide) ?_
        refine mr_iadd ok d_T_gotAccepted_38 ?_
        refine mr_icmp_ne ok 56 d_T_gotAccepted_39 (by decide) (fun h39_3 => ?_) (fun h39_3 => ?_)
        · refine sx_vret ok en (Nat.le_refl _) (Nat.le_refl _) d_T_gotAccepted_56 ?_
          exact ⟨rfl, (by first | rfl | simp only [s_T_gotAccepted, if_pos h7_0, if_pos h17_1, if_neg h26_2, if_neg h39_3])⟩
        · refine mr_aload_n ok (i := 0) d_T_gotAccepted_42 rfl rfl ?_
          refine sx_getr ok hB fl_T_41 (tm_20 hb) rfl d_T_gotAccepted_43 ?_
          refine mr_iload_n ok (i := 1) d_T_gotAccepted_46 rfl rfl ?_
          refine rx_iald ok hB rfl (tm_33 hb) (ty_0 hb) rfl (lt5 hb hi) (by decide) d_T_gotAccepted_47 ?_
          refine mr_iload_n ok (i := 2) d_T_gotAccepted_48 rfl rfl ?_
          refine mr_ishr ok d_T_gotAccepted_49 ?_
          refine mr_iconst ok 1 d_T_gotAccepted_50 (by decide) ?_
          refine mr_iand ok d_T_gotAccepted_51 ?_
          refine mr_iconst ok 1 d_T_gotAccepted_52 (by decide) ?_
          refine mr_icmp_ne ok 57 d_T_gotAccepted_53 (by decide) (fun h53_4 => ?_) (fun h53_4 => ?_)
          · refine mr_aload_n ok (i := 0) d_T_gotAccepted_57 rfl rfl ?_
            refine sx_getr ok hB fl_T_41 (tm_20 hb) rfl d_T_gotAccepted_58 ?_
            refine mr_iload_n ok (i := 1) d_T_gotAccepted_61 rfl rfl ?_
            refine mr_dup2 ok d_T_gotAccepted_62 rfl rfl ?_
            refine rx_iald ok hB rfl (tm_33 hb) (ty_0 hb) rfl (lt5 hb hi) (by decide) d_T_gotAccepted_63 ?_
            refine mr_iconst ok 1 d_T_gotAccepted_64 (by decide) ?_
            refine mr_iload_n ok (i := 2) d_T_gotAccepted_65 rfl rfl ?_
            refine mr_ishl ok d_T_gotAccepted_66 ?_
            refine mr_ior ok d_T_gotAccepted_67 ?_
            refine rx_iast ok hB rfl (tm_33 hb) (ty_0 hb) rfl (lt5 hb hi) (by decide) d_T_gotAccepted_68 ?_
            refine mr_iconst ok 2 d_T_gotAccepted_69 (by decide) ?_
            refine mr_aload_n ok (i := 0) d_T_gotAccepted_70 rfl rfl ?_
            refine mr_aload_n ok (i := 0) d_T_gotAccepted_71 rfl rfl ?_
            refine sx_getr ok hB fl_T_41 (tm_20 hb) rfl d_T_gotAccepted_72 ?_
            refine mr_iload_n ok (i := 1) d_T_gotAccepted_75 rfl rfl ?_
            refine rx_iald ok hB rfl (tm_33 hb) (ty_0 hb) rfl (lt5 hb hi) (by decide) d_T_gotAccepted_76 ?_
            refine sx_cVi ok hB [_] rfl cb_T_108 cv_T_count (tm_20 hb) rfl rfl (c_T_count hb) rfl (Nat.le_of_ble_eq_true rfl) (by decide) ⟨Nat.le_refl _, Nat.le_refl _⟩ d_T_gotAccepted_77 ?_
            refine mr_imul ok d_T_gotAccepted_80 ?_
            refine mr_aload_n ok (i := 0) d_T_gotAccepted_81 rfl rfl ?_
            refine sx_getr ok hB fl_T_65 (tm_20 hb) rfl d_T_gotAccepted_82 ?_
            refine mr_icmp_le ok 119 d_T_gotAccepted_85 (by decide) (fun h85_5 => ?_) (fun h85_5 => ?_)
            · refine sx_vret ok en (Nat.le_refl _) (Nat.le_refl _) d_T_gotAccepted_119 ?_
              exact ⟨rfl, (by first | rfl | simp only [s_T_gotAccepted, if_pos h7_0, if_pos h17_1, if_neg h26_2, if_pos h39_3, if_neg h53_4, if_pos h85_5])⟩
            · refine mr_aload_n ok (i := 0) d_T_gotAccepted_88 rfl rfl ?_
              refine sx_getr ok hB fl_T_44 (tm_20 hb) rfl d_T_gotAccepted_89 ?_
              refine mr_iload_n ok (i := 1) d_T_gotAccepted_92 rfl rfl ?_
              refine rx_iald ok hB rfl (tm_34 hb) (ty_0 hb) rfl (lt5 hb hi) (by decide) d_T_gotAccepted_93 ?_
              refine mr_istore ok d_T_gotAccepted_94 (by decide) ?_
              refine mr_aload_n ok (i := 0) d_T_gotAccepted_96 rfl rfl ?_
              refine mr_iconst ok 5 d_T_gotAccepted_97 (by decide) ?_
              refine mr_iload_n ok (i := 1) d_T_gotAccepted_98 rfl rfl ?_
              refine mr_iconst ok 0 d_T_gotAccepted_99 (by decide) ?_
              refine mr_iload ok d_T_gotAccepted_100 rfl ?_
              refine mr_iload ok d_T_gotAccepted_102 rfl ?_
              refine sx_cVv ok hB [_, _, _, _, _] rfl cb_T_96 cv_T_sendAll (tm_20 hb) rfl rfl (c_T_sendAll hb (by exact hc)) rfl (Nat.le_of_ble_eq_true rfl) (by decide) ⟨Nat.le_refl _, Nat.le_refl _⟩ d_T_gotAccepted_104 ?_
              have hc : rK N (s_T_sendAll N L (sU r 33 0 i ((r 33 0 i) ||| (1 <<< (x1 &&& 31)))) 5 (nI i) 0 x3 ((sU r 33 0 i ((r 33 0 i) ||| (1 <<< (x1 &&& 31)))) 34 0 i)) := rK_T_sendAll (L := L) hc
              refine mr_aload_n ok (i := 0) d_T_gotAccepted_107 rfl rfl ?_
              refine mr_iload_n ok (i := 1) d_T_gotAccepted_108 rfl rfl ?_
              refine mr_iload ok d_T_gotAccepted_109 rfl ?_
              refine sx_cVv ok hB [_, _] rfl cb_T_115 cv_T_learn (tm_20 hb) rfl rfl (c_T_learn hb hi (by exact hc) (by exact x24_sendAll.symm ▸ hx i hi)) rfl (Nat.le_of_ble_eq_true rfl) (by decide) ⟨Nat.le_refl _, Nat.le_refl _⟩ d_T_gotAccepted_111 ?_
              have hc : rK N (s_T_learn N L (s_T_sendAll N L (sU r 33 0 i ((r 33 0 i) ||| (1 <<< (x1 &&& 31)))) 5 (nI i) 0 x3 ((sU r 33 0 i ((r 33 0 i) ||| (1 <<< (x1 &&& 31)))) 34 0 i)) i ((sU r 33 0 i ((r 33 0 i) ||| (1 <<< (x1 &&& 31)))) 34 0 i)) := rK_T_learn (L := L) hi (by exact x24_sendAll.symm ▸ hx i hi) hc
              refine mr_aload_n ok (i := 0) d_T_gotAccepted_114 rfl rfl ?_
              refine mr_iload_n ok (i := 1) d_T_gotAccepted_115 rfl rfl ?_
              refine sx_cVv ok hB [_] rfl cb_T_112 cv_T_propose (tm_20 hb) rfl rfl (c_T_propose hb hi (by exact hc)) rfl (Nat.le_of_ble_eq_true rfl) (by decide) ⟨Nat.le_refl _, Nat.le_refl _⟩ d_T_gotAccepted_116 ?_
              refine sx_vret ok en (Nat.le_refl _) (Nat.le_refl _) d_T_gotAccepted_119 ?_
              exact ⟨rfl, (by first | rfl | simp only [s_T_gotAccepted, if_pos h7_0, if_pos h17_1, if_neg h26_2, if_pos h39_3, if_neg h53_4, if_neg h85_5])⟩
          · refine sx_vret ok en (Nat.le_refl _) (Nat.le_refl _) d_T_gotAccepted_56 ?_
            exact ⟨rfl, (by first | rfl | simp only [s_T_gotAccepted, if_pos h7_0, if_pos h17_1, if_neg h26_2, if_pos h39_3, if_pos h53_4])⟩
def s_T_gotState (N L : Nat) (r : sh_S) (i : Nat) (x : Int32) (y : Int32) : sh_S := (if x ≤ (r 24 0 i) then r else (let r1 := sU r 24 0 i x; (let r2 := sU r1 25 0 i y; (let r3 := sU r2 26 0 i x; (let r4 := sU r3 29 0 i 0; (let r5 := sU r4 28 0 i 0; (let r6 := s_T_follow N L r5 i; r6)))))))
set_option maxHeartbeats 4000000 in
set_option maxRecDepth 100000 in
theorem c_T_gotState {B : sh_B} {Z : mx_Z} {N L : Nat} {cI cR cZ : ClassId} (hb : wB B Z N L cI cR cZ) {c r : sh_S} {i : Nat} (hi : i < N) {x : Int32} {y : Int32} (hc : rK N r) : sc B Z y_T_gotState b_T_gotState 4 none (rmm 1 21) [.ref (B.2.1 20 0), .int (nI i), .int x, .int y] (jn c r) (qe none (jn c (s_T_gotState N L r i x y))) := by
  refine ct_of (by decide) (Nat.le_of_ble_eq_true rfl) (cat_of rfl) ?_
  intro X ok en _
  have hB := hb.1
  refine mr_lv [(0, .ref (B.2.1 20 0)), (1, .int (nI i)), (2, .int x), (3, .int y)] ⟨rfl, rfl, rfl, rfl, trivial⟩ ?_
  refine mr_iload_n ok (i := 2) d_T_gotState_0 rfl rfl ?_
  refine mr_aload_n ok (i := 0) d_T_gotState_1 rfl rfl ?_
  refine sx_getr ok hB fl_T_13 (tm_20 hb) rfl d_T_gotState_2 ?_
  refine mr_iload_n ok (i := 1) d_T_gotState_5 rfl rfl ?_
  refine rx_iald ok hB rfl (tm_24 hb) (ty_0 hb) rfl (lt5 hb hi) (by decide) d_T_gotState_6 ?_
  refine mr_icmp_le ok 50 d_T_gotState_7 (by decide) (fun h7_0 => ?_) (fun h7_0 => ?_)
  · refine sx_vret ok en (Nat.le_refl _) (Nat.le_refl _) d_T_gotState_50 ?_
    exact ⟨rfl, (by first | rfl | simp only [s_T_gotState, if_pos h7_0])⟩
  · refine mr_aload_n ok (i := 0) d_T_gotState_10 rfl rfl ?_
    refine sx_getr ok hB fl_T_13 (tm_20 hb) rfl d_T_gotState_11 ?_
    refine mr_iload_n ok (i := 1) d_T_gotState_14 rfl rfl ?_
    refine mr_iload_n ok (i := 2) d_T_gotState_15 rfl rfl ?_
    refine rx_iast ok hB rfl (tm_24 hb) (ty_0 hb) rfl (lt5 hb hi) (by decide) d_T_gotState_16 ?_
    refine mr_aload_n ok (i := 0) d_T_gotState_17 rfl rfl ?_
    refine sx_getr ok hB fl_T_17 (tm_20 hb) rfl d_T_gotState_18 ?_
    refine mr_iload_n ok (i := 1) d_T_gotState_21 rfl rfl ?_
    refine mr_iload_n ok (i := 3) d_T_gotState_22 rfl rfl ?_
    refine rx_iast ok hB rfl (tm_25 hb) (ty_0 hb) rfl (lt5 hb hi) (by decide) d_T_gotState_23 ?_
    refine mr_aload_n ok (i := 0) d_T_gotState_24 rfl rfl ?_
    refine sx_getr ok hB fl_T_20 (tm_20 hb) rfl d_T_gotState_25 ?_
    refine mr_iload_n ok (i := 1) d_T_gotState_28 rfl rfl ?_
    refine mr_iload_n ok (i := 2) d_T_gotState_29 rfl rfl ?_
    refine rx_iast ok hB rfl (tm_26 hb) (ty_0 hb) rfl (lt5 hb hi) (by decide) d_T_gotState_30 ?_
    refine mr_aload_n ok (i := 0) d_T_gotState_31 rfl rfl ?_
    refine sx_getr ok hB fl_T_29 (tm_20 hb) rfl d_T_gotState_32 ?_
    refine mr_iload_n ok (i := 1) d_T_gotState_35 rfl rfl ?_
    refine mr_iconst ok 0 d_T_gotState_36 (by decide) ?_
    refine rx_iast ok hB rfl (tm_29 hb) (ty_0 hb) rfl (lt5 hb hi) (by decide) d_T_gotState_37 ?_
    refine mr_aload_n ok (i := 0) d_T_gotState_38 rfl rfl ?_
    refine sx_getr ok hB fl_T_26 (tm_20 hb) rfl d_T_gotState_39 ?_
    refine mr_iload_n ok (i := 1) d_T_gotState_42 rfl rfl ?_
    refine mr_iconst ok 0 d_T_gotState_43 (by decide) ?_
    refine rx_iast ok hB rfl (tm_28 hb) (ty_0 hb) rfl (lt5 hb hi) (by decide) d_T_gotState_44 ?_
    refine mr_aload_n ok (i := 0) d_T_gotState_45 rfl rfl ?_
    refine mr_iload_n ok (i := 1) d_T_gotState_46 rfl rfl ?_
    refine sx_cVv ok hB [_] rfl cb_T_92 cv_T_follow (tm_20 hb) rfl rfl (c_T_follow hb hi) rfl (Nat.le_of_ble_eq_true rfl) (by decide) ⟨Nat.le_refl _, Nat.le_refl _⟩ d_T_gotState_47 ?_
    refine sx_vret ok en (Nat.le_refl _) (Nat.le_refl _) d_T_gotState_50 ?_
    exact ⟨rfl, (by first | rfl | simp only [s_T_gotState, if_neg h7_0])⟩
def s_T_comes (N L : Nat) (r : sh_S) (i : Nat) (x1 : Int32) (x2 : Int32) (x4 : Int32) (x5 : Int32) (x6 : Int32) (x7 : Int32) : sh_S := (if x4 ≤ (r 37 0 i) then (let r1 := sU r 37 0 i (r 37 0 i); (if x1 = 1 then (let r2 := s_T_prepared N L r1 i x2 x4 x5; r2) else (if x1 = 2 then (let r3 := s_T_gotPromise N L r1 i x2 x4 x5 x6 x7; r3) else (if x1 = 3 then (let r4 := s_T_gotAccept N L r1 i x2 x4 x5 x6; r4) else (if x1 = 4 then (let r5 := s_T_gotAccepted N L r1 i x2 x4 x5; r5) else (if x1 = 5 then (if x5 = ((r1 24 0 i) + 1) then (let r7 := s_T_learn N L r1 i x6; r7) else (if x5 ≤ ((r1 24 0 i) + 1) then r1 else (let r6 := s_T_send N L r1 6 (nI i) x2 0 ((r1 24 0 i) + 1) 0 0; r6))) else (if x1 = 6 then (if (r1 24 0 i) < x5 then r1 else (let r8 := s_T_help N L r1 i x2 x5; r8)) else (if x1 = 7 then (if (r1 31 0 i) ≤ 0 then r1 else (if x4 ≤ (r1 32 0 i) then r1 else (let r9 := s_T_follow N L r1 i; r9))) else (let r10 := s_T_gotState N L r1 i x5 x6; r10))))))))) else (let r11 := sU r 37 0 i x4; (if x1 = 1 then (let r12 := s_T_prepared N L r11 i x2 x4 x5; r12) else (if x1 = 2 then (let r13 := s_T_gotPromise N L r11 i x2 x4 x5 x6 x7; r13) else (if x1 = 3 then (let r14 := s_T_gotAccept N L r11 i x2 x4 x5 x6; r14) else (if x1 = 4 then (let r15 := s_T_gotAccepted N L r11 i x2 x4 x5; r15) else (if x1 = 5 then (if x5 = ((r11 24 0 i) + 1) then (let r17 := s_T_learn N L r11 i x6; r17) else (if x5 ≤ ((r11 24 0 i) + 1) then r11 else (let r16 := s_T_send N L r11 6 (nI i) x2 0 ((r11 24 0 i) + 1) 0 0; r16))) else (if x1 = 6 then (if (r11 24 0 i) < x5 then r11 else (let r18 := s_T_help N L r11 i x2 x5; r18)) else (if x1 = 7 then (if (r11 31 0 i) ≤ 0 then r11 else (if x4 ≤ (r11 32 0 i) then r11 else (let r19 := s_T_follow N L r11 i; r19))) else (let r20 := s_T_gotState N L r11 i x5 x6; r20))))))))))
set_option maxHeartbeats 4000000 in
set_option maxRecDepth 100000 in
theorem c_T_comes {B : sh_B} {Z : mx_Z} {N L : Nat} {cI cR cZ : ClassId} (hb : wB B Z N L cI cR cZ) {c r : sh_S} {i : Nat} (hi : i < N) {x1 : Int32} {x2 : Int32} {x4 : Int32} {x5 : Int32} {x6 : Int32} {x7 : Int32} (hc : rK N r) (hx : ∀ i, i < N → ¬ r 24 0 i + 1 < 0) : sc B Z y_T_comes b_T_comes 8 none (rmm 5 123) [.ref (B.2.1 20 0), .int x1, .int x2, .int (nI i), .int x4, .int x5, .int x6, .int x7] (jn c r) (qe none (jn c (s_T_comes N L r i x1 x2 x4 x5 x6 x7))) := by
  refine ct_of (by decide) (Nat.le_of_ble_eq_true rfl) (cat_of rfl) ?_
  intro X ok en _
  have hB := hb.1
  refine mr_lv [(0, .ref (B.2.1 20 0)), (1, .int x1), (2, .int x2), (3, .int (nI i)), (4, .int x4), (5, .int x5), (6, .int x6), (7, .int x7)] ⟨rfl, rfl, rfl, rfl, rfl, rfl, rfl, rfl, trivial⟩ ?_
  refine mr_aload_n ok (i := 0) d_T_comes_0 rfl rfl ?_
  refine sx_getr ok hB fl_T_53 (tm_20 hb) rfl d_T_comes_1 ?_
  refine mr_iload_n ok (i := 3) d_T_comes_4 rfl rfl ?_
  refine mr_iload ok d_T_comes_5 rfl ?_
  refine mr_aload_n ok (i := 0) d_T_comes_7 rfl rfl ?_
  refine sx_getr ok hB fl_T_53 (tm_20 hb) rfl d_T_comes_8 ?_
  refine mr_iload_n ok (i := 3) d_T_comes_11 rfl rfl ?_
  refine rx_iald ok hB rfl (tm_37 hb) (ty_0 hb) rfl (lt5 hb hi) (by decide) d_T_comes_12 ?_
  refine mr_icmp_le ok 21 d_T_comes_13 (by decide) (fun h13_0 => ?_) (fun h13_0 => ?_)
  · refine mr_aload_n ok (i := 0) d_T_comes_21 rfl rfl ?_
    refine sx_getr ok hB fl_T_53 (tm_20 hb) rfl d_T_comes_22 ?_
    refine mr_iload_n ok (i := 3) d_T_comes_25 rfl rfl ?_
    refine rx_iald ok hB rfl (tm_37 hb) (ty_0 hb) rfl (lt5 hb hi) (by decide) d_T_comes_26 ?_
    refine rx_iast ok hB rfl (tm_37 hb) (ty_0 hb) rfl (lt5 hb hi) (by decide) d_T_comes_27 ?_
    refine mr_iload_n ok (i := 1) d_T_comes_28 rfl rfl ?_
    by_cases h29_1_1 : x1 = 1
    · refine mr_tableIn (off := 43) ok 72 d_T_comes_29 (by rw [h29_1_1]; decide) (by rw [h29_1_1]; decide) (by rw [h29_1_1]; decide) (by decide) ?_
      refine mr_aload_n ok (i := 0) d_T_comes_72 rfl rfl ?_
      refine mr_iload_n ok (i := 3) d_T_comes_73 rfl rfl ?_
      refine mr_iload_n ok (i := 2) d_T_comes_74 rfl rfl ?_
      refine mr_iload ok d_T_comes_75 rfl ?_
      refine mr_iload ok d_T_comes_77 rfl ?_
      refine sx_cVv ok hB [_, _, _, _] rfl cb_T_118 cv_T_prepared (tm_20 hb) rfl rfl (c_T_prepared hb hi (by exact hc)) rfl (Nat.le_of_ble_eq_true rfl) (by decide) ⟨Nat.le_refl _, Nat.le_refl _⟩ d_T_comes_79 ?_
      refine mr_goto ok 247 d_T_comes_82 (by decide) ?_
      refine sx_vret ok en (Nat.le_refl _) (Nat.le_refl _) d_T_comes_247 ?_
      exact ⟨rfl, (by first | rfl | simp only [s_T_comes, if_pos h13_0, if_pos h29_1_1])⟩
    by_cases h29_1_2 : x1 = 2
    · refine mr_tableIn (off := 56) ok 85 d_T_comes_29 (by rw [h29_1_2]; decide) (by rw [h29_1_2]; decide) (by rw [h29_1_2]; decide) (by decide) ?_
      refine mr_aload_n ok (i := 0) d_T_comes_85 rfl rfl ?_
      refine mr_iload_n ok (i := 3) d_T_comes_86 rfl rfl ?_
      refine mr_iload_n ok (i := 2) d_T_comes_87 rfl rfl ?_
      refine mr_iload ok d_T_comes_88 rfl ?_
      refine mr_iload ok d_T_comes_90 rfl ?_
      refine mr_iload ok d_T_comes_92 rfl ?_
      refine mr_iload ok d_T_comes_94 rfl ?_
      refine sx_cVv ok hB [_, _, _, _, _, _] rfl cb_T_122 cv_T_gotPromise (tm_20 hb) rfl rfl (c_T_gotPromise hb hi (by exact hc)) rfl (Nat.le_of_ble_eq_true rfl) (by decide) ⟨Nat.le_refl _, Nat.le_refl _⟩ d_T_comes_96 ?_
      refine mr_goto ok 247 d_T_comes_99 (by decide) ?_
      refine sx_vret ok en (Nat.le_refl _) (Nat.le_refl _) d_T_comes_247 ?_
      exact ⟨rfl, (by first | rfl | simp only [s_T_comes, if_pos h13_0, if_neg h29_1_1, if_pos h29_1_2])⟩
    by_cases h29_1_3 : x1 = 3
    · refine mr_tableIn (off := 73) ok 102 d_T_comes_29 (by rw [h29_1_3]; decide) (by rw [h29_1_3]; decide) (by rw [h29_1_3]; decide) (by decide) ?_
      refine mr_aload_n ok (i := 0) d_T_comes_102 rfl rfl ?_
      refine mr_iload_n ok (i := 3) d_T_comes_103 rfl rfl ?_
      refine mr_iload_n ok (i := 2) d_T_comes_104 rfl rfl ?_
      refine mr_iload ok d_T_comes_105 rfl ?_
      refine mr_iload ok d_T_comes_107 rfl ?_
      refine mr_iload ok d_T_comes_109 rfl ?_
      refine sx_cVv ok hB [_, _, _, _, _] rfl cb_T_126 cv_T_gotAccept (tm_20 hb) rfl rfl (c_T_gotAccept hb hi (by exact hc)) rfl (Nat.le_of_ble_eq_true rfl) (by decide) ⟨Nat.le_refl _, Nat.le_refl _⟩ d_T_comes_111 ?_
      refine mr_goto ok 247 d_T_comes_114 (by decide) ?_
      refine sx_vret ok en (Nat.le_refl _) (Nat.le_refl _) d_T_comes_247 ?_
      exact ⟨rfl, (by first | rfl | simp only [s_T_comes, if_pos h13_0, if_neg h29_1_1, if_neg h29_1_2, if_pos h29_1_3])⟩
    by_cases h29_1_4 : x1 = 4
    · refine mr_tableIn (off := 88) ok 117 d_T_comes_29 (by rw [h29_1_4]; decide) (by rw [h29_1_4]; decide) (by rw [h29_1_4]; decide) (by decide) ?_
      refine mr_aload_n ok (i := 0) d_T_comes_117 rfl rfl ?_
      refine mr_iload_n ok (i := 3) d_T_comes_118 rfl rfl ?_
      refine mr_iload_n ok (i := 2) d_T_comes_119 rfl rfl ?_
      refine mr_iload ok d_T_comes_120 rfl ?_
      refine mr_iload ok d_T_comes_122 rfl ?_
      refine sx_cVv ok hB [_, _, _, _] rfl cb_T_129 cv_T_gotAccepted (tm_20 hb) rfl rfl (c_T_gotAccepted hb hi (by exact hc) (by exact hx)) rfl (Nat.le_of_ble_eq_true rfl) (by decide) ⟨Nat.le_refl _, Nat.le_refl _⟩ d_T_comes_124 ?_
      refine mr_goto ok 247 d_T_comes_127 (by decide) ?_
      refine sx_vret ok en (Nat.le_refl _) (Nat.le_refl _) d_T_comes_247 ?_
      exact ⟨rfl, (by first | rfl | simp only [s_T_comes, if_pos h13_0, if_neg h29_1_1, if_neg h29_1_2, if_neg h29_1_3, if_pos h29_1_4])⟩
    by_cases h29_1_5 : x1 = 5
    · refine mr_tableIn (off := 101) ok 130 d_T_comes_29 (by rw [h29_1_5]; decide) (by rw [h29_1_5]; decide) (by rw [h29_1_5]; decide) (by decide) ?_
      refine mr_iload ok d_T_comes_130 rfl ?_
      refine mr_aload_n ok (i := 0) d_T_comes_132 rfl rfl ?_
      refine sx_getr ok hB fl_T_13 (tm_20 hb) rfl d_T_comes_133 ?_
      refine mr_iload_n ok (i := 3) d_T_comes_136 rfl rfl ?_
      refine rx_iald ok hB rfl (tm_24 hb) (ty_0 hb) rfl (lt5 hb hi) (by decide) d_T_comes_137 ?_
      refine mr_iconst ok 1 d_T_comes_138 (by decide) ?_
      refine mr_iadd ok d_T_comes_139 ?_
      refine mr_icmp_ne ok 153 d_T_comes_140 (by decide) (fun h140_6 => ?_) (fun h140_6 => ?_)
      · refine mr_iload ok d_T_comes_153 rfl ?_
        refine mr_aload_n ok (i := 0) d_T_comes_155 rfl rfl ?_
        refine sx_getr ok hB fl_T_13 (tm_20 hb) rfl d_T_comes_156 ?_
        refine mr_iload_n ok (i := 3) d_T_comes_159 rfl rfl ?_
        refine rx_iald ok hB rfl (tm_24 hb) (ty_0 hb) rfl (lt5 hb hi) (by decide) d_T_comes_160 ?_
        refine mr_iconst ok 1 d_T_comes_161 (by decide) ?_
        refine mr_iadd ok d_T_comes_162 ?_
        refine mr_icmp_le ok 247 d_T_comes_163 (by decide) (fun h163_7 => ?_) (fun h163_7 => ?_)
        · refine sx_vret ok en (Nat.le_refl _) (Nat.le_refl _) d_T_comes_247 ?_
          exact ⟨rfl, (by first | rfl | simp only [s_T_comes, if_pos h13_0, if_neg h29_1_1, if_neg h29_1_2, if_neg h29_1_3, if_neg h29_1_4, if_pos h29_1_5, if_neg h140_6, if_pos h163_7])⟩
        · refine mr_aload_n ok (i := 0) d_T_comes_166 rfl rfl ?_
          refine mr_bipush ok 6 d_T_comes_167 (by decide) ?_
          refine mr_iload_n ok (i := 3) d_T_comes_169 rfl rfl ?_
          refine mr_iload_n ok (i := 2) d_T_comes_170 rfl rfl ?_
          refine mr_iconst ok 0 d_T_comes_171 (by decide) ?_
          refine mr_aload_n ok (i := 0) d_T_comes_172 rfl rfl ?_
          refine sx_getr ok hB fl_T_13 (tm_20 hb) rfl d_T_comes_173 ?_
          refine mr_iload_n ok (i := 3) d_T_comes_176 rfl rfl ?_
          refine rx_iald ok hB rfl (tm_24 hb) (ty_0 hb) rfl (lt5 hb hi) (by decide) d_T_comes_177 ?_
          refine mr_iconst ok 1 d_T_comes_178 (by decide) ?_
          refine mr_iadd ok d_T_comes_179 ?_
          refine mr_iconst ok 0 d_T_comes_180 (by decide) ?_
          refine mr_iconst ok 0 d_T_comes_181 (by decide) ?_
          refine sx_cVv ok hB [_, _, _, _, _, _, _] rfl cb_T_88 cv_T_send (tm_20 hb) rfl rfl (c_T_send hb (by exact hc.1)) rfl (Nat.le_of_ble_eq_true rfl) (by decide) ⟨Nat.le_refl _, Nat.le_refl _⟩ d_T_comes_182 ?_
          have hc : rK N (s_T_send N L (sU r 37 0 i (r 37 0 i)) 6 (nI i) x2 0 (((sU r 37 0 i (r 37 0 i)) 24 0 i) + 1) 0 0) := rK_T_send (L := L) hc
          refine mr_goto ok 247 d_T_comes_185 (by decide) ?_
          refine sx_vret ok en (Nat.le_refl _) (Nat.le_refl _) d_T_comes_247 ?_
          exact ⟨rfl, (by first | rfl | simp only [s_T_comes, if_pos h13_0, if_neg h29_1_1, if_neg h29_1_2, if_neg h29_1_3, if_neg h29_1_4, if_pos h29_1_5, if_neg h140_6, if_neg h163_7])⟩
      · refine mr_aload_n ok (i := 0) d_T_comes_143 rfl rfl ?_
        refine mr_iload_n ok (i := 3) d_T_comes_144 rfl rfl ?_
        refine mr_iload ok d_T_comes_145 rfl ?_
        refine sx_cVv ok hB [_, _] rfl cb_T_115 cv_T_learn (tm_20 hb) rfl rfl (c_T_learn hb hi (by exact hc) (by exact hx i hi)) rfl (Nat.le_of_ble_eq_true rfl) (by decide) ⟨Nat.le_refl _, Nat.le_refl _⟩ d_T_comes_147 ?_
        have hc : rK N (s_T_learn N L (sU r 37 0 i (r 37 0 i)) i x6) := rK_T_learn (L := L) hi (by exact hx i hi) hc
        refine mr_goto ok 247 d_T_comes_150 (by decide) ?_
        refine sx_vret ok en (Nat.le_refl _) (Nat.le_refl _) d_T_comes_247 ?_
        exact ⟨rfl, (by first | rfl | simp only [s_T_comes, if_pos h13_0, if_neg h29_1_1, if_neg h29_1_2, if_neg h29_1_3, if_neg h29_1_4, if_pos h29_1_5, if_pos h140_6])⟩
    by_cases h29_1_6 : x1 = 6
    · refine mr_tableIn (off := 159) ok 188 d_T_comes_29 (by rw [h29_1_6]; decide) (by rw [h29_1_6]; decide) (by rw [h29_1_6]; decide) (by decide) ?_
      refine mr_iload ok d_T_comes_188 rfl ?_
      refine mr_aload_n ok (i := 0) d_T_comes_190 rfl rfl ?_
      refine sx_getr ok hB fl_T_13 (tm_20 hb) rfl d_T_comes_191 ?_
      refine mr_iload_n ok (i := 3) d_T_comes_194 rfl rfl ?_
      refine rx_iald ok hB rfl (tm_24 hb) (ty_0 hb) rfl (lt5 hb hi) (by decide) d_T_comes_195 ?_
      refine mr_icmp_gt ok 247 d_T_comes_196 (by decide) (fun h196_7 => ?_) (fun h196_7 => ?_)
      · refine sx_vret ok en (Nat.le_refl _) (Nat.le_refl _) d_T_comes_247 ?_
        exact ⟨rfl, (by first | rfl | simp only [s_T_comes, if_pos h13_0, if_neg h29_1_1, if_neg h29_1_2, if_neg h29_1_3, if_neg h29_1_4, if_neg h29_1_5, if_pos h29_1_6, if_pos h196_7])⟩
      · refine mr_aload_n ok (i := 0) d_T_comes_199 rfl rfl ?_
        refine mr_iload_n ok (i := 3) d_T_comes_200 rfl rfl ?_
        refine mr_iload_n ok (i := 2) d_T_comes_201 rfl rfl ?_
        refine mr_iload ok d_T_comes_202 rfl ?_
        refine sx_cVv ok hB [_, _, _] rfl cb_T_104 cv_T_help (tm_20 hb) rfl rfl (c_T_help hb hi (by exact hc)) rfl (Nat.le_of_ble_eq_true rfl) (by decide) ⟨Nat.le_refl _, Nat.le_refl _⟩ d_T_comes_204 ?_
        refine mr_goto ok 247 d_T_comes_207 (by decide) ?_
        refine sx_vret ok en (Nat.le_refl _) (Nat.le_refl _) d_T_comes_247 ?_
        exact ⟨rfl, (by first | rfl | simp only [s_T_comes, if_pos h13_0, if_neg h29_1_1, if_neg h29_1_2, if_neg h29_1_3, if_neg h29_1_4, if_neg h29_1_5, if_pos h29_1_6, if_neg h196_7])⟩
    by_cases h29_1_7 : x1 = 7
    · refine mr_tableIn (off := 181) ok 210 d_T_comes_29 (by rw [h29_1_7]; decide) (by rw [h29_1_7]; decide) (by rw [h29_1_7]; decide) (by decide) ?_
      refine mr_aload_n ok (i := 0) d_T_comes_210 rfl rfl ?_
      refine sx_getr ok hB fl_T_35 (tm_20 hb) rfl d_T_comes_211 ?_
      refine mr_iload_n ok (i := 3) d_T_comes_214 rfl rfl ?_
      refine rx_iald ok hB rfl (tm_31 hb) (ty_0 hb) rfl (lt5 hb hi) (by decide) d_T_comes_215 ?_
      refine mr_if_le ok 247 d_T_comes_216 (by decide) (fun h216_8 => ?_) (fun h216_8 => ?_)
      · refine sx_vret ok en (Nat.le_refl _) (Nat.le_refl _) d_T_comes_247 ?_
        exact ⟨rfl, (by first | rfl | simp only [s_T_comes, if_pos h13_0, if_neg h29_1_1, if_neg h29_1_2, if_neg h29_1_3, if_neg h29_1_4, if_neg h29_1_5, if_neg h29_1_6, if_pos h29_1_7, if_pos h216_8])⟩
      · refine mr_aload_n ok (i := 0) d_T_comes_219 rfl rfl ?_
        refine sx_getr ok hB fl_T_38 (tm_20 hb) rfl d_T_comes_220 ?_
        refine mr_iload_n ok (i := 3) d_T_comes_223 rfl rfl ?_
        refine rx_iald ok hB rfl (tm_32 hb) (ty_0 hb) rfl (lt5 hb hi) (by decide) d_T_comes_224 ?_
        refine mr_iload ok d_T_comes_225 rfl ?_
        refine mr_icmp_ge ok 247 d_T_comes_227 (by decide) (fun h227_9 => ?_) (fun h227_9 => ?_)
        · refine sx_vret ok en (Nat.le_refl _) (Nat.le_refl _) d_T_comes_247 ?_
          exact ⟨rfl, (by first | rfl | simp only [s_T_comes, if_pos h13_0, if_neg h29_1_1, if_neg h29_1_2, if_neg h29_1_3, if_neg h29_1_4, if_neg h29_1_5, if_neg h29_1_6, if_pos h29_1_7, if_neg h216_8, if_pos h227_9])⟩
        · refine mr_aload_n ok (i := 0) d_T_comes_230 rfl rfl ?_
          refine mr_iload_n ok (i := 3) d_T_comes_231 rfl rfl ?_
          refine sx_cVv ok hB [_] rfl cb_T_92 cv_T_follow (tm_20 hb) rfl rfl (c_T_follow hb hi) rfl (Nat.le_of_ble_eq_true rfl) (by decide) ⟨Nat.le_refl _, Nat.le_refl _⟩ d_T_comes_232 ?_
          refine mr_goto ok 247 d_T_comes_235 (by decide) ?_
          refine sx_vret ok en (Nat.le_refl _) (Nat.le_refl _) d_T_comes_247 ?_
          exact ⟨rfl, (by first | rfl | simp only [s_T_comes, if_pos h13_0, if_neg h29_1_1, if_neg h29_1_2, if_neg h29_1_3, if_neg h29_1_4, if_neg h29_1_5, if_neg h29_1_6, if_pos h29_1_7, if_neg h216_8, if_neg h227_9])⟩
    have th29_1_1 := lv_neT h29_1_1 (a := 1) (by decide)
    have th29_1_2 := lv_neT h29_1_2 (a := 2) (by decide)
    have th29_1_3 := lv_neT h29_1_3 (a := 3) (by decide)
    have th29_1_4 := lv_neT h29_1_4 (a := 4) (by decide)
    have th29_1_5 := lv_neT h29_1_5 (a := 5) (by decide)
    have th29_1_6 := lv_neT h29_1_6 (a := 6) (by decide)
    have th29_1_7 := lv_neT h29_1_7 (a := 7) (by decide)
    refine mr_tableOut ok 238 d_T_comes_29 (by omega) (by decide) ?_
    refine mr_aload_n ok (i := 0) d_T_comes_238 rfl rfl ?_
    refine mr_iload_n ok (i := 3) d_T_comes_239 rfl rfl ?_
    refine mr_iload ok d_T_comes_240 rfl ?_
    refine mr_iload ok d_T_comes_242 rfl ?_
    refine sx_cVv ok hB [_, _, _] rfl cb_T_132 cv_T_gotState (tm_20 hb) rfl rfl (c_T_gotState hb hi (by exact hc)) rfl (Nat.le_of_ble_eq_true rfl) (by decide) ⟨Nat.le_refl _, Nat.le_refl _⟩ d_T_comes_244 ?_
    refine sx_vret ok en (Nat.le_refl _) (Nat.le_refl _) d_T_comes_247 ?_
    exact ⟨rfl, (by first | rfl | simp only [s_T_comes, if_pos h13_0, if_neg h29_1_1, if_neg h29_1_2, if_neg h29_1_3, if_neg h29_1_4, if_neg h29_1_5, if_neg h29_1_6, if_neg h29_1_7])⟩
  · refine mr_iload ok d_T_comes_16 rfl ?_
    refine mr_goto ok 27 d_T_comes_18 (by decide) ?_
    refine rx_iast ok hB rfl (tm_37 hb) (ty_0 hb) rfl (lt5 hb hi) (by decide) d_T_comes_27 ?_
    refine mr_iload_n ok (i := 1) d_T_comes_28 rfl rfl ?_
    by_cases h29_1_1 : x1 = 1
    · refine mr_tableIn (off := 43) ok 72 d_T_comes_29 (by rw [h29_1_1]; decide) (by rw [h29_1_1]; decide) (by rw [h29_1_1]; decide) (by decide) ?_
      refine mr_aload_n ok (i := 0) d_T_comes_72 rfl rfl ?_
      refine mr_iload_n ok (i := 3) d_T_comes_73 rfl rfl ?_
      refine mr_iload_n ok (i := 2) d_T_comes_74 rfl rfl ?_
      refine mr_iload ok d_T_comes_75 rfl ?_
      refine mr_iload ok d_T_comes_77 rfl ?_
      refine sx_cVv ok hB [_, _, _, _] rfl cb_T_118 cv_T_prepared (tm_20 hb) rfl rfl (c_T_prepared hb hi (by exact hc)) rfl (Nat.le_of_ble_eq_true rfl) (by decide) ⟨Nat.le_refl _, Nat.le_refl _⟩ d_T_comes_79 ?_
      refine mr_goto ok 247 d_T_comes_82 (by decide) ?_
      refine sx_vret ok en (Nat.le_refl _) (Nat.le_refl _) d_T_comes_247 ?_
      exact ⟨rfl, (by first | rfl | simp only [s_T_comes, if_neg h13_0, if_pos h29_1_1])⟩
    by_cases h29_1_2 : x1 = 2
    · refine mr_tableIn (off := 56) ok 85 d_T_comes_29 (by rw [h29_1_2]; decide) (by rw [h29_1_2]; decide) (by rw [h29_1_2]; decide) (by decide) ?_
      refine mr_aload_n ok (i := 0) d_T_comes_85 rfl rfl ?_
      refine mr_iload_n ok (i := 3) d_T_comes_86 rfl rfl ?_
      refine mr_iload_n ok (i := 2) d_T_comes_87 rfl rfl ?_
      refine mr_iload ok d_T_comes_88 rfl ?_
      refine mr_iload ok d_T_comes_90 rfl ?_
      refine mr_iload ok d_T_comes_92 rfl ?_
      refine mr_iload ok d_T_comes_94 rfl ?_
      refine sx_cVv ok hB [_, _, _, _, _, _] rfl cb_T_122 cv_T_gotPromise (tm_20 hb) rfl rfl (c_T_gotPromise hb hi (by exact hc)) rfl (Nat.le_of_ble_eq_true rfl) (by decide) ⟨Nat.le_refl _, Nat.le_refl _⟩ d_T_comes_96 ?_
      refine mr_goto ok 247 d_T_comes_99 (by decide) ?_
      refine sx_vret ok en (Nat.le_refl _) (Nat.le_refl _) d_T_comes_247 ?_
      exact ⟨rfl, (by first | rfl | simp only [s_T_comes, if_neg h13_0, if_neg h29_1_1, if_pos h29_1_2])⟩
    by_cases h29_1_3 : x1 = 3
    · refine mr_tableIn (off := 73) ok 102 d_T_comes_29 (by rw [h29_1_3]; decide) (by rw [h29_1_3]; decide) (by rw [h29_1_3]; decide) (by decide) ?_
      refine mr_aload_n ok (i := 0) d_T_comes_102 rfl rfl ?_
      refine mr_iload_n ok (i := 3) d_T_comes_103 rfl rfl ?_
      refine mr_iload_n ok (i := 2) d_T_comes_104 rfl rfl ?_
      refine mr_iload ok d_T_comes_105 rfl ?_
      refine mr_iload ok d_T_comes_107 rfl ?_
      refine mr_iload ok d_T_comes_109 rfl ?_
      refine sx_cVv ok hB [_, _, _, _, _] rfl cb_T_126 cv_T_gotAccept (tm_20 hb) rfl rfl (c_T_gotAccept hb hi (by exact hc)) rfl (Nat.le_of_ble_eq_true rfl) (by decide) ⟨Nat.le_refl _, Nat.le_refl _⟩ d_T_comes_111 ?_
      refine mr_goto ok 247 d_T_comes_114 (by decide) ?_
      refine sx_vret ok en (Nat.le_refl _) (Nat.le_refl _) d_T_comes_247 ?_
      exact ⟨rfl, (by first | rfl | simp only [s_T_comes, if_neg h13_0, if_neg h29_1_1, if_neg h29_1_2, if_pos h29_1_3])⟩
    by_cases h29_1_4 : x1 = 4
    · refine mr_tableIn (off := 88) ok 117 d_T_comes_29 (by rw [h29_1_4]; decide) (by rw [h29_1_4]; decide) (by rw [h29_1_4]; decide) (by decide) ?_
      refine mr_aload_n ok (i := 0) d_T_comes_117 rfl rfl ?_
      refine mr_iload_n ok (i := 3) d_T_comes_118 rfl rfl ?_
      refine mr_iload_n ok (i := 2) d_T_comes_119 rfl rfl ?_
      refine mr_iload ok d_T_comes_120 rfl ?_
      refine mr_iload ok d_T_comes_122 rfl ?_
      refine sx_cVv ok hB [_, _, _, _] rfl cb_T_129 cv_T_gotAccepted (tm_20 hb) rfl rfl (c_T_gotAccepted hb hi (by exact hc) (by exact hx)) rfl (Nat.le_of_ble_eq_true rfl) (by decide) ⟨Nat.le_refl _, Nat.le_refl _⟩ d_T_comes_124 ?_
      refine mr_goto ok 247 d_T_comes_127 (by decide) ?_
      refine sx_vret ok en (Nat.le_refl _) (Nat.le_refl _) d_T_comes_247 ?_
      exact ⟨rfl, (by first | rfl | simp only [s_T_comes, if_neg h13_0, if_neg h29_1_1, if_neg h29_1_2, if_neg h29_1_3, if_pos h29_1_4])⟩
    by_cases h29_1_5 : x1 = 5
    · refine mr_tableIn (off := 101) ok 130 d_T_comes_29 (by rw [h29_1_5]; decide) (by rw [h29_1_5]; decide) (by rw [h29_1_5]; decide) (by decide) ?_
      refine mr_iload ok d_T_comes_130 rfl ?_
      refine mr_aload_n ok (i := 0) d_T_comes_132 rfl rfl ?_
      refine sx_getr ok hB fl_T_13 (tm_20 hb) rfl d_T_comes_133 ?_
      refine mr_iload_n ok (i := 3) d_T_comes_136 rfl rfl ?_
      refine rx_iald ok hB rfl (tm_24 hb) (ty_0 hb) rfl (lt5 hb hi) (by decide) d_T_comes_137 ?_
      refine mr_iconst ok 1 d_T_comes_138 (by decide) ?_
      refine mr_iadd ok d_T_comes_139 ?_
      refine mr_icmp_ne ok 153 d_T_comes_140 (by decide) (fun h140_6 => ?_) (fun h140_6 => ?_)
      · refine mr_iload ok d_T_comes_153 rfl ?_
        refine mr_aload_n ok (i := 0) d_T_comes_155 rfl rfl ?_
        refine sx_getr ok hB fl_T_13 (tm_20 hb) rfl d_T_comes_156 ?_
        refine mr_iload_n ok (i := 3) d_T_comes_159 rfl rfl ?_
        refine rx_iald ok hB rfl (tm_24 hb) (ty_0 hb) rfl (lt5 hb hi) (by decide) d_T_comes_160 ?_
        refine mr_iconst ok 1 d_T_comes_161 (by decide) ?_
        refine mr_iadd ok d_T_comes_162 ?_
        refine mr_icmp_le ok 247 d_T_comes_163 (by decide) (fun h163_7 => ?_) (fun h163_7 => ?_)
        · refine sx_vret ok en (Nat.le_refl _) (Nat.le_refl _) d_T_comes_247 ?_
          exact ⟨rfl, (by first | rfl | simp only [s_T_comes, if_neg h13_0, if_neg h29_1_1, if_neg h29_1_2, if_neg h29_1_3, if_neg h29_1_4, if_pos h29_1_5, if_neg h140_6, if_pos h163_7])⟩
        · refine mr_aload_n ok (i := 0) d_T_comes_166 rfl rfl ?_
          refine mr_bipush ok 6 d_T_comes_167 (by decide) ?_
          refine mr_iload_n ok (i := 3) d_T_comes_169 rfl rfl ?_
          refine mr_iload_n ok (i := 2) d_T_comes_170 rfl rfl ?_
          refine mr_iconst ok 0 d_T_comes_171 (by decide) ?_
          refine mr_aload_n ok (i := 0) d_T_comes_172 rfl rfl ?_
          refine sx_getr ok hB fl_T_13 (tm_20 hb) rfl d_T_comes_173 ?_
          refine mr_iload_n ok (i := 3) d_T_comes_176 rfl rfl ?_
          refine rx_iald ok hB rfl (tm_24 hb) (ty_0 hb) rfl (lt5 hb hi) (by decide) d_T_comes_177 ?_
          refine mr_iconst ok 1 d_T_comes_178 (by decide) ?_
          refine mr_iadd ok d_T_comes_179 ?_
          refine mr_iconst ok 0 d_T_comes_180 (by decide) ?_
          refine mr_iconst ok 0 d_T_comes_181 (by decide) ?_
          refine sx_cVv ok hB [_, _, _, _, _, _, _] rfl cb_T_88 cv_T_send (tm_20 hb) rfl rfl (c_T_send hb (by exact hc.1)) rfl (Nat.le_of_ble_eq_true rfl) (by decide) ⟨Nat.le_refl _, Nat.le_refl _⟩ d_T_comes_182 ?_
          have hc : rK N (s_T_send N L (sU r 37 0 i x4) 6 (nI i) x2 0 (((sU r 37 0 i x4) 24 0 i) + 1) 0 0) := rK_T_send (L := L) hc
          refine mr_goto ok 247 d_T_comes_185 (by decide) ?_
          refine sx_vret ok en (Nat.le_refl _) (Nat.le_refl _) d_T_comes_247 ?_
          exact ⟨rfl, (by first | rfl | simp only [s_T_comes, if_neg h13_0, if_neg h29_1_1, if_neg h29_1_2, if_neg h29_1_3, if_neg h29_1_4, if_pos h29_1_5, if_neg h140_6, if_neg h163_7])⟩
      · refine mr_aload_n ok (i := 0) d_T_comes_143 rfl rfl ?_
        refine mr_iload_n ok (i := 3) d_T_comes_144 rfl rfl ?_
        refine mr_iload ok d_T_comes_145 rfl ?_
        refine sx_cVv ok hB [_, _] rfl cb_T_115 cv_T_learn (tm_20 hb) rfl rfl (c_T_learn hb hi (by exact hc) (by exact hx i hi)) rfl (Nat.le_of_ble_eq_true rfl) (by decide) ⟨Nat.le_refl _, Nat.le_refl _⟩ d_T_comes_147 ?_
        have hc : rK N (s_T_learn N L (sU r 37 0 i x4) i x6) := rK_T_learn (L := L) hi (by exact hx i hi) hc
        refine mr_goto ok 247 d_T_comes_150 (by decide) ?_
        refine sx_vret ok en (Nat.le_refl _) (Nat.le_refl _) d_T_comes_247 ?_
        exact ⟨rfl, (by first | rfl | simp only [s_T_comes, if_neg h13_0, if_neg h29_1_1, if_neg h29_1_2, if_neg h29_1_3, if_neg h29_1_4, if_pos h29_1_5, if_pos h140_6])⟩
    by_cases h29_1_6 : x1 = 6
    · refine mr_tableIn (off := 159) ok 188 d_T_comes_29 (by rw [h29_1_6]; decide) (by rw [h29_1_6]; decide) (by rw [h29_1_6]; decide) (by decide) ?_
      refine mr_iload ok d_T_comes_188 rfl ?_
      refine mr_aload_n ok (i := 0) d_T_comes_190 rfl rfl ?_
      refine sx_getr ok hB fl_T_13 (tm_20 hb) rfl d_T_comes_191 ?_
      refine mr_iload_n ok (i := 3) d_T_comes_194 rfl rfl ?_
      refine rx_iald ok hB rfl (tm_24 hb) (ty_0 hb) rfl (lt5 hb hi) (by decide) d_T_comes_195 ?_
      refine mr_icmp_gt ok 247 d_T_comes_196 (by decide) (fun h196_7 => ?_) (fun h196_7 => ?_)
      · refine sx_vret ok en (Nat.le_refl _) (Nat.le_refl _) d_T_comes_247 ?_
        exact ⟨rfl, (by first | rfl | simp only [s_T_comes, if_neg h13_0, if_neg h29_1_1, if_neg h29_1_2, if_neg h29_1_3, if_neg h29_1_4, if_neg h29_1_5, if_pos h29_1_6, if_pos h196_7])⟩
      · refine mr_aload_n ok (i := 0) d_T_comes_199 rfl rfl ?_
        refine mr_iload_n ok (i := 3) d_T_comes_200 rfl rfl ?_
        refine mr_iload_n ok (i := 2) d_T_comes_201 rfl rfl ?_
        refine mr_iload ok d_T_comes_202 rfl ?_
        refine sx_cVv ok hB [_, _, _] rfl cb_T_104 cv_T_help (tm_20 hb) rfl rfl (c_T_help hb hi (by exact hc)) rfl (Nat.le_of_ble_eq_true rfl) (by decide) ⟨Nat.le_refl _, Nat.le_refl _⟩ d_T_comes_204 ?_
        refine mr_goto ok 247 d_T_comes_207 (by decide) ?_
        refine sx_vret ok en (Nat.le_refl _) (Nat.le_refl _) d_T_comes_247 ?_
        exact ⟨rfl, (by first | rfl | simp only [s_T_comes, if_neg h13_0, if_neg h29_1_1, if_neg h29_1_2, if_neg h29_1_3, if_neg h29_1_4, if_neg h29_1_5, if_pos h29_1_6, if_neg h196_7])⟩
    by_cases h29_1_7 : x1 = 7
    · refine mr_tableIn (off := 181) ok 210 d_T_comes_29 (by rw [h29_1_7]; decide) (by rw [h29_1_7]; decide) (by rw [h29_1_7]; decide) (by decide) ?_
      refine mr_aload_n ok (i := 0) d_T_comes_210 rfl rfl ?_
      refine sx_getr ok hB fl_T_35 (tm_20 hb) rfl d_T_comes_211 ?_
      refine mr_iload_n ok (i := 3) d_T_comes_214 rfl rfl ?_
      refine rx_iald ok hB rfl (tm_31 hb) (ty_0 hb) rfl (lt5 hb hi) (by decide) d_T_comes_215 ?_
      refine mr_if_le ok 247 d_T_comes_216 (by decide) (fun h216_8 => ?_) (fun h216_8 => ?_)
      · refine sx_vret ok en (Nat.le_refl _) (Nat.le_refl _) d_T_comes_247 ?_
        exact ⟨rfl, (by first | rfl | simp only [s_T_comes, if_neg h13_0, if_neg h29_1_1, if_neg h29_1_2, if_neg h29_1_3, if_neg h29_1_4, if_neg h29_1_5, if_neg h29_1_6, if_pos h29_1_7, if_pos h216_8])⟩
      · refine mr_aload_n ok (i := 0) d_T_comes_219 rfl rfl ?_
        refine sx_getr ok hB fl_T_38 (tm_20 hb) rfl d_T_comes_220 ?_
        refine mr_iload_n ok (i := 3) d_T_comes_223 rfl rfl ?_
        refine rx_iald ok hB rfl (tm_32 hb) (ty_0 hb) rfl (lt5 hb hi) (by decide) d_T_comes_224 ?_
        refine mr_iload ok d_T_comes_225 rfl ?_
        refine mr_icmp_ge ok 247 d_T_comes_227 (by decide) (fun h227_9 => ?_) (fun h227_9 => ?_)
        · refine sx_vret ok en (Nat.le_refl _) (Nat.le_refl _) d_T_comes_247 ?_
          exact ⟨rfl, (by first | rfl | simp only [s_T_comes, if_neg h13_0, if_neg h29_1_1, if_neg h29_1_2, if_neg h29_1_3, if_neg h29_1_4, if_neg h29_1_5, if_neg h29_1_6, if_pos h29_1_7, if_neg h216_8, if_pos h227_9])⟩
        · refine mr_aload_n ok (i := 0) d_T_comes_230 rfl rfl ?_
          refine mr_iload_n ok (i := 3) d_T_comes_231 rfl rfl ?_
          refine sx_cVv ok hB [_] rfl cb_T_92 cv_T_follow (tm_20 hb) rfl rfl (c_T_follow hb hi) rfl (Nat.le_of_ble_eq_true rfl) (by decide) ⟨Nat.le_refl _, Nat.le_refl _⟩ d_T_comes_232 ?_
          refine mr_goto ok 247 d_T_comes_235 (by decide) ?_
          refine sx_vret ok en (Nat.le_refl _) (Nat.le_refl _) d_T_comes_247 ?_
          exact ⟨rfl, (by first | rfl | simp only [s_T_comes, if_neg h13_0, if_neg h29_1_1, if_neg h29_1_2, if_neg h29_1_3, if_neg h29_1_4, if_neg h29_1_5, if_neg h29_1_6, if_pos h29_1_7, if_neg h216_8, if_neg h227_9])⟩
    have th29_1_1 := lv_neT h29_1_1 (a := 1) (by decide)
    have th29_1_2 := lv_neT h29_1_2 (a := 2) (by decide)
    have th29_1_3 := lv_neT h29_1_3 (a := 3) (by decide)
    have th29_1_4 := lv_neT h29_1_4 (a := 4) (by decide)
    have th29_1_5 := lv_neT h29_1_5 (a := 5) (by decide)
    have th29_1_6 := lv_neT h29_1_6 (a := 6) (by decide)
    have th29_1_7 := lv_neT h29_1_7 (a := 7) (by decide)
    refine mr_tableOut ok 238 d_T_comes_29 (by omega) (by decide) ?_
    refine mr_aload_n ok (i := 0) d_T_comes_238 rfl rfl ?_
    refine mr_iload_n ok (i := 3) d_T_comes_239 rfl rfl ?_
    refine mr_iload ok d_T_comes_240 rfl ?_
    refine mr_iload ok d_T_comes_242 rfl ?_
    refine sx_cVv ok hB [_, _, _] rfl cb_T_132 cv_T_gotState (tm_20 hb) rfl rfl (c_T_gotState hb hi (by exact hc)) rfl (Nat.le_of_ble_eq_true rfl) (by decide) ⟨Nat.le_refl _, Nat.le_refl _⟩ d_T_comes_244 ?_
    refine sx_vret ok en (Nat.le_refl _) (Nat.le_refl _) d_T_comes_247 ?_
    exact ⟨rfl, (by first | rfl | simp only [s_T_comes, if_neg h13_0, if_neg h29_1_1, if_neg h29_1_2, if_neg h29_1_3, if_neg h29_1_4, if_neg h29_1_5, if_neg h29_1_6, if_neg h29_1_7])⟩
end
