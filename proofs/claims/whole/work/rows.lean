section
def lw_okq (q : MethodName × Nat) : Prop := (q.1.cls ≠ "java/lang/invoke/MethodHandle" ∧ q.1.cls ≠ "java/lang/invoke/VarHandle") ∧ Cond.instantiable q.1.cls q.2 ∈ tables_1 ∧ Cond.privateMethod q.1 ∈ tables_1 ∧ Cond.instanceMethod q.1 ∈ tables_1
theorem lw_p0 : lw_okq (⟨"DeadlineElevator", "take", "(IIII)I"⟩, 11) := ⟨⟨by decide +kernel, by decide +kernel⟩, List.mem_of_getElem? (i := 10) (by decide +kernel), List.mem_of_getElem? (i := 167) (by decide +kernel), List.mem_of_getElem? (i := 168) (by decide +kernel)⟩
theorem lw_p1 : lw_okq (⟨"DeadlineElevator", "hostFor", "(III)I"⟩, 11) := ⟨⟨by decide +kernel, by decide +kernel⟩, List.mem_of_getElem? (i := 10) (by decide +kernel), List.mem_of_getElem? (i := 174) (by decide +kernel), List.mem_of_getElem? (i := 175) (by decide +kernel)⟩
theorem lw_p2 : lw_okq (⟨"DeadlineElevator", "claimAllWaiting", "()V"⟩, 11) := ⟨⟨by decide +kernel, by decide +kernel⟩, List.mem_of_getElem? (i := 10) (by decide +kernel), List.mem_of_getElem? (i := 178) (by decide +kernel), List.mem_of_getElem? (i := 179) (by decide +kernel)⟩
theorem lw_p3 : lw_okq (⟨"DeadlineElevator$Claims", "clear", "()V"⟩, 2) := ⟨⟨by decide +kernel, by decide +kernel⟩, List.mem_of_getElem? (i := 97) (by decide +kernel), List.mem_of_getElem? (i := 182) (by decide +kernel), List.mem_of_getElem? (i := 183) (by decide +kernel)⟩
theorem lw_p4 : lw_okq (⟨"DeadlineElevator$Parts", "sectors", "(I)J"⟩, 7) := ⟨⟨by decide +kernel, by decide +kernel⟩, List.mem_of_getElem? (i := 18) (by decide +kernel), List.mem_of_getElem? (i := 186) (by decide +kernel), List.mem_of_getElem? (i := 187) (by decide +kernel)⟩
theorem lw_p5 : lw_okq (⟨"DeadlineElevator$Claims", "add", "(IJ)V"⟩, 2) := ⟨⟨by decide +kernel, by decide +kernel⟩, List.mem_of_getElem? (i := 97) (by decide +kernel), List.mem_of_getElem? (i := 193) (by decide +kernel), List.mem_of_getElem? (i := 194) (by decide +kernel)⟩
theorem lw_p6 : lw_okq (⟨"DeadlineElevator$Claims", "conflictWith", "(IJ)Z"⟩, 2) := ⟨⟨by decide +kernel, by decide +kernel⟩, List.mem_of_getElem? (i := 97) (by decide +kernel), List.mem_of_getElem? (i := 198) (by decide +kernel), List.mem_of_getElem? (i := 199) (by decide +kernel)⟩
theorem lw_p7 : lw_okq (⟨"DeadlineElevator$Requests", "neighbourOf", "(IIII)I"⟩, 9) := ⟨⟨by decide +kernel, by decide +kernel⟩, List.mem_of_getElem? (i := 54) (by decide +kernel), List.mem_of_getElem? (i := 202) (by decide +kernel), List.mem_of_getElem? (i := 203) (by decide +kernel)⟩
theorem lw_p8 : lw_okq (⟨"DeadlineElevator$Requests", "hasRoom", "(II)Z"⟩, 9) := ⟨⟨by decide +kernel, by decide +kernel⟩, List.mem_of_getElem? (i := 54) (by decide +kernel), List.mem_of_getElem? (i := 206) (by decide +kernel), List.mem_of_getElem? (i := 207) (by decide +kernel)⟩
theorem lw_p9 : lw_okq (⟨"DeadlineElevator$Requests", "end", "(I)I"⟩, 9) := ⟨⟨by decide +kernel, by decide +kernel⟩, List.mem_of_getElem? (i := 54) (by decide +kernel), List.mem_of_getElem? (i := 210) (by decide +kernel), List.mem_of_getElem? (i := 211) (by decide +kernel)⟩
theorem lw_p10 : lw_okq (⟨"DeadlineElevator$Parts", "add", "(IIII)I"⟩, 7) := ⟨⟨by decide +kernel, by decide +kernel⟩, List.mem_of_getElem? (i := 18) (by decide +kernel), List.mem_of_getElem? (i := 214) (by decide +kernel), List.mem_of_getElem? (i := 215) (by decide +kernel)⟩
theorem lw_p11 : lw_okq (⟨"DeadlineElevator$Requests", "open", "(IIIIII)V"⟩, 9) := ⟨⟨by decide +kernel, by decide +kernel⟩, List.mem_of_getElem? (i := 54) (by decide +kernel), List.mem_of_getElem? (i := 218) (by decide +kernel), List.mem_of_getElem? (i := 219) (by decide +kernel)⟩
theorem lw_p12 : lw_okq (⟨"DeadlineElevator$Requests", "extend", "(III)V"⟩, 9) := ⟨⟨by decide +kernel, by decide +kernel⟩, List.mem_of_getElem? (i := 54) (by decide +kernel), List.mem_of_getElem? (i := 222) (by decide +kernel), List.mem_of_getElem? (i := 223) (by decide +kernel)⟩
theorem lw_p13 : lw_okq (⟨"DeadlineElevator", "markReady", "()V"⟩, 11) := ⟨⟨by decide +kernel, by decide +kernel⟩, List.mem_of_getElem? (i := 10) (by decide +kernel), List.mem_of_getElem? (i := 253) (by decide +kernel), List.mem_of_getElem? (i := 254) (by decide +kernel)⟩
theorem lw_p14 : lw_okq (⟨"DeadlineElevator$Requests", "markLeastGroup", "()V"⟩, 9) := ⟨⟨by decide +kernel, by decide +kernel⟩, List.mem_of_getElem? (i := 54) (by decide +kernel), List.mem_of_getElem? (i := 257) (by decide +kernel), List.mem_of_getElem? (i := 258) (by decide +kernel)⟩
theorem lw_p15 : lw_okq (⟨"DeadlineElevator", "pick", "()I"⟩, 11) := ⟨⟨by decide +kernel, by decide +kernel⟩, List.mem_of_getElem? (i := 10) (by decide +kernel), List.mem_of_getElem? (i := 261) (by decide +kernel), List.mem_of_getElem? (i := 262) (by decide +kernel)⟩
def lw_privs_1 : List (MethodName × Nat) := [(⟨"DeadlineElevator", "take", "(IIII)I"⟩, 11), (⟨"DeadlineElevator", "hostFor", "(III)I"⟩, 11), (⟨"DeadlineElevator", "claimAllWaiting", "()V"⟩, 11), (⟨"DeadlineElevator$Claims", "clear", "()V"⟩, 2), (⟨"DeadlineElevator$Parts", "sectors", "(I)J"⟩, 7), (⟨"DeadlineElevator$Claims", "add", "(IJ)V"⟩, 2), (⟨"DeadlineElevator$Claims", "conflictWith", "(IJ)Z"⟩, 2), (⟨"DeadlineElevator$Requests", "neighbourOf", "(IIII)I"⟩, 9), (⟨"DeadlineElevator$Requests", "hasRoom", "(II)Z"⟩, 9), (⟨"DeadlineElevator$Requests", "end", "(I)I"⟩, 9), (⟨"DeadlineElevator$Parts", "add", "(IIII)I"⟩, 7), (⟨"DeadlineElevator$Requests", "open", "(IIIIII)V"⟩, 9), (⟨"DeadlineElevator$Requests", "extend", "(III)V"⟩, 9), (⟨"DeadlineElevator", "markReady", "()V"⟩, 11), (⟨"DeadlineElevator$Requests", "markLeastGroup", "()V"⟩, 9), (⟨"DeadlineElevator", "pick", "()I"⟩, 11)]
theorem lw_r1 : ∀ q ∈ lw_privs_1, lw_okq q := List.forall_mem_cons.mpr ⟨lw_p0, List.forall_mem_cons.mpr ⟨lw_p1, List.forall_mem_cons.mpr ⟨lw_p2, List.forall_mem_cons.mpr ⟨lw_p3, List.forall_mem_cons.mpr ⟨lw_p4, List.forall_mem_cons.mpr ⟨lw_p5, List.forall_mem_cons.mpr ⟨lw_p6, List.forall_mem_cons.mpr ⟨lw_p7, List.forall_mem_cons.mpr ⟨lw_p8, List.forall_mem_cons.mpr ⟨lw_p9, List.forall_mem_cons.mpr ⟨lw_p10, List.forall_mem_cons.mpr ⟨lw_p11, List.forall_mem_cons.mpr ⟨lw_p12, List.forall_mem_cons.mpr ⟨lw_p13, List.forall_mem_cons.mpr ⟨lw_p14, List.forall_mem_cons.mpr ⟨lw_p15, fun _ h => absurd h List.not_mem_nil⟩⟩⟩⟩⟩⟩⟩⟩⟩⟩⟩⟩⟩⟩⟩⟩
theorem lw_p16 : lw_okq (⟨"DeadlineElevator$Batch", "mayGoOn", "()Z"⟩, 3) := ⟨⟨by decide +kernel, by decide +kernel⟩, List.mem_of_getElem? (i := 110) (by decide +kernel), List.mem_of_getElem? (i := 265) (by decide +kernel), List.mem_of_getElem? (i := 266) (by decide +kernel)⟩
theorem lw_p17 : lw_okq (⟨"DeadlineElevator$Requests", "leastStart", "(II)I"⟩, 9) := ⟨⟨by decide +kernel, by decide +kernel⟩, List.mem_of_getElem? (i := 54) (by decide +kernel), List.mem_of_getElem? (i := 269) (by decide +kernel), List.mem_of_getElem? (i := 270) (by decide +kernel)⟩
theorem lw_p18 : lw_okq (⟨"DeadlineElevator$Requests", "isReady", "(II)Z"⟩, 9) := ⟨⟨by decide +kernel, by decide +kernel⟩, List.mem_of_getElem? (i := 54) (by decide +kernel), List.mem_of_getElem? (i := 273) (by decide +kernel), List.mem_of_getElem? (i := 274) (by decide +kernel)⟩
theorem lw_p19 : lw_okq (⟨"DeadlineElevator$Requests", "hasReady", "(I)Z"⟩, 9) := ⟨⟨by decide +kernel, by decide +kernel⟩, List.mem_of_getElem? (i := 54) (by decide +kernel), List.mem_of_getElem? (i := 277) (by decide +kernel), List.mem_of_getElem? (i := 278) (by decide +kernel)⟩
theorem lw_p20 : lw_okq (⟨"DeadlineElevator$Batch", "begin", "(ZZ)V"⟩, 3) := ⟨⟨by decide +kernel, by decide +kernel⟩, List.mem_of_getElem? (i := 110) (by decide +kernel), List.mem_of_getElem? (i := 282) (by decide +kernel), List.mem_of_getElem? (i := 283) (by decide +kernel)⟩
theorem lw_p21 : lw_okq (⟨"DeadlineElevator", "firstOfBatch", "(I)I"⟩, 11) := ⟨⟨by decide +kernel, by decide +kernel⟩, List.mem_of_getElem? (i := 10) (by decide +kernel), List.mem_of_getElem? (i := 286) (by decide +kernel), List.mem_of_getElem? (i := 287) (by decide +kernel)⟩
theorem lw_p22 : lw_okq (⟨"DeadlineElevator$Requests", "leastExpired", "(II)I"⟩, 9) := ⟨⟨by decide +kernel, by decide +kernel⟩, List.mem_of_getElem? (i := 54) (by decide +kernel), List.mem_of_getElem? (i := 290) (by decide +kernel), List.mem_of_getElem? (i := 291) (by decide +kernel)⟩
theorem lw_p23 : lw_okq (⟨"DeadlineElevator", "carryOut", "(I)V"⟩, 11) := ⟨⟨by decide +kernel, by decide +kernel⟩, List.mem_of_getElem? (i := 10) (by decide +kernel), List.mem_of_getElem? (i := 294) (by decide +kernel), List.mem_of_getElem? (i := 295) (by decide +kernel)⟩
theorem lw_p24 : lw_okq (⟨"DeadlineElevator$Parts", "carryOut", "(I[I)V"⟩, 7) := ⟨⟨by decide +kernel, by decide +kernel⟩, List.mem_of_getElem? (i := 18) (by decide +kernel), List.mem_of_getElem? (i := 298) (by decide +kernel), List.mem_of_getElem? (i := 299) (by decide +kernel)⟩
theorem lw_p25 : lw_okq (⟨"DeadlineElevator$Requests", "remove", "(I)V"⟩, 9) := ⟨⟨by decide +kernel, by decide +kernel⟩, List.mem_of_getElem? (i := 54) (by decide +kernel), List.mem_of_getElem? (i := 305) (by decide +kernel), List.mem_of_getElem? (i := 306) (by decide +kernel)⟩
theorem lw_p26 : lw_okq (⟨"DeadlineElevator$Parts", "has", "(I)Z"⟩, 7) := ⟨⟨by decide +kernel, by decide +kernel⟩, List.mem_of_getElem? (i := 18) (by decide +kernel), List.mem_of_getElem? (i := 314) (by decide +kernel), List.mem_of_getElem? (i := 315) (by decide +kernel)⟩
theorem lw_p27 : lw_okq (⟨"DeadlineElevator$Parts", "isWaiting", "(I)Z"⟩, 7) := ⟨⟨by decide +kernel, by decide +kernel⟩, List.mem_of_getElem? (i := 18) (by decide +kernel), List.mem_of_getElem? (i := 339) (by decide +kernel), List.mem_of_getElem? (i := 340) (by decide +kernel)⟩
theorem lw_p28 : lw_okq (⟨"DeadlineElevatorModel", "come", "(IIII)I"⟩, 19) := ⟨⟨by decide +kernel, by decide +kernel⟩, List.mem_of_getElem? (i := 364) (by decide +kernel), List.mem_of_getElem? (i := 432) (by decide +kernel), List.mem_of_getElem? (i := 433) (by decide +kernel)⟩
theorem lw_p29 : lw_okq (⟨"DeadlineElevatorModel", "waits", "(I)Z"⟩, 19) := ⟨⟨by decide +kernel, by decide +kernel⟩, List.mem_of_getElem? (i := 364) (by decide +kernel), List.mem_of_getElem? (i := 440) (by decide +kernel), List.mem_of_getElem? (i := 441) (by decide +kernel)⟩
theorem lw_p30 : lw_okq (⟨"DeadlineElevatorModel", "joined", "(I)I"⟩, 19) := ⟨⟨by decide +kernel, by decide +kernel⟩, List.mem_of_getElem? (i := 364) (by decide +kernel), List.mem_of_getElem? (i := 444) (by decide +kernel), List.mem_of_getElem? (i := 445) (by decide +kernel)⟩
theorem lw_p31 : lw_okq (⟨"DeadlineElevatorModel", "conflict", "(II)Z"⟩, 19) := ⟨⟨by decide +kernel, by decide +kernel⟩, List.mem_of_getElem? (i := 364) (by decide +kernel), List.mem_of_getElem? (i := 448) (by decide +kernel), List.mem_of_getElem? (i := 449) (by decide +kernel)⟩
def lw_privs_2 : List (MethodName × Nat) := [(⟨"DeadlineElevator$Batch", "mayGoOn", "()Z"⟩, 3), (⟨"DeadlineElevator$Requests", "leastStart", "(II)I"⟩, 9), (⟨"DeadlineElevator$Requests", "isReady", "(II)Z"⟩, 9), (⟨"DeadlineElevator$Requests", "hasReady", "(I)Z"⟩, 9), (⟨"DeadlineElevator$Batch", "begin", "(ZZ)V"⟩, 3), (⟨"DeadlineElevator", "firstOfBatch", "(I)I"⟩, 11), (⟨"DeadlineElevator$Requests", "leastExpired", "(II)I"⟩, 9), (⟨"DeadlineElevator", "carryOut", "(I)V"⟩, 11), (⟨"DeadlineElevator$Parts", "carryOut", "(I[I)V"⟩, 7), (⟨"DeadlineElevator$Requests", "remove", "(I)V"⟩, 9), (⟨"DeadlineElevator$Parts", "has", "(I)Z"⟩, 7), (⟨"DeadlineElevator$Parts", "isWaiting", "(I)Z"⟩, 7), (⟨"DeadlineElevatorModel", "come", "(IIII)I"⟩, 19), (⟨"DeadlineElevatorModel", "waits", "(I)Z"⟩, 19), (⟨"DeadlineElevatorModel", "joined", "(I)I"⟩, 19), (⟨"DeadlineElevatorModel", "conflict", "(II)Z"⟩, 19)]
theorem lw_r2 : ∀ q ∈ lw_privs_2, lw_okq q := List.forall_mem_cons.mpr ⟨lw_p16, List.forall_mem_cons.mpr ⟨lw_p17, List.forall_mem_cons.mpr ⟨lw_p18, List.forall_mem_cons.mpr ⟨lw_p19, List.forall_mem_cons.mpr ⟨lw_p20, List.forall_mem_cons.mpr ⟨lw_p21, List.forall_mem_cons.mpr ⟨lw_p22, List.forall_mem_cons.mpr ⟨lw_p23, List.forall_mem_cons.mpr ⟨lw_p24, List.forall_mem_cons.mpr ⟨lw_p25, List.forall_mem_cons.mpr ⟨lw_p26, List.forall_mem_cons.mpr ⟨lw_p27, List.forall_mem_cons.mpr ⟨lw_p28, List.forall_mem_cons.mpr ⟨lw_p29, List.forall_mem_cons.mpr ⟨lw_p30, List.forall_mem_cons.mpr ⟨lw_p31, fun _ h => absurd h List.not_mem_nil⟩⟩⟩⟩⟩⟩⟩⟩⟩⟩⟩⟩⟩⟩⟩⟩
theorem lw_p32 : lw_okq (⟨"DeadlineElevatorModel", "members", "(I)I"⟩, 19) := ⟨⟨by decide +kernel, by decide +kernel⟩, List.mem_of_getElem? (i := 364) (by decide +kernel), List.mem_of_getElem? (i := 452) (by decide +kernel), List.mem_of_getElem? (i := 453) (by decide +kernel)⟩
theorem lw_p33 : lw_okq (⟨"DeadlineElevatorModel", "length", "(I)I"⟩, 19) := ⟨⟨by decide +kernel, by decide +kernel⟩, List.mem_of_getElem? (i := 364) (by decide +kernel), List.mem_of_getElem? (i := 456) (by decide +kernel), List.mem_of_getElem? (i := 457) (by decide +kernel)⟩
theorem lw_p34 : lw_okq (⟨"DeadlineElevatorModel", "start", "(I)I"⟩, 19) := ⟨⟨by decide +kernel, by decide +kernel⟩, List.mem_of_getElem? (i := 364) (by decide +kernel), List.mem_of_getElem? (i := 460) (by decide +kernel), List.mem_of_getElem? (i := 461) (by decide +kernel)⟩
theorem lw_p35 : lw_okq (⟨"DeadlineElevatorModel", "sweep", "(II)I"⟩, 19) := ⟨⟨by decide +kernel, by decide +kernel⟩, List.mem_of_getElem? (i := 364) (by decide +kernel), List.mem_of_getElem? (i := 485) (by decide +kernel), List.mem_of_getElem? (i := 486) (by decide +kernel)⟩
theorem lw_p36 : lw_okq (⟨"DeadlineElevatorModel", "isReady", "(I)Z"⟩, 19) := ⟨⟨by decide +kernel, by decide +kernel⟩, List.mem_of_getElem? (i := 364) (by decide +kernel), List.mem_of_getElem? (i := 489) (by decide +kernel), List.mem_of_getElem? (i := 490) (by decide +kernel)⟩
theorem lw_p37 : lw_okq (⟨"DeadlineElevatorModel", "fresh", "()I"⟩, 19) := ⟨⟨by decide +kernel, by decide +kernel⟩, List.mem_of_getElem? (i := 364) (by decide +kernel), List.mem_of_getElem? (i := 493) (by decide +kernel), List.mem_of_getElem? (i := 494) (by decide +kernel)⟩
theorem lw_p38 : lw_okq (⟨"DeadlineElevatorModel", "late", "(I)I"⟩, 19) := ⟨⟨by decide +kernel, by decide +kernel⟩, List.mem_of_getElem? (i := 364) (by decide +kernel), List.mem_of_getElem? (i := 501) (by decide +kernel), List.mem_of_getElem? (i := 502) (by decide +kernel)⟩
theorem lw_p39 : lw_okq (⟨"DeadlineElevatorModel", "carryOut", "(I)V"⟩, 19) := ⟨⟨by decide +kernel, by decide +kernel⟩, List.mem_of_getElem? (i := 364) (by decide +kernel), List.mem_of_getElem? (i := 505) (by decide +kernel), List.mem_of_getElem? (i := 506) (by decide +kernel)⟩
theorem lw_p40 : lw_okq (⟨"DeadlineElevatorModel", "isPart", "(I)Z"⟩, 19) := ⟨⟨by decide +kernel, by decide +kernel⟩, List.mem_of_getElem? (i := 364) (by decide +kernel), List.mem_of_getElem? (i := 513) (by decide +kernel), List.mem_of_getElem? (i := 514) (by decide +kernel)⟩
def lw_privs_3 : List (MethodName × Nat) := [(⟨"DeadlineElevatorModel", "members", "(I)I"⟩, 19), (⟨"DeadlineElevatorModel", "length", "(I)I"⟩, 19), (⟨"DeadlineElevatorModel", "start", "(I)I"⟩, 19), (⟨"DeadlineElevatorModel", "sweep", "(II)I"⟩, 19), (⟨"DeadlineElevatorModel", "isReady", "(I)Z"⟩, 19), (⟨"DeadlineElevatorModel", "fresh", "()I"⟩, 19), (⟨"DeadlineElevatorModel", "late", "(I)I"⟩, 19), (⟨"DeadlineElevatorModel", "carryOut", "(I)V"⟩, 19), (⟨"DeadlineElevatorModel", "isPart", "(I)Z"⟩, 19)]
theorem lw_r3 : ∀ q ∈ lw_privs_3, lw_okq q := List.forall_mem_cons.mpr ⟨lw_p32, List.forall_mem_cons.mpr ⟨lw_p33, List.forall_mem_cons.mpr ⟨lw_p34, List.forall_mem_cons.mpr ⟨lw_p35, List.forall_mem_cons.mpr ⟨lw_p36, List.forall_mem_cons.mpr ⟨lw_p37, List.forall_mem_cons.mpr ⟨lw_p38, List.forall_mem_cons.mpr ⟨lw_p39, List.forall_mem_cons.mpr ⟨lw_p40, fun _ h => absurd h List.not_mem_nil⟩⟩⟩⟩⟩⟩⟩⟩⟩
def lw_privs : List (MethodName × Nat) := lw_privs_1 ++ (lw_privs_2 ++ (lw_privs_3))
def lw_tbl : List Cond := k2_sels lw_privs ++ tables_1
theorem lw_privs_ok : ∀ q ∈ lw_privs, lw_okq q := by
  show ∀ q ∈ lw_privs_1 ++ (lw_privs_2 ++ (lw_privs_3)), lw_okq q
  exact List.forall_mem_append.mpr ⟨lw_r1, List.forall_mem_append.mpr ⟨lw_r2, lw_r3⟩⟩
-- the tables' words that calls may pay with, and the links of nest mates
def TB : List Cond := lw_tbl.filter goodWord
theorem tb_of (i : Nat) {w : Cond} (h : tables_1[i]? = some w) (hg : goodWord w = true) : w ∈ TB :=
  List.mem_filter.mpr ⟨List.mem_append_right _ (List.mem_of_getElem? h), hg⟩
theorem ts_of (i : Nat) {w : Cond} (h : (k2_sels lw_privs)[i]? = some w) (hg : goodWord w = true) : w ∈ TB :=
  List.mem_filter.mpr ⟨List.mem_append_left _ (List.mem_of_getElem? h), hg⟩
theorem good_TB : GoodIn TB TB := fun w h => ⟨h, good_of_word (List.mem_filter.mp h).2⟩
theorem good_of {w : Cond} (h : w ∈ TB) : GoodIn TB (w :: TB) := fun v hv => (List.mem_cons.mp hv).elim (fun e => e ▸ good_TB w h) (fun hv => good_TB v hv)
def isNest_ : Cond → Bool
  | .fieldLinkNest _ _ _ _ _ _ => true
  | .methodLinkNest _ _ _ _ => true
  | _ => false
def NB : List Cond := tables_1.filter isNest_
theorem tn_of (i : Nat) {w : Cond} (h : tables_1[i]? = some w) (hg : isNest_ w = true) : w ∈ NB :=
  List.mem_filter.mpr ⟨List.mem_of_getElem? h, hg⟩
def NW (U : State) : Prop := ∀ w ∈ NB, va_Nw w U
theorem nest_tables {w : Cond} (h : isNest_ w = true) : w.onTables = true := by
  cases w <;> first | rfl | (simp [isNest_] at h)
theorem NW_warm {s U : State} (hW : s.WarmedH U.vm) (h : NW s) : NW U := by
  intro w hw
  have hn : isNest_ w = true := (List.mem_filter.mp hw).2
  have h1 := h w hw
  cases w <;> first | exact va_Nw.warmF hW h1 | exact va_Nw.warmM hW h1 | (simp [isNest_] at hn)
theorem NW_same {u U : State} (h : u.vm = U.vm) (hZ : NW u) : NW U := fun w hw => va_Nw.same (nest_tables (List.mem_filter.mp hw).2) h (hZ w hw)
end
section
abbrev R_B : String := "DeadlineElevator$Batch"
def F_B : u_T := fun k => match k with
  | 0 => ("DeadlineElevator$Batch", "way", "I", false)
  | 1 => ("DeadlineElevator$Batch", "count", "I", false)
  | _ => ("DeadlineElevator$Batch", "starved", "I", false)
def t_B : Nat → FieldType := fun k => match k with
  | 0 => .int
  | 1 => .int
  | _ => .int
theorem n_B : ∀ a, a < 3 → ∀ b, b < 3 → a ≠ b → (F_B a).2.1 ≠ (F_B b).2.1 := by decide +kernel
theorem t_B_ok : ∀ k, k < 3 → parseFieldDescriptor (F_B k).2.2.1 = some (t_B k) := by decide +kernel
theorem in_B : ∀ w ∈ u_ws R_B F_B 3, w ∈ TB := by
  intro w hw
  obtain ⟨k, hk, rfl⟩ := List.mem_map.mp hw
  have hk : k < 3 := List.mem_range.mp hk
  rcases (show k = 0 ∨ k = 1 ∨ k = 2 by omega) with rfl | rfl | rfl
  · exact tb_of 121 (by decide +kernel) (by decide +kernel)
  · exact tb_of 123 (by decide +kernel) (by decide +kernel)
  · exact tb_of 125 (by decide +kernel) (by decide +kernel)
abbrev R_C : String := "DeadlineElevator$Claims"
def F_C : u_T := fun k => match k with
  | 0 => ("DeadlineElevator$Claims", "beingRead", "J", false)
  | _ => ("DeadlineElevator$Claims", "beingWritten", "J", false)
def t_C : Nat → FieldType := fun k => match k with
  | 0 => .long
  | _ => .long
theorem n_C : ∀ a, a < 2 → ∀ b, b < 2 → a ≠ b → (F_C a).2.1 ≠ (F_C b).2.1 := by decide +kernel
theorem t_C_ok : ∀ k, k < 2 → parseFieldDescriptor (F_C k).2.2.1 = some (t_C k) := by decide +kernel
theorem in_C : ∀ w ∈ u_ws R_C F_C 2, w ∈ TB := by
  intro w hw
  obtain ⟨k, hk, rfl⟩ := List.mem_map.mp hw
  have hk : k < 2 := List.mem_range.mp hk
  rcases (show k = 0 ∨ k = 1 by omega) with rfl | rfl
  · exact tb_of 104 (by decide +kernel) (by decide +kernel)
  · exact tb_of 106 (by decide +kernel) (by decide +kernel)
abbrev R_P : String := "DeadlineElevator$Parts"
def F_P : u_T := fun k => match k with
  | 0 => ("DeadlineElevator$Parts", "way", "[I", true)
  | 1 => ("DeadlineElevator$Parts", "start", "[I", true)
  | 2 => ("DeadlineElevator$Parts", "length", "[I", true)
  | 3 => ("DeadlineElevator$Parts", "request", "[I", true)
  | 4 => ("DeadlineElevator$Parts", "done", "[Z", true)
  | 5 => ("DeadlineElevator$Parts", "data", "[I", true)
  | _ => ("DeadlineElevator$Parts", "count", "I", false)
def t_P : Nat → FieldType := fun k => match k with
  | 0 => .array .int
  | 1 => .array .int
  | 2 => .array .int
  | 3 => .array .int
  | 4 => .array .boolean
  | 5 => .array .int
  | _ => .int
theorem n_P : ∀ a, a < 7 → ∀ b, b < 7 → a ≠ b → (F_P a).2.1 ≠ (F_P b).2.1 := by decide +kernel
theorem t_P_ok : ∀ k, k < 7 → parseFieldDescriptor (F_P k).2.2.1 = some (t_P k) := by decide +kernel
theorem in_P : ∀ w ∈ u_ws R_P F_P 7, w ∈ TB := by
  intro w hw
  obtain ⟨k, hk, rfl⟩ := List.mem_map.mp hw
  have hk : k < 7 := List.mem_range.mp hk
  rcases (show k = 0 ∨ k = 1 ∨ k = 2 ∨ k = 3 ∨ k = 4 ∨ k = 5 ∨ k = 6 by omega) with rfl | rfl | rfl | rfl | rfl | rfl | rfl
  · exact tb_of 36 (by decide +kernel) (by decide +kernel)
  · exact tb_of 38 (by decide +kernel) (by decide +kernel)
  · exact tb_of 40 (by decide +kernel) (by decide +kernel)
  · exact tb_of 42 (by decide +kernel) (by decide +kernel)
  · exact tb_of 44 (by decide +kernel) (by decide +kernel)
  · exact tb_of 46 (by decide +kernel) (by decide +kernel)
  · exact tb_of 48 (by decide +kernel) (by decide +kernel)
abbrev R_R : String := "DeadlineElevator$Requests"
def F_R : u_T := fun k => match k with
  | 0 => ("DeadlineElevator$Requests", "way", "[I", true)
  | 1 => ("DeadlineElevator$Requests", "start", "[I", true)
  | 2 => ("DeadlineElevator$Requests", "length", "[I", true)
  | 3 => ("DeadlineElevator$Requests", "parts", "[I", true)
  | 4 => ("DeadlineElevator$Requests", "deadline", "[I", true)
  | 5 => ("DeadlineElevator$Requests", "group", "[I", true)
  | 6 => ("DeadlineElevator$Requests", "ready", "[Z", true)
  | 7 => ("DeadlineElevator$Requests", "queue", "[I", true)
  | _ => ("DeadlineElevator$Requests", "count", "I", false)
def t_R : Nat → FieldType := fun k => match k with
  | 0 => .array .int
  | 1 => .array .int
  | 2 => .array .int
  | 3 => .array .int
  | 4 => .array .int
  | 5 => .array .int
  | 6 => .array .boolean
  | 7 => .array .int
  | _ => .int
theorem n_R : ∀ a, a < 9 → ∀ b, b < 9 → a ≠ b → (F_R a).2.1 ≠ (F_R b).2.1 := by decide +kernel
theorem t_R_ok : ∀ k, k < 9 → parseFieldDescriptor (F_R k).2.2.1 = some (t_R k) := by decide +kernel
theorem in_R : ∀ w ∈ u_ws R_R F_R 9, w ∈ TB := by
  intro w hw
  obtain ⟨k, hk, rfl⟩ := List.mem_map.mp hw
  have hk : k < 9 := List.mem_range.mp hk
  rcases (show k = 0 ∨ k = 1 ∨ k = 2 ∨ k = 3 ∨ k = 4 ∨ k = 5 ∨ k = 6 ∨ k = 7 ∨ k = 8 by omega) with rfl | rfl | rfl | rfl | rfl | rfl | rfl | rfl | rfl
  · exact tb_of 77 (by decide +kernel) (by decide +kernel)
  · exact tb_of 79 (by decide +kernel) (by decide +kernel)
  · exact tb_of 81 (by decide +kernel) (by decide +kernel)
  · exact tb_of 83 (by decide +kernel) (by decide +kernel)
  · exact tb_of 85 (by decide +kernel) (by decide +kernel)
  · exact tb_of 87 (by decide +kernel) (by decide +kernel)
  · exact tb_of 89 (by decide +kernel) (by decide +kernel)
  · exact tb_of 91 (by decide +kernel) (by decide +kernel)
  · exact tb_of 93 (by decide +kernel) (by decide +kernel)
abbrev R_E : String := "DeadlineElevator"
def F_E : u_T := fun k => match k with
  | 0 => ("DeadlineElevator", "disk", "[I", true)
  | 1 => ("DeadlineElevator", "parts", "LDeadlineElevator$Parts;", true)
  | 2 => ("DeadlineElevator", "requests", "LDeadlineElevator$Requests;", true)
  | 3 => ("DeadlineElevator", "claims", "LDeadlineElevator$Claims;", true)
  | 4 => ("DeadlineElevator", "currentBatch", "LDeadlineElevator$Batch;", true)
  | 5 => ("DeadlineElevator", "readingExpiry", "I", false)
  | 6 => ("DeadlineElevator", "writingExpiry", "I", false)
  | 7 => ("DeadlineElevator", "barriers", "I", false)
  | 8 => ("DeadlineElevator", "time", "I", false)
  | 9 => ("DeadlineElevator", "position", "I", false)
  | _ => ("DeadlineElevator", "lastDispatched", "I", false)
def t_E : Nat → FieldType := fun k => match k with
  | 0 => .array .int
  | 1 => .object "DeadlineElevator$Parts"
  | 2 => .object "DeadlineElevator$Requests"
  | 3 => .object "DeadlineElevator$Claims"
  | 4 => .object "DeadlineElevator$Batch"
  | 5 => .int
  | 6 => .int
  | 7 => .int
  | 8 => .int
  | 9 => .int
  | _ => .int
theorem n_E : ∀ a, a < 11 → ∀ b, b < 11 → a ≠ b → (F_E a).2.1 ≠ (F_E b).2.1 := by decide +kernel
theorem t_E_ok : ∀ k, k < 11 → parseFieldDescriptor (F_E k).2.2.1 = some (t_E k) := by decide +kernel
theorem in_E : ∀ w ∈ u_ws R_E F_E 11, w ∈ TB := by
  intro w hw
  obtain ⟨k, hk, rfl⟩ := List.mem_map.mp hw
  have hk : k < 11 := List.mem_range.mp hk
  rcases (show k = 0 ∨ k = 1 ∨ k = 2 ∨ k = 3 ∨ k = 4 ∨ k = 5 ∨ k = 6 ∨ k = 7 ∨ k = 8 ∨ k = 9 ∨ k = 10 by omega) with rfl | rfl | rfl | rfl | rfl | rfl | rfl | rfl | rfl | rfl | rfl
  · exact tb_of 139 (by decide +kernel) (by decide +kernel)
  · exact tb_of 141 (by decide +kernel) (by decide +kernel)
  · exact tb_of 143 (by decide +kernel) (by decide +kernel)
  · exact tb_of 145 (by decide +kernel) (by decide +kernel)
  · exact tb_of 147 (by decide +kernel) (by decide +kernel)
  · exact tb_of 149 (by decide +kernel) (by decide +kernel)
  · exact tb_of 151 (by decide +kernel) (by decide +kernel)
  · exact tb_of 153 (by decide +kernel) (by decide +kernel)
  · exact tb_of 155 (by decide +kernel) (by decide +kernel)
  · exact tb_of 157 (by decide +kernel) (by decide +kernel)
  · exact tb_of 159 (by decide +kernel) (by decide +kernel)
abbrev R_M : String := "DeadlineElevatorModel"
def F_M : u_T := fun k => match k with
  | 0 => ("DeadlineElevatorModel", "disk", "[I", false)
  | 1 => ("DeadlineElevatorModel", "parts", "I", false)
  | 2 => ("DeadlineElevatorModel", "way", "[I", false)
  | 3 => ("DeadlineElevatorModel", "from", "[I", false)
  | 4 => ("DeadlineElevatorModel", "size", "[I", false)
  | 5 => ("DeadlineElevatorModel", "with", "[I", false)
  | 6 => ("DeadlineElevatorModel", "request", "[I", false)
  | 7 => ("DeadlineElevatorModel", "state", "[I", false)
  | 8 => ("DeadlineElevatorModel", "values", "[I", false)
  | 9 => ("DeadlineElevatorModel", "deadline", "[I", false)
  | 10 => ("DeadlineElevatorModel", "group", "[I", false)
  | 11 => ("DeadlineElevatorModel", "barriers", "I", false)
  | 12 => ("DeadlineElevatorModel", "time", "I", false)
  | 13 => ("DeadlineElevatorModel", "expiry", "[I", false)
  | 14 => ("DeadlineElevatorModel", "top", "I", false)
  | 15 => ("DeadlineElevatorModel", "batchWay", "I", false)
  | 16 => ("DeadlineElevatorModel", "count", "I", false)
  | 17 => ("DeadlineElevatorModel", "starved", "I", false)
  | _ => ("DeadlineElevatorModel", "last", "I", false)
def t_M : Nat → FieldType := fun k => match k with
  | 0 => .array .int
  | 1 => .int
  | 2 => .array .int
  | 3 => .array .int
  | 4 => .array .int
  | 5 => .array .int
  | 6 => .array .int
  | 7 => .array .int
  | 8 => .array .int
  | 9 => .array .int
  | 10 => .array .int
  | 11 => .int
  | 12 => .int
  | 13 => .array .int
  | 14 => .int
  | 15 => .int
  | 16 => .int
  | 17 => .int
  | _ => .int
theorem n_M : ∀ a, a < 19 → ∀ b, b < 19 → a ≠ b → (F_M a).2.1 ≠ (F_M b).2.1 := by decide +kernel
theorem t_M_ok : ∀ k, k < 19 → parseFieldDescriptor (F_M k).2.2.1 = some (t_M k) := by decide +kernel
theorem in_M : ∀ w ∈ u_ws R_M F_M 19, w ∈ TB := by
  intro w hw
  obtain ⟨k, hk, rfl⟩ := List.mem_map.mp hw
  have hk : k < 19 := List.mem_range.mp hk
  rcases (show k = 0 ∨ k = 1 ∨ k = 2 ∨ k = 3 ∨ k = 4 ∨ k = 5 ∨ k = 6 ∨ k = 7 ∨ k = 8 ∨ k = 9 ∨ k = 10 ∨ k = 11 ∨ k = 12 ∨ k = 13 ∨ k = 14 ∨ k = 15 ∨ k = 16 ∨ k = 17 ∨ k = 18 by omega) with rfl | rfl | rfl | rfl | rfl | rfl | rfl | rfl | rfl | rfl | rfl | rfl | rfl | rfl | rfl | rfl | rfl | rfl | rfl
  · exact tb_of 388 (by decide +kernel) (by decide +kernel)
  · exact tb_of 390 (by decide +kernel) (by decide +kernel)
  · exact tb_of 392 (by decide +kernel) (by decide +kernel)
  · exact tb_of 394 (by decide +kernel) (by decide +kernel)
  · exact tb_of 396 (by decide +kernel) (by decide +kernel)
  · exact tb_of 398 (by decide +kernel) (by decide +kernel)
  · exact tb_of 400 (by decide +kernel) (by decide +kernel)
  · exact tb_of 402 (by decide +kernel) (by decide +kernel)
  · exact tb_of 404 (by decide +kernel) (by decide +kernel)
  · exact tb_of 406 (by decide +kernel) (by decide +kernel)
  · exact tb_of 408 (by decide +kernel) (by decide +kernel)
  · exact tb_of 410 (by decide +kernel) (by decide +kernel)
  · exact tb_of 412 (by decide +kernel) (by decide +kernel)
  · exact tb_of 414 (by decide +kernel) (by decide +kernel)
  · exact tb_of 416 (by decide +kernel) (by decide +kernel)
  · exact tb_of 418 (by decide +kernel) (by decide +kernel)
  · exact tb_of 420 (by decide +kernel) (by decide +kernel)
  · exact tb_of 422 (by decide +kernel) (by decide +kernel)
  · exact tb_of 424 (by decide +kernel) (by decide +kernel)
abbrev cls_ : List vw_C := [(R_B, F_B, 3), (R_C, F_C, 2), (R_P, F_P, 7), (R_R, F_R, 9), (R_E, F_E, 11), (R_M, F_M, 19)]
abbrev b_B_init : ByteArray := prog_2_method_1_code
abbrev y_B_init : MethodName := ⟨R_B, "<init>", "()V"⟩
abbrev b_B_mayGoOn : ByteArray := prog_2_method_2_code
abbrev y_B_mayGoOn : MethodName := ⟨R_B, "mayGoOn", "()Z"⟩
abbrev b_B_begin : ByteArray := prog_2_method_3_code
abbrev y_B_begin : MethodName := ⟨R_B, "begin", "(ZZ)V"⟩
abbrev b_C_init : ByteArray := prog_3_method_1_code
abbrev y_C_init : MethodName := ⟨R_C, "<init>", "()V"⟩
abbrev b_C_clear : ByteArray := prog_3_method_2_code
abbrev y_C_clear : MethodName := ⟨R_C, "clear", "()V"⟩
abbrev b_C_add : ByteArray := prog_3_method_3_code
abbrev y_C_add : MethodName := ⟨R_C, "add", "(IJ)V"⟩
abbrev b_C_conflictWith : ByteArray := prog_3_method_4_code
abbrev y_C_conflictWith : MethodName := ⟨R_C, "conflictWith", "(IJ)Z"⟩
abbrev b_P_init : ByteArray := prog_4_method_1_code
abbrev y_P_init : MethodName := ⟨R_P, "<init>", "()V"⟩
abbrev b_P_has : ByteArray := prog_4_method_2_code
abbrev y_P_has : MethodName := ⟨R_P, "has", "(I)Z"⟩
abbrev b_P_isWaiting : ByteArray := prog_4_method_3_code
abbrev y_P_isWaiting : MethodName := ⟨R_P, "isWaiting", "(I)Z"⟩
abbrev b_P_sectors : ByteArray := prog_4_method_4_code
abbrev y_P_sectors : MethodName := ⟨R_P, "sectors", "(I)J"⟩
abbrev b_P_add : ByteArray := prog_4_method_5_code
abbrev y_P_add : MethodName := ⟨R_P, "add", "(IIII)I"⟩
abbrev b_P_carryOut : ByteArray := prog_4_method_6_code
abbrev y_P_carryOut : MethodName := ⟨R_P, "carryOut", "(I[I)V"⟩
abbrev b_R_init : ByteArray := prog_5_method_1_code
abbrev y_R_init : MethodName := ⟨R_R, "<init>", "()V"⟩
abbrev b_R_end : ByteArray := prog_5_method_2_code
abbrev y_R_end : MethodName := ⟨R_R, "end", "(I)I"⟩
abbrev b_R_isReady : ByteArray := prog_5_method_3_code
abbrev y_R_isReady : MethodName := ⟨R_R, "isReady", "(II)Z"⟩
abbrev b_R_open : ByteArray := prog_5_method_4_code
abbrev y_R_open : MethodName := ⟨R_R, "open", "(IIIIII)V"⟩
abbrev b_R_extend : ByteArray := prog_5_method_5_code
abbrev y_R_extend : MethodName := ⟨R_R, "extend", "(III)V"⟩
abbrev b_R_remove : ByteArray := prog_5_method_6_code
abbrev y_R_remove : MethodName := ⟨R_R, "remove", "(I)V"⟩
abbrev b_R_neighbourOf : ByteArray := prog_5_method_7_code
abbrev y_R_neighbourOf : MethodName := ⟨R_R, "neighbourOf", "(IIII)I"⟩
abbrev b_R_hasRoom : ByteArray := prog_5_method_8_code
abbrev y_R_hasRoom : MethodName := ⟨R_R, "hasRoom", "(II)Z"⟩
abbrev b_R_markLeastGroup : ByteArray := prog_5_method_9_code
abbrev y_R_markLeastGroup : MethodName := ⟨R_R, "markLeastGroup", "()V"⟩
abbrev b_R_hasReady : ByteArray := prog_5_method_10_code
abbrev y_R_hasReady : MethodName := ⟨R_R, "hasReady", "(I)Z"⟩
abbrev b_R_leastStart : ByteArray := prog_5_method_11_code
abbrev y_R_leastStart : MethodName := ⟨R_R, "leastStart", "(II)I"⟩
abbrev b_R_leastExpired : ByteArray := prog_5_method_12_code
abbrev y_R_leastExpired : MethodName := ⟨R_R, "leastExpired", "(II)I"⟩
abbrev b_E_init : ByteArray := prog_1_method_1_code
abbrev y_E_init : MethodName := ⟨R_E, "<init>", "()V"⟩
abbrev b_E_read : ByteArray := prog_1_method_2_code
abbrev y_E_read : MethodName := ⟨R_E, "read", "(II)I"⟩
abbrev b_E_write : ByteArray := prog_1_method_3_code
abbrev y_E_write : MethodName := ⟨R_E, "write", "(III)I"⟩
abbrev b_E_barrier : ByteArray := prog_1_method_4_code
abbrev y_E_barrier : MethodName := ⟨R_E, "barrier", "()I"⟩
abbrev b_E_expire : ByteArray := prog_1_method_5_code
abbrev y_E_expire : MethodName := ⟨R_E, "expire", "(II)Z"⟩
abbrev b_E_tick : ByteArray := prog_1_method_6_code
abbrev y_E_tick : MethodName := ⟨R_E, "tick", "(I)Z"⟩
abbrev b_E_dispatch : ByteArray := prog_1_method_7_code
abbrev y_E_dispatch : MethodName := ⟨R_E, "dispatch", "()I"⟩
abbrev b_E_state : ByteArray := prog_1_method_8_code
abbrev y_E_state : MethodName := ⟨R_E, "state", "(I)I"⟩
abbrev b_E_value : ByteArray := prog_1_method_9_code
abbrev y_E_value : MethodName := ⟨R_E, "value", "(II)I"⟩
abbrev b_E_sector : ByteArray := prog_1_method_10_code
abbrev y_E_sector : MethodName := ⟨R_E, "sector", "(I)I"⟩
abbrev b_E_waiting : ByteArray := prog_1_method_11_code
abbrev y_E_waiting : MethodName := ⟨R_E, "waiting", "(I)I"⟩
abbrev b_E_ready : ByteArray := prog_1_method_12_code
abbrev y_E_ready : MethodName := ⟨R_E, "ready", "(I)I"⟩
abbrev b_E_requestOf : ByteArray := prog_1_method_13_code
abbrev y_E_requestOf : MethodName := ⟨R_E, "requestOf", "(I)I"⟩
abbrev b_E_about : ByteArray := prog_1_method_14_code
abbrev y_E_about : MethodName := ⟨R_E, "about", "(II)I"⟩
abbrev b_E_latest : ByteArray := prog_1_method_15_code
abbrev y_E_latest : MethodName := ⟨R_E, "latest", "()I"⟩
abbrev b_E_head : ByteArray := prog_1_method_16_code
abbrev y_E_head : MethodName := ⟨R_E, "head", "()I"⟩
abbrev b_E_now : ByteArray := prog_1_method_17_code
abbrev y_E_now : MethodName := ⟨R_E, "now", "()I"⟩
abbrev b_E_batch : ByteArray := prog_1_method_18_code
abbrev y_E_batch : MethodName := ⟨R_E, "batch", "()I"⟩
abbrev b_E_isWithin : ByteArray := prog_1_method_19_code
abbrev y_E_isWithin : MethodName := ⟨R_E, "isWithin", "(II)Z"⟩
abbrev b_E_isOnDisk : ByteArray := prog_1_method_20_code
abbrev y_E_isOnDisk : MethodName := ⟨R_E, "isOnDisk", "(II)Z"⟩
abbrev b_E_sectorsFrom : ByteArray := prog_1_method_21_code
abbrev y_E_sectorsFrom : MethodName := ⟨R_E, "sectorsFrom", "(II)J"⟩
abbrev b_E_take : ByteArray := prog_1_method_22_code
abbrev y_E_take : MethodName := ⟨R_E, "take", "(IIII)I"⟩
abbrev b_E_hostFor : ByteArray := prog_1_method_23_code
abbrev y_E_hostFor : MethodName := ⟨R_E, "hostFor", "(III)I"⟩
abbrev b_E_claimAllWaiting : ByteArray := prog_1_method_24_code
abbrev y_E_claimAllWaiting : MethodName := ⟨R_E, "claimAllWaiting", "()V"⟩
abbrev b_E_markReady : ByteArray := prog_1_method_25_code
abbrev y_E_markReady : MethodName := ⟨R_E, "markReady", "()V"⟩
abbrev b_E_pick : ByteArray := prog_1_method_26_code
abbrev y_E_pick : MethodName := ⟨R_E, "pick", "()I"⟩
abbrev b_E_firstOfBatch : ByteArray := prog_1_method_27_code
abbrev y_E_firstOfBatch : MethodName := ⟨R_E, "firstOfBatch", "(I)I"⟩
abbrev b_E_carryOut : ByteArray := prog_1_method_28_code
abbrev y_E_carryOut : MethodName := ⟨R_E, "carryOut", "(I)V"⟩
abbrev b_M_init : ByteArray := prog_7_method_1_code
abbrev y_M_init : MethodName := ⟨R_M, "<init>", "()V"⟩
abbrev b_M_waits : ByteArray := prog_7_method_2_code
abbrev y_M_waits : MethodName := ⟨R_M, "waits", "(I)Z"⟩
abbrev b_M_start : ByteArray := prog_7_method_3_code
abbrev y_M_start : MethodName := ⟨R_M, "start", "(I)I"⟩
abbrev b_M_length : ByteArray := prog_7_method_4_code
abbrev y_M_length : MethodName := ⟨R_M, "length", "(I)I"⟩
abbrev b_M_members : ByteArray := prog_7_method_5_code
abbrev y_M_members : MethodName := ⟨R_M, "members", "(I)I"⟩
abbrev b_M_conflict : ByteArray := prog_7_method_6_code
abbrev y_M_conflict : MethodName := ⟨R_M, "conflict", "(II)Z"⟩
abbrev b_M_isReady : ByteArray := prog_7_method_7_code
abbrev y_M_isReady : MethodName := ⟨R_M, "isReady", "(I)Z"⟩
abbrev b_M_joined : ByteArray := prog_7_method_8_code
abbrev y_M_joined : MethodName := ⟨R_M, "joined", "(I)I"⟩
abbrev b_M_come : ByteArray := prog_7_method_9_code
abbrev y_M_come : MethodName := ⟨R_M, "come", "(IIII)I"⟩
abbrev b_M_read : ByteArray := prog_7_method_10_code
abbrev y_M_read : MethodName := ⟨R_M, "read", "(II)I"⟩
abbrev b_M_write : ByteArray := prog_7_method_11_code
abbrev y_M_write : MethodName := ⟨R_M, "write", "(III)I"⟩
abbrev b_M_barrier : ByteArray := prog_7_method_12_code
abbrev y_M_barrier : MethodName := ⟨R_M, "barrier", "()I"⟩
abbrev b_M_expire : ByteArray := prog_7_method_13_code
abbrev y_M_expire : MethodName := ⟨R_M, "expire", "(II)Z"⟩
abbrev b_M_tick : ByteArray := prog_7_method_14_code
abbrev y_M_tick : MethodName := ⟨R_M, "tick", "(I)Z"⟩
abbrev b_M_sweep : ByteArray := prog_7_method_15_code
abbrev y_M_sweep : MethodName := ⟨R_M, "sweep", "(II)I"⟩
abbrev b_M_late : ByteArray := prog_7_method_16_code
abbrev y_M_late : MethodName := ⟨R_M, "late", "(I)I"⟩
abbrev b_M_fresh : ByteArray := prog_7_method_17_code
abbrev y_M_fresh : MethodName := ⟨R_M, "fresh", "()I"⟩
abbrev b_M_dispatch : ByteArray := prog_7_method_18_code
abbrev y_M_dispatch : MethodName := ⟨R_M, "dispatch", "()I"⟩
abbrev b_M_carryOut : ByteArray := prog_7_method_19_code
abbrev y_M_carryOut : MethodName := ⟨R_M, "carryOut", "(I)V"⟩
abbrev b_M_isPart : ByteArray := prog_7_method_20_code
abbrev y_M_isPart : MethodName := ⟨R_M, "isPart", "(I)Z"⟩
abbrev b_M_state : ByteArray := prog_7_method_21_code
abbrev y_M_state : MethodName := ⟨R_M, "state", "(I)I"⟩
abbrev b_M_value : ByteArray := prog_7_method_22_code
abbrev y_M_value : MethodName := ⟨R_M, "value", "(II)I"⟩
abbrev b_M_sector : ByteArray := prog_7_method_23_code
abbrev y_M_sector : MethodName := ⟨R_M, "sector", "(I)I"⟩
abbrev b_M_waiting : ByteArray := prog_7_method_24_code
abbrev y_M_waiting : MethodName := ⟨R_M, "waiting", "(I)I"⟩
abbrev b_M_ready : ByteArray := prog_7_method_25_code
abbrev y_M_ready : MethodName := ⟨R_M, "ready", "(I)I"⟩
abbrev b_M_requestOf : ByteArray := prog_7_method_26_code
abbrev y_M_requestOf : MethodName := ⟨R_M, "requestOf", "(I)I"⟩
abbrev b_M_about : ByteArray := prog_7_method_27_code
abbrev y_M_about : MethodName := ⟨R_M, "about", "(II)I"⟩
abbrev b_M_latest : ByteArray := prog_7_method_28_code
abbrev y_M_latest : MethodName := ⟨R_M, "latest", "()I"⟩
abbrev b_M_head : ByteArray := prog_7_method_29_code
abbrev y_M_head : MethodName := ⟨R_M, "head", "()I"⟩
abbrev b_M_now : ByteArray := prog_7_method_30_code
abbrev y_M_now : MethodName := ⟨R_M, "now", "()I"⟩
abbrev b_M_batch : ByteArray := prog_7_method_31_code
abbrev y_M_batch : MethodName := ⟨R_M, "batch", "()I"⟩
theorem tb_1 : (.initialized "DeadlineElevator" : Cond) ∈ TB := tb_of 1 (by decide +kernel) (by decide +kernel)
theorem tb_2 : (.initialized "DeadlineElevator$Parts" : Cond) ∈ TB := tb_of 2 (by decide +kernel) (by decide +kernel)
theorem tb_3 : (.initialized "DeadlineElevator$Requests" : Cond) ∈ TB := tb_of 3 (by decide +kernel) (by decide +kernel)
theorem tb_4 : (.initialized "DeadlineElevator$Claims" : Cond) ∈ TB := tb_of 4 (by decide +kernel) (by decide +kernel)
theorem tb_5 : (.initialized "DeadlineElevator$Batch" : Cond) ∈ TB := tb_of 5 (by decide +kernel) (by decide +kernel)
theorem tb_6 : (.initialized "DeadlineElevatorModel" : Cond) ∈ TB := tb_of 6 (by decide +kernel) (by decide +kernel)
theorem tb_7 : (.initialized "java/lang/Math" : Cond) ∈ TB := tb_of 7 (by decide +kernel) (by decide +kernel)
theorem tb_8 : (.initialized "java/lang/System" : Cond) ∈ TB := tb_of 8 (by decide +kernel) (by decide +kernel)
theorem tb_9 : (.classLink "DeadlineElevatorLaw" 7 "DeadlineElevator" : Cond) ∈ TB := tb_of 9 (by decide +kernel) (by decide +kernel)
theorem tb_10 : (.instantiable "DeadlineElevator" 11 : Cond) ∈ TB := tb_of 10 (by decide +kernel) (by decide +kernel)
theorem tb_11 : (.methodLink "DeadlineElevatorLaw" 9 y_E_init : Cond) ∈ TB := tb_of 11 (by decide +kernel) (by decide +kernel)
theorem tb_12 : (.instanceMethod y_E_init : Cond) ∈ TB := tb_of 12 (by decide +kernel) (by decide +kernel)
theorem tb_13 : (.code y_E_init b_E_init 1 none : Cond) ∈ TB := tb_of 13 (by decide +kernel) (by decide +kernel)
theorem tb_14 : (.methodLink "DeadlineElevator" 1 objectInit : Cond) ∈ TB := tb_of 14 (by decide +kernel) (by decide +kernel)
theorem tb_15 : (.instanceMethod objectInit : Cond) ∈ TB := tb_of 15 (by decide +kernel) (by decide +kernel)
theorem tb_16 : (.code objectInit ⟨#[0xb1]⟩ 1 none : Cond) ∈ TB := tb_of 16 (by decide +kernel) (by decide +kernel)
theorem tb_17 : (.classLink "DeadlineElevator" 13 "DeadlineElevator$Parts" : Cond) ∈ TB := tb_of 17 (by decide +kernel) (by decide +kernel)
theorem tb_18 : (.instantiable "DeadlineElevator$Parts" 7 : Cond) ∈ TB := tb_of 18 (by decide +kernel) (by decide +kernel)
theorem tb_20 : (.instanceMethod y_P_init : Cond) ∈ TB := tb_of 20 (by decide +kernel) (by decide +kernel)
theorem tb_21 : (.code y_P_init b_P_init 1 none : Cond) ∈ TB := tb_of 21 (by decide +kernel) (by decide +kernel)
theorem tb_22 : (.methodLink "DeadlineElevator$Parts" 3 objectInit : Cond) ∈ TB := tb_of 22 (by decide +kernel) (by decide +kernel)
theorem tb_23 : (.fieldLink "DeadlineElevator$Parts" 9 "DeadlineElevator$Parts" "way" "[I" : Cond) ∈ TB := tb_of 23 (by decide +kernel) (by decide +kernel)
theorem tb_25 : (.fieldLink "DeadlineElevator$Parts" 15 "DeadlineElevator$Parts" "start" "[I" : Cond) ∈ TB := tb_of 25 (by decide +kernel) (by decide +kernel)
theorem tb_26 : (.fieldLink "DeadlineElevator$Parts" 18 "DeadlineElevator$Parts" "length" "[I" : Cond) ∈ TB := tb_of 26 (by decide +kernel) (by decide +kernel)
theorem tb_28 : (.fieldLink "DeadlineElevator$Parts" 21 "DeadlineElevator$Parts" "request" "[I" : Cond) ∈ TB := tb_of 28 (by decide +kernel) (by decide +kernel)
theorem tb_30 : (.fieldLink "DeadlineElevator$Parts" 24 "DeadlineElevator$Parts" "done" "[Z" : Cond) ∈ TB := tb_of 30 (by decide +kernel) (by decide +kernel)
theorem tb_32 : (.fieldLink "DeadlineElevator$Parts" 28 "DeadlineElevator$Parts" "data" "[I" : Cond) ∈ TB := tb_of 32 (by decide +kernel) (by decide +kernel)
theorem tb_34 : (.fieldLink "DeadlineElevator$Parts" 31 "DeadlineElevator$Parts" "count" "I" : Cond) ∈ TB := tb_of 34 (by decide +kernel) (by decide +kernel)
theorem tb_51 : (.arrayClass .int : Cond) ∈ TB := tb_of 51 (by decide +kernel) (by decide +kernel)
theorem tb_52 : (.arrayClass .boolean : Cond) ∈ TB := tb_of 52 (by decide +kernel) (by decide +kernel)
theorem tb_53 : (.classLink "DeadlineElevator" 20 "DeadlineElevator$Requests" : Cond) ∈ TB := tb_of 53 (by decide +kernel) (by decide +kernel)
theorem tb_54 : (.instantiable "DeadlineElevator$Requests" 9 : Cond) ∈ TB := tb_of 54 (by decide +kernel) (by decide +kernel)
theorem tb_56 : (.instanceMethod y_R_init : Cond) ∈ TB := tb_of 56 (by decide +kernel) (by decide +kernel)
theorem tb_57 : (.code y_R_init b_R_init 1 none : Cond) ∈ TB := tb_of 57 (by decide +kernel) (by decide +kernel)
theorem tb_58 : (.methodLink "DeadlineElevator$Requests" 3 objectInit : Cond) ∈ TB := tb_of 58 (by decide +kernel) (by decide +kernel)
theorem tb_59 : (.fieldLink "DeadlineElevator$Requests" 9 "DeadlineElevator$Requests" "way" "[I" : Cond) ∈ TB := tb_of 59 (by decide +kernel) (by decide +kernel)
theorem tb_61 : (.fieldLink "DeadlineElevator$Requests" 15 "DeadlineElevator$Requests" "start" "[I" : Cond) ∈ TB := tb_of 61 (by decide +kernel) (by decide +kernel)
theorem tb_63 : (.fieldLink "DeadlineElevator$Requests" 18 "DeadlineElevator$Requests" "length" "[I" : Cond) ∈ TB := tb_of 63 (by decide +kernel) (by decide +kernel)
theorem tb_65 : (.fieldLink "DeadlineElevator$Requests" 21 "DeadlineElevator$Requests" "parts" "[I" : Cond) ∈ TB := tb_of 65 (by decide +kernel) (by decide +kernel)
theorem tb_67 : (.fieldLink "DeadlineElevator$Requests" 24 "DeadlineElevator$Requests" "deadline" "[I" : Cond) ∈ TB := tb_of 67 (by decide +kernel) (by decide +kernel)
theorem tb_69 : (.fieldLink "DeadlineElevator$Requests" 27 "DeadlineElevator$Requests" "group" "[I" : Cond) ∈ TB := tb_of 69 (by decide +kernel) (by decide +kernel)
theorem tb_71 : (.fieldLink "DeadlineElevator$Requests" 30 "DeadlineElevator$Requests" "ready" "[Z" : Cond) ∈ TB := tb_of 71 (by decide +kernel) (by decide +kernel)
theorem tb_73 : (.fieldLink "DeadlineElevator$Requests" 34 "DeadlineElevator$Requests" "queue" "[I" : Cond) ∈ TB := tb_of 73 (by decide +kernel) (by decide +kernel)
theorem tb_75 : (.fieldLink "DeadlineElevator$Requests" 37 "DeadlineElevator$Requests" "count" "I" : Cond) ∈ TB := tb_of 75 (by decide +kernel) (by decide +kernel)
theorem tb_96 : (.classLink "DeadlineElevator" 27 "DeadlineElevator$Claims" : Cond) ∈ TB := tb_of 96 (by decide +kernel) (by decide +kernel)
theorem tb_97 : (.instantiable "DeadlineElevator$Claims" 2 : Cond) ∈ TB := tb_of 97 (by decide +kernel) (by decide +kernel)
theorem tb_99 : (.instanceMethod y_C_init : Cond) ∈ TB := tb_of 99 (by decide +kernel) (by decide +kernel)
theorem tb_100 : (.code y_C_init b_C_init 1 none : Cond) ∈ TB := tb_of 100 (by decide +kernel) (by decide +kernel)
theorem tb_101 : (.methodLink "DeadlineElevator$Claims" 3 objectInit : Cond) ∈ TB := tb_of 101 (by decide +kernel) (by decide +kernel)
theorem tb_102 : (.fieldLink "DeadlineElevator$Claims" 9 "DeadlineElevator$Claims" "beingRead" "J" : Cond) ∈ TB := tb_of 102 (by decide +kernel) (by decide +kernel)
theorem tb_103 : (.fieldLink "DeadlineElevator$Claims" 15 "DeadlineElevator$Claims" "beingWritten" "J" : Cond) ∈ TB := tb_of 103 (by decide +kernel) (by decide +kernel)
theorem tb_109 : (.classLink "DeadlineElevator" 34 "DeadlineElevator$Batch" : Cond) ∈ TB := tb_of 109 (by decide +kernel) (by decide +kernel)
theorem tb_110 : (.instantiable "DeadlineElevator$Batch" 3 : Cond) ∈ TB := tb_of 110 (by decide +kernel) (by decide +kernel)
theorem tb_112 : (.instanceMethod y_B_init : Cond) ∈ TB := tb_of 112 (by decide +kernel) (by decide +kernel)
theorem tb_113 : (.code y_B_init b_B_init 1 none : Cond) ∈ TB := tb_of 113 (by decide +kernel) (by decide +kernel)
theorem tb_114 : (.methodLink "DeadlineElevator$Batch" 3 objectInit : Cond) ∈ TB := tb_of 114 (by decide +kernel) (by decide +kernel)
theorem tb_115 : (.fieldLink "DeadlineElevator$Batch" 9 "DeadlineElevator$Batch" "way" "I" : Cond) ∈ TB := tb_of 115 (by decide +kernel) (by decide +kernel)
theorem tb_117 : (.fieldLink "DeadlineElevator$Batch" 15 "DeadlineElevator$Batch" "count" "I" : Cond) ∈ TB := tb_of 117 (by decide +kernel) (by decide +kernel)
theorem tb_119 : (.fieldLink "DeadlineElevator$Batch" 18 "DeadlineElevator$Batch" "starved" "I" : Cond) ∈ TB := tb_of 119 (by decide +kernel) (by decide +kernel)
theorem tb_128 : (.fieldLink "DeadlineElevator" 9 "DeadlineElevator" "disk" "[I" : Cond) ∈ TB := tb_of 128 (by decide +kernel) (by decide +kernel)
theorem tb_129 : (.fieldLink "DeadlineElevator" 16 "DeadlineElevator" "parts" "LDeadlineElevator$Parts;" : Cond) ∈ TB := tb_of 129 (by decide +kernel) (by decide +kernel)
theorem tb_130 : (.fieldLink "DeadlineElevator" 23 "DeadlineElevator" "requests" "LDeadlineElevator$Requests;" : Cond) ∈ TB := tb_of 130 (by decide +kernel) (by decide +kernel)
theorem tb_131 : (.fieldLink "DeadlineElevator" 30 "DeadlineElevator" "claims" "LDeadlineElevator$Claims;" : Cond) ∈ TB := tb_of 131 (by decide +kernel) (by decide +kernel)
theorem tb_132 : (.fieldLink "DeadlineElevator" 37 "DeadlineElevator" "currentBatch" "LDeadlineElevator$Batch;" : Cond) ∈ TB := tb_of 132 (by decide +kernel) (by decide +kernel)
theorem tb_133 : (.fieldLink "DeadlineElevator" 41 "DeadlineElevator" "readingExpiry" "I" : Cond) ∈ TB := tb_of 133 (by decide +kernel) (by decide +kernel)
theorem tb_134 : (.fieldLink "DeadlineElevator" 45 "DeadlineElevator" "writingExpiry" "I" : Cond) ∈ TB := tb_of 134 (by decide +kernel) (by decide +kernel)
theorem tb_135 : (.fieldLink "DeadlineElevator" 48 "DeadlineElevator" "barriers" "I" : Cond) ∈ TB := tb_of 135 (by decide +kernel) (by decide +kernel)
theorem tb_136 : (.fieldLink "DeadlineElevator" 51 "DeadlineElevator" "time" "I" : Cond) ∈ TB := tb_of 136 (by decide +kernel) (by decide +kernel)
theorem tb_137 : (.fieldLink "DeadlineElevator" 54 "DeadlineElevator" "position" "I" : Cond) ∈ TB := tb_of 137 (by decide +kernel) (by decide +kernel)
theorem tb_138 : (.fieldLink "DeadlineElevator" 57 "DeadlineElevator" "lastDispatched" "I" : Cond) ∈ TB := tb_of 138 (by decide +kernel) (by decide +kernel)
theorem tb_162 : (.methodLink "DeadlineElevatorLaw" 13 y_E_read : Cond) ∈ TB := tb_of 162 (by decide +kernel) (by decide +kernel)
theorem tb_163 : (.instanceMethod y_E_read : Cond) ∈ TB := tb_of 163 (by decide +kernel) (by decide +kernel)
theorem tb_164 : (.selects "DeadlineElevator" y_E_read y_E_read : Cond) ∈ TB := tb_of 164 (by decide +kernel) (by decide +kernel)
theorem tb_165 : (.code y_E_read b_E_read 3 (some .int) : Cond) ∈ TB := tb_of 165 (by decide +kernel) (by decide +kernel)
theorem tb_166 : (.methodLink "DeadlineElevator" 60 y_E_take : Cond) ∈ TB := tb_of 166 (by decide +kernel) (by decide +kernel)
theorem tb_168 : (.instanceMethod y_E_take : Cond) ∈ TB := tb_of 168 (by decide +kernel) (by decide +kernel)
theorem tb_169 : (.code y_E_take b_E_take 8 (some .int) : Cond) ∈ TB := tb_of 169 (by decide +kernel) (by decide +kernel)
theorem tb_170 : (.methodLink "DeadlineElevator" 131 y_E_isOnDisk : Cond) ∈ TB := tb_of 170 (by decide +kernel) (by decide +kernel)
theorem tb_171 : (.static y_E_isOnDisk : Cond) ∈ TB := tb_of 171 (by decide +kernel) (by decide +kernel)
theorem tb_172 : (.code y_E_isOnDisk b_E_isOnDisk 2 (some .boolean) : Cond) ∈ TB := tb_of 172 (by decide +kernel) (by decide +kernel)
theorem tb_173 : (.methodLink "DeadlineElevator" 135 y_E_hostFor : Cond) ∈ TB := tb_of 173 (by decide +kernel) (by decide +kernel)
theorem tb_175 : (.instanceMethod y_E_hostFor : Cond) ∈ TB := tb_of 175 (by decide +kernel) (by decide +kernel)
theorem tb_176 : (.code y_E_hostFor b_E_hostFor 4 (some .int) : Cond) ∈ TB := tb_of 176 (by decide +kernel) (by decide +kernel)
theorem tb_177 : (.methodLink "DeadlineElevator" 150 y_E_claimAllWaiting : Cond) ∈ TB := tb_of 177 (by decide +kernel) (by decide +kernel)
theorem tb_179 : (.instanceMethod y_E_claimAllWaiting : Cond) ∈ TB := tb_of 179 (by decide +kernel) (by decide +kernel)
theorem tb_180 : (.code y_E_claimAllWaiting b_E_claimAllWaiting 2 none : Cond) ∈ TB := tb_of 180 (by decide +kernel) (by decide +kernel)
theorem tb_183 : (.instanceMethod y_C_clear : Cond) ∈ TB := tb_of 183 (by decide +kernel) (by decide +kernel)
theorem tb_184 : (.code y_C_clear b_C_clear 1 none : Cond) ∈ TB := tb_of 184 (by decide +kernel) (by decide +kernel)
theorem tb_187 : (.instanceMethod y_P_sectors : Cond) ∈ TB := tb_of 187 (by decide +kernel) (by decide +kernel)
theorem tb_188 : (.code y_P_sectors b_P_sectors 2 (some .long) : Cond) ∈ TB := tb_of 188 (by decide +kernel) (by decide +kernel)
theorem tb_190 : (.static y_E_sectorsFrom : Cond) ∈ TB := tb_of 190 (by decide +kernel) (by decide +kernel)
theorem tb_191 : (.code y_E_sectorsFrom b_E_sectorsFrom 2 (some .long) : Cond) ∈ TB := tb_of 191 (by decide +kernel) (by decide +kernel)
theorem tb_194 : (.instanceMethod y_C_add : Cond) ∈ TB := tb_of 194 (by decide +kernel) (by decide +kernel)
theorem tb_195 : (.code y_C_add b_C_add 4 none : Cond) ∈ TB := tb_of 195 (by decide +kernel) (by decide +kernel)
theorem tb_196 : (.methodLink "DeadlineElevator" 153 y_E_sectorsFrom : Cond) ∈ TB := tb_of 196 (by decide +kernel) (by decide +kernel)
theorem tb_199 : (.instanceMethod y_C_conflictWith : Cond) ∈ TB := tb_of 199 (by decide +kernel) (by decide +kernel)
theorem tb_200 : (.code y_C_conflictWith b_C_conflictWith 6 (some .boolean) : Cond) ∈ TB := tb_of 200 (by decide +kernel) (by decide +kernel)
theorem tb_203 : (.instanceMethod y_R_neighbourOf : Cond) ∈ TB := tb_of 203 (by decide +kernel) (by decide +kernel)
theorem tb_204 : (.code y_R_neighbourOf b_R_neighbourOf 8 (some .int) : Cond) ∈ TB := tb_of 204 (by decide +kernel) (by decide +kernel)
theorem tb_205 : (.methodLink "DeadlineElevator$Requests" 47 y_R_hasRoom : Cond) ∈ TB := tb_of 205 (by decide +kernel) (by decide +kernel)
theorem tb_207 : (.instanceMethod y_R_hasRoom : Cond) ∈ TB := tb_of 207 (by decide +kernel) (by decide +kernel)
theorem tb_208 : (.code y_R_hasRoom b_R_hasRoom 3 (some .boolean) : Cond) ∈ TB := tb_of 208 (by decide +kernel) (by decide +kernel)
theorem tb_209 : (.methodLink "DeadlineElevator$Requests" 51 y_R_end : Cond) ∈ TB := tb_of 209 (by decide +kernel) (by decide +kernel)
theorem tb_211 : (.instanceMethod y_R_end : Cond) ∈ TB := tb_of 211 (by decide +kernel) (by decide +kernel)
theorem tb_212 : (.code y_R_end b_R_end 2 (some .int) : Cond) ∈ TB := tb_of 212 (by decide +kernel) (by decide +kernel)
theorem tb_215 : (.instanceMethod y_P_add : Cond) ∈ TB := tb_of 215 (by decide +kernel) (by decide +kernel)
theorem tb_216 : (.code y_P_add b_P_add 7 (some .int) : Cond) ∈ TB := tb_of 216 (by decide +kernel) (by decide +kernel)
theorem tb_219 : (.instanceMethod y_R_open : Cond) ∈ TB := tb_of 219 (by decide +kernel) (by decide +kernel)
theorem tb_220 : (.code y_R_open b_R_open 7 none : Cond) ∈ TB := tb_of 220 (by decide +kernel) (by decide +kernel)
theorem tb_223 : (.instanceMethod y_R_extend : Cond) ∈ TB := tb_of 223 (by decide +kernel) (by decide +kernel)
theorem tb_224 : (.code y_R_extend b_R_extend 4 none : Cond) ∈ TB := tb_of 224 (by decide +kernel) (by decide +kernel)
theorem tb_225 : (.methodLink "DeadlineElevator$Requests" 41 Lib.Math.min.name : Cond) ∈ TB := tb_of 225 (by decide +kernel) (by decide +kernel)
theorem tb_226 : (.static Lib.Math.min.name : Cond) ∈ TB := tb_of 226 (by decide +kernel) (by decide +kernel)
theorem tb_227 : (.code Lib.Math.min.name Lib.Math.min.code 2 (some .int) : Cond) ∈ TB := tb_of 227 (by decide +kernel) (by decide +kernel)
theorem tb_228 : (.methodLink "DeadlineElevatorLaw" 18 y_E_write : Cond) ∈ TB := tb_of 228 (by decide +kernel) (by decide +kernel)
theorem tb_229 : (.instanceMethod y_E_write : Cond) ∈ TB := tb_of 229 (by decide +kernel) (by decide +kernel)
theorem tb_230 : (.selects "DeadlineElevator" y_E_write y_E_write : Cond) ∈ TB := tb_of 230 (by decide +kernel) (by decide +kernel)
theorem tb_231 : (.code y_E_write b_E_write 4 (some .int) : Cond) ∈ TB := tb_of 231 (by decide +kernel) (by decide +kernel)
theorem tb_232 : (.methodLink "DeadlineElevatorLaw" 23 y_E_barrier : Cond) ∈ TB := tb_of 232 (by decide +kernel) (by decide +kernel)
theorem tb_233 : (.instanceMethod y_E_barrier : Cond) ∈ TB := tb_of 233 (by decide +kernel) (by decide +kernel)
theorem tb_234 : (.selects "DeadlineElevator" y_E_barrier y_E_barrier : Cond) ∈ TB := tb_of 234 (by decide +kernel) (by decide +kernel)
theorem tb_235 : (.code y_E_barrier b_E_barrier 1 (some .int) : Cond) ∈ TB := tb_of 235 (by decide +kernel) (by decide +kernel)
theorem tb_236 : (.methodLink "DeadlineElevatorLaw" 28 y_E_expire : Cond) ∈ TB := tb_of 236 (by decide +kernel) (by decide +kernel)
theorem tb_237 : (.instanceMethod y_E_expire : Cond) ∈ TB := tb_of 237 (by decide +kernel) (by decide +kernel)
theorem tb_238 : (.selects "DeadlineElevator" y_E_expire y_E_expire : Cond) ∈ TB := tb_of 238 (by decide +kernel) (by decide +kernel)
theorem tb_239 : (.code y_E_expire b_E_expire 4 (some .boolean) : Cond) ∈ TB := tb_of 239 (by decide +kernel) (by decide +kernel)
theorem tb_240 : (.methodLink "DeadlineElevator" 64 y_E_isWithin : Cond) ∈ TB := tb_of 240 (by decide +kernel) (by decide +kernel)
theorem tb_241 : (.static y_E_isWithin : Cond) ∈ TB := tb_of 241 (by decide +kernel) (by decide +kernel)
theorem tb_242 : (.code y_E_isWithin b_E_isWithin 2 (some .boolean) : Cond) ∈ TB := tb_of 242 (by decide +kernel) (by decide +kernel)
theorem tb_243 : (.methodLink "DeadlineElevatorLaw" 33 y_E_tick : Cond) ∈ TB := tb_of 243 (by decide +kernel) (by decide +kernel)
theorem tb_244 : (.instanceMethod y_E_tick : Cond) ∈ TB := tb_of 244 (by decide +kernel) (by decide +kernel)
theorem tb_245 : (.selects "DeadlineElevator" y_E_tick y_E_tick : Cond) ∈ TB := tb_of 245 (by decide +kernel) (by decide +kernel)
theorem tb_246 : (.code y_E_tick b_E_tick 2 (some .boolean) : Cond) ∈ TB := tb_of 246 (by decide +kernel) (by decide +kernel)
theorem tb_247 : (.constant "DeadlineElevator" 71 100000 : Cond) ∈ TB := tb_of 247 (by decide +kernel) (by decide +kernel)
theorem tb_248 : (.methodLink "DeadlineElevatorLaw" 38 y_E_dispatch : Cond) ∈ TB := tb_of 248 (by decide +kernel) (by decide +kernel)
theorem tb_249 : (.instanceMethod y_E_dispatch : Cond) ∈ TB := tb_of 249 (by decide +kernel) (by decide +kernel)
theorem tb_250 : (.selects "DeadlineElevator" y_E_dispatch y_E_dispatch : Cond) ∈ TB := tb_of 250 (by decide +kernel) (by decide +kernel)
theorem tb_251 : (.code y_E_dispatch b_E_dispatch 2 (some .int) : Cond) ∈ TB := tb_of 251 (by decide +kernel) (by decide +kernel)
theorem tb_252 : (.methodLink "DeadlineElevator" 72 y_E_markReady : Cond) ∈ TB := tb_of 252 (by decide +kernel) (by decide +kernel)
theorem tb_254 : (.instanceMethod y_E_markReady : Cond) ∈ TB := tb_of 254 (by decide +kernel) (by decide +kernel)
theorem tb_255 : (.code y_E_markReady b_E_markReady 4 none : Cond) ∈ TB := tb_of 255 (by decide +kernel) (by decide +kernel)
theorem tb_258 : (.instanceMethod y_R_markLeastGroup : Cond) ∈ TB := tb_of 258 (by decide +kernel) (by decide +kernel)
theorem tb_259 : (.code y_R_markLeastGroup b_R_markLeastGroup 2 none : Cond) ∈ TB := tb_of 259 (by decide +kernel) (by decide +kernel)
theorem tb_260 : (.methodLink "DeadlineElevator" 75 y_E_pick : Cond) ∈ TB := tb_of 260 (by decide +kernel) (by decide +kernel)
theorem tb_262 : (.instanceMethod y_E_pick : Cond) ∈ TB := tb_of 262 (by decide +kernel) (by decide +kernel)
theorem tb_263 : (.code y_E_pick b_E_pick 3 (some .int) : Cond) ∈ TB := tb_of 263 (by decide +kernel) (by decide +kernel)
theorem tb_266 : (.instanceMethod y_B_mayGoOn : Cond) ∈ TB := tb_of 266 (by decide +kernel) (by decide +kernel)
theorem tb_267 : (.code y_B_mayGoOn b_B_mayGoOn 1 (some .boolean) : Cond) ∈ TB := tb_of 267 (by decide +kernel) (by decide +kernel)
theorem tb_270 : (.instanceMethod y_R_leastStart : Cond) ∈ TB := tb_of 270 (by decide +kernel) (by decide +kernel)
theorem tb_271 : (.code y_R_leastStart b_R_leastStart 6 (some .int) : Cond) ∈ TB := tb_of 271 (by decide +kernel) (by decide +kernel)
theorem tb_272 : (.methodLink "DeadlineElevator$Requests" 58 y_R_isReady : Cond) ∈ TB := tb_of 272 (by decide +kernel) (by decide +kernel)
theorem tb_274 : (.instanceMethod y_R_isReady : Cond) ∈ TB := tb_of 274 (by decide +kernel) (by decide +kernel)
theorem tb_275 : (.code y_R_isReady b_R_isReady 3 (some .boolean) : Cond) ∈ TB := tb_of 275 (by decide +kernel) (by decide +kernel)
theorem tb_278 : (.instanceMethod y_R_hasReady : Cond) ∈ TB := tb_of 278 (by decide +kernel) (by decide +kernel)
theorem tb_279 : (.code y_R_hasReady b_R_hasReady 2 (some .boolean) : Cond) ∈ TB := tb_of 279 (by decide +kernel) (by decide +kernel)
theorem tb_280 : (.methodLink "DeadlineElevator$Requests" 55 y_R_leastStart : Cond) ∈ TB := tb_of 280 (by decide +kernel) (by decide +kernel)
theorem tb_283 : (.instanceMethod y_B_begin : Cond) ∈ TB := tb_of 283 (by decide +kernel) (by decide +kernel)
theorem tb_284 : (.code y_B_begin b_B_begin 3 none : Cond) ∈ TB := tb_of 284 (by decide +kernel) (by decide +kernel)
theorem tb_285 : (.methodLink "DeadlineElevator" 195 y_E_firstOfBatch : Cond) ∈ TB := tb_of 285 (by decide +kernel) (by decide +kernel)
theorem tb_287 : (.instanceMethod y_E_firstOfBatch : Cond) ∈ TB := tb_of 287 (by decide +kernel) (by decide +kernel)
theorem tb_288 : (.code y_E_firstOfBatch b_E_firstOfBatch 4 (some .int) : Cond) ∈ TB := tb_of 288 (by decide +kernel) (by decide +kernel)
theorem tb_291 : (.instanceMethod y_R_leastExpired : Cond) ∈ TB := tb_of 291 (by decide +kernel) (by decide +kernel)
theorem tb_292 : (.code y_R_leastExpired b_R_leastExpired 6 (some .int) : Cond) ∈ TB := tb_of 292 (by decide +kernel) (by decide +kernel)
theorem tb_293 : (.methodLink "DeadlineElevator" 79 y_E_carryOut : Cond) ∈ TB := tb_of 293 (by decide +kernel) (by decide +kernel)
theorem tb_295 : (.instanceMethod y_E_carryOut : Cond) ∈ TB := tb_of 295 (by decide +kernel) (by decide +kernel)
theorem tb_296 : (.code y_E_carryOut b_E_carryOut 3 none : Cond) ∈ TB := tb_of 296 (by decide +kernel) (by decide +kernel)
theorem tb_299 : (.instanceMethod y_P_carryOut : Cond) ∈ TB := tb_of 299 (by decide +kernel) (by decide +kernel)
theorem tb_300 : (.code y_P_carryOut b_P_carryOut 4 none : Cond) ∈ TB := tb_of 300 (by decide +kernel) (by decide +kernel)
theorem tb_301 : (.methodLink "DeadlineElevator$Parts" 43 arraycopyName : Cond) ∈ TB := tb_of 301 (by decide +kernel) (by decide +kernel)
theorem tb_302 : (.static arraycopyName : Cond) ∈ TB := tb_of 302 (by decide +kernel) (by decide +kernel)
theorem tb_303 : (.native arraycopyName : Cond) ∈ TB := tb_of 303 (by decide +kernel) (by decide +kernel)
theorem tb_306 : (.instanceMethod y_R_remove : Cond) ∈ TB := tb_of 306 (by decide +kernel) (by decide +kernel)
theorem tb_307 : (.code y_R_remove b_R_remove 4 none : Cond) ∈ TB := tb_of 307 (by decide +kernel) (by decide +kernel)
theorem tb_309 : (.methodLink "DeadlineElevatorLaw" 42 y_E_state : Cond) ∈ TB := tb_of 309 (by decide +kernel) (by decide +kernel)
theorem tb_310 : (.instanceMethod y_E_state : Cond) ∈ TB := tb_of 310 (by decide +kernel) (by decide +kernel)
theorem tb_311 : (.selects "DeadlineElevator" y_E_state y_E_state : Cond) ∈ TB := tb_of 311 (by decide +kernel) (by decide +kernel)
theorem tb_312 : (.code y_E_state b_E_state 2 (some .int) : Cond) ∈ TB := tb_of 312 (by decide +kernel) (by decide +kernel)
theorem tb_315 : (.instanceMethod y_P_has : Cond) ∈ TB := tb_of 315 (by decide +kernel) (by decide +kernel)
theorem tb_316 : (.code y_P_has b_P_has 2 (some .boolean) : Cond) ∈ TB := tb_of 316 (by decide +kernel) (by decide +kernel)
theorem tb_317 : (.methodLink "DeadlineElevatorLaw" 47 y_E_value : Cond) ∈ TB := tb_of 317 (by decide +kernel) (by decide +kernel)
theorem tb_318 : (.instanceMethod y_E_value : Cond) ∈ TB := tb_of 318 (by decide +kernel) (by decide +kernel)
theorem tb_319 : (.selects "DeadlineElevator" y_E_value y_E_value : Cond) ∈ TB := tb_of 319 (by decide +kernel) (by decide +kernel)
theorem tb_320 : (.code y_E_value b_E_value 3 (some .int) : Cond) ∈ TB := tb_of 320 (by decide +kernel) (by decide +kernel)
theorem tb_321 : (.methodLink "DeadlineElevatorLaw" 51 y_E_sector : Cond) ∈ TB := tb_of 321 (by decide +kernel) (by decide +kernel)
theorem tb_322 : (.instanceMethod y_E_sector : Cond) ∈ TB := tb_of 322 (by decide +kernel) (by decide +kernel)
theorem tb_323 : (.selects "DeadlineElevator" y_E_sector y_E_sector : Cond) ∈ TB := tb_of 323 (by decide +kernel) (by decide +kernel)
theorem tb_324 : (.code y_E_sector b_E_sector 2 (some .int) : Cond) ∈ TB := tb_of 324 (by decide +kernel) (by decide +kernel)
theorem tb_325 : (.methodLink "DeadlineElevatorLaw" 55 y_E_waiting : Cond) ∈ TB := tb_of 325 (by decide +kernel) (by decide +kernel)
theorem tb_326 : (.instanceMethod y_E_waiting : Cond) ∈ TB := tb_of 326 (by decide +kernel) (by decide +kernel)
theorem tb_327 : (.selects "DeadlineElevator" y_E_waiting y_E_waiting : Cond) ∈ TB := tb_of 327 (by decide +kernel) (by decide +kernel)
theorem tb_328 : (.code y_E_waiting b_E_waiting 4 (some .int) : Cond) ∈ TB := tb_of 328 (by decide +kernel) (by decide +kernel)
theorem tb_329 : (.methodLink "DeadlineElevatorLaw" 59 y_E_ready : Cond) ∈ TB := tb_of 329 (by decide +kernel) (by decide +kernel)
theorem tb_330 : (.instanceMethod y_E_ready : Cond) ∈ TB := tb_of 330 (by decide +kernel) (by decide +kernel)
theorem tb_331 : (.selects "DeadlineElevator" y_E_ready y_E_ready : Cond) ∈ TB := tb_of 331 (by decide +kernel) (by decide +kernel)
theorem tb_332 : (.code y_E_ready b_E_ready 4 (some .int) : Cond) ∈ TB := tb_of 332 (by decide +kernel) (by decide +kernel)
theorem tb_334 : (.methodLink "DeadlineElevatorLaw" 63 y_E_requestOf : Cond) ∈ TB := tb_of 334 (by decide +kernel) (by decide +kernel)
theorem tb_335 : (.instanceMethod y_E_requestOf : Cond) ∈ TB := tb_of 335 (by decide +kernel) (by decide +kernel)
theorem tb_336 : (.selects "DeadlineElevator" y_E_requestOf y_E_requestOf : Cond) ∈ TB := tb_of 336 (by decide +kernel) (by decide +kernel)
theorem tb_337 : (.code y_E_requestOf b_E_requestOf 2 (some .int) : Cond) ∈ TB := tb_of 337 (by decide +kernel) (by decide +kernel)
theorem tb_340 : (.instanceMethod y_P_isWaiting : Cond) ∈ TB := tb_of 340 (by decide +kernel) (by decide +kernel)
theorem tb_341 : (.code y_P_isWaiting b_P_isWaiting 2 (some .boolean) : Cond) ∈ TB := tb_of 341 (by decide +kernel) (by decide +kernel)
theorem tb_342 : (.methodLink "DeadlineElevator$Parts" 35 y_P_has : Cond) ∈ TB := tb_of 342 (by decide +kernel) (by decide +kernel)
theorem tb_343 : (.methodLink "DeadlineElevatorLaw" 67 y_E_about : Cond) ∈ TB := tb_of 343 (by decide +kernel) (by decide +kernel)
theorem tb_344 : (.instanceMethod y_E_about : Cond) ∈ TB := tb_of 344 (by decide +kernel) (by decide +kernel)
theorem tb_345 : (.selects "DeadlineElevator" y_E_about y_E_about : Cond) ∈ TB := tb_of 345 (by decide +kernel) (by decide +kernel)
theorem tb_346 : (.code y_E_about b_E_about 4 (some .int) : Cond) ∈ TB := tb_of 346 (by decide +kernel) (by decide +kernel)
theorem tb_347 : (.methodLink "DeadlineElevatorLaw" 71 y_E_latest : Cond) ∈ TB := tb_of 347 (by decide +kernel) (by decide +kernel)
theorem tb_348 : (.instanceMethod y_E_latest : Cond) ∈ TB := tb_of 348 (by decide +kernel) (by decide +kernel)
theorem tb_349 : (.selects "DeadlineElevator" y_E_latest y_E_latest : Cond) ∈ TB := tb_of 349 (by decide +kernel) (by decide +kernel)
theorem tb_350 : (.code y_E_latest b_E_latest 1 (some .int) : Cond) ∈ TB := tb_of 350 (by decide +kernel) (by decide +kernel)
theorem tb_351 : (.methodLink "DeadlineElevatorLaw" 75 y_E_head : Cond) ∈ TB := tb_of 351 (by decide +kernel) (by decide +kernel)
theorem tb_352 : (.instanceMethod y_E_head : Cond) ∈ TB := tb_of 352 (by decide +kernel) (by decide +kernel)
theorem tb_353 : (.selects "DeadlineElevator" y_E_head y_E_head : Cond) ∈ TB := tb_of 353 (by decide +kernel) (by decide +kernel)
theorem tb_354 : (.code y_E_head b_E_head 1 (some .int) : Cond) ∈ TB := tb_of 354 (by decide +kernel) (by decide +kernel)
theorem tb_355 : (.methodLink "DeadlineElevatorLaw" 79 y_E_now : Cond) ∈ TB := tb_of 355 (by decide +kernel) (by decide +kernel)
theorem tb_356 : (.instanceMethod y_E_now : Cond) ∈ TB := tb_of 356 (by decide +kernel) (by decide +kernel)
theorem tb_357 : (.selects "DeadlineElevator" y_E_now y_E_now : Cond) ∈ TB := tb_of 357 (by decide +kernel) (by decide +kernel)
theorem tb_358 : (.code y_E_now b_E_now 1 (some .int) : Cond) ∈ TB := tb_of 358 (by decide +kernel) (by decide +kernel)
theorem tb_359 : (.methodLink "DeadlineElevatorLaw" 83 y_E_batch : Cond) ∈ TB := tb_of 359 (by decide +kernel) (by decide +kernel)
theorem tb_360 : (.instanceMethod y_E_batch : Cond) ∈ TB := tb_of 360 (by decide +kernel) (by decide +kernel)
theorem tb_361 : (.selects "DeadlineElevator" y_E_batch y_E_batch : Cond) ∈ TB := tb_of 361 (by decide +kernel) (by decide +kernel)
theorem tb_362 : (.code y_E_batch b_E_batch 1 (some .int) : Cond) ∈ TB := tb_of 362 (by decide +kernel) (by decide +kernel)
theorem tb_363 : (.classLink "DeadlineElevatorLaw" 10 "DeadlineElevatorModel" : Cond) ∈ TB := tb_of 363 (by decide +kernel) (by decide +kernel)
theorem tb_364 : (.instantiable "DeadlineElevatorModel" 19 : Cond) ∈ TB := tb_of 364 (by decide +kernel) (by decide +kernel)
theorem tb_365 : (.methodLink "DeadlineElevatorLaw" 12 y_M_init : Cond) ∈ TB := tb_of 365 (by decide +kernel) (by decide +kernel)
theorem tb_366 : (.instanceMethod y_M_init : Cond) ∈ TB := tb_of 366 (by decide +kernel) (by decide +kernel)
theorem tb_367 : (.code y_M_init b_M_init 1 none : Cond) ∈ TB := tb_of 367 (by decide +kernel) (by decide +kernel)
theorem tb_368 : (.methodLink "DeadlineElevatorModel" 1 objectInit : Cond) ∈ TB := tb_of 368 (by decide +kernel) (by decide +kernel)
theorem tb_369 : (.fieldLink "DeadlineElevatorModel" 7 "DeadlineElevatorModel" "disk" "[I" : Cond) ∈ TB := tb_of 369 (by decide +kernel) (by decide +kernel)
theorem tb_370 : (.fieldLink "DeadlineElevatorModel" 47 "DeadlineElevatorModel" "parts" "I" : Cond) ∈ TB := tb_of 370 (by decide +kernel) (by decide +kernel)
theorem tb_371 : (.fieldLink "DeadlineElevatorModel" 13 "DeadlineElevatorModel" "way" "[I" : Cond) ∈ TB := tb_of 371 (by decide +kernel) (by decide +kernel)
theorem tb_372 : (.fieldLink "DeadlineElevatorModel" 16 "DeadlineElevatorModel" "from" "[I" : Cond) ∈ TB := tb_of 372 (by decide +kernel) (by decide +kernel)
theorem tb_373 : (.fieldLink "DeadlineElevatorModel" 19 "DeadlineElevatorModel" "size" "[I" : Cond) ∈ TB := tb_of 373 (by decide +kernel) (by decide +kernel)
theorem tb_374 : (.fieldLink "DeadlineElevatorModel" 22 "DeadlineElevatorModel" "with" "[I" : Cond) ∈ TB := tb_of 374 (by decide +kernel) (by decide +kernel)
theorem tb_375 : (.fieldLink "DeadlineElevatorModel" 25 "DeadlineElevatorModel" "request" "[I" : Cond) ∈ TB := tb_of 375 (by decide +kernel) (by decide +kernel)
theorem tb_376 : (.fieldLink "DeadlineElevatorModel" 28 "DeadlineElevatorModel" "state" "[I" : Cond) ∈ TB := tb_of 376 (by decide +kernel) (by decide +kernel)
theorem tb_377 : (.fieldLink "DeadlineElevatorModel" 31 "DeadlineElevatorModel" "values" "[I" : Cond) ∈ TB := tb_of 377 (by decide +kernel) (by decide +kernel)
theorem tb_378 : (.fieldLink "DeadlineElevatorModel" 34 "DeadlineElevatorModel" "deadline" "[I" : Cond) ∈ TB := tb_of 378 (by decide +kernel) (by decide +kernel)
theorem tb_379 : (.fieldLink "DeadlineElevatorModel" 37 "DeadlineElevatorModel" "group" "[I" : Cond) ∈ TB := tb_of 379 (by decide +kernel) (by decide +kernel)
theorem tb_380 : (.fieldLink "DeadlineElevatorModel" 58 "DeadlineElevatorModel" "barriers" "I" : Cond) ∈ TB := tb_of 380 (by decide +kernel) (by decide +kernel)
theorem tb_381 : (.fieldLink "DeadlineElevatorModel" 77 "DeadlineElevatorModel" "time" "I" : Cond) ∈ TB := tb_of 381 (by decide +kernel) (by decide +kernel)
theorem tb_382 : (.fieldLink "DeadlineElevatorModel" 40 "DeadlineElevatorModel" "expiry" "[I" : Cond) ∈ TB := tb_of 382 (by decide +kernel) (by decide +kernel)
theorem tb_383 : (.fieldLink "DeadlineElevatorModel" 103 "DeadlineElevatorModel" "top" "I" : Cond) ∈ TB := tb_of 383 (by decide +kernel) (by decide +kernel)
theorem tb_384 : (.fieldLink "DeadlineElevatorModel" 94 "DeadlineElevatorModel" "batchWay" "I" : Cond) ∈ TB := tb_of 384 (by decide +kernel) (by decide +kernel)
theorem tb_385 : (.fieldLink "DeadlineElevatorModel" 97 "DeadlineElevatorModel" "count" "I" : Cond) ∈ TB := tb_of 385 (by decide +kernel) (by decide +kernel)
theorem tb_386 : (.fieldLink "DeadlineElevatorModel" 91 "DeadlineElevatorModel" "starved" "I" : Cond) ∈ TB := tb_of 386 (by decide +kernel) (by decide +kernel)
theorem tb_387 : (.fieldLink "DeadlineElevatorModel" 43 "DeadlineElevatorModel" "last" "I" : Cond) ∈ TB := tb_of 387 (by decide +kernel) (by decide +kernel)
theorem tb_427 : (.methodLink "DeadlineElevatorLaw" 17 y_M_read : Cond) ∈ TB := tb_of 427 (by decide +kernel) (by decide +kernel)
theorem tb_428 : (.instanceMethod y_M_read : Cond) ∈ TB := tb_of 428 (by decide +kernel) (by decide +kernel)
theorem tb_429 : (.selects "DeadlineElevatorModel" y_M_read y_M_read : Cond) ∈ TB := tb_of 429 (by decide +kernel) (by decide +kernel)
theorem tb_430 : (.code y_M_read b_M_read 3 (some .int) : Cond) ∈ TB := tb_of 430 (by decide +kernel) (by decide +kernel)
theorem tb_431 : (.methodLink "DeadlineElevatorModel" 80 y_M_come : Cond) ∈ TB := tb_of 431 (by decide +kernel) (by decide +kernel)
theorem tb_433 : (.instanceMethod y_M_come : Cond) ∈ TB := tb_of 433 (by decide +kernel) (by decide +kernel)
theorem tb_434 : (.code y_M_come b_M_come 7 (some .int) : Cond) ∈ TB := tb_of 434 (by decide +kernel) (by decide +kernel)
theorem tb_435 : (.methodLink "DeadlineElevatorModel" 71 y_M_waiting : Cond) ∈ TB := tb_of 435 (by decide +kernel) (by decide +kernel)
theorem tb_436 : (.instanceMethod y_M_waiting : Cond) ∈ TB := tb_of 436 (by decide +kernel) (by decide +kernel)
theorem tb_437 : (.selects "DeadlineElevatorModel" y_M_waiting y_M_waiting : Cond) ∈ TB := tb_of 437 (by decide +kernel) (by decide +kernel)
theorem tb_438 : (.code y_M_waiting b_M_waiting 4 (some .int) : Cond) ∈ TB := tb_of 438 (by decide +kernel) (by decide +kernel)
theorem tb_439 : (.methodLink "DeadlineElevatorModel" 50 y_M_waits : Cond) ∈ TB := tb_of 439 (by decide +kernel) (by decide +kernel)
theorem tb_441 : (.instanceMethod y_M_waits : Cond) ∈ TB := tb_of 441 (by decide +kernel) (by decide +kernel)
theorem tb_442 : (.code y_M_waits b_M_waits 2 (some .boolean) : Cond) ∈ TB := tb_of 442 (by decide +kernel) (by decide +kernel)
theorem tb_443 : (.methodLink "DeadlineElevatorModel" 74 y_M_joined : Cond) ∈ TB := tb_of 443 (by decide +kernel) (by decide +kernel)
theorem tb_445 : (.instanceMethod y_M_joined : Cond) ∈ TB := tb_of 445 (by decide +kernel) (by decide +kernel)
theorem tb_446 : (.code y_M_joined b_M_joined 5 (some .int) : Cond) ∈ TB := tb_of 446 (by decide +kernel) (by decide +kernel)
theorem tb_447 : (.methodLink "DeadlineElevatorModel" 54 y_M_conflict : Cond) ∈ TB := tb_of 447 (by decide +kernel) (by decide +kernel)
theorem tb_449 : (.instanceMethod y_M_conflict : Cond) ∈ TB := tb_of 449 (by decide +kernel) (by decide +kernel)
theorem tb_450 : (.code y_M_conflict b_M_conflict 3 (some .boolean) : Cond) ∈ TB := tb_of 450 (by decide +kernel) (by decide +kernel)
theorem tb_451 : (.methodLink "DeadlineElevatorModel" 61 y_M_members : Cond) ∈ TB := tb_of 451 (by decide +kernel) (by decide +kernel)
theorem tb_453 : (.instanceMethod y_M_members : Cond) ∈ TB := tb_of 453 (by decide +kernel) (by decide +kernel)
theorem tb_454 : (.code y_M_members b_M_members 4 (some .int) : Cond) ∈ TB := tb_of 454 (by decide +kernel) (by decide +kernel)
theorem tb_455 : (.methodLink "DeadlineElevatorModel" 65 y_M_length : Cond) ∈ TB := tb_of 455 (by decide +kernel) (by decide +kernel)
theorem tb_457 : (.instanceMethod y_M_length : Cond) ∈ TB := tb_of 457 (by decide +kernel) (by decide +kernel)
theorem tb_458 : (.code y_M_length b_M_length 4 (some .int) : Cond) ∈ TB := tb_of 458 (by decide +kernel) (by decide +kernel)
theorem tb_459 : (.methodLink "DeadlineElevatorModel" 68 y_M_start : Cond) ∈ TB := tb_of 459 (by decide +kernel) (by decide +kernel)
theorem tb_461 : (.instanceMethod y_M_start : Cond) ∈ TB := tb_of 461 (by decide +kernel) (by decide +kernel)
theorem tb_462 : (.code y_M_start b_M_start 4 (some .int) : Cond) ∈ TB := tb_of 462 (by decide +kernel) (by decide +kernel)
theorem tb_463 : (.methodLink "DeadlineElevatorLaw" 22 y_M_write : Cond) ∈ TB := tb_of 463 (by decide +kernel) (by decide +kernel)
theorem tb_464 : (.instanceMethod y_M_write : Cond) ∈ TB := tb_of 464 (by decide +kernel) (by decide +kernel)
theorem tb_465 : (.selects "DeadlineElevatorModel" y_M_write y_M_write : Cond) ∈ TB := tb_of 465 (by decide +kernel) (by decide +kernel)
theorem tb_466 : (.code y_M_write b_M_write 4 (some .int) : Cond) ∈ TB := tb_of 466 (by decide +kernel) (by decide +kernel)
theorem tb_467 : (.methodLink "DeadlineElevatorLaw" 27 y_M_barrier : Cond) ∈ TB := tb_of 467 (by decide +kernel) (by decide +kernel)
theorem tb_468 : (.instanceMethod y_M_barrier : Cond) ∈ TB := tb_of 468 (by decide +kernel) (by decide +kernel)
theorem tb_469 : (.selects "DeadlineElevatorModel" y_M_barrier y_M_barrier : Cond) ∈ TB := tb_of 469 (by decide +kernel) (by decide +kernel)
theorem tb_470 : (.code y_M_barrier b_M_barrier 1 (some .int) : Cond) ∈ TB := tb_of 470 (by decide +kernel) (by decide +kernel)
theorem tb_471 : (.methodLink "DeadlineElevatorLaw" 32 y_M_expire : Cond) ∈ TB := tb_of 471 (by decide +kernel) (by decide +kernel)
theorem tb_472 : (.instanceMethod y_M_expire : Cond) ∈ TB := tb_of 472 (by decide +kernel) (by decide +kernel)
theorem tb_473 : (.selects "DeadlineElevatorModel" y_M_expire y_M_expire : Cond) ∈ TB := tb_of 473 (by decide +kernel) (by decide +kernel)
theorem tb_474 : (.code y_M_expire b_M_expire 3 (some .boolean) : Cond) ∈ TB := tb_of 474 (by decide +kernel) (by decide +kernel)
theorem tb_475 : (.methodLink "DeadlineElevatorLaw" 37 y_M_tick : Cond) ∈ TB := tb_of 475 (by decide +kernel) (by decide +kernel)
theorem tb_476 : (.instanceMethod y_M_tick : Cond) ∈ TB := tb_of 476 (by decide +kernel) (by decide +kernel)
theorem tb_477 : (.selects "DeadlineElevatorModel" y_M_tick y_M_tick : Cond) ∈ TB := tb_of 477 (by decide +kernel) (by decide +kernel)
theorem tb_478 : (.code y_M_tick b_M_tick 2 (some .boolean) : Cond) ∈ TB := tb_of 478 (by decide +kernel) (by decide +kernel)
theorem tb_479 : (.constant "DeadlineElevatorModel" 84 100000 : Cond) ∈ TB := tb_of 479 (by decide +kernel) (by decide +kernel)
theorem tb_480 : (.methodLink "DeadlineElevatorLaw" 41 y_M_dispatch : Cond) ∈ TB := tb_of 480 (by decide +kernel) (by decide +kernel)
theorem tb_481 : (.instanceMethod y_M_dispatch : Cond) ∈ TB := tb_of 481 (by decide +kernel) (by decide +kernel)
theorem tb_482 : (.selects "DeadlineElevatorModel" y_M_dispatch y_M_dispatch : Cond) ∈ TB := tb_of 482 (by decide +kernel) (by decide +kernel)
theorem tb_483 : (.code y_M_dispatch b_M_dispatch 4 (some .int) : Cond) ∈ TB := tb_of 483 (by decide +kernel) (by decide +kernel)
theorem tb_484 : (.methodLink "DeadlineElevatorModel" 106 y_M_sweep : Cond) ∈ TB := tb_of 484 (by decide +kernel) (by decide +kernel)
theorem tb_486 : (.instanceMethod y_M_sweep : Cond) ∈ TB := tb_of 486 (by decide +kernel) (by decide +kernel)
theorem tb_487 : (.code y_M_sweep b_M_sweep 5 (some .int) : Cond) ∈ TB := tb_of 487 (by decide +kernel) (by decide +kernel)
theorem tb_488 : (.methodLink "DeadlineElevatorModel" 85 y_M_isReady : Cond) ∈ TB := tb_of 488 (by decide +kernel) (by decide +kernel)
theorem tb_490 : (.instanceMethod y_M_isReady : Cond) ∈ TB := tb_of 490 (by decide +kernel) (by decide +kernel)
theorem tb_491 : (.code y_M_isReady b_M_isReady 4 (some .boolean) : Cond) ∈ TB := tb_of 491 (by decide +kernel) (by decide +kernel)
theorem tb_492 : (.methodLink "DeadlineElevatorModel" 110 y_M_fresh : Cond) ∈ TB := tb_of 492 (by decide +kernel) (by decide +kernel)
theorem tb_494 : (.instanceMethod y_M_fresh : Cond) ∈ TB := tb_of 494 (by decide +kernel) (by decide +kernel)
theorem tb_495 : (.code y_M_fresh b_M_fresh 3 (some .int) : Cond) ∈ TB := tb_of 495 (by decide +kernel) (by decide +kernel)
theorem tb_496 : (.methodLink "DeadlineElevatorModel" 88 y_M_ready : Cond) ∈ TB := tb_of 496 (by decide +kernel) (by decide +kernel)
theorem tb_497 : (.instanceMethod y_M_ready : Cond) ∈ TB := tb_of 497 (by decide +kernel) (by decide +kernel)
theorem tb_498 : (.selects "DeadlineElevatorModel" y_M_ready y_M_ready : Cond) ∈ TB := tb_of 498 (by decide +kernel) (by decide +kernel)
theorem tb_499 : (.code y_M_ready b_M_ready 4 (some .int) : Cond) ∈ TB := tb_of 499 (by decide +kernel) (by decide +kernel)
theorem tb_500 : (.methodLink "DeadlineElevatorModel" 100 y_M_late : Cond) ∈ TB := tb_of 500 (by decide +kernel) (by decide +kernel)
theorem tb_502 : (.instanceMethod y_M_late : Cond) ∈ TB := tb_of 502 (by decide +kernel) (by decide +kernel)
theorem tb_503 : (.code y_M_late b_M_late 4 (some .int) : Cond) ∈ TB := tb_of 503 (by decide +kernel) (by decide +kernel)
theorem tb_504 : (.methodLink "DeadlineElevatorModel" 114 y_M_carryOut : Cond) ∈ TB := tb_of 504 (by decide +kernel) (by decide +kernel)
theorem tb_506 : (.instanceMethod y_M_carryOut : Cond) ∈ TB := tb_of 506 (by decide +kernel) (by decide +kernel)
theorem tb_507 : (.code y_M_carryOut b_M_carryOut 3 none : Cond) ∈ TB := tb_of 507 (by decide +kernel) (by decide +kernel)
theorem tb_508 : (.methodLink "DeadlineElevatorLaw" 46 y_M_state : Cond) ∈ TB := tb_of 508 (by decide +kernel) (by decide +kernel)
theorem tb_509 : (.instanceMethod y_M_state : Cond) ∈ TB := tb_of 509 (by decide +kernel) (by decide +kernel)
theorem tb_510 : (.selects "DeadlineElevatorModel" y_M_state y_M_state : Cond) ∈ TB := tb_of 510 (by decide +kernel) (by decide +kernel)
theorem tb_511 : (.code y_M_state b_M_state 2 (some .int) : Cond) ∈ TB := tb_of 511 (by decide +kernel) (by decide +kernel)
theorem tb_512 : (.methodLink "DeadlineElevatorModel" 118 y_M_isPart : Cond) ∈ TB := tb_of 512 (by decide +kernel) (by decide +kernel)
theorem tb_514 : (.instanceMethod y_M_isPart : Cond) ∈ TB := tb_of 514 (by decide +kernel) (by decide +kernel)
theorem tb_515 : (.code y_M_isPart b_M_isPart 2 (some .boolean) : Cond) ∈ TB := tb_of 515 (by decide +kernel) (by decide +kernel)
theorem tb_516 : (.methodLink "DeadlineElevatorLaw" 50 y_M_value : Cond) ∈ TB := tb_of 516 (by decide +kernel) (by decide +kernel)
theorem tb_517 : (.instanceMethod y_M_value : Cond) ∈ TB := tb_of 517 (by decide +kernel) (by decide +kernel)
theorem tb_518 : (.selects "DeadlineElevatorModel" y_M_value y_M_value : Cond) ∈ TB := tb_of 518 (by decide +kernel) (by decide +kernel)
theorem tb_519 : (.code y_M_value b_M_value 3 (some .int) : Cond) ∈ TB := tb_of 519 (by decide +kernel) (by decide +kernel)
theorem tb_520 : (.methodLink "DeadlineElevatorLaw" 54 y_M_sector : Cond) ∈ TB := tb_of 520 (by decide +kernel) (by decide +kernel)
theorem tb_521 : (.instanceMethod y_M_sector : Cond) ∈ TB := tb_of 521 (by decide +kernel) (by decide +kernel)
theorem tb_522 : (.selects "DeadlineElevatorModel" y_M_sector y_M_sector : Cond) ∈ TB := tb_of 522 (by decide +kernel) (by decide +kernel)
theorem tb_523 : (.code y_M_sector b_M_sector 2 (some .int) : Cond) ∈ TB := tb_of 523 (by decide +kernel) (by decide +kernel)
theorem tb_524 : (.methodLink "DeadlineElevatorLaw" 58 y_M_waiting : Cond) ∈ TB := tb_of 524 (by decide +kernel) (by decide +kernel)
theorem tb_525 : (.methodLink "DeadlineElevatorLaw" 62 y_M_ready : Cond) ∈ TB := tb_of 525 (by decide +kernel) (by decide +kernel)
theorem tb_526 : (.methodLink "DeadlineElevatorLaw" 66 y_M_requestOf : Cond) ∈ TB := tb_of 526 (by decide +kernel) (by decide +kernel)
theorem tb_527 : (.instanceMethod y_M_requestOf : Cond) ∈ TB := tb_of 527 (by decide +kernel) (by decide +kernel)
theorem tb_528 : (.selects "DeadlineElevatorModel" y_M_requestOf y_M_requestOf : Cond) ∈ TB := tb_of 528 (by decide +kernel) (by decide +kernel)
theorem tb_529 : (.code y_M_requestOf b_M_requestOf 2 (some .int) : Cond) ∈ TB := tb_of 529 (by decide +kernel) (by decide +kernel)
theorem tb_530 : (.methodLink "DeadlineElevatorLaw" 70 y_M_about : Cond) ∈ TB := tb_of 530 (by decide +kernel) (by decide +kernel)
theorem tb_531 : (.instanceMethod y_M_about : Cond) ∈ TB := tb_of 531 (by decide +kernel) (by decide +kernel)
theorem tb_532 : (.selects "DeadlineElevatorModel" y_M_about y_M_about : Cond) ∈ TB := tb_of 532 (by decide +kernel) (by decide +kernel)
theorem tb_533 : (.code y_M_about b_M_about 4 (some .int) : Cond) ∈ TB := tb_of 533 (by decide +kernel) (by decide +kernel)
theorem tb_534 : (.methodLink "DeadlineElevatorModel" 121 y_M_requestOf : Cond) ∈ TB := tb_of 534 (by decide +kernel) (by decide +kernel)
theorem tb_535 : (.methodLink "DeadlineElevatorLaw" 74 y_M_latest : Cond) ∈ TB := tb_of 535 (by decide +kernel) (by decide +kernel)
theorem tb_536 : (.instanceMethod y_M_latest : Cond) ∈ TB := tb_of 536 (by decide +kernel) (by decide +kernel)
theorem tb_537 : (.selects "DeadlineElevatorModel" y_M_latest y_M_latest : Cond) ∈ TB := tb_of 537 (by decide +kernel) (by decide +kernel)
theorem tb_538 : (.code y_M_latest b_M_latest 1 (some .int) : Cond) ∈ TB := tb_of 538 (by decide +kernel) (by decide +kernel)
theorem tb_539 : (.methodLink "DeadlineElevatorLaw" 78 y_M_head : Cond) ∈ TB := tb_of 539 (by decide +kernel) (by decide +kernel)
theorem tb_540 : (.instanceMethod y_M_head : Cond) ∈ TB := tb_of 540 (by decide +kernel) (by decide +kernel)
theorem tb_541 : (.selects "DeadlineElevatorModel" y_M_head y_M_head : Cond) ∈ TB := tb_of 541 (by decide +kernel) (by decide +kernel)
theorem tb_542 : (.code y_M_head b_M_head 1 (some .int) : Cond) ∈ TB := tb_of 542 (by decide +kernel) (by decide +kernel)
theorem tb_543 : (.methodLink "DeadlineElevatorLaw" 82 y_M_now : Cond) ∈ TB := tb_of 543 (by decide +kernel) (by decide +kernel)
theorem tb_544 : (.instanceMethod y_M_now : Cond) ∈ TB := tb_of 544 (by decide +kernel) (by decide +kernel)
theorem tb_545 : (.selects "DeadlineElevatorModel" y_M_now y_M_now : Cond) ∈ TB := tb_of 545 (by decide +kernel) (by decide +kernel)
theorem tb_546 : (.code y_M_now b_M_now 1 (some .int) : Cond) ∈ TB := tb_of 546 (by decide +kernel) (by decide +kernel)
theorem tb_547 : (.methodLink "DeadlineElevatorLaw" 86 y_M_batch : Cond) ∈ TB := tb_of 547 (by decide +kernel) (by decide +kernel)
theorem tb_548 : (.instanceMethod y_M_batch : Cond) ∈ TB := tb_of 548 (by decide +kernel) (by decide +kernel)
theorem tb_549 : (.selects "DeadlineElevatorModel" y_M_batch y_M_batch : Cond) ∈ TB := tb_of 549 (by decide +kernel) (by decide +kernel)
theorem tb_550 : (.code y_M_batch b_M_batch 1 (some .int) : Cond) ∈ TB := tb_of 550 (by decide +kernel) (by decide +kernel)
theorem tn_19 : (.methodLinkNest "DeadlineElevator" 15 y_P_init "DeadlineElevator" : Cond) ∈ NB := tn_of 19 (by decide +kernel) (by decide +kernel)
theorem tn_24 : (.fieldLinkNest "DeadlineElevator" 93 "DeadlineElevator$Parts" "way" "[I" "DeadlineElevator" : Cond) ∈ NB := tn_of 24 (by decide +kernel) (by decide +kernel)
theorem tn_27 : (.fieldLinkNest "DeadlineElevator" 96 "DeadlineElevator$Parts" "length" "[I" "DeadlineElevator" : Cond) ∈ NB := tn_of 27 (by decide +kernel) (by decide +kernel)
theorem tn_29 : (.fieldLinkNest "DeadlineElevator" 112 "DeadlineElevator$Parts" "request" "[I" "DeadlineElevator" : Cond) ∈ NB := tn_of 29 (by decide +kernel) (by decide +kernel)
theorem tn_31 : (.fieldLinkNest "DeadlineElevator" 89 "DeadlineElevator$Parts" "done" "[Z" "DeadlineElevator" : Cond) ∈ NB := tn_of 31 (by decide +kernel) (by decide +kernel)
theorem tn_33 : (.fieldLinkNest "DeadlineElevator" 99 "DeadlineElevator$Parts" "data" "[I" "DeadlineElevator" : Cond) ∈ NB := tn_of 33 (by decide +kernel) (by decide +kernel)
theorem tn_35 : (.fieldLinkNest "DeadlineElevator" 134 "DeadlineElevator$Parts" "count" "I" "DeadlineElevator" : Cond) ∈ NB := tn_of 35 (by decide +kernel) (by decide +kernel)
theorem tn_55 : (.methodLinkNest "DeadlineElevator" 22 y_R_init "DeadlineElevator" : Cond) ∈ NB := tn_of 55 (by decide +kernel) (by decide +kernel)
theorem tn_60 : (.fieldLinkNest "DeadlineElevator" 102 "DeadlineElevator$Requests" "way" "[I" "DeadlineElevator" : Cond) ∈ NB := tn_of 60 (by decide +kernel) (by decide +kernel)
theorem tn_62 : (.fieldLinkNest "DeadlineElevator" 115 "DeadlineElevator$Requests" "start" "[I" "DeadlineElevator" : Cond) ∈ NB := tn_of 62 (by decide +kernel) (by decide +kernel)
theorem tn_64 : (.fieldLinkNest "DeadlineElevator" 118 "DeadlineElevator$Requests" "length" "[I" "DeadlineElevator" : Cond) ∈ NB := tn_of 64 (by decide +kernel) (by decide +kernel)
theorem tn_66 : (.fieldLinkNest "DeadlineElevator" 83 "DeadlineElevator$Requests" "parts" "[I" "DeadlineElevator" : Cond) ∈ NB := tn_of 66 (by decide +kernel) (by decide +kernel)
theorem tn_68 : (.fieldLinkNest "DeadlineElevator" 119 "DeadlineElevator$Requests" "deadline" "[I" "DeadlineElevator" : Cond) ∈ NB := tn_of 68 (by decide +kernel) (by decide +kernel)
theorem tn_70 : (.fieldLinkNest "DeadlineElevator" 122 "DeadlineElevator$Requests" "group" "[I" "DeadlineElevator" : Cond) ∈ NB := tn_of 70 (by decide +kernel) (by decide +kernel)
theorem tn_72 : (.fieldLinkNest "DeadlineElevator" 177 "DeadlineElevator$Requests" "ready" "[Z" "DeadlineElevator" : Cond) ∈ NB := tn_of 72 (by decide +kernel) (by decide +kernel)
theorem tn_74 : (.fieldLinkNest "DeadlineElevator" 103 "DeadlineElevator$Requests" "queue" "[I" "DeadlineElevator" : Cond) ∈ NB := tn_of 74 (by decide +kernel) (by decide +kernel)
theorem tn_76 : (.fieldLinkNest "DeadlineElevator" 68 "DeadlineElevator$Requests" "count" "I" "DeadlineElevator" : Cond) ∈ NB := tn_of 76 (by decide +kernel) (by decide +kernel)
theorem tn_98 : (.methodLinkNest "DeadlineElevator" 29 y_C_init "DeadlineElevator" : Cond) ∈ NB := tn_of 98 (by decide +kernel) (by decide +kernel)
theorem tn_111 : (.methodLinkNest "DeadlineElevator" 36 y_B_init "DeadlineElevator" : Cond) ∈ NB := tn_of 111 (by decide +kernel) (by decide +kernel)
theorem tn_116 : (.fieldLinkNest "DeadlineElevator" 128 "DeadlineElevator$Batch" "way" "I" "DeadlineElevator" : Cond) ∈ NB := tn_of 116 (by decide +kernel) (by decide +kernel)
theorem tn_118 : (.fieldLinkNest "DeadlineElevator" 130 "DeadlineElevator$Batch" "count" "I" "DeadlineElevator" : Cond) ∈ NB := tn_of 118 (by decide +kernel) (by decide +kernel)
theorem tn_120 : (.fieldLinkNest "DeadlineElevator" 125 "DeadlineElevator$Batch" "starved" "I" "DeadlineElevator" : Cond) ∈ NB := tn_of 120 (by decide +kernel) (by decide +kernel)
theorem tn_181 : (.methodLinkNest "DeadlineElevator" 164 y_C_clear "DeadlineElevator" : Cond) ∈ NB := tn_of 181 (by decide +kernel) (by decide +kernel)
theorem tn_185 : (.methodLinkNest "DeadlineElevator" 167 y_P_sectors "DeadlineElevator" : Cond) ∈ NB := tn_of 185 (by decide +kernel) (by decide +kernel)
theorem tn_189 : (.methodLinkNest "DeadlineElevator$Parts" 39 y_E_sectorsFrom "DeadlineElevator" : Cond) ∈ NB := tn_of 189 (by decide +kernel) (by decide +kernel)
theorem tn_192 : (.methodLinkNest "DeadlineElevator" 171 y_C_add "DeadlineElevator" : Cond) ∈ NB := tn_of 192 (by decide +kernel) (by decide +kernel)
theorem tn_197 : (.methodLinkNest "DeadlineElevator" 157 y_C_conflictWith "DeadlineElevator" : Cond) ∈ NB := tn_of 197 (by decide +kernel) (by decide +kernel)
theorem tn_201 : (.methodLinkNest "DeadlineElevator" 161 y_R_neighbourOf "DeadlineElevator" : Cond) ∈ NB := tn_of 201 (by decide +kernel) (by decide +kernel)
theorem tn_213 : (.methodLinkNest "DeadlineElevator" 139 y_P_add "DeadlineElevator" : Cond) ∈ NB := tn_of 213 (by decide +kernel) (by decide +kernel)
theorem tn_217 : (.methodLinkNest "DeadlineElevator" 142 y_R_open "DeadlineElevator" : Cond) ∈ NB := tn_of 217 (by decide +kernel) (by decide +kernel)
theorem tn_221 : (.methodLinkNest "DeadlineElevator" 146 y_R_extend "DeadlineElevator" : Cond) ∈ NB := tn_of 221 (by decide +kernel) (by decide +kernel)
theorem tn_256 : (.methodLinkNest "DeadlineElevator" 174 y_R_markLeastGroup "DeadlineElevator" : Cond) ∈ NB := tn_of 256 (by decide +kernel) (by decide +kernel)
theorem tn_264 : (.methodLinkNest "DeadlineElevator" 180 y_B_mayGoOn "DeadlineElevator" : Cond) ∈ NB := tn_of 264 (by decide +kernel) (by decide +kernel)
theorem tn_268 : (.methodLinkNest "DeadlineElevator" 184 y_R_leastStart "DeadlineElevator" : Cond) ∈ NB := tn_of 268 (by decide +kernel) (by decide +kernel)
theorem tn_276 : (.methodLinkNest "DeadlineElevator" 188 y_R_hasReady "DeadlineElevator" : Cond) ∈ NB := tn_of 276 (by decide +kernel) (by decide +kernel)
theorem tn_281 : (.methodLinkNest "DeadlineElevator" 191 y_B_begin "DeadlineElevator" : Cond) ∈ NB := tn_of 281 (by decide +kernel) (by decide +kernel)
theorem tn_289 : (.methodLinkNest "DeadlineElevator" 199 y_R_leastExpired "DeadlineElevator" : Cond) ∈ NB := tn_of 289 (by decide +kernel) (by decide +kernel)
theorem tn_297 : (.methodLinkNest "DeadlineElevator" 202 y_P_carryOut "DeadlineElevator" : Cond) ∈ NB := tn_of 297 (by decide +kernel) (by decide +kernel)
theorem tn_304 : (.methodLinkNest "DeadlineElevator" 205 y_R_remove "DeadlineElevator" : Cond) ∈ NB := tn_of 304 (by decide +kernel) (by decide +kernel)
theorem tn_308 : (.methodLinkNest "DeadlineElevator" 208 y_R_end "DeadlineElevator" : Cond) ∈ NB := tn_of 308 (by decide +kernel) (by decide +kernel)
theorem tn_313 : (.methodLinkNest "DeadlineElevator" 85 y_P_has "DeadlineElevator" : Cond) ∈ NB := tn_of 313 (by decide +kernel) (by decide +kernel)
theorem tn_333 : (.methodLinkNest "DeadlineElevator" 106 y_R_isReady "DeadlineElevator" : Cond) ∈ NB := tn_of 333 (by decide +kernel) (by decide +kernel)
theorem tn_338 : (.methodLinkNest "DeadlineElevator" 109 y_P_isWaiting "DeadlineElevator" : Cond) ∈ NB := tn_of 338 (by decide +kernel) (by decide +kernel)
theorem ts_0 : (.selects "DeadlineElevator" y_E_take y_E_take : Cond) ∈ TB := ts_of 0 (by decide +kernel) (by decide +kernel)
theorem ts_1 : (.selects "DeadlineElevator" y_E_hostFor y_E_hostFor : Cond) ∈ TB := ts_of 1 (by decide +kernel) (by decide +kernel)
theorem ts_2 : (.selects "DeadlineElevator" y_E_claimAllWaiting y_E_claimAllWaiting : Cond) ∈ TB := ts_of 2 (by decide +kernel) (by decide +kernel)
theorem ts_3 : (.selects "DeadlineElevator$Claims" y_C_clear y_C_clear : Cond) ∈ TB := ts_of 3 (by decide +kernel) (by decide +kernel)
theorem ts_4 : (.selects "DeadlineElevator$Parts" y_P_sectors y_P_sectors : Cond) ∈ TB := ts_of 4 (by decide +kernel) (by decide +kernel)
theorem ts_5 : (.selects "DeadlineElevator$Claims" y_C_add y_C_add : Cond) ∈ TB := ts_of 5 (by decide +kernel) (by decide +kernel)
theorem ts_6 : (.selects "DeadlineElevator$Claims" y_C_conflictWith y_C_conflictWith : Cond) ∈ TB := ts_of 6 (by decide +kernel) (by decide +kernel)
theorem ts_7 : (.selects "DeadlineElevator$Requests" y_R_neighbourOf y_R_neighbourOf : Cond) ∈ TB := ts_of 7 (by decide +kernel) (by decide +kernel)
theorem ts_8 : (.selects "DeadlineElevator$Requests" y_R_hasRoom y_R_hasRoom : Cond) ∈ TB := ts_of 8 (by decide +kernel) (by decide +kernel)
theorem ts_9 : (.selects "DeadlineElevator$Requests" y_R_end y_R_end : Cond) ∈ TB := ts_of 9 (by decide +kernel) (by decide +kernel)
theorem ts_10 : (.selects "DeadlineElevator$Parts" y_P_add y_P_add : Cond) ∈ TB := ts_of 10 (by decide +kernel) (by decide +kernel)
theorem ts_11 : (.selects "DeadlineElevator$Requests" y_R_open y_R_open : Cond) ∈ TB := ts_of 11 (by decide +kernel) (by decide +kernel)
theorem ts_12 : (.selects "DeadlineElevator$Requests" y_R_extend y_R_extend : Cond) ∈ TB := ts_of 12 (by decide +kernel) (by decide +kernel)
theorem ts_13 : (.selects "DeadlineElevator" y_E_markReady y_E_markReady : Cond) ∈ TB := ts_of 13 (by decide +kernel) (by decide +kernel)
theorem ts_14 : (.selects "DeadlineElevator$Requests" y_R_markLeastGroup y_R_markLeastGroup : Cond) ∈ TB := ts_of 14 (by decide +kernel) (by decide +kernel)
theorem ts_15 : (.selects "DeadlineElevator" y_E_pick y_E_pick : Cond) ∈ TB := ts_of 15 (by decide +kernel) (by decide +kernel)
theorem ts_16 : (.selects "DeadlineElevator$Batch" y_B_mayGoOn y_B_mayGoOn : Cond) ∈ TB := ts_of 16 (by decide +kernel) (by decide +kernel)
theorem ts_17 : (.selects "DeadlineElevator$Requests" y_R_leastStart y_R_leastStart : Cond) ∈ TB := ts_of 17 (by decide +kernel) (by decide +kernel)
theorem ts_18 : (.selects "DeadlineElevator$Requests" y_R_isReady y_R_isReady : Cond) ∈ TB := ts_of 18 (by decide +kernel) (by decide +kernel)
theorem ts_19 : (.selects "DeadlineElevator$Requests" y_R_hasReady y_R_hasReady : Cond) ∈ TB := ts_of 19 (by decide +kernel) (by decide +kernel)
theorem ts_20 : (.selects "DeadlineElevator$Batch" y_B_begin y_B_begin : Cond) ∈ TB := ts_of 20 (by decide +kernel) (by decide +kernel)
theorem ts_21 : (.selects "DeadlineElevator" y_E_firstOfBatch y_E_firstOfBatch : Cond) ∈ TB := ts_of 21 (by decide +kernel) (by decide +kernel)
theorem ts_22 : (.selects "DeadlineElevator$Requests" y_R_leastExpired y_R_leastExpired : Cond) ∈ TB := ts_of 22 (by decide +kernel) (by decide +kernel)
theorem ts_23 : (.selects "DeadlineElevator" y_E_carryOut y_E_carryOut : Cond) ∈ TB := ts_of 23 (by decide +kernel) (by decide +kernel)
theorem ts_24 : (.selects "DeadlineElevator$Parts" y_P_carryOut y_P_carryOut : Cond) ∈ TB := ts_of 24 (by decide +kernel) (by decide +kernel)
theorem ts_25 : (.selects "DeadlineElevator$Requests" y_R_remove y_R_remove : Cond) ∈ TB := ts_of 25 (by decide +kernel) (by decide +kernel)
theorem ts_26 : (.selects "DeadlineElevator$Parts" y_P_has y_P_has : Cond) ∈ TB := ts_of 26 (by decide +kernel) (by decide +kernel)
theorem ts_27 : (.selects "DeadlineElevator$Parts" y_P_isWaiting y_P_isWaiting : Cond) ∈ TB := ts_of 27 (by decide +kernel) (by decide +kernel)
theorem ts_28 : (.selects "DeadlineElevatorModel" y_M_come y_M_come : Cond) ∈ TB := ts_of 28 (by decide +kernel) (by decide +kernel)
theorem ts_29 : (.selects "DeadlineElevatorModel" y_M_waits y_M_waits : Cond) ∈ TB := ts_of 29 (by decide +kernel) (by decide +kernel)
theorem ts_30 : (.selects "DeadlineElevatorModel" y_M_joined y_M_joined : Cond) ∈ TB := ts_of 30 (by decide +kernel) (by decide +kernel)
theorem ts_31 : (.selects "DeadlineElevatorModel" y_M_conflict y_M_conflict : Cond) ∈ TB := ts_of 31 (by decide +kernel) (by decide +kernel)
theorem ts_32 : (.selects "DeadlineElevatorModel" y_M_members y_M_members : Cond) ∈ TB := ts_of 32 (by decide +kernel) (by decide +kernel)
theorem ts_33 : (.selects "DeadlineElevatorModel" y_M_length y_M_length : Cond) ∈ TB := ts_of 33 (by decide +kernel) (by decide +kernel)
theorem ts_34 : (.selects "DeadlineElevatorModel" y_M_start y_M_start : Cond) ∈ TB := ts_of 34 (by decide +kernel) (by decide +kernel)
theorem ts_35 : (.selects "DeadlineElevatorModel" y_M_sweep y_M_sweep : Cond) ∈ TB := ts_of 35 (by decide +kernel) (by decide +kernel)
theorem ts_36 : (.selects "DeadlineElevatorModel" y_M_isReady y_M_isReady : Cond) ∈ TB := ts_of 36 (by decide +kernel) (by decide +kernel)
theorem ts_37 : (.selects "DeadlineElevatorModel" y_M_fresh y_M_fresh : Cond) ∈ TB := ts_of 37 (by decide +kernel) (by decide +kernel)
theorem ts_38 : (.selects "DeadlineElevatorModel" y_M_late y_M_late : Cond) ∈ TB := ts_of 38 (by decide +kernel) (by decide +kernel)
theorem ts_39 : (.selects "DeadlineElevatorModel" y_M_carryOut y_M_carryOut : Cond) ∈ TB := ts_of 39 (by decide +kernel) (by decide +kernel)
theorem ts_40 : (.selects "DeadlineElevatorModel" y_M_isPart y_M_isPart : Cond) ∈ TB := ts_of 40 (by decide +kernel) (by decide +kernel)
end
