section
def lw_okq (q : MethodName × Nat) : Prop := (q.1.cls ≠ "java/lang/invoke/MethodHandle" ∧ q.1.cls ≠ "java/lang/invoke/VarHandle") ∧ Cond.instantiable q.1.cls q.2 ∈ tables_1 ∧ Cond.privateMethod q.1 ∈ tables_1 ∧ Cond.instanceMethod q.1 ∈ tables_1
theorem lw_p0 : lw_okq (⟨"DeadlineElevator", "take", "(IIII)I"⟩, 11) := ⟨⟨by decide +kernel, by decide +kernel⟩, List.mem_of_getElem? (i := 10) (by decide +kernel), List.mem_of_getElem? (i := 167) (by decide +kernel), List.mem_of_getElem? (i := 168) (by decide +kernel)⟩
theorem lw_p1 : lw_okq (⟨"DeadlineElevator", "hostFor", "(III)I"⟩, 11) := ⟨⟨by decide +kernel, by decide +kernel⟩, List.mem_of_getElem? (i := 10) (by decide +kernel), List.mem_of_getElem? (i := 174) (by decide +kernel), List.mem_of_getElem? (i := 175) (by decide +kernel)⟩
theorem lw_p2 : lw_okq (⟨"DeadlineElevator", "claimAllWaiting", "()V"⟩, 11) := ⟨⟨by decide +kernel, by decide +kernel⟩, List.mem_of_getElem? (i := 10) (by decide +kernel), List.mem_of_getElem? (i := 178) (by decide +kernel), List.mem_of_getElem? (i := 179) (by decide +kernel)⟩
theorem lw_p3 : lw_okq (⟨"DeadlineElevator$Claims", "clear", "()V"⟩, 2) := ⟨⟨by decide +kernel, by decide +kernel⟩, List.mem_of_getElem? (i := 97) (by decide +kernel), List.mem_of_getElem? (i := 182) (by decide +kernel), List.mem_of_getElem? (i := 183) (by decide +kernel)⟩
theorem lw_p4 : lw_okq (⟨"DeadlineElevator$Parts", "sectors", "(I)J"⟩, 7) := ⟨⟨by decide +kernel, by decide +kernel⟩, List.mem_of_getElem? (i := 18) (by decide +kernel), List.mem_of_getElem? (i := 186) (by decide +kernel), List.mem_of_getElem? (i := 187) (by decide +kernel)⟩
theorem lw_p5 : lw_okq (⟨"DeadlineElevator$Claims", "add", "(IJ)V"⟩, 2) := ⟨⟨by decide +kernel, by decide +kernel⟩, List.mem_of_getElem? (i := 97) (by decide +kernel), List.mem_of_getElem? (i := 193) (by decide +kernel), List.mem_of_getElem? (i := 194) (by decide +kernel)⟩
theorem lw_p6 : lw_okq (⟨"DeadlineElevator$Claims", "conflictWith", "(IJ)Z"⟩, 2) := ⟨⟨by decide +kernel, by decide +kernel⟩, List.mem_of_getElem? (i := 97) (by decide +kernel), List.mem_of_getElem? (i := 198) (by decide +kernel), List.mem_of_getElem? (i := 199) (by decide +kernel)⟩
theorem lw_p7 : lw_okq (⟨"DeadlineElevator$Requests", "neighbourOf", "(IIII)I"⟩, 9) := ⟨⟨by decide +kernel, by decide +kernel⟩, List.mem_of_getElem? (i := 54) (by decide +kernel), List.mem_of_getElem? (i := 202) (by decide +kernel), List.mem_of_getElem? (i := 203) (by decide +kernel)⟩
theorem lw_p8 : lw_okq (⟨"DeadlineElevator$Requests", "hasRoom", "(II)Z"⟩, 9) := ⟨⟨by decide +kernel, by decide +kernel⟩, List.mem_of_getElem? (i := 54) (by decide +kernel), List.mem_of_getElem? (i := 206) (by decide +kernel), List.mem_of_getElem? (i := 207) (by decide +kernel)⟩
theorem lw_p9 : lw_okq (⟨"DeadlineElevator$Requests", "end", "(I)I"⟩, 9) := ⟨⟨by decide +kernel, by decide +kernel⟩, List.mem_of_getElem? (i := 54) (by decide +kernel), List.mem_of_getElem? (i := 210) (by decide +kernel), List.mem_of_getElem? (i := 211) (by decide +kernel)⟩
theorem lw_p10 : lw_okq (⟨"DeadlineElevator$Parts", "add", "(IIII)I"⟩, 7) := ⟨⟨by decide +kernel, by decide +kernel⟩, List.mem_of_getElem? (i := 18) (by decide +kernel), List.mem_of_getElem? (i := 214) (by decide +kernel), List.mem_of_getElem? (i := 215) (by decide +kernel)⟩
theorem lw_p11 : lw_okq (⟨"DeadlineElevator$Requests", "open", "(IIIIII)V"⟩, 9) := ⟨⟨by decide +kernel, by decide +kernel⟩, List.mem_of_getElem? (i := 54) (by decide +kernel), List.mem_of_getElem? (i := 218) (by decide +kernel), List.mem_of_getElem? (i := 219) (by decide +kernel)⟩
theorem lw_p12 : lw_okq (⟨"DeadlineElevator$Requests", "extend", "(III)V"⟩, 9) := ⟨⟨by decide +kernel, by decide +kernel⟩, List.mem_of_getElem? (i := 54) (by decide +kernel), List.mem_of_getElem? (i := 222) (by decide +kernel), List.mem_of_getElem? (i := 223) (by decide +kernel)⟩
theorem lw_p13 : lw_okq (⟨"DeadlineElevator", "markReady", "()V"⟩, 11) := ⟨⟨by decide +kernel, by decide +kernel⟩, List.mem_of_getElem? (i := 10) (by decide +kernel), List.mem_of_getElem? (i := 253) (by decide +kernel), List.mem_of_getElem? (i := 254) (by decide +kernel)⟩
theorem lw_p14 : lw_okq (⟨"DeadlineElevator$Requests", "markLeastGroup", "()V"⟩, 9) := ⟨⟨by decide +kernel, by decide +kernel⟩, List.mem_of_getElem? (i := 54) (by decide +kernel), List.mem_of_getElem? (i := 257) (by decide +kernel), List.mem_of_getElem? (i := 258) (by decide +kernel)⟩
theorem lw_p15 : lw_okq (⟨"DeadlineElevator", "pick", "()I"⟩, 11) := ⟨⟨by decide +kernel, by decide +kernel⟩, List.mem_of_getElem? (i := 10) (by decide +kernel), List.mem_of_getElem? (i := 261) (by decide +kernel), List.mem_of_getElem? (i := 262) (by decide +kernel)⟩
def lw_privs_1 : List (MethodName × Nat) := [(⟨"DeadlineElevator", "take", "(IIII)I"⟩, 11), (⟨"DeadlineElevator", "hostFor", "(III)I"⟩, 11), (⟨"DeadlineElevator", "claimAllWaiting", "()V"⟩, 11), (⟨"DeadlineElevator$Claims", "clear", "()V"⟩, 2), (⟨"DeadlineElevator$Parts", "sectors", "(I)J"⟩, 7), (⟨"DeadlineElevator$Claims", "add", "(IJ)V"⟩, 2), (⟨"DeadlineElevator$Claims", "conflictWith", "(IJ)Z"⟩, 2), (⟨"DeadlineElevator$Requests", "neighbourOf", "(IIII)I"⟩, 9), (⟨"DeadlineElevator$Requests", "hasRoom", "(II)Z"⟩, 9), (⟨"DeadlineElevator$Requests", "end", "(I)I"⟩, 9), (⟨"DeadlineElevator$Parts", "add", "(IIII)I"⟩, 7), (⟨"DeadlineElevator$Requests", "open", "(IIIIII)V"⟩, 9), (⟨"DeadlineElevator$Requests", "extend", "(III)V"⟩, 9), (⟨"DeadlineElevator", "markReady", "()V"⟩, 11), (⟨"DeadlineElevator$Requests", "markLeastGroup", "()V"⟩, 9), (⟨"DeadlineElevator", "pick", "()I"⟩, 11)]
theorem lw_r1 : ∀ q ∈ lw_privs_1, lw_okq q := List.forall_mem_cons.mpr ⟨lw_p0, List.forall_mem_cons.mpr ⟨lw_p1, List.forall_mem_cons.mpr ⟨lw_p2, List.forall_mem_cons.mpr ⟨lw_p3, List.forall_mem_cons.mpr ⟨lw_p4, List.forall_mem_cons.mpr ⟨lw_p5, List.forall_mem_cons.mpr ⟨lw_p6, List.forall_mem_cons.mpr ⟨lw_p7, List.forall_mem_cons.mpr ⟨lw_p8, List.forall_mem_cons.mpr ⟨lw_p9, List.forall_mem_cons.mpr ⟨lw_p10, List.forall_mem_cons.mpr ⟨lw_p11, List.forall_mem_cons.mpr ⟨lw_p12, List.forall_mem_cons.mpr ⟨lw_p13, List.forall_mem_cons.mpr ⟨lw_p14, List.forall_mem_cons.mpr ⟨lw_p15, fun _ h => absurd h List.not_mem_nil⟩⟩⟩⟩⟩⟩⟩⟩⟩⟩⟩⟩⟩⟩⟩⟩
theorem lw_p16 : lw_okq (⟨"DeadlineElevator$Batch", "mayGoOn", "()Z"⟩, 3) := ⟨⟨by decide +kernel, by decide +kernel⟩, List.mem_of_getElem? (i := 110) (by decide +kernel), List.mem_of_getElem? (i := 265) (by decide +kernel), List.mem_of_getElem? (i := 266) (by decide +kernel)⟩
theorem lw_p17 : lw_okq (⟨"DeadlineElevator$Requests", "leastStart", "(II)I"⟩, 9) := ⟨⟨by decide +kernel, by decide +kernel⟩, List.mem_of_getElem? (i := 54) (by decide +kernel), List.mem_of_getElem? (i := 269) (by decide +kernel), List.mem_of_getElem? (i := 270) (by decide +kernel)⟩
theorem lw_p18 : lw_okq (⟨"DeadlineElevator$Requests", "isReady", "(II)Z"⟩, 9) := ⟨⟨by decide +kernel, by decide +kernel⟩, List.mem_of_getElem? (i := 54) (by decide +kernel), List.mem_of_getElem? (i := 273) (by decide +kernel), List.mem_of_getElem? (i := 274) (by decide +kernel)⟩
theorem lw_p19 : lw_okq (⟨"DeadlineElevator$Requests", "hasReady", "(I)Z"⟩, 9) := ⟨⟨by decide +kernel, by decide +kernel⟩, List.mem_of_getElem? (i := 54) (by decide +kernel), List.mem_of_getElem? (i := 277) (by decide +kernel), List.mem_of_getElem? (i := 278) (by decide +kernel)⟩
theorem lw_p20 : lw_okq (⟨"DeadlineElevator$Batch", "begin", "(ZZ)V"⟩, 3) := ⟨⟨by decide +kernel, by decide +kernel⟩, List.mem_of_getElem? (i := 110) (by decide +kernel), List.mem_of_getElem? (i := 282) (by decide +kernel), List.mem_of_getElem? (i := 283) (by decide +kernel)⟩
theorem lw_p21 : lw_okq (⟨"DeadlineElevator", "firstOfBatch", "(I)I"⟩, 11) := ⟨⟨by decide +kernel, by decide +kernel⟩, List.mem_of_getElem? (i := 10) (by decide +kernel), List.mem_of_getElem? (i := 286) (by decide +kernel), List.mem_of_getElem? (i := 287) (by decide +kernel)⟩
theorem lw_p22 : lw_okq (⟨"DeadlineElevator$Requests", "leastExpired", "(II)I"⟩, 9) := ⟨⟨by decide +kernel, by decide +kernel⟩, List.mem_of_getElem? (i := 54) (by decide +kernel), List.mem_of_getElem? (i := 290) (by decide +kernel), List.mem_of_getElem? (i := 291) (by decide +kernel)⟩
theorem lw_p23 : lw_okq (⟨"DeadlineElevator", "carryOut", "(I)V"⟩, 11) := ⟨⟨by decide +kernel, by decide +kernel⟩, List.mem_of_getElem? (i := 10) (by decide +kernel), List.mem_of_getElem? (i := 294) (by decide +kernel), List.mem_of_getElem? (i := 295) (by decide +kernel)⟩
theorem lw_p24 : lw_okq (⟨"DeadlineElevator$Parts", "carryOut", "(I[I)V"⟩, 7) := ⟨⟨by decide +kernel, by decide +kernel⟩, List.mem_of_getElem? (i := 18) (by decide +kernel), List.mem_of_getElem? (i := 298) (by decide +kernel), List.mem_of_getElem? (i := 299) (by decide +kernel)⟩
theorem lw_p25 : lw_okq (⟨"DeadlineElevator$Requests", "remove", "(I)V"⟩, 9) := ⟨⟨by decide +kernel, by decide +kernel⟩, List.mem_of_getElem? (i := 54) (by decide +kernel), List.mem_of_getElem? (i := 305) (by decide +kernel), List.mem_of_getElem? (i := 306) (by decide +kernel)⟩
theorem lw_p26 : lw_okq (⟨"DeadlineElevator$Parts", "has", "(I)Z"⟩, 7) := ⟨⟨by decide +kernel, by decide +kernel⟩, List.mem_of_getElem? (i := 18) (by decide +kernel), List.mem_of_getElem? (i := 314) (by decide +kernel), List.mem_of_getElem? (i := 315) (by decide +kernel)⟩
theorem lw_p27 : lw_okq (⟨"DeadlineElevator$Parts", "isWaiting", "(I)Z"⟩, 7) := ⟨⟨by decide +kernel, by decide +kernel⟩, List.mem_of_getElem? (i := 18) (by decide +kernel), List.mem_of_getElem? (i := 339) (by decide +kernel), List.mem_of_getElem? (i := 340) (by decide +kernel)⟩
theorem lw_p28 : lw_okq (⟨"DeadlineElevatorModel", "come", "(IIII)I"⟩, 19) := ⟨⟨by decide +kernel, by decide +kernel⟩, List.mem_of_getElem? (i := 364) (by decide +kernel), List.mem_of_getElem? (i := 432) (by decide +kernel), List.mem_of_getElem? (i := 433) (by decide +kernel)⟩
theorem lw_p29 : lw_okq (⟨"DeadlineElevatorModel", "waits", "(I)Z"⟩, 19) := ⟨⟨by decide +kernel, by decide +kernel⟩, List.mem_of_getElem? (i := 364) (by decide +kernel), List.mem_of_getElem? (i := 440) (by decide +kernel), List.mem_of_getElem? (i := 441) (by decide +kernel)⟩
theorem lw_p30 : lw_okq (⟨"DeadlineElevatorModel", "joined", "(I)I"⟩, 19) := ⟨⟨by decide +kernel, by decide +kernel⟩, List.mem_of_getElem? (i := 364) (by decide +kernel), List.mem_of_getElem? (i := 444) (by decide +kernel), List.mem_of_getElem? (i := 445) (by decide +kernel)⟩
theorem lw_p31 : lw_okq (⟨"DeadlineElevatorModel", "conflict", "(II)Z"⟩, 19) := ⟨⟨by decide +kernel, by decide +kernel⟩, List.mem_of_getElem? (i := 364) (by decide +kernel), List.mem_of_getElem? (i := 448) (by decide +kernel), List.mem_of_getElem? (i := 449) (by decide +kernel)⟩
def lw_privs_2 : List (MethodName × Nat) := [(⟨"DeadlineElevator$Batch", "mayGoOn", "()Z"⟩, 3), (⟨"DeadlineElevator$Requests", "leastStart", "(II)I"⟩, 9), (⟨"DeadlineElevator$Requests", "isReady", "(II)Z"⟩, 9), (⟨"DeadlineElevator$Requests", "hasReady", "(I)Z"⟩, 9), (⟨"DeadlineElevator$Batch", "begin", "(ZZ)V"⟩, 3), (⟨"DeadlineElevator", "firstOfBatch", "(I)I"⟩, 11), (⟨"DeadlineElevator$Requests", "leastExpired", "(II)I"⟩, 9), (⟨"DeadlineElevator", "carryOut", "(I)V"⟩, 11), (⟨"DeadlineElevator$Parts", "carryOut", "(I[I)V"⟩, 7), (⟨"DeadlineElevator$Requests", "remove", "(I)V"⟩, 9), (⟨"DeadlineElevator$Parts", "has", "(I)Z"⟩, 7), (⟨"DeadlineElevator$Parts", "isWaiting", "(I)Z"⟩, 7), (⟨"DeadlineElevatorModel", "come", "(IIII)I"⟩, 19), (⟨"DeadlineElevatorModel", "waits", "(I)Z"⟩, 19), (⟨"DeadlineElevatorModel", "joined", "(I)I"⟩, 19), (⟨"DeadlineElevatorModel", "conflict", "(II)Z"⟩, 19)]
theorem lw_r2 : ∀ q ∈ lw_privs_2, lw_okq q := List.forall_mem_cons.mpr ⟨lw_p16, List.forall_mem_cons.mpr ⟨lw_p17, List.forall_mem_cons.mpr ⟨lw_p18, List.forall_mem_cons.mpr ⟨lw_p19, List.forall_mem_cons.mpr ⟨lw_p20, List.forall_mem_cons.mpr ⟨lw_p21, List.forall_mem_cons.mpr ⟨lw_p22, List.forall_mem_cons.mpr ⟨lw_p23, List.forall_mem_cons.mpr ⟨lw_p24, List.forall_mem_cons.mpr ⟨lw_p25, List.forall_mem_cons.mpr ⟨lw_p26, List.forall_mem_cons.mpr ⟨lw_p27, List.forall_mem_cons.mpr ⟨lw_p28, List.forall_mem_cons.mpr ⟨lw_p29, List.forall_mem_cons.mpr ⟨lw_p30, List.forall_mem_cons.mpr ⟨lw_p31, fun _ h => absurd h List.not_mem_nil⟩⟩⟩⟩⟩⟩⟩⟩⟩⟩⟩⟩⟩⟩⟩⟩
theorem lw_p32 : lw_okq (⟨"DeadlineElevatorModel", "members", "(I)I"⟩, 19) := ⟨⟨by decide +kernel, by decide +kernel⟩, List.mem_of_getElem? (i := 364) (by decide +kernel), List.mem_of_getElem? (i := 452) (by decide +kernel), List.mem_of_getElem? (i := 453) (by decide +kernel)⟩
theorem lw_p33 : lw_okq (⟨"DeadlineElevatorModel", "length", "(I)I"⟩, 19) := ⟨⟨by decide +kernel, by decide +kernel⟩, List.mem_of_getElem? (i := 364) (by decide +kernel), List.mem_of_getElem? (i := 456) (by decide +kernel), List.mem_of_getElem? (i := 457) (by decide +kernel)⟩
theorem lw_p34 : lw_okq (⟨"DeadlineElevatorModel", "start", "(I)I"⟩, 19) := ⟨⟨by decide +kernel, by decide +kernel⟩, List.mem_of_getElem? (i := 364) (by decide +kernel), List.mem_of_getElem? (i := 460) (by decide +kernel), List.mem_of_getElem? (i := 461) (by decide +kernel)⟩
theorem lw_p35 : lw_okq (⟨"DeadlineElevatorModel", "sweep", "(II)I"⟩, 19) := ⟨⟨by decide +kernel, by decide +kernel⟩, List.mem_of_getElem? (i := 364) (by decide +kernel), List.mem_of_getElem? (i := 485) (by decide +kernel), List.mem_of_getElem? (i := 486) (by decide +kernel)⟩
theorem lw_p36 : lw_okq (⟨"DeadlineElevatorModel", "isReady", "(I)Z"⟩, 19) := ⟨⟨by decide +kernel, by decide +kernel⟩, List.mem_of_getElem? (i := 364) (by decide +kernel), List.mem_of_getElem? (i := 489) (by decide +kernel), List.mem_of_getElem? (i := 490) (by decide +kernel)⟩
theorem lw_p37 : lw_okq (⟨"DeadlineElevatorModel", "fresh", "()I"⟩, 19) := ⟨⟨by decide +kernel, by decide +kernel⟩, List.mem_of_getElem? (i := 364) (by decide +kernel), List.mem_of_getElem? (i := 493) (by decide +kernel), List.mem_of_getElem? (i := 494) (by decide +kernel)⟩
theorem lw_p38 : lw_okq (⟨"DeadlineElevatorModel", "late", "(I)I"⟩, 19) := ⟨⟨by decide +kernel, by decide +kernel⟩, List.mem_of_getElem? (i := 364) (by decide +kernel), List.mem_of_getElem? (i := 501) (by decide +kernel), List.mem_of_getElem? (i := 502) (by decide +kernel)⟩
theorem lw_p39 : lw_okq (⟨"DeadlineElevatorModel", "carryOut", "(I)V"⟩, 19) := ⟨⟨by decide +kernel, by decide +kernel⟩, List.mem_of_getElem? (i := 364) (by decide +kernel), List.mem_of_getElem? (i := 505) (by decide +kernel), List.mem_of_getElem? (i := 506) (by decide +kernel)⟩
theorem lw_p40 : lw_okq (⟨"DeadlineElevatorModel", "isPart", "(I)Z"⟩, 19) := ⟨⟨by decide +kernel, by decide +kernel⟩, List.mem_of_getElem? (i := 364) (by decide +kernel), List.mem_of_getElem? (i := 513) (by decide +kernel), List.mem_of_getElem? (i := 514) (by decide +kernel)⟩
def lw_privs_3 : List (MethodName × Nat) := [(⟨"DeadlineElevatorModel", "members", "(I)I"⟩, 19), (⟨"DeadlineElevatorModel", "length", "(I)I"⟩, 19), (⟨"DeadlineElevatorModel", "start", "(I)I"⟩, 19), (⟨"DeadlineElevatorModel", "sweep", "(II)I"⟩, 19), (⟨"DeadlineElevatorModel", "isReady", "(I)Z"⟩, 19), (⟨"DeadlineElevatorModel", "fresh", "()I"⟩, 19), (⟨"DeadlineElevatorModel", "late", "(I)I"⟩, 19), (⟨"DeadlineElevatorModel", "carryOut", "(I)V"⟩, 19), (⟨"DeadlineElevatorModel", "isPart", "(I)Z"⟩, 19)]
theorem lw_r3 : ∀ q ∈ lw_privs_3, lw_okq q := List.forall_mem_cons.mpr ⟨lw_p32, List.forall_mem_cons.mpr ⟨lw_p33, List.forall_mem_cons.mpr ⟨lw_p34, List.forall_mem_cons.mpr ⟨lw_p35, List.forall_mem_cons.mpr ⟨lw_p36, List.forall_mem_cons.mpr ⟨lw_p37, List.forall_mem_cons.mpr ⟨lw_p38, List.forall_mem_cons.mpr ⟨lw_p39, List.forall_mem_cons.mpr ⟨lw_p40, fun _ h => absurd h List.not_mem_nil⟩⟩⟩⟩⟩⟩⟩⟩⟩
def lw_privs : List (MethodName × Nat) := lw_privs_1 ++ (lw_privs_2 ++ (lw_privs_3))
def lw_tbl : List Cond := k2_sels lw_privs ++ tables_1
theorem lw_privs_ok : ∀ q ∈ lw_privs, lw_okq q := by
  show ∀ q ∈ lw_privs_1 ++ (lw_privs_2 ++ (lw_privs_3)), lw_okq q
  exact List.forall_mem_append.mpr ⟨lw_r1, List.forall_mem_append.mpr ⟨lw_r2, lw_r3⟩⟩
-- the tables' words that calls may pay with, and the links of nest mates
def TB : List Cond := lw_tbl.filter goodWord
theorem tb_of (i : Nat) {w : Cond} (h : tables_1[i]? = some w) (hg : goodWord w = true) : w ∈ TB :=
  List.mem_filter.mpr ⟨List.mem_append_right _ (List.mem_of_getElem? h), hg⟩
theorem ts_of (i : Nat) {w : Cond} (h : (k2_sels lw_privs)[i]? = some w) (hg : goodWord w = true) : w ∈ TB :=
  List.mem_filter.mpr ⟨List.mem_append_left _ (List.mem_of_getElem? h), hg⟩
theorem good_TB : GoodIn TB TB := fun w h => ⟨h, good_of_word (List.mem_filter.mp h).2⟩
theorem good_of {w : Cond} (h : w ∈ TB) : GoodIn TB (w :: TB) := fun v hv => (List.mem_cons.mp hv).elim (fun e => e ▸ good_TB w h) (fun hv => good_TB v hv)
def isNest_ : Cond → Bool
  | .fieldLinkNest _ _ _ _ _ _ => true
  | .methodLinkNest _ _ _ _ => true
  | _ => false
def NB : List Cond := tables_1.filter isNest_
theorem tn_of (i : Nat) {w : Cond} (h : tables_1[i]? = some w) (hg : isNest_ w = true) : w ∈ NB :=
  List.mem_filter.mpr ⟨List.mem_of_getElem? h, hg⟩
def NW (U : State) : Prop := ∀ w ∈ NB, va_Nw w U
theorem nest_tables {w : Cond} (h : isNest_ w = true) : w.onTables = true := by
  cases w <;> first | rfl | (simp [isNest_] at h)
theorem NW_warm {s U : State} (hW : s.WarmedH U.vm) (h : NW s) : NW U := by
  intro w hw
  have hn : isNest_ w = true := (List.mem_filter.mp hw).2
  have h1 := h w hw
  cases w <;> first | exact va_Nw.warmF hW h1 | exact va_Nw.warmM hW h1 | (simp [isNest_] at hn)
theorem NW_same {u U : State} (h : u.vm = U.vm) (hZ : NW u) : NW U := fun w hw => va_Nw.same (nest_tables (List.mem_filter.mp hw).2) h (hZ w hw)
end
section
abbrev R_B : String := "DeadlineElevator$Batch"
def F_B : u_T := fun k => match k with
  | 0 => ("DeadlineElevator$Batch", "way", "I", false)
  | 1 => ("DeadlineElevator$Batch", "count", "I", false)
  | _ => ("DeadlineElevator$Batch", "starved", "I", false)
def t_B : Nat → FieldType := fun k => match k with
  | 0 => .int
  | 1 => .int
  | _ => .int
theorem n_B : ∀ a, a < 3 → ∀ b, b < 3 → a ≠ b → (F_B a).2.1 ≠ (F_B b).2.1 := by decide +kernel
theorem t_B_ok : ∀ k, k < 3 → parseFieldDescriptor (F_B k).2.2.1 = some (t_B k) := by decide +kernel
theorem in_B : ∀ w ∈ u_ws R_B F_B 3, w ∈ TB := by
  intro w hw
  obtain ⟨k, hk, rfl⟩ := List.mem_map.mp hw
  have hk : k < 3 := List.mem_range.mp hk
  rcases (show k = 0 ∨ k = 1 ∨ k = 2 by omega) with rfl | rfl | rfl
  · exact tb_of 121 (by decide +kernel) (by decide +kernel)
  · exact tb_of 123 (by decide +kernel) (by decide +kernel)
  · exact tb_of 125 (by decide +kernel) (by decide +kernel)
abbrev R_C : String := "DeadlineElevator$Claims"
def F_C : u_T := fun k => match k with
  | 0 => ("DeadlineElevator$Claims", "beingRead", "J", false)
  | _ => ("DeadlineElevator$Claims", "beingWritten", "J", false)
def t_C : Nat → FieldType := fun k => match k with
  | 0 => .long
  | _ => .long
theorem n_C : ∀ a, a < 2 → ∀ b, b < 2 → a ≠ b → (F_C a).2.1 ≠ (F_C b).2.1 := by decide +kernel
theorem t_C_ok : ∀ k, k < 2 → parseFieldDescriptor (F_C k).2.2.1 = some (t_C k) := by decide +kernel
theorem in_C : ∀ w ∈ u_ws R_C F_C 2, w ∈ TB := by
  intro w hw
  obtain ⟨k, hk, rfl⟩ := List.mem_map.mp hw
  have hk : k < 2 := List.mem_range.mp hk
  rcases (show k = 0 ∨ k = 1 by omega) with rfl | rfl
  · exact tb_of 104 (by decide +kernel) (by decide +kernel)
  · exact tb_of 106 (by decide +kernel) (by decide +kernel)
abbrev R_P : String := "DeadlineElevator$Parts"
def F_P : u_T := fun k => match k with
  | 0 => ("DeadlineElevator$Parts", "way", "[I", true)
  | 1 => ("DeadlineElevator$Parts", "start", "[I", true)
  | 2 => ("DeadlineElevator$Parts", "length", "[I", true)
  | 3 => ("DeadlineElevator$Parts", "request", "[I", true)
  | 4 => ("DeadlineElevator$Parts", "done", "[Z", true)
  | 5 => ("DeadlineElevator$Parts", "data", "[I", true)
  | _ => ("DeadlineElevator$Parts", "count", "I", false)
def t_P : Nat → FieldType := fun k => match k with
  | 0 => .array .int
  | 1 => .array .int
  | 2 => .array .int
  | 3 => .array .int
  | 4 => .array .boolean
  | 5 => .array .int
  | _ => .int
theorem n_P : ∀ a, a < 7 → ∀ b, b < 7 → a ≠ b → (F_P a).2.1 ≠ (F_P b).2.1 := by decide +kernel
theorem t_P_ok : ∀ k, k < 7 → parseFieldDescriptor (F_P k).2.2.1 = some (t_P k) := by decide +kernel
theorem in_P : ∀ w ∈ u_ws R_P F_P 7, w ∈ TB := by
  intro w hw
  obtain ⟨k, hk, rfl⟩ := List.mem_map.mp hw
  have hk : k < 7 := List.mem_range.mp hk
  rcases (show k = 0 ∨ k = 1 ∨ k = 2 ∨ k = 3 ∨ k = 4 ∨ k = 5 ∨ k = 6 by omega) with rfl | rfl | rfl | rfl | rfl | rfl | rfl
  · exact tb_of 36 (by decide +kernel) (by decide +kernel)
  · exact tb_of 38 (by decide +kernel) (by decide +kernel)
  · exact tb_of 40 (by decide +kernel) (by decide +kernel)
  · exact tb_of 42 (by decide +kernel) (by decide +kernel)
  · exact tb_of 44 (by decide +kernel) (by decide +kernel)
  · exact tb_of 46 (by decide +kernel) (by decide +kernel)
  · exact tb_of 48 (by decide +kernel) (by decide +kernel)
abbrev R_R : String := "DeadlineElevator$Requests"
def F_R : u_T := fun k => match k with
  | 0 => ("DeadlineElevator$Requests", "way", "[I", true)
  | 1 => ("DeadlineElevator$Requests", "start", "[I", true)
  | 2 => ("DeadlineElevator$Requests", "length", "[I", true)
  | 3 => ("DeadlineElevator$Requests", "parts", "[I", true)
  | 4 => ("DeadlineElevator$Requests", "deadline", "[I", true)
  | 5 => ("DeadlineElevator$Requests", "group", "[I", true)
  | 6 => ("DeadlineElevator$Requests", "ready", "[Z", true)
  | 7 => ("DeadlineElevator$Requests", "queue", "[I", true)
  | _ => ("DeadlineElevator$Requests", "count", "I", false)
def t_R : Nat → FieldType := fun k => match k with
  | 0 => .array .int
  | 1 => .array .int
  | 2 => .array .int
  | 3 => .array .int
  | 4 => .array .int
  | 5 => .array .int
  | 6 => .array .boolean
  | 7 => .array .int
  | _ => .int
theorem n_R : ∀ a, a < 9 → ∀ b, b < 9 → a ≠ b → (F_R a).2.1 ≠ (F_R b).2.1 := by decide +kernel
theorem t_R_ok : ∀ k, k < 9 → parseFieldDescriptor (F_R k).2.2.1 = some (t_R k) := by decide +kernel
theorem in_R : ∀ w ∈ u_ws R_R F_R 9, w ∈ TB := by
  intro w hw
  obtain ⟨k, hk, rfl⟩ := List.mem_map.mp hw
  have hk : k < 9 := List.mem_range.mp hk
  rcases (show k = 0 ∨ k = 1 ∨ k = 2 ∨ k = 3 ∨ k = 4 ∨ k = 5 ∨ k = 6 ∨ k = 7 ∨ k = 8 by omega) with rfl | rfl | rfl | rfl | rfl | rfl | rfl | rfl | rfl
  · exact tb_of 77 (by decide +kernel) (by decide +kernel)
  · exact tb_of 79 (by decide +kernel) (by decide +kernel)
  · exact tb_of 81 (by decide +kernel) (by decide +kernel)
  · exact tb_of 83 (by decide +kernel) (by decide +kernel)
  · exact tb_of 85 (by decide +kernel) (by decide +kernel)
  · exact tb_of 87 (by decide +kernel) (by decide +kernel)
  · exact tb_of 89 (by decide +kernel) (by decide +kernel)
  · exact tb_of 91 (by decide +kernel) (by decide +kernel)
  · exact tb_of 93 (by decide +kernel) (by decide +kernel)
abbrev R_E : String := "DeadlineElevator"
def F_E : u_T := fun k => match k with
  | 0 => ("DeadlineElevator", "disk", "[I", true)
  | 1 => ("DeadlineElevator", "parts", "LDeadlineElevator$Parts;", true)
  | 2 => ("DeadlineElevator", "requests", "LDeadlineElevator$Requests;", true)
  | 3 => ("DeadlineElevator", "claims", "LDeadlineElevator$Claims;", true)
  | 4 => ("DeadlineElevator", "currentBatch", "LDeadlineElevator$Batch;", true)
  | 5 => ("DeadlineElevator", "readingExpiry", "I", false)
  | 6 => ("DeadlineElevator", "writingExpiry", "I", false)
  | 7 => ("DeadlineElevator", "barriers", "I", false)
  | 8 => ("DeadlineElevator", "time", "I", false)
  | 9 => ("DeadlineElevator", "position", "I", false)
  | _ => ("DeadlineElevator", "lastDispatched", "I", false)
def t_E : Nat → FieldType := fun k => match k with
  | 0 => .array .int
  | 1 => .object "DeadlineElevator$Parts"
  | 2 => .object "DeadlineElevator$Requests"
  | 3 => .object "DeadlineElevator$Claims"
  | 4 => .object "DeadlineElevator$Batch"
  | 5 => .int
  | 6 => .int
  | 7 => .int
  | 8 => .int
  | 9 => .int
  | _ => .int
theorem n_E : ∀ a, a < 11 → ∀ b, b < 11 → a ≠ b → (F_E a).2.1 ≠ (F_E b).2.1 := by decide +kernel
theorem t_E_ok : ∀ k, k < 11 → parseFieldDescriptor (F_E k).2.2.1 = some (t_E k) := by decide +kernel
theorem in_E : ∀ w ∈ u_ws R_E F_E 11, w ∈ TB := by
  intro w hw
  obtain ⟨k, hk, rfl⟩ := List.mem_map.mp hw
  have hk : k < 11 := List.mem_range.mp hk
  rcases (show k = 0 ∨ k = 1 ∨ k = 2 ∨ k = 3 ∨ k = 4 ∨ k = 5 ∨ k = 6 ∨ k = 7 ∨ k = 8 ∨ k = 9 ∨ k = 10 by omega) with rfl | rfl | rfl | rfl | rfl | rfl | rfl | rfl | rfl | rfl | rfl
  · exact tb_of 139 (by decide +kernel) (by decide +kernel)
  · exact tb_of 141 (by decide +kernel) (by decide +kernel)
  · exact tb_of 143 (by decide +kernel) (by decide +kernel)
  · exact tb_of 145 (by decide +kernel) (by decide +kernel)
  · exact tb_of 147 (by decide +kernel) (by decide +kernel)
  · exact tb_of 149 (by decide +kernel) (by decide +kernel)
  · exact tb_of 151 (by decide +kernel) (by decide +kernel)
  · exact tb_of 153 (by decide +kernel) (by decide +kernel)
  · exact tb_of 155 (by decide +kernel) (by decide +kernel)
  · exact tb_of 157 (by decide +kernel) (by decide +kernel)
  · exact tb_of 159 (by decide +kernel) (by decide +kernel)
abbrev R_M : String := "DeadlineElevatorModel"
def F_M : u_T := fun k => match k with
  | 0 => ("DeadlineElevatorModel", "disk", "[I", false)
  | 1 => ("DeadlineElevatorModel", "parts", "I", false)
  | 2 => ("DeadlineElevatorModel", "way", "[I", false)
  | 3 => ("DeadlineElevatorModel", "from", "[I", false)
  | 4 => ("DeadlineElevatorModel", "size", "[I", false)
  | 5 => ("DeadlineElevatorModel", "with", "[I", false)
  | 6 => ("DeadlineElevatorModel", "request", "[I", false)
  | 7 => ("DeadlineElevatorModel", "state", "[I", false)
  | 8 => ("DeadlineElevatorModel", "values", "[I", false)
  | 9 => ("DeadlineElevatorModel", "deadline", "[I", false)
  | 10 => ("DeadlineElevatorModel", "group", "[I", false)
  | 11 => ("DeadlineElevatorModel", "barriers", "I", false)
  | 12 => ("DeadlineElevatorModel", "time", "I", false)
  | 13 => ("DeadlineElevatorModel", "expiry", "[I", false)
  | 14 => ("DeadlineElevatorModel", "top", "I", false)
  | 15 => ("DeadlineElevatorModel", "batchWay", "I", false)
  | 16 => ("DeadlineElevatorModel", "count", "I", false)
  | 17 => ("DeadlineElevatorModel", "starved", "I", false)
  | _ => ("DeadlineElevatorModel", "last", "I", false)
def t_M : Nat → FieldType := fun k => match k with
  | 0 => .array .int
  | 1 => .int
  | 2 => .array .int
  | 3 => .array .int
  | 4 => .array .int
  | 5 => .array .int
  | 6 => .array .int
  | 7 => .array .int
  | 8 => .array .int
  | 9 => .array .int
  | 10 => .array .int
  | 11 => .int
  | 12 => .int
  | 13 => .array .int
  | 14 => .int
  | 15 => .int
  | 16 => .int
  | 17 => .int
  | _ => .int
theorem n_M : ∀ a, a < 19 → ∀ b, b < 19 → a ≠ b → (F_M a).2.1 ≠ (F_M b).2.1 := by decide +kernel
theorem t_M_ok : ∀ k, k < 19 → parseFieldDescriptor (F_M k).2.2.1 = some (t_M k) := by decide +kernel
theorem in_M : ∀ w ∈ u_ws R_M F_M 19, w ∈ TB := by
  intro w hw
  obtain ⟨k, hk, rfl⟩ := List.mem_map.mp hw
  have hk : k < 19 := List.mem_range.mp hk
  rcases (show k = 0 ∨ k = 1 ∨ k = 2 ∨ k = 3 ∨ k = 4 ∨ k = 5 ∨ k = 6 ∨ k = 7 ∨ k = 8 ∨ k = 9 ∨ k = 10 ∨ k = 11 ∨ k = 12 ∨ k = 13 ∨ k = 14 ∨ k = 15 ∨ k = 16 ∨ k = 17 ∨ k = 18 by omega) with rfl | rfl | rfl | rfl | rfl | rfl | rfl | rfl | rfl | rfl | rfl | rfl | rfl | rfl | rfl | rfl | rfl | rfl | rfl
  · exact tb_of 388 (by decide +kernel) (by decide +kernel)
  · exact tb_of 390 (by decide +kernel) (by decide +kernel)
  · exact tb_of 392 (by decide +kernel) (by decide +kernel)
  · exact tb_of 394 (by decide +kernel) (by decide +kernel)
  · exact tb_of 396 (by decide +kernel) (by decide +kernel)
  · exact tb_of 398 (by decide +kernel) (by decide +kernel)
  · exact tb_of 400 (by decide +kernel) (by decide +kernel)
  · exact tb_of 402 (by decide +kernel) (by decide +kernel)
  · exact tb_of 404 (by decide +kernel) (by decide +kernel)
  · exact tb_of 406 (by decide +kernel) (by decide +kernel)
  · exact tb_of 408 (by decide +kernel) (by decide +kernel)
  · exact tb_of 410 (by decide +kernel) (by decide +kernel)
  · exact tb_of 412 (by decide +kernel) (by decide +kernel)
  · exact tb_of 414 (by decide +kernel) (by decide +kernel)
  · exact tb_of 416 (by decide +kernel) (by decide +kernel)
  · exact tb_of 418 (by decide +kernel) (by decide +kernel)
  · exact tb_of 420 (by decide +kernel) (by decide +kernel)
  · exact tb_of 422 (by decide +kernel) (by decide +kernel)
  · exact tb_of 424 (by decide +kernel) (by decide +kernel)
abbrev cls_ : List vw_C := [(R_B, F_B, 3), (R_C, F_C, 2), (R_P, F_P, 7), (R_R, F_R, 9), (R_E, F_E, 11), (R_M, F_M, 19)]
abbrev b_B_init : ByteArray := prog_2_method_1_code
abbrev y_B_init : MethodName := ⟨R_B, "<init>", "()V"⟩
abbrev b_B_mayGoOn : ByteArray := prog_2_method_2_code
abbrev y_B_mayGoOn : MethodName := ⟨R_B, "mayGoOn", "()Z"⟩
abbrev b_B_begin : ByteArray := prog_2_method_3_code
abbrev y_B_begin : MethodName := ⟨R_B, "begin", "(ZZ)V"⟩
abbrev b_C_init : ByteArray := prog_3_method_1_code
abbrev y_C_init : MethodName := ⟨R_C, "<init>", "()V"⟩
abbrev b_C_clear : ByteArray := prog_3_method_2_code
abbrev y_C_clear : MethodName := ⟨R_C, "clear", "()V"⟩
abbrev b_C_add : ByteArray := prog_3_method_3_code
abbrev y_C_add : MethodName := ⟨R_C, "add", "(IJ)V"⟩
abbrev b_C_conflictWith : ByteArray := prog_3_method_4_code
abbrev y_C_conflictWith : MethodName := ⟨R_C, "conflictWith", "(IJ)Z"⟩
abbrev b_P_init : ByteArray := prog_4_method_1_code
abbrev y_P_init : MethodName := ⟨R_P, "<init>", "()V"⟩
abbrev b_P_has : ByteArray := prog_4_method_2_code
abbrev y_P_has : MethodName := ⟨R_P, "has", "(I)Z"⟩
abbrev b_P_isWaiting : ByteArray := prog_4_method_3_code
abbrev y_P_isWaiting : MethodName := ⟨R_P, "isWaiting", "(I)Z"⟩
abbrev b_P_sectors : ByteArray := prog_4_method_4_code
abbrev y_P_sectors : MethodName := ⟨R_P, "sectors", "(I)J"⟩
abbrev b_P_add : ByteArray := prog_4_method_5_code
abbrev y_P_add : MethodName := ⟨R_P, "add", "(IIII)I"⟩
abbrev b_P_carryOut : ByteArray := prog_4_method_6_code
abbrev y_P_carryOut : MethodName := ⟨R_P, "carryOut", "(I[I)V"⟩
abbrev b_R_init : ByteArray := prog_5_method_1_code
abbrev y_R_init : MethodName := ⟨R_R, "<init>", "()V"⟩
abbrev b_R_end : ByteArray := prog_5_method_2_code
abbrev y_R_end : MethodName := ⟨R_R, "end", "(I)I"⟩
abbrev b_R_isReady : ByteArray := prog_5_method_3_code
abbrev y_R_isReady : MethodName := ⟨R_R, "isReady", "(II)Z"⟩
abbrev b_R_open : ByteArray := prog_5_method_4_code
abbrev y_R_open : MethodName := ⟨R_R, "open", "(IIIIII)V"⟩
abbrev b_R_extend : ByteArray := prog_5_method_5_code
abbrev y_R_extend : MethodName := ⟨R_R, "extend", "(III)V"⟩
abbrev b_R_remove : ByteArray := prog_5_method_6_code
abbrev y_R_remove : MethodName := ⟨R_R, "remove", "(I)V"⟩
abbrev b_R_neighbourOf : ByteArray := prog_5_method_7_code
abbrev y_R_neighbourOf : MethodName := ⟨R_R, "neighbourOf", "(IIII)I"⟩
abbrev b_R_hasRoom : ByteArray := prog_5_method_8_code
abbrev y_R_hasRoom : MethodName := ⟨R_R, "hasRoom", "(II)Z"⟩
abbrev b_R_markLeastGroup : ByteArray := prog_5_method_9_code
abbrev y_R_markLeastGroup : MethodName := ⟨R_R, "markLeastGroup", "()V"⟩
abbrev b_R_hasReady : ByteArray := prog_5_method_10_code
abbrev y_R_hasReady : MethodName := ⟨R_R, "hasReady", "(I)Z"⟩
abbrev b_R_leastStart : ByteArray := prog_5_method_11_code
abbrev y_R_leastStart : MethodName := ⟨R_R, "leastStart", "(II)I"⟩
abbrev b_R_leastExpired : ByteArray := prog_5_method_12_code
abbrev y_R_leastExpired : MethodName := ⟨R_R, "leastExpired", "(II)I"⟩
abbrev b_E_init : ByteArray := prog_1_method_1_code
abbrev y_E_init : MethodName := ⟨R_E, "<init>", "()V"⟩
abbrev b_E_read : ByteArray := prog_1_method_2_code
abbrev y_E_read : MethodName := ⟨R_E, "read", "(II)I"⟩
abbrev b_E_write : ByteArray := prog_1_method_3_code
abbrev y_E_write : MethodName := ⟨R_E, "write", "(III)I"⟩
abbrev b_E_barrier : ByteArray := prog_1_method_4_code
abbrev y_E_barrier : MethodName := ⟨R_E, "barrier", "()I"⟩
abbrev b_E_expire : ByteArray := prog_1_method_5_code
abbrev y_E_expire : MethodName := ⟨R_E, "expire", "(II)Z"⟩
abbrev b_E_tick : ByteArray := prog_1_method_6_code
abbrev y_E_tick : MethodName := ⟨R_E, "tick", "(I)Z"⟩
abbrev b_E_dispatch : ByteArray := prog_1_method_7_code
abbrev y_E_dispatch : MethodName := ⟨R_E, "dispatch", "()I"⟩
abbrev b_E_state : ByteArray := prog_1_method_8_code
abbrev y_E_state : MethodName := ⟨R_E, "state", "(I)I"⟩
abbrev b_E_value : ByteArray := prog_1_method_9_code
abbrev y_E_value : MethodName := ⟨R_E, "value", "(II)I"⟩
abbrev b_E_sector : ByteArray := prog_1_method_10_code
abbrev y_E_sector : MethodName := ⟨R_E, "sector", "(I)I"⟩
abbrev b_E_waiting : ByteArray := prog_1_method_11_code
abbrev y_E_waiting : MethodName := ⟨R_E, "waiting", "(I)I"⟩
abbrev b_E_ready : ByteArray := prog_1_method_12_code
abbrev y_E_ready : MethodName := ⟨R_E, "ready", "(I)I"⟩
abbrev b_E_requestOf : ByteArray := prog_1_method_13_code
abbrev y_E_requestOf : MethodName := ⟨R_E, "requestOf", "(I)I"⟩
abbrev b_E_about : ByteArray := prog_1_method_14_code
abbrev y_E_about : MethodName := ⟨R_E, "about", "(II)I"⟩
abbrev b_E_latest : ByteArray := prog_1_method_15_code
abbrev y_E_latest : MethodName := ⟨R_E, "latest", "()I"⟩
abbrev b_E_head : ByteArray := prog_1_method_16_code
abbrev y_E_head : MethodName := ⟨R_E, "head", "()I"⟩
abbrev b_E_now : ByteArray := prog_1_method_17_code
abbrev y_E_now : MethodName := ⟨R_E, "now", "()I"⟩
abbrev b_E_batch : ByteArray := prog_1_method_18_code
abbrev y_E_batch : MethodName := ⟨R_E, "batch", "()I"⟩
abbrev b_E_isWithin : ByteArray := prog_1_method_19_code
abbrev y_E_isWithin : MethodName := ⟨R_E, "isWithin", "(II)Z"⟩
abbrev b_E_isOnDisk : ByteArray := prog_1_method_20_code
abbrev y_E_isOnDisk : MethodName := ⟨R_E, "isOnDisk", "(II)Z"⟩
abbrev b_E_sectorsFrom : ByteArray := prog_1_method_21_code
abbrev y_E_sectorsFrom : MethodName := ⟨R_E, "sectorsFrom", "(II)J"⟩
abbrev b_E_take : ByteArray := prog_1_method_22_code
abbrev y_E_take : MethodName := ⟨R_E, "take", "(IIII)I"⟩
abbrev b_E_hostFor : ByteArray := prog_1_method_23_code
abbrev y_E_hostFor : MethodName := ⟨R_E, "hostFor", "(III)I"⟩
abbrev b_E_claimAllWaiting : ByteArray := prog_1_method_24_code
abbrev y_E_claimAllWaiting : MethodName := ⟨R_E, "claimAllWaiting", "()V"⟩
abbrev b_E_markReady : ByteArray := prog_1_method_25_code
abbrev y_E_markReady : MethodName := ⟨R_E, "markReady", "()V"⟩
abbrev b_E_pick : ByteArray := prog_1_method_26_code
abbrev y_E_pick : MethodName := ⟨R_E, "pick", "()I"⟩
abbrev b_E_firstOfBatch : ByteArray := prog_1_method_27_code
abbrev y_E_firstOfBatch : MethodName := ⟨R_E, "firstOfBatch", "(I)I"⟩
abbrev b_E_carryOut : ByteArray := prog_1_method_28_code
abbrev y_E_carryOut : MethodName := ⟨R_E, "carryOut", "(I)V"⟩
abbrev b_M_init : ByteArray := prog_7_method_1_code
abbrev y_M_init : MethodName := ⟨R_M, "<init>", "()V"⟩
abbrev b_M_waits : ByteArray := prog_7_method_2_code
abbrev y_M_waits : MethodName := ⟨R_M, "waits", "(I)Z"⟩
abbrev b_M_start : ByteArray := prog_7_method_3_code
abbrev y_M_start : MethodName := ⟨R_M, "start", "(I)I"⟩
abbrev b_M_length : ByteArray := prog_7_method_4_code
abbrev y_M_length : MethodName := ⟨R_M, "length", "(I)I"⟩
abbrev b_M_members : ByteArray := prog_7_method_5_code
abbrev y_M_members : MethodName := ⟨R_M, "members", "(I)I"⟩
abbrev b_M_conflict : ByteArray := prog_7_method_6_code
abbrev y_M_conflict : MethodName := ⟨R_M, "conflict", "(II)Z"⟩
abbrev b_M_isReady : ByteArray := prog_7_method_7_code
abbrev y_M_isReady : MethodName := ⟨R_M, "isReady", "(I)Z"⟩
abbrev b_M_joined : ByteArray := prog_7_method_8_code
abbrev y_M_joined : MethodName := ⟨R_M, "joined", "(I)I"⟩
abbrev b_M_come : ByteArray := prog_7_method_9_code
abbrev y_M_come : MethodName := ⟨R_M, "come", "(IIII)I"⟩
abbrev b_M_read : ByteArray := prog_7_method_10_code
abbrev y_M_read : MethodName := ⟨R_M, "read", "(II)I"⟩
abbrev b_M_write : ByteArray := prog_7_method_11_code
abbrev y_M_write : MethodName := ⟨R_M, "write", "(III)I"⟩
abbrev b_M_barrier : ByteArray := prog_7_method_12_code
abbrev y_M_barrier : MethodName := ⟨R_M, "barrier", "()I"⟩
abbrev b_M_expire : ByteArray := prog_7_method_13_code
abbrev y_M_expire : MethodName := ⟨R_M, "expire", "(II)Z"⟩
abbrev b_M_tick : ByteArray := prog_7_method_14_code
abbrev y_M_tick : MethodName := ⟨R_M, "tick", "(I)Z"⟩
abbrev b_M_sweep : ByteArray := prog_7_method_15_code
abbrev y_M_sweep : MethodName := ⟨R_M, "sweep", "(II)I"⟩
abbrev b_M_late : ByteArray := prog_7_method_16_code
abbrev y_M_late : MethodName := ⟨R_M, "late", "(I)I"⟩
abbrev b_M_fresh : ByteArray := prog_7_method_17_code
abbrev y_M_fresh : MethodName := ⟨R_M, "fresh", "()I"⟩
abbrev b_M_dispatch : ByteArray := prog_7_method_18_code
abbrev y_M_dispatch : MethodName := ⟨R_M, "dispatch", "()I"⟩
abbrev b_M_carryOut : ByteArray := prog_7_method_19_code
abbrev y_M_carryOut : MethodName := ⟨R_M, "carryOut", "(I)V"⟩
abbrev b_M_isPart : ByteArray := prog_7_method_20_code
abbrev y_M_isPart : MethodName := ⟨R_M, "isPart", "(I)Z"⟩
abbrev b_M_state : ByteArray := prog_7_method_21_code
abbrev y_M_state : MethodName := ⟨R_M, "state", "(I)I"⟩
abbrev b_M_value : ByteArray := prog_7_method_22_code
abbrev y_M_value : MethodName := ⟨R_M, "value", "(II)I"⟩
abbrev b_M_sector : ByteArray := prog_7_method_23_code
abbrev y_M_sector : MethodName := ⟨R_M, "sector", "(I)I"⟩
abbrev b_M_waiting : ByteArray := prog_7_method_24_code
abbrev y_M_waiting : MethodName := ⟨R_M, "waiting", "(I)I"⟩
abbrev b_M_ready : ByteArray := prog_7_method_25_code
abbrev y_M_ready : MethodName := ⟨R_M, "ready", "(I)I"⟩
abbrev b_M_requestOf : ByteArray := prog_7_method_26_code
abbrev y_M_requestOf : MethodName := ⟨R_M, "requestOf", "(I)I"⟩
abbrev b_M_about : ByteArray := prog_7_method_27_code
abbrev y_M_about : MethodName := ⟨R_M, "about", "(II)I"⟩
abbrev b_M_latest : ByteArray := prog_7_method_28_code
abbrev y_M_latest : MethodName := ⟨R_M, "latest", "()I"⟩
abbrev b_M_head : ByteArray := prog_7_method_29_code
abbrev y_M_head : MethodName := ⟨R_M, "head", "()I"⟩
abbrev b_M_now : ByteArray := prog_7_method_30_code
abbrev y_M_now : MethodName := ⟨R_M, "now", "()I"⟩
abbrev b_M_batch : ByteArray := prog_7_method_31_code
abbrev y_M_batch : MethodName := ⟨R_M, "batch", "()I"⟩
theorem tb_1 : (.initialized "DeadlineElevator" : Cond) ∈ TB := tb_of 1 (by decide +kernel) (by decide +kernel)
theorem tb_2 : (.initialized "DeadlineElevator$Parts" : Cond) ∈ TB := tb_of 2 (by decide +kernel) (by decide +kernel)
theorem tb_3 : (.initialized "DeadlineElevator$Requests" : Cond) ∈ TB := tb_of 3 (by decide +kernel) (by decide +kernel)
theorem tb_4 : (.initialized "DeadlineElevator$Claims" : Cond) ∈ TB := tb_of 4 (by decide +kernel) (by decide +kernel)
theorem tb_5 : (.initialized "DeadlineElevator$Batch" : Cond) ∈ TB := tb_of 5 (by decide +kernel) (by decide +kernel)
theorem tb_6 : (.initialized "DeadlineElevatorModel" : Cond) ∈ TB := tb_of 6 (by decide +kernel) (by decide +kernel)
theorem tb_7 : (.initialized "java/lang/Math" : Cond) ∈ TB := tb_of 7 (by decide +kernel) (by decide +kernel)
theorem tb_8 : (.initialized "java/lang/System" : Cond) ∈ TB := tb_of 8 (by decide +kernel) (by decide +kernel)
theorem tb_9 : (.classLink "DeadlineElevatorLaw" 7 "DeadlineElevator" : Cond) ∈ TB := tb_of 9 (by decide +kernel) (by decide +kernel)
theorem tb_10 : (.instantiable "DeadlineElevator" 11 : Cond) ∈ TB := tb_of 10 (by decide +kernel) (by decide +kernel)
theorem tb_11 : (.methodLink "DeadlineElevatorLaw" 9 y_E_init : Cond) ∈ TB := tb_of 11 (by decide +kernel) (by decide +kernel)
theorem tb_12 : (.instanceMethod y_E_init : Cond) ∈ TB := tb_of 12 (by decide +kernel) (by decide +kernel)
theorem tb_13 : (.code y_E_init b_E_init 1 none : Cond) ∈ TB := tb_of 13 (by decide +kernel) (by decide +kernel)
theorem tb_14 : (.methodLink "DeadlineElevator" 1 objectInit : Cond) ∈ TB := tb_of 14 (by decide +kernel) (by decide +kernel)
theorem tb_15 : (.instanceMethod objectInit : Cond) ∈ TB := tb_of 15 (by decide +kernel) (by decide +kernel)
theorem tb_16 : (.code objectInit ⟨#[0xb1]⟩ 1 none : Cond) ∈ TB := tb_of 16 (by decide +kernel) (by decide +kernel)
theorem tb_17 : (.classLink "DeadlineElevator" 13 "DeadlineElevator$Parts" : Cond) ∈ TB := tb_of 17 (by decide +kernel) (by decide +kernel)
theorem tb_18 : (.instantiable "DeadlineElevator$Parts" 7 : Cond) ∈ TB := tb_of 18 (by decide +kernel) (by decide +kernel)
theorem tb_20 : (.instanceMethod y_P_init : Cond) ∈ TB := tb_of 20 (by decide +kernel) (by decide +kernel)
theorem tb_21 : (.code y_P_init b_P_init 1 none : Cond) ∈ TB := tb_of 21 (by decide +kernel) (by decide +kernel)
theorem tb_22 : (.methodLink "DeadlineElevator$Parts" 3 objectInit : Cond) ∈ TB := tb_of 22 (by decide +kernel) (by decide +kernel)
theorem tb_23 : (.fieldLink "DeadlineElevator$Parts" 9 "DeadlineElevator$Parts" "way" "[I" : Cond) ∈ TB := tb_of 23 (by decide +kernel) (by decide +kernel)
theorem tb_25 : (.fieldLink "DeadlineElevator$Parts" 15 "DeadlineElevator$Parts" "start" "[I" : Cond) ∈ TB := tb_of 25 (by decide +kernel) (by decide +kernel)
theorem tb_26 : (.fieldLink "DeadlineElevator$Parts" 18 "DeadlineElevator$Parts" "length" "[I" : Cond) ∈ TB := tb_of 26 (by decide +kernel) (by decide +kernel)
theorem tb_28 : (.fieldLink "DeadlineElevator$Parts" 21 "DeadlineElevator$Parts" "request" "[I" : Cond) ∈ TB := tb_of 28 (by decide +kernel) (by decide +kernel)
theorem tb_30 : (.fieldLink "DeadlineElevator$Parts" 24 "DeadlineElevator$Parts" "done" "[Z" : Cond) ∈ TB := tb_of 30 (by decide +kernel) (by decide +kernel)
theorem tb_32 : (.fieldLink "DeadlineElevator$Parts" 28 "DeadlineElevator$Parts" "data" "[I" : Cond) ∈ TB := tb_of 32 (by decide +kernel) (by decide +kernel)
theorem tb_34 : (.fieldLink "DeadlineElevator$Parts" 31 "DeadlineElevator$Parts" "count" "I" : Cond) ∈ TB := tb_of 34 (by decide +kernel) (by decide +kernel)
theorem tb_51 : (.arrayClass .int : Cond) ∈ TB := tb_of 51 (by decide +kernel) (by decide +kernel)
theorem tb_52 : (.arrayClass .boolean : Cond) ∈ TB := tb_of 52 (by decide +kernel) (by decide +kernel)
theorem tb_53 : (.classLink "DeadlineElevator" 20 "DeadlineElevator$Requests" : Cond) ∈ TB := tb_of 53 (by decide +kernel) (by decide +kernel)
theorem tb_54 : (.instantiable "DeadlineElevator$Requests" 9 : Cond) ∈ TB := tb_of 54 (by decide +kernel) (by decide +kernel)
theorem tb_56 : (.instanceMethod y_R_init : Cond) ∈ TB := tb_of 56 (by decide +kernel) (by decide +kernel)
theorem tb_57 : (.code y_R_init b_R_init 1 none : Cond) ∈ TB := tb_of 57 (by decide +kernel) (by decide +kernel)
theorem tb_58 : (.methodLink "DeadlineElevator$Requests" 3 objectInit : Cond) ∈ TB := tb_of 58 (by decide +kernel) (by decide +kernel)
theorem tb_59 : (.fieldLink "DeadlineElevator$Requests" 9 "DeadlineElevator$Requests" "way" "[I" : Cond) ∈ TB := tb_of 59 (by decide +kernel) (by decide +kernel)
theorem tb_61 : (.fieldLink "DeadlineElevator$Requests" 15 "DeadlineElevator$Requests" "start" "[I" : Cond) ∈ TB := tb_of 61 (by decide +kernel) (by decide +kernel)
theorem tb_63 : (.fieldLink "DeadlineElevator$Requests" 18 "DeadlineElevator$Requests" "length" "[I" : Cond) ∈ TB := tb_of 63 (by decide +kernel) (by decide +kernel)
theorem tb_65 : (.fieldLink "DeadlineElevator$Requests" 21 "DeadlineElevator$Requests" "parts" "[I" : Cond) ∈ TB := tb_of 65 (by decide +kernel) (by decide +kernel)
theorem tb_67 : (.fieldLink "DeadlineElevator$Requests" 24 "DeadlineElevator$Requests" "deadline" "[I" : Cond) ∈ TB := tb_of 67 (by decide +kernel) (by decide +kernel)
theorem tb_69 : (.fieldLink "DeadlineElevator$Requests" 27 "DeadlineElevator$Requests" "group" "[I" : Cond) ∈ TB := tb_of 69 (by decide +kernel) (by decide +kernel)
theorem tb_71 : (.fieldLink "DeadlineElevator$Requests" 30 "DeadlineElevator$Requests" "ready" "[Z" : Cond) ∈ TB := tb_of 71 (by decide +kernel) (by decide +kernel)
theorem tb_73 : (.fieldLink "DeadlineElevator$Requests" 34 "DeadlineElevator$Requests" "queue" "[I" : Cond) ∈ TB := tb_of 73 (by decide +kernel) (by decide +kernel)
theorem tb_75 : (.fieldLink "DeadlineElevator$Requests" 37 "DeadlineElevator$Requests" "count" "I" : Cond) ∈ TB := tb_of 75 (by decide +kernel) (by decide +kernel)
theorem tb_96 : (.classLink "DeadlineElevator" 27 "DeadlineElevator$Claims" : Cond) ∈ TB := tb_of 96 (by decide +kernel) (by decide +kernel)
theorem tb_97 : (.instantiable "DeadlineElevator$Claims" 2 : Cond) ∈ TB := tb_of 97 (by decide +kernel) (by decide +kernel)
theorem tb_99 : (.instanceMethod y_C_init : Cond) ∈ TB := tb_of 99 (by decide +kernel) (by decide +kernel)
theorem tb_100 : (.code y_C_init b_C_init 1 none : Cond) ∈ TB := tb_of 100 (by decide +kernel) (by decide +kernel)
theorem tb_101 : (.methodLink "DeadlineElevator$Claims" 3 objectInit : Cond) ∈ TB := tb_of 101 (by decide +kernel) (by decide +kernel)
theorem tb_102 : (.fieldLink "DeadlineElevator$Claims" 9 "DeadlineElevator$Claims" "beingRead" "J" : Cond) ∈ TB := tb_of 102 (by decide +kernel) (by decide +kernel)
theorem tb_103 : (.fieldLink "DeadlineElevator$Claims" 15 "DeadlineElevator$Claims" "beingWritten" "J" : Cond) ∈ TB := tb_of 103 (by decide +kernel) (by decide +kernel)
theorem tb_109 : (.classLink "DeadlineElevator" 34 "DeadlineElevator$Batch" : Cond) ∈ TB := tb_of 109 (by decide +kernel) (by decide +kernel)
theorem tb_110 : (.instantiable "DeadlineElevator$Batch" 3 : Cond) ∈ TB := tb_of 110 (by decide +kernel) (by decide +kernel)
theorem tb_112 : (.instanceMethod y_B_init : Cond) ∈ TB := tb_of 112 (by decide +kernel) (by decide +kernel)
theorem tb_113 : (.code y_B_init b_B_init 1 none : Cond) ∈ TB := tb_of 113 (by decide +kernel) (by decide +kernel)
theorem tb_114 : (.methodLink "DeadlineElevator$Batch" 3 objectInit : Cond) ∈ TB := tb_of 114 (by decide +kernel) (by decide +kernel)
theorem tb_115 : (.fieldLink "DeadlineElevator$Batch" 9 "DeadlineElevator$Batch" "way" "I" : Cond) ∈ TB := tb_of 115 (by decide +kernel) (by decide +kernel)
theorem tb_117 : (.fieldLink "DeadlineElevator$Batch" 15 "DeadlineElevator$Batch" "count" "I" : Cond) ∈ TB := tb_of 117 (by decide +kernel) (by decide +kernel)
theorem tb_119 : (.fieldLink "DeadlineElevator$Batch" 18 "DeadlineElevator$Batch" "starved" "I" : Cond) ∈ TB := tb_of 119 (by decide +kernel) (by decide +kernel)
theorem tb_128 : (.fieldLink "DeadlineElevator" 9 "DeadlineElevator" "disk" "[I" : Cond) ∈ TB := tb_of 128 (by decide +kernel) (by decide +kernel)
theorem tb_129 : (.fieldLink "DeadlineElevator" 16 "DeadlineElevator" "parts" "LDeadlineElevator$Parts;" : Cond) ∈ TB := tb_of 129 (by decide +kernel) (by decide +kernel)
theorem tb_130 : (.fieldLink "DeadlineElevator" 23 "DeadlineElevator" "requests" "LDeadlineElevator$Requests;" : Cond) ∈ TB := tb_of 130 (by decide +kernel) (by decide +kernel)
theorem tb_131 : (.fieldLink "DeadlineElevator" 30 "DeadlineElevator" "claims" "LDeadlineElevator$Claims;" : Cond) ∈ TB := tb_of 131 (by decide +kernel) (by decide +kernel)
theorem tb_132 : (.fieldLink "DeadlineElevator" 37 "DeadlineElevator" "currentBatch" "LDeadlineElevator$Batch;" : Cond) ∈ TB := tb_of 132 (by decide +kernel) (by decide +kernel)
theorem tb_133 : (.fieldLink "DeadlineElevator" 41 "DeadlineElevator" "readingExpiry" "I" : Cond) ∈ TB := tb_of 133 (by decide +kernel) (by decide +kernel)
theorem tb_134 : (.fieldLink "DeadlineElevator" 45 "DeadlineElevator" "writingExpiry" "I" : Cond) ∈ TB := tb_of 134 (by decide +kernel) (by decide +kernel)
theorem tb_135 : (.fieldLink "DeadlineElevator" 48 "DeadlineElevator" "barriers" "I" : Cond) ∈ TB := tb_of 135 (by decide +kernel) (by decide +kernel)
theorem tb_136 : (.fieldLink "DeadlineElevator" 51 "DeadlineElevator" "time" "I" : Cond) ∈ TB := tb_of 136 (by decide +kernel) (by decide +kernel)
theorem tb_137 : (.fieldLink "DeadlineElevator" 54 "DeadlineElevator" "position" "I" : Cond) ∈ TB := tb_of 137 (by decide +kernel) (by decide +kernel)
theorem tb_138 : (.fieldLink "DeadlineElevator" 57 "DeadlineElevator" "lastDispatched" "I" : Cond) ∈ TB := tb_of 138 (by decide +kernel) (by decide +kernel)
theorem tb_162 : (.methodLink "DeadlineElevatorLaw" 13 y_E_read : Cond) ∈ TB := tb_of 162 (by decide +kernel) (by decide +kernel)
theorem tb_163 : (.instanceMethod y_E_read : Cond) ∈ TB := tb_of 163 (by decide +kernel) (by decide +kernel)
theorem tb_164 : (.selects "DeadlineElevator" y_E_read y_E_read : Cond) ∈ TB := tb_of 164 (by decide +kernel) (by decide +kernel)
theorem tb_165 : (.code y_E_read b_E_read 3 (some .int) : Cond) ∈ TB := tb_of 165 (by decide +kernel) (by decide +kernel)
theorem tb_166 : (.methodLink "DeadlineElevator" 60 y_E_take : Cond) ∈ TB := tb_of 166 (by decide +kernel) (by decide +kernel)
theorem tb_168 : (.instanceMethod y_E_take : Cond) ∈ TB := tb_of 168 (by decide +kernel) (by decide +kernel)
theorem tb_169 : (.code y_E_take b_E_take 8 (some .int) : Cond) ∈ TB := tb_of 169 (by decide +kernel) (by decide +kernel)
theorem tb_170 : (.methodLink "DeadlineElevator" 131 y_E_isOnDisk : Cond) ∈ TB := tb_of 170 (by decide +kernel) (by decide +kernel)
theorem tb_171 : (.static y_E_isOnDisk : Cond) ∈ TB := tb_of 171 (by decide +kernel) (by decide +kernel)
theorem tb_172 : (.code y_E_isOnDisk b_E_isOnDisk 2 (some .boolean) : Cond) ∈ TB := tb_of 172 (by decide +kernel) (by decide +kernel)
theorem tb_173 : (.methodLink "DeadlineElevator" 135 y_E_hostFor : Cond) ∈ TB := tb_of 173 (by decide +kernel) (by decide +kernel)
theorem tb_175 : (.instanceMethod y_E_hostFor : Cond) ∈ TB := tb_of 175 (by decide +kernel) (by decide +kernel)
theorem tb_176 : (.code y_E_hostFor b_E_hostFor 4 (some .int) : Cond) ∈ TB := tb_of 176 (by decide +kernel) (by decide +kernel)
theorem tb_177 : (.methodLink "DeadlineElevator" 150 y_E_claimAllWaiting : Cond) ∈ TB := tb_of 177 (by decide +kernel) (by decide +kernel)
theorem tb_179 : (.instanceMethod y_E_claimAllWaiting : Cond) ∈ TB := tb_of 179 (by decide +kernel) (by decide +kernel)
theorem tb_180 : (.code y_E_claimAllWaiting b_E_claimAllWaiting 2 none : Cond) ∈ TB := tb_of 180 (by decide +kernel) (by decide +kernel)
theorem tb_183 : (.instanceMethod y_C_clear : Cond) ∈ TB := tb_of 183 (by decide +kernel) (by decide +kernel)
theorem tb_184 : (.code y_C_clear b_C_clear 1 none : Cond) ∈ TB := tb_of 184 (by decide +kernel) (by decide +kernel)
theorem tb_187 : (.instanceMethod y_P_sectors : Cond) ∈ TB := tb_of 187 (by decide +kernel) (by decide +kernel)
theorem tb_188 : (.code y_P_sectors b_P_sectors 2 (some .long) : Cond) ∈ TB := tb_of 188 (by decide +kernel) (by decide +kernel)
theorem tb_190 : (.static y_E_sectorsFrom : Cond) ∈ TB := tb_of 190 (by decide +kernel) (by decide +kernel)
theorem tb_191 : (.code y_E_sectorsFrom b_E_sectorsFrom 2 (some .long) : Cond) ∈ TB := tb_of 191 (by decide +kernel) (by decide +kernel)
theorem tb_194 : (.instanceMethod y_C_add : Cond) ∈ TB := tb_of 194 (by decide +kernel) (by decide +kernel)
theorem tb_195 : (.code y_C_add b_C_add 4 none : Cond) ∈ TB := tb_of 195 (by decide +kernel) (by decide +kernel)
theorem tb_196 : (.methodLink "DeadlineElevator" 153 y_E_sectorsFrom : Cond) ∈ TB := tb_of 196 (by decide +kernel) (by decide +kernel)
theorem tb_199 : (.instanceMethod y_C_conflictWith : Cond) ∈ TB := tb_of 199 (by decide +kernel) (by decide +kernel)
theorem tb_200 : (.code y_C_conflictWith b_C_conflictWith 6 (some .boolean) : Cond) ∈ TB := tb_of 200 (by decide +kernel) (by decide +kernel)
theorem tb_203 : (.instanceMethod y_R_neighbourOf : Cond) ∈ TB := tb_of 203 (by decide +kernel) (by decide +kernel)
theorem tb_204 : (.code y_R_neighbourOf b_R_neighbourOf 8 (some .int) : Cond) ∈ TB := tb_of 204 (by decide +kernel) (by decide +kernel)
theorem tb_205 : (.methodLink "DeadlineElevator$Requests" 47 y_R_hasRoom : Cond) ∈ TB := tb_of 205 (by decide +kernel) (by decide +kernel)
theorem tb_207 : (.instanceMethod y_R_hasRoom : Cond) ∈ TB := tb_of 207 (by decide +kernel) (by decide +kernel)
theorem tb_208 : (.code y_R_hasRoom b_R_hasRoom 3 (some .boolean) : Cond) ∈ TB := tb_of 208 (by decide +kernel) (by decide +kernel)
theorem tb_209 : (.methodLink "DeadlineElevator$Requests" 51 y_R_end : Cond) ∈ TB := tb_of 209 (by decide +kernel) (by decide +kernel)
theorem tb_211 : (.instanceMethod y_R_end : Cond) ∈ TB := tb_of 211 (by decide +kernel) (by decide +kernel)
theorem tb_212 : (.code y_R_end b_R_end 2 (some .int) : Cond) ∈ TB := tb_of 212 (by decide +kernel) (by decide +kernel)
theorem tb_215 : (.instanceMethod y_P_add : Cond) ∈ TB := tb_of 215 (by decide +kernel) (by decide +kernel)
theorem tb_216 : (.code y_P_add b_P_add 7 (some .int) : Cond) ∈ TB := tb_of 216 (by decide +kernel) (by decide +kernel)
theorem tb_219 : (.instanceMethod y_R_open : Cond) ∈ TB := tb_of 219 (by decide +kernel) (by decide +kernel)
theorem tb_220 : (.code y_R_open b_R_open 7 none : Cond) ∈ TB := tb_of 220 (by decide +kernel) (by decide +kernel)
theorem tb_223 : (.instanceMethod y_R_extend : Cond) ∈ TB := tb_of 223 (by decide +kernel) (by decide +kernel)
theorem tb_224 : (.code y_R_extend b_R_extend 4 none : Cond) ∈ TB := tb_of 224 (by decide +kernel) (by decide +kernel)
theorem tb_225 : (.methodLink "DeadlineElevator$Requests" 41 Lib.Math.min.name : Cond) ∈ TB := tb_of 225 (by decide +kernel) (by decide +kernel)
theorem tb_226 : (.static Lib.Math.min.name : Cond) ∈ TB := tb_of 226 (by decide +kernel) (by decide +kernel)
theorem tb_227 : (.code Lib.Math.min.name Lib.Math.min.code 2 (some .int) : Cond) ∈ TB := tb_of 227 (by decide +kernel) (by decide +kernel)
theorem tb_228 : (.methodLink "DeadlineElevatorLaw" 18 y_E_write : Cond) ∈ TB := tb_of 228 (by decide +kernel) (by decide +kernel)
theorem tb_229 : (.instanceMethod y_E_write : Cond) ∈ TB := tb_of 229 (by decide +kernel) (by decide +kernel)
theorem tb_230 : (.selects "DeadlineElevator" y_E_write y_E_write : Cond) ∈ TB := tb_of 230 (by decide +kernel) (by decide +kernel)
theorem tb_231 : (.code y_E_write b_E_write 4 (some .int) : Cond) ∈ TB := tb_of 231 (by decide +kernel) (by decide +kernel)
theorem tb_232 : (.methodLink "DeadlineElevatorLaw" 23 y_E_barrier : Cond) ∈ TB := tb_of 232 (by decide +kernel) (by decide +kernel)
theorem tb_233 : (.instanceMethod y_E_barrier : Cond) ∈ TB := tb_of 233 (by decide +kernel) (by decide +kernel)
theorem tb_234 : (.selects "DeadlineElevator" y_E_barrier y_E_barrier : Cond) ∈ TB := tb_of 234 (by decide +kernel) (by decide +kernel)
theorem tb_235 : (.code y_E_barrier b_E_barrier 1 (some .int) : Cond) ∈ TB := tb_of 235 (by decide +kernel) (by decide +kernel)
theorem tb_236 : (.methodLink "DeadlineElevatorLaw" 28 y_E_expire : Cond) ∈ TB := tb_of 236 (by decide +kernel) (by decide +kernel)
theorem tb_237 : (.instanceMethod y_E_expire : Cond) ∈ TB := tb_of 237 (by decide +kernel) (by decide +kernel)
theorem tb_238 : (.selects "DeadlineElevator" y_E_expire y_E_expire : Cond) ∈ TB := tb_of 238 (by decide +kernel) (by decide +kernel)
theorem tb_239 : (.code y_E_expire b_E_expire 4 (some .boolean) : Cond) ∈ TB := tb_of 239 (by decide +kernel) (by decide +kernel)
theorem tb_240 : (.methodLink "DeadlineElevator" 64 y_E_isWithin : Cond) ∈ TB := tb_of 240 (by decide +kernel) (by decide +kernel)
theorem tb_241 : (.static y_E_isWithin : Cond) ∈ TB := tb_of 241 (by decide +kernel) (by decide +kernel)
theorem tb_242 : (.code y_E_isWithin b_E_isWithin 2 (some .boolean) : Cond) ∈ TB := tb_of 242 (by decide +kernel) (by decide +kernel)
theorem tb_243 : (.methodLink "DeadlineElevatorLaw" 33 y_E_tick : Cond) ∈ TB := tb_of 243 (by decide +kernel) (by decide +kernel)
theorem tb_244 : (.instanceMethod y_E_tick : Cond) ∈ TB := tb_of 244 (by decide +kernel) (by decide +kernel)
theorem tb_245 : (.selects "DeadlineElevator" y_E_tick y_E_tick : Cond) ∈ TB := tb_of 245 (by decide +kernel) (by decide +kernel)
theorem tb_246 : (.code y_E_tick b_E_tick 2 (some .boolean) : Cond) ∈ TB := tb_of 246 (by decide +kernel) (by decide +kernel)
theorem tb_247 : (.constant "DeadlineElevator" 71 100000 : Cond) ∈ TB := tb_of 247 (by decide +kernel) (by decide +kernel)
theorem tb_248 : (.methodLink "DeadlineElevatorLaw" 38 y_E_dispatch : Cond) ∈ TB := tb_of 248 (by decide +kernel) (by decide +kernel)
theorem tb_249 : (.instanceMethod y_E_dispatch : Cond) ∈ TB := tb_of 249 (by decide +kernel) (by decide +kernel)
theorem tb_250 : (.selects "DeadlineElevator" y_E_dispatch y_E_dispatch : Cond) ∈ TB := tb_of 250 (by decide +kernel) (by decide +kernel)
theorem tb_251 : (.code y_E_dispatch b_E_dispatch 2 (some .int) : Cond) ∈ TB := tb_of 251 (by decide +kernel) (by decide +kernel)
theorem tb_252 : (.methodLink "DeadlineElevator" 72 y_E_markReady : Cond) ∈ TB := tb_of 252 (by decide +kernel) (by decide +kernel)
theorem tb_254 : (.instanceMethod y_E_markReady : Cond) ∈ TB := tb_of 254 (by decide +kernel) (by decide +kernel)
theorem tb_255 : (.code y_E_markReady b_E_markReady 4 none : Cond) ∈ TB := tb_of 255 (by decide +kernel) (by decide +kernel)
theorem tb_258 : (.instanceMethod y_R_markLeastGroup : Cond) ∈ TB := tb_of 258 (by decide +kernel) (by decide +kernel)
theorem tb_259 : (.code y_R_markLeastGroup b_R_markLeastGroup 2 none : Cond) ∈ TB := tb_of 259 (by decide +kernel) (by decide +kernel)
theorem tb_260 : (.methodLink "DeadlineElevator" 75 y_E_pick : Cond) ∈ TB := tb_of 260 (by decide +kernel) (by decide +kernel)
theorem tb_262 : (.instanceMethod y_E_pick : Cond) ∈ TB := tb_of 262 (by decide +kernel) (by decide +kernel)
theorem tb_263 : (.code y_E_pick b_E_pick 3 (some .int) : Cond) ∈ TB := tb_of 263 (by decide +kernel) (by decide +kernel)
theorem tb_266 : (.instanceMethod y_B_mayGoOn : Cond) ∈ TB := tb_of 266 (by decide +kernel) (by decide +kernel)
theorem tb_267 : (.code y_B_mayGoOn b_B_mayGoOn 1 (some .boolean) : Cond) ∈ TB := tb_of 267 (by decide +kernel) (by decide +kernel)
theorem tb_270 : (.instanceMethod y_R_leastStart : Cond) ∈ TB := tb_of 270 (by decide +kernel) (by decide +kernel)
theorem tb_271 : (.code y_R_leastStart b_R_leastStart 6 (some .int) : Cond) ∈ TB := tb_of 271 (by decide +kernel) (by decide +kernel)
theorem tb_272 : (.methodLink "DeadlineElevator$Requests" 58 y_R_isReady : Cond) ∈ TB := tb_of 272 (by decide +kernel) (by decide +kernel)
theorem tb_274 : (.instanceMethod y_R_isReady : Cond) ∈ TB := tb_of 274 (by decide +kernel) (by decide +kernel)
theorem tb_275 : (.code y_R_isReady b_R_isReady 3 (some .boolean) : Cond) ∈ TB := tb_of 275 (by decide +kernel) (by decide +kernel)
theorem tb_278 : (.instanceMethod y_R_hasReady : Cond) ∈ TB := tb_of 278 (by decide +kernel) (by decide +kernel)
theorem tb_279 : (.code y_R_hasReady b_R_hasReady 2 (some .boolean) : Cond) ∈ TB := tb_of 279 (by decide +kernel) (by decide +kernel)
theorem tb_280 : (.methodLink "DeadlineElevator$Requests" 55 y_R_leastStart : Cond) ∈ TB := tb_of 280 (by decide +kernel) (by decide +kernel)
theorem tb_283 : (.instanceMethod y_B_begin : Cond) ∈ TB := tb_of 283 (by decide +kernel) (by decide +kernel)
theorem tb_284 : (.code y_B_begin b_B_begin 3 none : Cond) ∈ TB := tb_of 284 (by decide +kernel) (by decide +kernel)
theorem tb_285 : (.methodLink "DeadlineElevator" 195 y_E_firstOfBatch : Cond) ∈ TB := tb_of 285 (by decide +kernel) (by decide +kernel)
theorem tb_287 : (.instanceMethod y_E_firstOfBatch : Cond) ∈ TB := tb_of 287 (by decide +kernel) (by decide +kernel)
theorem tb_288 : (.code y_E_firstOfBatch b_E_firstOfBatch 4 (some .int) : Cond) ∈ TB := tb_of 288 (by decide +kernel) (by decide +kernel)
theorem tb_291 : (.instanceMethod y_R_leastExpired : Cond) ∈ TB := tb_of 291 (by decide +kernel) (by decide +kernel)
theorem tb_292 : (.code y_R_leastExpired b_R_leastExpired 6 (some .int) : Cond) ∈ TB := tb_of 292 (by decide +kernel) (by decide +kernel)
theorem tb_293 : (.methodLink "DeadlineElevator" 79 y_E_carryOut : Cond) ∈ TB := tb_of 293 (by decide +kernel) (by decide +kernel)
theorem tb_295 : (.instanceMethod y_E_carryOut : Cond) ∈ TB := tb_of 295 (by decide +kernel) (by decide +kernel)
theorem tb_296 : (.code y_E_carryOut b_E_carryOut 3 none : Cond) ∈ TB := tb_of 296 (by decide +kernel) (by decide +kernel)
theorem tb_299 : (.instanceMethod y_P_carryOut : Cond) ∈ TB := tb_of 299 (by decide +kernel) (by decide +kernel)
theorem tb_300 : (.code y_P_carryOut b_P_carryOut 4 none : Cond) ∈ TB := tb_of 300 (by decide +kernel) (by decide +kernel)
theorem tb_301 : (.methodLink "DeadlineElevator$Parts" 43 arraycopyName : Cond) ∈ TB := tb_of 301 (by decide +kernel) (by decide +kernel)
theorem tb_302 : (.static arraycopyName : Cond) ∈ TB := tb_of 302 (by decide +kernel) (by decide +kernel)
theorem tb_303 : (.native arraycopyName : Cond) ∈ TB := tb_of 303 (by decide +kernel) (by decide +kernel)
theorem tb_306 : (.instanceMethod y_R_remove : Cond) ∈ TB := tb_of 306 (by decide +kernel) (by decide +kernel)
theorem tb_307 : (.code y_R_remove b_R_remove 4 none : Cond) ∈ TB := tb_of 307 (by decide +kernel) (by decide +kernel)
theorem tb_309 : (.methodLink "DeadlineElevatorLaw" 42 y_E_state : Cond) ∈ TB := tb_of 309 (by decide +kernel) (by decide +kernel)
theorem tb_310 : (.instanceMethod y_E_state : Cond) ∈ TB := tb_of 310 (by decide +kernel) (by decide +kernel)
theorem tb_311 : (.selects "DeadlineElevator" y_E_state y_E_state : Cond) ∈ TB := tb_of 311 (by decide +kernel) (by decide +kernel)
theorem tb_312 : (.code y_E_state b_E_state 2 (some .int) : Cond) ∈ TB := tb_of 312 (by decide +kernel) (by decide +kernel)
theorem tb_315 : (.instanceMethod y_P_has : Cond) ∈ TB := tb_of 315 (by decide +kernel) (by decide +kernel)
theorem tb_316 : (.code y_P_has b_P_has 2 (some .boolean) : Cond) ∈ TB := tb_of 316 (by decide +kernel) (by decide +kernel)
theorem tb_317 : (.methodLink "DeadlineElevatorLaw" 47 y_E_value : Cond) ∈ TB := tb_of 317 (by decide +kernel) (by decide +kernel)
theorem tb_318 : (.instanceMethod y_E_value : Cond) ∈ TB := tb_of 318 (by decide +kernel) (by decide +kernel)
theorem tb_319 : (.selects "DeadlineElevator" y_E_value y_E_value : Cond) ∈ TB := tb_of 319 (by decide +kernel) (by decide +kernel)
theorem tb_320 : (.code y_E_value b_E_value 3 (some .int) : Cond) ∈ TB := tb_of 320 (by decide +kernel) (by decide +kernel)
theorem tb_321 : (.methodLink "DeadlineElevatorLaw" 51 y_E_sector : Cond) ∈ TB := tb_of 321 (by decide +kernel) (by decide +kernel)
theorem tb_322 : (.instanceMethod y_E_sector : Cond) ∈ TB := tb_of 322 (by decide +kernel) (by decide +kernel)
theorem tb_323 : (.selects "DeadlineElevator" y_E_sector y_E_sector : Cond) ∈ TB := tb_of 323 (by decide +kernel) (by decide +kernel)
theorem tb_324 : (.code y_E_sector b_E_sector 2 (some .int) : Cond) ∈ TB := tb_of 324 (by decide +kernel) (by decide +kernel)
theorem tb_325 : (.methodLink "DeadlineElevatorLaw" 55 y_E_waiting : Cond) ∈ TB := tb_of 325 (by decide +kernel) (by decide +kernel)
theorem tb_326 : (.instanceMethod y_E_waiting : Cond) ∈ TB := tb_of 326 (by decide +kernel) (by decide +kernel)
theorem tb_327 : (.selects "DeadlineElevator" y_E_waiting y_E_waiting : Cond) ∈ TB := tb_of 327 (by decide +kernel) (by decide +kernel)
theorem tb_328 : (.code y_E_waiting b_E_waiting 4 (some .int) : Cond) ∈ TB := tb_of 328 (by decide +kernel) (by decide +kernel)
theorem tb_329 : (.methodLink "DeadlineElevatorLaw" 59 y_E_ready : Cond) ∈ TB := tb_of 329 (by decide +kernel) (by decide +kernel)
theorem tb_330 : (.instanceMethod y_E_ready : Cond) ∈ TB := tb_of 330 (by decide +kernel) (by decide +kernel)
theorem tb_331 : (.selects "DeadlineElevator" y_E_ready y_E_ready : Cond) ∈ TB := tb_of 331 (by decide +kernel) (by decide +kernel)
theorem tb_332 : (.code y_E_ready b_E_ready 4 (some .int) : Cond) ∈ TB := tb_of 332 (by decide +kernel) (by decide +kernel)
theorem tb_334 : (.methodLink "DeadlineElevatorLaw" 63 y_E_requestOf : Cond) ∈ TB := tb_of 334 (by decide +kernel) (by decide +kernel)
theorem tb_335 : (.instanceMethod y_E_requestOf : Cond) ∈ TB := tb_of 335 (by decide +kernel) (by decide +kernel)
theorem tb_336 : (.selects "DeadlineElevator" y_E_requestOf y_E_requestOf : Cond) ∈ TB := tb_of 336 (by decide +kernel) (by decide +kernel)
theorem tb_337 : (.code y_E_requestOf b_E_requestOf 2 (some .int) : Cond) ∈ TB := tb_of 337 (by decide +kernel) (by decide +kernel)
theorem tb_340 : (.instanceMethod y_P_isWaiting : Cond) ∈ TB := tb_of 340 (by decide +kernel) (by decide +kernel)
theorem tb_341 : (.code y_P_isWaiting b_P_isWaiting 2 (some .boolean) : Cond) ∈ TB := tb_of 341 (by decide +kernel) (by decide +kernel)
theorem tb_342 : (.methodLink "DeadlineElevator$Parts" 35 y_P_has : Cond) ∈ TB := tb_of 342 (by decide +kernel) (by decide +kernel)
theorem tb_343 : (.methodLink "DeadlineElevatorLaw" 67 y_E_about : Cond) ∈ TB := tb_of 343 (by decide +kernel) (by decide +kernel)
theorem tb_344 : (.instanceMethod y_E_about : Cond) ∈ TB := tb_of 344 (by decide +kernel) (by decide +kernel)
theorem tb_345 : (.selects "DeadlineElevator" y_E_about y_E_about : Cond) ∈ TB := tb_of 345 (by decide +kernel) (by decide +kernel)
theorem tb_346 : (.code y_E_about b_E_about 4 (some .int) : Cond) ∈ TB := tb_of 346 (by decide +kernel) (by decide +kernel)
theorem tb_347 : (.methodLink "DeadlineElevatorLaw" 71 y_E_latest : Cond) ∈ TB := tb_of 347 (by decide +kernel) (by decide +kernel)
theorem tb_348 : (.instanceMethod y_E_latest : Cond) ∈ TB := tb_of 348 (by decide +kernel) (by decide +kernel)
theorem tb_349 : (.selects "DeadlineElevator" y_E_latest y_E_latest : Cond) ∈ TB := tb_of 349 (by decide +kernel) (by decide +kernel)
theorem tb_350 : (.code y_E_latest b_E_latest 1 (some .int) : Cond) ∈ TB := tb_of 350 (by decide +kernel) (by decide +kernel)
theorem tb_351 : (.methodLink "DeadlineElevatorLaw" 75 y_E_head : Cond) ∈ TB := tb_of 351 (by decide +kernel) (by decide +kernel)
theorem tb_352 : (.instanceMethod y_E_head : Cond) ∈ TB := tb_of 352 (by decide +kernel) (by decide +kernel)
theorem tb_353 : (.selects "DeadlineElevator" y_E_head y_E_head : Cond) ∈ TB := tb_of 353 (by decide +kernel) (by decide +kernel)
theorem tb_354 : (.code y_E_head b_E_head 1 (some .int) : Cond) ∈ TB := tb_of 354 (by decide +kernel) (by decide +kernel)
theorem tb_355 : (.methodLink "DeadlineElevatorLaw" 79 y_E_now : Cond) ∈ TB := tb_of 355 (by decide +kernel) (by decide +kernel)
theorem tb_356 : (.instanceMethod y_E_now : Cond) ∈ TB := tb_of 356 (by decide +kernel) (by decide +kernel)
theorem tb_357 : (.selects "DeadlineElevator" y_E_now y_E_now : Cond) ∈ TB := tb_of 357 (by decide +kernel) (by decide +kernel)
theorem tb_358 : (.code y_E_now b_E_now 1 (some .int) : Cond) ∈ TB := tb_of 358 (by decide +kernel) (by decide +kernel)
theorem tb_359 : (.methodLink "DeadlineElevatorLaw" 83 y_E_batch : Cond) ∈ TB := tb_of 359 (by decide +kernel) (by decide +kernel)
theorem tb_360 : (.instanceMethod y_E_batch : Cond) ∈ TB := tb_of 360 (by decide +kernel) (by decide +kernel)
theorem tb_361 : (.selects "DeadlineElevator" y_E_batch y_E_batch : Cond) ∈ TB := tb_of 361 (by decide +kernel) (by decide +kernel)
theorem tb_362 : (.code y_E_batch b_E_batch 1 (some .int) : Cond) ∈ TB := tb_of 362 (by decide +kernel) (by decide +kernel)
theorem tb_363 : (.classLink "DeadlineElevatorLaw" 10 "DeadlineElevatorModel" : Cond) ∈ TB := tb_of 363 (by decide +kernel) (by decide +kernel)
theorem tb_364 : (.instantiable "DeadlineElevatorModel" 19 : Cond) ∈ TB := tb_of 364 (by decide +kernel) (by decide +kernel)
theorem tb_365 : (.methodLink "DeadlineElevatorLaw" 12 y_M_init : Cond) ∈ TB := tb_of 365 (by decide +kernel) (by decide +kernel)
theorem tb_366 : (.instanceMethod y_M_init : Cond) ∈ TB := tb_of 366 (by decide +kernel) (by decide +kernel)
theorem tb_367 : (.code y_M_init b_M_init 1 none : Cond) ∈ TB := tb_of 367 (by decide +kernel) (by decide +kernel)
theorem tb_368 : (.methodLink "DeadlineElevatorModel" 1 objectInit : Cond) ∈ TB := tb_of 368 (by decide +kernel) (by decide +kernel)
theorem tb_369 : (.fieldLink "DeadlineElevatorModel" 7 "DeadlineElevatorModel" "disk" "[I" : Cond) ∈ TB := tb_of 369 (by decide +kernel) (by decide +kernel)
theorem tb_370 : (.fieldLink "DeadlineElevatorModel" 47 "DeadlineElevatorModel" "parts" "I" : Cond) ∈ TB := tb_of 370 (by decide +kernel) (by decide +kernel)
theorem tb_371 : (.fieldLink "DeadlineElevatorModel" 13 "DeadlineElevatorModel" "way" "[I" : Cond) ∈ TB := tb_of 371 (by decide +kernel) (by decide +kernel)
theorem tb_372 : (.fieldLink "DeadlineElevatorModel" 16 "DeadlineElevatorModel" "from" "[I" : Cond) ∈ TB := tb_of 372 (by decide +kernel) (by decide +kernel)
theorem tb_373 : (.fieldLink "DeadlineElevatorModel" 19 "DeadlineElevatorModel" "size" "[I" : Cond) ∈ TB := tb_of 373 (by decide +kernel) (by decide +kernel)
theorem tb_374 : (.fieldLink "DeadlineElevatorModel" 22 "DeadlineElevatorModel" "with" "[I" : Cond) ∈ TB := tb_of 374 (by decide +kernel) (by decide +kernel)
theorem tb_375 : (.fieldLink "DeadlineElevatorModel" 25 "DeadlineElevatorModel" "request" "[I" : Cond) ∈ TB := tb_of 375 (by decide +kernel) (by decide +kernel)
theorem tb_376 : (.fieldLink "DeadlineElevatorModel" 28 "DeadlineElevatorModel" "state" "[I" : Cond) ∈ TB := tb_of 376 (by decide +kernel) (by decide +kernel)
theorem tb_377 : (.fieldLink "DeadlineElevatorModel" 31 "DeadlineElevatorModel" "values" "[I" : Cond) ∈ TB := tb_of 377 (by decide +kernel) (by decide +kernel)
theorem tb_378 : (.fieldLink "DeadlineElevatorModel" 34 "DeadlineElevatorModel" "deadline" "[I" : Cond) ∈ TB := tb_of 378 (by decide +kernel) (by decide +kernel)
theorem tb_379 : (.fieldLink "DeadlineElevatorModel" 37 "DeadlineElevatorModel" "group" "[I" : Cond) ∈ TB := tb_of 379 (by decide +kernel) (by decide +kernel)
theorem tb_380 : (.fieldLink "DeadlineElevatorModel" 58 "DeadlineElevatorModel" "barriers" "I" : Cond) ∈ TB := tb_of 380 (by decide +kernel) (by decide +kernel)
theorem tb_381 : (.fieldLink "DeadlineElevatorModel" 77 "DeadlineElevatorModel" "time" "I" : Cond) ∈ TB := tb_of 381 (by decide +kernel) (by decide +kernel)
theorem tb_382 : (.fieldLink "DeadlineElevatorModel" 40 "DeadlineElevatorModel" "expiry" "[I" : Cond) ∈ TB := tb_of 382 (by decide +kernel) (by decide +kernel)
theorem tb_383 : (.fieldLink "DeadlineElevatorModel" 103 "DeadlineElevatorModel" "top" "I" : Cond) ∈ TB := tb_of 383 (by decide +kernel) (by decide +kernel)
theorem tb_384 : (.fieldLink "DeadlineElevatorModel" 94 "DeadlineElevatorModel" "batchWay" "I" : Cond) ∈ TB := tb_of 384 (by decide +kernel) (by decide +kernel)
theorem tb_385 : (.fieldLink "DeadlineElevatorModel" 97 "DeadlineElevatorModel" "count" "I" : Cond) ∈ TB := tb_of 385 (by decide +kernel) (by decide +kernel)
theorem tb_386 : (.fieldLink "DeadlineElevatorModel" 91 "DeadlineElevatorModel" "starved" "I" : Cond) ∈ TB := tb_of 386 (by decide +kernel) (by decide +kernel)
theorem tb_387 : (.fieldLink "DeadlineElevatorModel" 43 "DeadlineElevatorModel" "last" "I" : Cond) ∈ TB := tb_of 387 (by decide +kernel) (by decide +kernel)
theorem tb_427 : (.methodLink "DeadlineElevatorLaw" 17 y_M_read : Cond) ∈ TB := tb_of 427 (by decide +kernel) (by decide +kernel)
theorem tb_428 : (.instanceMethod y_M_read : Cond) ∈ TB := tb_of 428 (by decide +kernel) (by decide +kernel)
theorem tb_429 : (.selects "DeadlineElevatorModel" y_M_read y_M_read : Cond) ∈ TB := tb_of 429 (by decide +kernel) (by decide +kernel)
theorem tb_430 : (.code y_M_read b_M_read 3 (some .int) : Cond) ∈ TB := tb_of 430 (by decide +kernel) (by decide +kernel)
theorem tb_431 : (.methodLink "DeadlineElevatorModel" 80 y_M_come : Cond) ∈ TB := tb_of 431 (by decide +kernel) (by decide +kernel)
theorem tb_433 : (.instanceMethod y_M_come : Cond) ∈ TB := tb_of 433 (by decide +kernel) (by decide +kernel)
theorem tb_434 : (.code y_M_come b_M_come 7 (some .int) : Cond) ∈ TB := tb_of 434 (by decide +kernel) (by decide +kernel)
theorem tb_435 : (.methodLink "DeadlineElevatorModel" 71 y_M_waiting : Cond) ∈ TB := tb_of 435 (by decide +kernel) (by decide +kernel)
theorem tb_436 : (.instanceMethod y_M_waiting : Cond) ∈ TB := tb_of 436 (by decide +kernel) (by decide +kernel)
theorem tb_437 : (.selects "DeadlineElevatorModel" y_M_waiting y_M_waiting : Cond) ∈ TB := tb_of 437 (by decide +kernel) (by decide +kernel)
theorem tb_438 : (.code y_M_waiting b_M_waiting 4 (some .int) : Cond) ∈ TB := tb_of 438 (by decide +kernel) (by decide +kernel)
theorem tb_439 : (.methodLink "DeadlineElevatorModel" 50 y_M_waits : Cond) ∈ TB := tb_of 439 (by decide +kernel) (by decide +kernel)
theorem tb_441 : (.instanceMethod y_M_waits : Cond) ∈ TB := tb_of 441 (by decide +kernel) (by decide +kernel)
theorem tb_442 : (.code y_M_waits b_M_waits 2 (some .boolean) : Cond) ∈ TB := tb_of 442 (by decide +kernel) (by decide +kernel)
theorem tb_443 : (.methodLink "DeadlineElevatorModel" 74 y_M_joined : Cond) ∈ TB := tb_of 443 (by decide +kernel) (by decide +kernel)
theorem tb_445 : (.instanceMethod y_M_joined : Cond) ∈ TB := tb_of 445 (by decide +kernel) (by decide +kernel)
theorem tb_446 : (.code y_M_joined b_M_joined 5 (some .int) : Cond) ∈ TB := tb_of 446 (by decide +kernel) (by decide +kernel)
theorem tb_447 : (.methodLink "DeadlineElevatorModel" 54 y_M_conflict : Cond) ∈ TB := tb_of 447 (by decide +kernel) (by decide +kernel)
theorem tb_449 : (.instanceMethod y_M_conflict : Cond) ∈ TB := tb_of 449 (by decide +kernel) (by decide +kernel)
theorem tb_450 : (.code y_M_conflict b_M_conflict 3 (some .boolean) : Cond) ∈ TB := tb_of 450 (by decide +kernel) (by decide +kernel)
theorem tb_451 : (.methodLink "DeadlineElevatorModel" 61 y_M_members : Cond) ∈ TB := tb_of 451 (by decide +kernel) (by decide +kernel)
theorem tb_453 : (.instanceMethod y_M_members : Cond) ∈ TB := tb_of 453 (by decide +kernel) (by decide +kernel)
theorem tb_454 : (.code y_M_members b_M_members 4 (some .int) : Cond) ∈ TB := tb_of 454 (by decide +kernel) (by decide +kernel)
theorem tb_455 : (.methodLink "DeadlineElevatorModel" 65 y_M_length : Cond) ∈ TB := tb_of 455 (by decide +kernel) (by decide +kernel)
theorem tb_457 : (.instanceMethod y_M_length : Cond) ∈ TB := tb_of 457 (by decide +kernel) (by decide +kernel)
theorem tb_458 : (.code y_M_length b_M_length 4 (some .int) : Cond) ∈ TB := tb_of 458 (by decide +kernel) (by decide +kernel)
theorem tb_459 : (.methodLink "DeadlineElevatorModel" 68 y_M_start : Cond) ∈ TB := tb_of 459 (by decide +kernel) (by decide +kernel)
theorem tb_461 : (.instanceMethod y_M_start : Cond) ∈ TB := tb_of 461 (by decide +kernel) (by decide +kernel)
theorem tb_462 : (.code y_M_start b_M_start 4 (some .int) : Cond) ∈ TB := tb_of 462 (by decide +kernel) (by decide +kernel)
theorem tb_463 : (.methodLink "DeadlineElevatorLaw" 22 y_M_write : Cond) ∈ TB := tb_of 463 (by decide +kernel) (by decide +kernel)
theorem tb_464 : (.instanceMethod y_M_write : Cond) ∈ TB := tb_of 464 (by decide +kernel) (by decide +kernel)
theorem tb_465 : (.selects "DeadlineElevatorModel" y_M_write y_M_write : Cond) ∈ TB := tb_of 465 (by decide +kernel) (by decide +kernel)
theorem tb_466 : (.code y_M_write b_M_write 4 (some .int) : Cond) ∈ TB := tb_of 466 (by decide +kernel) (by decide +kernel)
theorem tb_467 : (.methodLink "DeadlineElevatorLaw" 27 y_M_barrier : Cond) ∈ TB := tb_of 467 (by decide +kernel) (by decide +kernel)
theorem tb_468 : (.instanceMethod y_M_barrier : Cond) ∈ TB := tb_of 468 (by decide +kernel) (by decide +kernel)
theorem tb_469 : (.selects "DeadlineElevatorModel" y_M_barrier y_M_barrier : Cond) ∈ TB := tb_of 469 (by decide +kernel) (by decide +kernel)
theorem tb_470 : (.code y_M_barrier b_M_barrier 1 (some .int) : Cond) ∈ TB := tb_of 470 (by decide +kernel) (by decide +kernel)
theorem tb_471 : (.methodLink "DeadlineElevatorLaw" 32 y_M_expire : Cond) ∈ TB := tb_of 471 (by decide +kernel) (by decide +kernel)
theorem tb_472 : (.instanceMethod y_M_expire : Cond) ∈ TB := tb_of 472 (by decide +kernel) (by decide +kernel)
theorem tb_473 : (.selects "DeadlineElevatorModel" y_M_expire y_M_expire : Cond) ∈ TB := tb_of 473 (by decide +kernel) (by decide +kernel)
theorem tb_474 : (.code y_M_expire b_M_expire 3 (some .boolean) : Cond) ∈ TB := tb_of 474 (by decide +kernel) (by decide +kernel)
theorem tb_475 : (.methodLink "DeadlineElevatorLaw" 37 y_M_tick : Cond) ∈ TB := tb_of 475 (by decide +kernel) (by decide +kernel)
theorem tb_476 : (.instanceMethod y_M_tick : Cond) ∈ TB := tb_of 476 (by decide +kernel) (by decide +kernel)
theorem tb_477 : (.selects "DeadlineElevatorModel" y_M_tick y_M_tick : Cond) ∈ TB := tb_of 477 (by decide +kernel) (by decide +kernel)
theorem tb_478 : (.code y_M_tick b_M_tick 2 (some .boolean) : Cond) ∈ TB := tb_of 478 (by decide +kernel) (by decide +kernel)
theorem tb_479 : (.constant "DeadlineElevatorModel" 84 100000 : Cond) ∈ TB := tb_of 479 (by decide +kernel) (by decide +kernel)
theorem tb_480 : (.methodLink "DeadlineElevatorLaw" 41 y_M_dispatch : Cond) ∈ TB := tb_of 480 (by decide +kernel) (by decide +kernel)
theorem tb_481 : (.instanceMethod y_M_dispatch : Cond) ∈ TB := tb_of 481 (by decide +kernel) (by decide +kernel)
theorem tb_482 : (.selects "DeadlineElevatorModel" y_M_dispatch y_M_dispatch : Cond) ∈ TB := tb_of 482 (by decide +kernel) (by decide +kernel)
theorem tb_483 : (.code y_M_dispatch b_M_dispatch 4 (some .int) : Cond) ∈ TB := tb_of 483 (by decide +kernel) (by decide +kernel)
theorem tb_484 : (.methodLink "DeadlineElevatorModel" 106 y_M_sweep : Cond) ∈ TB := tb_of 484 (by decide +kernel) (by decide +kernel)
theorem tb_486 : (.instanceMethod y_M_sweep : Cond) ∈ TB := tb_of 486 (by decide +kernel) (by decide +kernel)
theorem tb_487 : (.code y_M_sweep b_M_sweep 5 (some .int) : Cond) ∈ TB := tb_of 487 (by decide +kernel) (by decide +kernel)
theorem tb_488 : (.methodLink "DeadlineElevatorModel" 85 y_M_isReady : Cond) ∈ TB := tb_of 488 (by decide +kernel) (by decide +kernel)
theorem tb_490 : (.instanceMethod y_M_isReady : Cond) ∈ TB := tb_of 490 (by decide +kernel) (by decide +kernel)
theorem tb_491 : (.code y_M_isReady b_M_isReady 4 (some .boolean) : Cond) ∈ TB := tb_of 491 (by decide +kernel) (by decide +kernel)
theorem tb_492 : (.methodLink "DeadlineElevatorModel" 110 y_M_fresh : Cond) ∈ TB := tb_of 492 (by decide +kernel) (by decide +kernel)
theorem tb_494 : (.instanceMethod y_M_fresh : Cond) ∈ TB := tb_of 494 (by decide +kernel) (by decide +kernel)
theorem tb_495 : (.code y_M_fresh b_M_fresh 3 (some .int) : Cond) ∈ TB := tb_of 495 (by decide +kernel) (by decide +kernel)
theorem tb_496 : (.methodLink "DeadlineElevatorModel" 88 y_M_ready : Cond) ∈ TB := tb_of 496 (by decide +kernel) (by decide +kernel)
theorem tb_497 : (.instanceMethod y_M_ready : Cond) ∈ TB := tb_of 497 (by decide +kernel) (by decide +kernel)
theorem tb_498 : (.selects "DeadlineElevatorModel" y_M_ready y_M_ready : Cond) ∈ TB := tb_of 498 (by decide +kernel) (by decide +kernel)
theorem tb_499 : (.code y_M_ready b_M_ready 4 (some .int) : Cond) ∈ TB := tb_of 499 (by decide +kernel) (by decide +kernel)
theorem tb_500 : (.methodLink "DeadlineElevatorModel" 100 y_M_late : Cond) ∈ TB := tb_of 500 (by decide +kernel) (by decide +kernel)
theorem tb_502 : (.instanceMethod y_M_late : Cond) ∈ TB := tb_of 502 (by decide +kernel) (by decide +kernel)
theorem tb_503 : (.code y_M_late b_M_late 4 (some .int) : Cond) ∈ TB := tb_of 503 (by decide +kernel) (by decide +kernel)
theorem tb_504 : (.methodLink "DeadlineElevatorModel" 114 y_M_carryOut : Cond) ∈ TB := tb_of 504 (by decide +kernel) (by decide +kernel)
theorem tb_506 : (.instanceMethod y_M_carryOut : Cond) ∈ TB := tb_of 506 (by decide +kernel) (by decide +kernel)
theorem tb_507 : (.code y_M_carryOut b_M_carryOut 3 none : Cond) ∈ TB := tb_of 507 (by decide +kernel) (by decide +kernel)
theorem tb_508 : (.methodLink "DeadlineElevatorLaw" 46 y_M_state : Cond) ∈ TB := tb_of 508 (by decide +kernel) (by decide +kernel)
theorem tb_509 : (.instanceMethod y_M_state : Cond) ∈ TB := tb_of 509 (by decide +kernel) (by decide +kernel)
theorem tb_510 : (.selects "DeadlineElevatorModel" y_M_state y_M_state : Cond) ∈ TB := tb_of 510 (by decide +kernel) (by decide +kernel)
theorem tb_511 : (.code y_M_state b_M_state 2 (some .int) : Cond) ∈ TB := tb_of 511 (by decide +kernel) (by decide +kernel)
theorem tb_512 : (.methodLink "DeadlineElevatorModel" 118 y_M_isPart : Cond) ∈ TB := tb_of 512 (by decide +kernel) (by decide +kernel)
theorem tb_514 : (.instanceMethod y_M_isPart : Cond) ∈ TB := tb_of 514 (by decide +kernel) (by decide +kernel)
theorem tb_515 : (.code y_M_isPart b_M_isPart 2 (some .boolean) : Cond) ∈ TB := tb_of 515 (by decide +kernel) (by decide +kernel)
theorem tb_516 : (.methodLink "DeadlineElevatorLaw" 50 y_M_value : Cond) ∈ TB := tb_of 516 (by decide +kernel) (by decide +kernel)
theorem tb_517 : (.instanceMethod y_M_value : Cond) ∈ TB := tb_of 517 (by decide +kernel) (by decide +kernel)
theorem tb_518 : (.selects "DeadlineElevatorModel" y_M_value y_M_value : Cond) ∈ TB := tb_of 518 (by decide +kernel) (by decide +kernel)
theorem tb_519 : (.code y_M_value b_M_value 3 (some .int) : Cond) ∈ TB := tb_of 519 (by decide +kernel) (by decide +kernel)
theorem tb_520 : (.methodLink "DeadlineElevatorLaw" 54 y_M_sector : Cond) ∈ TB := tb_of 520 (by decide +kernel) (by decide +kernel)
theorem tb_521 : (.instanceMethod y_M_sector : Cond) ∈ TB := tb_of 521 (by decide +kernel) (by decide +kernel)
theorem tb_522 : (.selects "DeadlineElevatorModel" y_M_sector y_M_sector : Cond) ∈ TB := tb_of 522 (by decide +kernel) (by decide +kernel)
theorem tb_523 : (.code y_M_sector b_M_sector 2 (some .int) : Cond) ∈ TB := tb_of 523 (by decide +kernel) (by decide +kernel)
theorem tb_524 : (.methodLink "DeadlineElevatorLaw" 58 y_M_waiting : Cond) ∈ TB := tb_of 524 (by decide +kernel) (by decide +kernel)
theorem tb_525 : (.methodLink "DeadlineElevatorLaw" 62 y_M_ready : Cond) ∈ TB := tb_of 525 (by decide +kernel) (by decide +kernel)
theorem tb_526 : (.methodLink "DeadlineElevatorLaw" 66 y_M_requestOf : Cond) ∈ TB := tb_of 526 (by decide +kernel) (by decide +kernel)
theorem tb_527 : (.instanceMethod y_M_requestOf : Cond) ∈ TB := tb_of 527 (by decide +kernel) (by decide +kernel)
theorem tb_528 : (.selects "DeadlineElevatorModel" y_M_requestOf y_M_requestOf : Cond) ∈ TB := tb_of 528 (by decide +kernel) (by decide +kernel)
theorem tb_529 : (.code y_M_requestOf b_M_requestOf 2 (some .int) : Cond) ∈ TB := tb_of 529 (by decide +kernel) (by decide +kernel)
theorem tb_530 : (.methodLink "DeadlineElevatorLaw" 70 y_M_about : Cond) ∈ TB := tb_of 530 (by decide +kernel) (by decide +kernel)
theorem tb_531 : (.instanceMethod y_M_about : Cond) ∈ TB := tb_of 531 (by decide +kernel) (by decide +kernel)
theorem tb_532 : (.selects "DeadlineElevatorModel" y_M_about y_M_about : Cond) ∈ TB := tb_of 532 (by decide +kernel) (by decide +kernel)
theorem tb_533 : (.code y_M_about b_M_about 4 (some .int) : Cond) ∈ TB := tb_of 533 (by decide +kernel) (by decide +kernel)
theorem tb_534 : (.methodLink "DeadlineElevatorModel" 121 y_M_requestOf : Cond) ∈ TB := tb_of 534 (by decide +kernel) (by decide +kernel)
theorem tb_535 : (.methodLink "DeadlineElevatorLaw" 74 y_M_latest : Cond) ∈ TB := tb_of 535 (by decide +kernel) (by decide +kernel)
theorem tb_536 : (.instanceMethod y_M_latest : Cond) ∈ TB := tb_of 536 (by decide +kernel) (by decide +kernel)
theorem tb_537 : (.selects "DeadlineElevatorModel" y_M_latest y_M_latest : Cond) ∈ TB := tb_of 537 (by decide +kernel) (by decide +kernel)
theorem tb_538 : (.code y_M_latest b_M_latest 1 (some .int) : Cond) ∈ TB := tb_of 538 (by decide +kernel) (by decide +kernel)
theorem tb_539 : (.methodLink "DeadlineElevatorLaw" 78 y_M_head : Cond) ∈ TB := tb_of 539 (by decide +kernel) (by decide +kernel)
theorem tb_540 : (.instanceMethod y_M_head : Cond) ∈ TB := tb_of 540 (by decide +kernel) (by decide +kernel)
theorem tb_541 : (.selects "DeadlineElevatorModel" y_M_head y_M_head : Cond) ∈ TB := tb_of 541 (by decide +kernel) (by decide +kernel)
theorem tb_542 : (.code y_M_head b_M_head 1 (some .int) : Cond) ∈ TB := tb_of 542 (by decide +kernel) (by decide +kernel)
theorem tb_543 : (.methodLink "DeadlineElevatorLaw" 82 y_M_now : Cond) ∈ TB := tb_of 543 (by decide +kernel) (by decide +kernel)
theorem tb_544 : (.instanceMethod y_M_now : Cond) ∈ TB := tb_of 544 (by decide +kernel) (by decide +kernel)
theorem tb_545 : (.selects "DeadlineElevatorModel" y_M_now y_M_now : Cond) ∈ TB := tb_of 545 (by decide +kernel) (by decide +kernel)
theorem tb_546 : (.code y_M_now b_M_now 1 (some .int) : Cond) ∈ TB := tb_of 546 (by decide +kernel) (by decide +kernel)
theorem tb_547 : (.methodLink "DeadlineElevatorLaw" 86 y_M_batch : Cond) ∈ TB := tb_of 547 (by decide +kernel) (by decide +kernel)
theorem tb_548 : (.instanceMethod y_M_batch : Cond) ∈ TB := tb_of 548 (by decide +kernel) (by decide +kernel)
theorem tb_549 : (.selects "DeadlineElevatorModel" y_M_batch y_M_batch : Cond) ∈ TB := tb_of 549 (by decide +kernel) (by decide +kernel)
theorem tb_550 : (.code y_M_batch b_M_batch 1 (some .int) : Cond) ∈ TB := tb_of 550 (by decide +kernel) (by decide +kernel)
theorem tn_19 : (.methodLinkNest "DeadlineElevator" 15 y_P_init "DeadlineElevator" : Cond) ∈ NB := tn_of 19 (by decide +kernel) (by decide +kernel)
theorem tn_24 : (.fieldLinkNest "DeadlineElevator" 93 "DeadlineElevator$Parts" "way" "[I" "DeadlineElevator" : Cond) ∈ NB := tn_of 24 (by decide +kernel) (by decide +kernel)
theorem tn_27 : (.fieldLinkNest "DeadlineElevator" 96 "DeadlineElevator$Parts" "length" "[I" "DeadlineElevator" : Cond) ∈ NB := tn_of 27 (by decide +kernel) (by decide +kernel)
theorem tn_29 : (.fieldLinkNest "DeadlineElevator" 112 "DeadlineElevator$Parts" "request" "[I" "DeadlineElevator" : Cond) ∈ NB := tn_of 29 (by decide +kernel) (by decide +kernel)
theorem tn_31 : (.fieldLinkNest "DeadlineElevator" 89 "DeadlineElevator$Parts" "done" "[Z" "DeadlineElevator" : Cond) ∈ NB := tn_of 31 (by decide +kernel) (by decide +kernel)
theorem tn_33 : (.fieldLinkNest "DeadlineElevator" 99 "DeadlineElevator$Parts" "data" "[I" "DeadlineElevator" : Cond) ∈ NB := tn_of 33 (by decide +kernel) (by decide +kernel)
theorem tn_35 : (.fieldLinkNest "DeadlineElevator" 134 "DeadlineElevator$Parts" "count" "I" "DeadlineElevator" : Cond) ∈ NB := tn_of 35 (by decide +kernel) (by decide +kernel)
theorem tn_55 : (.methodLinkNest "DeadlineElevator" 22 y_R_init "DeadlineElevator" : Cond) ∈ NB := tn_of 55 (by decide +kernel) (by decide +kernel)
theorem tn_60 : (.fieldLinkNest "DeadlineElevator" 102 "DeadlineElevator$Requests" "way" "[I" "DeadlineElevator" : Cond) ∈ NB := tn_of 60 (by decide +kernel) (by decide +kernel)
theorem tn_62 : (.fieldLinkNest "DeadlineElevator" 115 "DeadlineElevator$Requests" "start" "[I" "DeadlineElevator" : Cond) ∈ NB := tn_of 62 (by decide +kernel) (by decide +kernel)
theorem tn_64 : (.fieldLinkNest "DeadlineElevator" 118 "DeadlineElevator$Requests" "length" "[I" "DeadlineElevator" : Cond) ∈ NB := tn_of 64 (by decide +kernel) (by decide +kernel)
theorem tn_66 : (.fieldLinkNest "DeadlineElevator" 83 "DeadlineElevator$Requests" "parts" "[I" "DeadlineElevator" : Cond) ∈ NB := tn_of 66 (by decide +kernel) (by decide +kernel)
theorem tn_68 : (.fieldLinkNest "DeadlineElevator" 119 "DeadlineElevator$Requests" "deadline" "[I" "DeadlineElevator" : Cond) ∈ NB := tn_of 68 (by decide +kernel) (by decide +kernel)
theorem tn_70 : (.fieldLinkNest "DeadlineElevator" 122 "DeadlineElevator$Requests" "group" "[I" "DeadlineElevator" : Cond) ∈ NB := tn_of 70 (by decide +kernel) (by decide +kernel)
theorem tn_72 : (.fieldLinkNest "DeadlineElevator" 177 "DeadlineElevator$Requests" "ready" "[Z" "DeadlineElevator" : Cond) ∈ NB := tn_of 72 (by decide +kernel) (by decide +kernel)
theorem tn_74 : (.fieldLinkNest "DeadlineElevator" 103 "DeadlineElevator$Requests" "queue" "[I" "DeadlineElevator" : Cond) ∈ NB := tn_of 74 (by decide +kernel) (by decide +kernel)
theorem tn_76 : (.fieldLinkNest "DeadlineElevator" 68 "DeadlineElevator$Requests" "count" "I" "DeadlineElevator" : Cond) ∈ NB := tn_of 76 (by decide +kernel) (by decide +kernel)
theorem tn_98 : (.methodLinkNest "DeadlineElevator" 29 y_C_init "DeadlineElevator" : Cond) ∈ NB := tn_of 98 (by decide +kernel) (by decide +kernel)
theorem tn_111 : (.methodLinkNest "DeadlineElevator" 36 y_B_init "DeadlineElevator" : Cond) ∈ NB := tn_of 111 (by decide +kernel) (by decide +kernel)
theorem tn_116 : (.fieldLinkNest "DeadlineElevator" 128 "DeadlineElevator$Batch" "way" "I" "DeadlineElevator" : Cond) ∈ NB := tn_of 116 (by decide +kernel) (by decide +kernel)
theorem tn_118 : (.fieldLinkNest "DeadlineElevator" 130 "DeadlineElevator$Batch" "count" "I" "DeadlineElevator" : Cond) ∈ NB := tn_of 118 (by decide +kernel) (by decide +kernel)
theorem tn_120 : (.fieldLinkNest "DeadlineElevator" 125 "DeadlineElevator$Batch" "starved" "I" "DeadlineElevator" : Cond) ∈ NB := tn_of 120 (by decide +kernel) (by decide +kernel)
theorem tn_181 : (.methodLinkNest "DeadlineElevator" 164 y_C_clear "DeadlineElevator" : Cond) ∈ NB := tn_of 181 (by decide +kernel) (by decide +kernel)
theorem tn_185 : (.methodLinkNest "DeadlineElevator" 167 y_P_sectors "DeadlineElevator" : Cond) ∈ NB := tn_of 185 (by decide +kernel) (by decide +kernel)
theorem tn_189 : (.methodLinkNest "DeadlineElevator$Parts" 39 y_E_sectorsFrom "DeadlineElevator" : Cond) ∈ NB := tn_of 189 (by decide +kernel) (by decide +kernel)
theorem tn_192 : (.methodLinkNest "DeadlineElevator" 171 y_C_add "DeadlineElevator" : Cond) ∈ NB := tn_of 192 (by decide +kernel) (by decide +kernel)
theorem tn_197 : (.methodLinkNest "DeadlineElevator" 157 y_C_conflictWith "DeadlineElevator" : Cond) ∈ NB := tn_of 197 (by decide +kernel) (by decide +kernel)
theorem tn_201 : (.methodLinkNest "DeadlineElevator" 161 y_R_neighbourOf "DeadlineElevator" : Cond) ∈ NB := tn_of 201 (by decide +kernel) (by decide +kernel)
theorem tn_213 : (.methodLinkNest "DeadlineElevator" 139 y_P_add "DeadlineElevator" : Cond) ∈ NB := tn_of 213 (by decide +kernel) (by decide +kernel)
theorem tn_217 : (.methodLinkNest "DeadlineElevator" 142 y_R_open "DeadlineElevator" : Cond) ∈ NB := tn_of 217 (by decide +kernel) (by decide +kernel)
theorem tn_221 : (.methodLinkNest "DeadlineElevator" 146 y_R_extend "DeadlineElevator" : Cond) ∈ NB := tn_of 221 (by decide +kernel) (by decide +kernel)
theorem tn_256 : (.methodLinkNest "DeadlineElevator" 174 y_R_markLeastGroup "DeadlineElevator" : Cond) ∈ NB := tn_of 256 (by decide +kernel) (by decide +kernel)
theorem tn_264 : (.methodLinkNest "DeadlineElevator" 180 y_B_mayGoOn "DeadlineElevator" : Cond) ∈ NB := tn_of 264 (by decide +kernel) (by decide +kernel)
theorem tn_268 : (.methodLinkNest "DeadlineElevator" 184 y_R_leastStart "DeadlineElevator" : Cond) ∈ NB := tn_of 268 (by decide +kernel) (by decide +kernel)
theorem tn_276 : (.methodLinkNest "DeadlineElevator" 188 y_R_hasReady "DeadlineElevator" : Cond) ∈ NB := tn_of 276 (by decide +kernel) (by decide +kernel)
theorem tn_281 : (.methodLinkNest "DeadlineElevator" 191 y_B_begin "DeadlineElevator" : Cond) ∈ NB := tn_of 281 (by decide +kernel) (by decide +kernel)
theorem tn_289 : (.methodLinkNest "DeadlineElevator" 199 y_R_leastExpired "DeadlineElevator" : Cond) ∈ NB := tn_of 289 (by decide +kernel) (by decide +kernel)
theorem tn_297 : (.methodLinkNest "DeadlineElevator" 202 y_P_carryOut "DeadlineElevator" : Cond) ∈ NB := tn_of 297 (by decide +kernel) (by decide +kernel)
theorem tn_304 : (.methodLinkNest "DeadlineElevator" 205 y_R_remove "DeadlineElevator" : Cond) ∈ NB := tn_of 304 (by decide +kernel) (by decide +kernel)
theorem tn_308 : (.methodLinkNest "DeadlineElevator" 208 y_R_end "DeadlineElevator" : Cond) ∈ NB := tn_of 308 (by decide +kernel) (by decide +kernel)
theorem tn_313 : (.methodLinkNest "DeadlineElevator" 85 y_P_has "DeadlineElevator" : Cond) ∈ NB := tn_of 313 (by decide +kernel) (by decide +kernel)
theorem tn_333 : (.methodLinkNest "DeadlineElevator" 106 y_R_isReady "DeadlineElevator" : Cond) ∈ NB := tn_of 333 (by decide +kernel) (by decide +kernel)
theorem tn_338 : (.methodLinkNest "DeadlineElevator" 109 y_P_isWaiting "DeadlineElevator" : Cond) ∈ NB := tn_of 338 (by decide +kernel) (by decide +kernel)
theorem ts_0 : (.selects "DeadlineElevator" y_E_take y_E_take : Cond) ∈ TB := ts_of 0 (by decide +kernel) (by decide +kernel)
theorem ts_1 : (.selects "DeadlineElevator" y_E_hostFor y_E_hostFor : Cond) ∈ TB := ts_of 1 (by decide +kernel) (by decide +kernel)
theorem ts_2 : (.selects "DeadlineElevator" y_E_claimAllWaiting y_E_claimAllWaiting : Cond) ∈ TB := ts_of 2 (by decide +kernel) (by decide +kernel)
theorem ts_3 : (.selects "DeadlineElevator$Claims" y_C_clear y_C_clear : Cond) ∈ TB := ts_of 3 (by decide +kernel) (by decide +kernel)
theorem ts_4 : (.selects "DeadlineElevator$Parts" y_P_sectors y_P_sectors : Cond) ∈ TB := ts_of 4 (by decide +kernel) (by decide +kernel)
theorem ts_5 : (.selects "DeadlineElevator$Claims" y_C_add y_C_add : Cond) ∈ TB := ts_of 5 (by decide +kernel) (by decide +kernel)
theorem ts_6 : (.selects "DeadlineElevator$Claims" y_C_conflictWith y_C_conflictWith : Cond) ∈ TB := ts_of 6 (by decide +kernel) (by decide +kernel)
theorem ts_7 : (.selects "DeadlineElevator$Requests" y_R_neighbourOf y_R_neighbourOf : Cond) ∈ TB := ts_of 7 (by decide +kernel) (by decide +kernel)
theorem ts_8 : (.selects "DeadlineElevator$Requests" y_R_hasRoom y_R_hasRoom : Cond) ∈ TB := ts_of 8 (by decide +kernel) (by decide +kernel)
theorem ts_9 : (.selects "DeadlineElevator$Requests" y_R_end y_R_end : Cond) ∈ TB := ts_of 9 (by decide +kernel) (by decide +kernel)
theorem ts_10 : (.selects "DeadlineElevator$Parts" y_P_add y_P_add : Cond) ∈ TB := ts_of 10 (by decide +kernel) (by decide +kernel)
theorem ts_11 : (.selects "DeadlineElevator$Requests" y_R_open y_R_open : Cond) ∈ TB := ts_of 11 (by decide +kernel) (by decide +kernel)
theorem ts_12 : (.selects "DeadlineElevator$Requests" y_R_extend y_R_extend : Cond) ∈ TB := ts_of 12 (by decide +kernel) (by decide +kernel)
theorem ts_13 : (.selects "DeadlineElevator" y_E_markReady y_E_markReady : Cond) ∈ TB := ts_of 13 (by decide +kernel) (by decide +kernel)
theorem ts_14 : (.selects "DeadlineElevator$Requests" y_R_markLeastGroup y_R_markLeastGroup : Cond) ∈ TB := ts_of 14 (by decide +kernel) (by decide +kernel)
theorem ts_15 : (.selects "DeadlineElevator" y_E_pick y_E_pick : Cond) ∈ TB := ts_of 15 (by decide +kernel) (by decide +kernel)
theorem ts_16 : (.selects "DeadlineElevator$Batch" y_B_mayGoOn y_B_mayGoOn : Cond) ∈ TB := ts_of 16 (by decide +kernel) (by decide +kernel)
theorem ts_17 : (.selects "DeadlineElevator$Requests" y_R_leastStart y_R_leastStart : Cond) ∈ TB := ts_of 17 (by decide +kernel) (by decide +kernel)
theorem ts_18 : (.selects "DeadlineElevator$Requests" y_R_isReady y_R_isReady : Cond) ∈ TB := ts_of 18 (by decide +kernel) (by decide +kernel)
theorem ts_19 : (.selects "DeadlineElevator$Requests" y_R_hasReady y_R_hasReady : Cond) ∈ TB := ts_of 19 (by decide +kernel) (by decide +kernel)
theorem ts_20 : (.selects "DeadlineElevator$Batch" y_B_begin y_B_begin : Cond) ∈ TB := ts_of 20 (by decide +kernel) (by decide +kernel)
theorem ts_21 : (.selects "DeadlineElevator" y_E_firstOfBatch y_E_firstOfBatch : Cond) ∈ TB := ts_of 21 (by decide +kernel) (by decide +kernel)
theorem ts_22 : (.selects "DeadlineElevator$Requests" y_R_leastExpired y_R_leastExpired : Cond) ∈ TB := ts_of 22 (by decide +kernel) (by decide +kernel)
theorem ts_23 : (.selects "DeadlineElevator" y_E_carryOut y_E_carryOut : Cond) ∈ TB := ts_of 23 (by decide +kernel) (by decide +kernel)
theorem ts_24 : (.selects "DeadlineElevator$Parts" y_P_carryOut y_P_carryOut : Cond) ∈ TB := ts_of 24 (by decide +kernel) (by decide +kernel)
theorem ts_25 : (.selects "DeadlineElevator$Requests" y_R_remove y_R_remove : Cond) ∈ TB := ts_of 25 (by decide +kernel) (by decide +kernel)
theorem ts_26 : (.selects "DeadlineElevator$Parts" y_P_has y_P_has : Cond) ∈ TB := ts_of 26 (by decide +kernel) (by decide +kernel)
theorem ts_27 : (.selects "DeadlineElevator$Parts" y_P_isWaiting y_P_isWaiting : Cond) ∈ TB := ts_of 27 (by decide +kernel) (by decide +kernel)
theorem ts_28 : (.selects "DeadlineElevatorModel" y_M_come y_M_come : Cond) ∈ TB := ts_of 28 (by decide +kernel) (by decide +kernel)
theorem ts_29 : (.selects "DeadlineElevatorModel" y_M_waits y_M_waits : Cond) ∈ TB := ts_of 29 (by decide +kernel) (by decide +kernel)
theorem ts_30 : (.selects "DeadlineElevatorModel" y_M_joined y_M_joined : Cond) ∈ TB := ts_of 30 (by decide +kernel) (by decide +kernel)
theorem ts_31 : (.selects "DeadlineElevatorModel" y_M_conflict y_M_conflict : Cond) ∈ TB := ts_of 31 (by decide +kernel) (by decide +kernel)
theorem ts_32 : (.selects "DeadlineElevatorModel" y_M_members y_M_members : Cond) ∈ TB := ts_of 32 (by decide +kernel) (by decide +kernel)
theorem ts_33 : (.selects "DeadlineElevatorModel" y_M_length y_M_length : Cond) ∈ TB := ts_of 33 (by decide +kernel) (by decide +kernel)
theorem ts_34 : (.selects "DeadlineElevatorModel" y_M_start y_M_start : Cond) ∈ TB := ts_of 34 (by decide +kernel) (by decide +kernel)
theorem ts_35 : (.selects "DeadlineElevatorModel" y_M_sweep y_M_sweep : Cond) ∈ TB := ts_of 35 (by decide +kernel) (by decide +kernel)
theorem ts_36 : (.selects "DeadlineElevatorModel" y_M_isReady y_M_isReady : Cond) ∈ TB := ts_of 36 (by decide +kernel) (by decide +kernel)
theorem ts_37 : (.selects "DeadlineElevatorModel" y_M_fresh y_M_fresh : Cond) ∈ TB := ts_of 37 (by decide +kernel) (by decide +kernel)
theorem ts_38 : (.selects "DeadlineElevatorModel" y_M_late y_M_late : Cond) ∈ TB := ts_of 38 (by decide +kernel) (by decide +kernel)
theorem ts_39 : (.selects "DeadlineElevatorModel" y_M_carryOut y_M_carryOut : Cond) ∈ TB := ts_of 39 (by decide +kernel) (by decide +kernel)
theorem ts_40 : (.selects "DeadlineElevatorModel" y_M_isPart y_M_isPart : Cond) ∈ TB := ts_of 40 (by decide +kernel) (by decide +kernel)
end
section
abbrev rm_B_mayGoOn : Room := { frames := 0, cells := 0, slots := 0, locals := 0 }
theorem good_B_mayGoOn : GoodIn TB (.code y_B_mayGoOn b_B_mayGoOn 1 (some .boolean) :: TB) := good_of tb_267
theorem hd_B_mayGoOn : y_B_mayGoOn.cls ≠ "java/lang/invoke/MethodHandle" ∧ y_B_mayGoOn.cls ≠ "java/lang/invoke/VarHandle" ∧ (parseMethodDescriptor y_B_mayGoOn.desc).map (fun d => d.parameters.length) = some 0 := by decide +kernel
theorem d_B_mayGoOn_0 : decode b_B_mayGoOn 0 = .ok (.aload_n 0, 1) := by decide +kernel
theorem d_B_mayGoOn_1 : decode b_B_mayGoOn 1 = .ok (.getfield 15, 3) := by decide +kernel
theorem d_B_mayGoOn_4 : decode b_B_mayGoOn 4 = .ok (.ifCond .le 15, 3) := by decide +kernel
theorem d_B_mayGoOn_7 : decode b_B_mayGoOn 7 = .ok (.aload_n 0, 1) := by decide +kernel
theorem d_B_mayGoOn_8 : decode b_B_mayGoOn 8 = .ok (.getfield 15, 3) := by decide +kernel
theorem d_B_mayGoOn_11 : decode b_B_mayGoOn 11 = .ok (.iconst 4, 1) := by decide +kernel
theorem d_B_mayGoOn_12 : decode b_B_mayGoOn 12 = .ok (.if_icmp .ge 7, 3) := by decide +kernel
theorem d_B_mayGoOn_15 : decode b_B_mayGoOn 15 = .ok (.iconst 1, 1) := by decide +kernel
theorem d_B_mayGoOn_16 : decode b_B_mayGoOn 16 = .ok (.goto 4, 3) := by decide +kernel
theorem d_B_mayGoOn_19 : decode b_B_mayGoOn 19 = .ok (.iconst 0, 1) := by decide +kernel
theorem d_B_mayGoOn_20 : decode b_B_mayGoOn 20 = .ok (.ireturn, 1) := by decide +kernel
abbrev rm_B_begin : Room := { frames := 0, cells := 0, slots := 0, locals := 0 }
theorem good_B_begin : GoodIn TB (.code y_B_begin b_B_begin 3 none :: TB) := good_of tb_284
theorem hd_B_begin : y_B_begin.cls ≠ "java/lang/invoke/MethodHandle" ∧ y_B_begin.cls ≠ "java/lang/invoke/VarHandle" ∧ (parseMethodDescriptor y_B_begin.desc).map (fun d => d.parameters.length) = some 2 := by decide +kernel
theorem d_B_begin_0 : decode b_B_begin 0 = .ok (.aload_n 0, 1) := by decide +kernel
theorem d_B_begin_1 : decode b_B_begin 1 = .ok (.iconst 1, 1) := by decide +kernel
theorem d_B_begin_2 : decode b_B_begin 2 = .ok (.putfield 15, 3) := by decide +kernel
theorem d_B_begin_5 : decode b_B_begin 5 = .ok (.iload_n 1, 1) := by decide +kernel
theorem d_B_begin_6 : decode b_B_begin 6 = .ok (.ifCond .eq 37, 3) := by decide +kernel
theorem d_B_begin_9 : decode b_B_begin 9 = .ok (.iload_n 2, 1) := by decide +kernel
theorem d_B_begin_10 : decode b_B_begin 10 = .ok (.ifCond .eq 11, 3) := by decide +kernel
theorem d_B_begin_13 : decode b_B_begin 13 = .ok (.aload_n 0, 1) := by decide +kernel
theorem d_B_begin_14 : decode b_B_begin 14 = .ok (.getfield 18, 3) := by decide +kernel
theorem d_B_begin_17 : decode b_B_begin 17 = .ok (.iconst 2, 1) := by decide +kernel
theorem d_B_begin_18 : decode b_B_begin 18 = .ok (.if_icmp .ge 25, 3) := by decide +kernel
theorem d_B_begin_21 : decode b_B_begin 21 = .ok (.aload_n 0, 1) := by decide +kernel
theorem d_B_begin_22 : decode b_B_begin 22 = .ok (.iconst 0, 1) := by decide +kernel
theorem d_B_begin_23 : decode b_B_begin 23 = .ok (.putfield 9, 3) := by decide +kernel
theorem d_B_begin_26 : decode b_B_begin 26 = .ok (.iload_n 2, 1) := by decide +kernel
theorem d_B_begin_27 : decode b_B_begin 27 = .ok (.ifCond .eq 26, 3) := by decide +kernel
theorem d_B_begin_30 : decode b_B_begin 30 = .ok (.aload_n 0, 1) := by decide +kernel
theorem d_B_begin_31 : decode b_B_begin 31 = .ok (.dup, 1) := by decide +kernel
theorem d_B_begin_32 : decode b_B_begin 32 = .ok (.getfield 18, 3) := by decide +kernel
theorem d_B_begin_35 : decode b_B_begin 35 = .ok (.iconst 1, 1) := by decide +kernel
theorem d_B_begin_36 : decode b_B_begin 36 = .ok (.iadd, 1) := by decide +kernel
theorem d_B_begin_37 : decode b_B_begin 37 = .ok (.putfield 18, 3) := by decide +kernel
theorem d_B_begin_40 : decode b_B_begin 40 = .ok (.goto 13, 3) := by decide +kernel
theorem d_B_begin_43 : decode b_B_begin 43 = .ok (.aload_n 0, 1) := by decide +kernel
theorem d_B_begin_44 : decode b_B_begin 44 = .ok (.iconst 1, 1) := by decide +kernel
theorem d_B_begin_45 : decode b_B_begin 45 = .ok (.putfield 9, 3) := by decide +kernel
theorem d_B_begin_48 : decode b_B_begin 48 = .ok (.aload_n 0, 1) := by decide +kernel
theorem d_B_begin_49 : decode b_B_begin 49 = .ok (.iconst 0, 1) := by decide +kernel
theorem d_B_begin_50 : decode b_B_begin 50 = .ok (.putfield 18, 3) := by decide +kernel
theorem d_B_begin_53 : decode b_B_begin 53 = .ok (.return_, 1) := by decide +kernel
abbrev rm_C_clear : Room := { frames := 0, cells := 0, slots := 0, locals := 0 }
theorem good_C_clear : GoodIn TB (.code y_C_clear b_C_clear 1 none :: TB) := good_of tb_184
theorem hd_C_clear : y_C_clear.cls ≠ "java/lang/invoke/MethodHandle" ∧ y_C_clear.cls ≠ "java/lang/invoke/VarHandle" ∧ (parseMethodDescriptor y_C_clear.desc).map (fun d => d.parameters.length) = some 0 := by decide +kernel
theorem d_C_clear_0 : decode b_C_clear 0 = .ok (.aload_n 0, 1) := by decide +kernel
theorem d_C_clear_1 : decode b_C_clear 1 = .ok (.lconst 0, 1) := by decide +kernel
theorem d_C_clear_2 : decode b_C_clear 2 = .ok (.putfield 9, 3) := by decide +kernel
theorem d_C_clear_5 : decode b_C_clear 5 = .ok (.aload_n 0, 1) := by decide +kernel
theorem d_C_clear_6 : decode b_C_clear 6 = .ok (.lconst 0, 1) := by decide +kernel
theorem d_C_clear_7 : decode b_C_clear 7 = .ok (.putfield 15, 3) := by decide +kernel
theorem d_C_clear_10 : decode b_C_clear 10 = .ok (.return_, 1) := by decide +kernel
abbrev rm_C_add : Room := { frames := 0, cells := 0, slots := 0, locals := 0 }
theorem good_C_add : GoodIn TB (.code y_C_add b_C_add 4 none :: TB) := good_of tb_195
theorem hd_C_add : y_C_add.cls ≠ "java/lang/invoke/MethodHandle" ∧ y_C_add.cls ≠ "java/lang/invoke/VarHandle" ∧ (parseMethodDescriptor y_C_add.desc).map (fun d => d.parameters.length) = some 2 := by decide +kernel
theorem d_C_add_0 : decode b_C_add 0 = .ok (.iload_n 1, 1) := by decide +kernel
theorem d_C_add_1 : decode b_C_add 1 = .ok (.iconst 1, 1) := by decide +kernel
theorem d_C_add_2 : decode b_C_add 2 = .ok (.if_icmp .ne 16, 3) := by decide +kernel
theorem d_C_add_5 : decode b_C_add 5 = .ok (.aload_n 0, 1) := by decide +kernel
theorem d_C_add_6 : decode b_C_add 6 = .ok (.dup, 1) := by decide +kernel
theorem d_C_add_7 : decode b_C_add 7 = .ok (.getfield 15, 3) := by decide +kernel
theorem d_C_add_10 : decode b_C_add 10 = .ok (.lload_n 2, 1) := by decide +kernel
theorem d_C_add_11 : decode b_C_add 11 = .ok (.lor, 1) := by decide +kernel
theorem d_C_add_12 : decode b_C_add 12 = .ok (.putfield 15, 3) := by decide +kernel
theorem d_C_add_15 : decode b_C_add 15 = .ok (.goto 13, 3) := by decide +kernel
theorem d_C_add_18 : decode b_C_add 18 = .ok (.aload_n 0, 1) := by decide +kernel
theorem d_C_add_19 : decode b_C_add 19 = .ok (.dup, 1) := by decide +kernel
theorem d_C_add_20 : decode b_C_add 20 = .ok (.getfield 9, 3) := by decide +kernel
theorem d_C_add_23 : decode b_C_add 23 = .ok (.lload_n 2, 1) := by decide +kernel
theorem d_C_add_24 : decode b_C_add 24 = .ok (.lor, 1) := by decide +kernel
theorem d_C_add_25 : decode b_C_add 25 = .ok (.putfield 9, 3) := by decide +kernel
theorem d_C_add_28 : decode b_C_add 28 = .ok (.return_, 1) := by decide +kernel
abbrev rm_C_conflictWith : Room := { frames := 0, cells := 0, slots := 0, locals := 0 }
theorem good_C_conflictWith : GoodIn TB (.code y_C_conflictWith b_C_conflictWith 6 (some .boolean) :: TB) := good_of tb_200
theorem hd_C_conflictWith : y_C_conflictWith.cls ≠ "java/lang/invoke/MethodHandle" ∧ y_C_conflictWith.cls ≠ "java/lang/invoke/VarHandle" ∧ (parseMethodDescriptor y_C_conflictWith.desc).map (fun d => d.parameters.length) = some 2 := by decide +kernel
theorem d_C_conflictWith_0 : decode b_C_conflictWith 0 = .ok (.iload_n 1, 1) := by decide +kernel
theorem d_C_conflictWith_1 : decode b_C_conflictWith 1 = .ok (.iconst 1, 1) := by decide +kernel
theorem d_C_conflictWith_2 : decode b_C_conflictWith 2 = .ok (.if_icmp .ne 15, 3) := by decide +kernel
theorem d_C_conflictWith_5 : decode b_C_conflictWith 5 = .ok (.aload_n 0, 1) := by decide +kernel
theorem d_C_conflictWith_6 : decode b_C_conflictWith 6 = .ok (.getfield 9, 3) := by decide +kernel
theorem d_C_conflictWith_9 : decode b_C_conflictWith 9 = .ok (.aload_n 0, 1) := by decide +kernel
theorem d_C_conflictWith_10 : decode b_C_conflictWith 10 = .ok (.getfield 15, 3) := by decide +kernel
theorem d_C_conflictWith_13 : decode b_C_conflictWith 13 = .ok (.lor, 1) := by decide +kernel
theorem d_C_conflictWith_14 : decode b_C_conflictWith 14 = .ok (.goto 7, 3) := by decide +kernel
theorem d_C_conflictWith_17 : decode b_C_conflictWith 17 = .ok (.aload_n 0, 1) := by decide +kernel
theorem d_C_conflictWith_18 : decode b_C_conflictWith 18 = .ok (.getfield 15, 3) := by decide +kernel
theorem d_C_conflictWith_21 : decode b_C_conflictWith 21 = .ok (.lstore 4, 2) := by decide +kernel
theorem d_C_conflictWith_23 : decode b_C_conflictWith 23 = .ok (.lload 4, 2) := by decide +kernel
theorem d_C_conflictWith_25 : decode b_C_conflictWith 25 = .ok (.lload_n 2, 1) := by decide +kernel
theorem d_C_conflictWith_26 : decode b_C_conflictWith 26 = .ok (.land, 1) := by decide +kernel
theorem d_C_conflictWith_27 : decode b_C_conflictWith 27 = .ok (.lconst 0, 1) := by decide +kernel
theorem d_C_conflictWith_28 : decode b_C_conflictWith 28 = .ok (.lcmp, 1) := by decide +kernel
theorem d_C_conflictWith_29 : decode b_C_conflictWith 29 = .ok (.ifCond .eq 7, 3) := by decide +kernel
theorem d_C_conflictWith_32 : decode b_C_conflictWith 32 = .ok (.iconst 1, 1) := by decide +kernel
theorem d_C_conflictWith_33 : decode b_C_conflictWith 33 = .ok (.goto 4, 3) := by decide +kernel
theorem d_C_conflictWith_36 : decode b_C_conflictWith 36 = .ok (.iconst 0, 1) := by decide +kernel
theorem d_C_conflictWith_37 : decode b_C_conflictWith 37 = .ok (.ireturn, 1) := by decide +kernel
abbrev rm_P_has : Room := { frames := 0, cells := 0, slots := 0, locals := 0 }
theorem good_P_has : GoodIn TB (.code y_P_has b_P_has 2 (some .boolean) :: TB) := good_of tb_316
theorem hd_P_has : y_P_has.cls ≠ "java/lang/invoke/MethodHandle" ∧ y_P_has.cls ≠ "java/lang/invoke/VarHandle" ∧ (parseMethodDescriptor y_P_has.desc).map (fun d => d.parameters.length) = some 1 := by decide +kernel
theorem d_P_has_0 : decode b_P_has 0 = .ok (.iload_n 1, 1) := by decide +kernel
theorem d_P_has_1 : decode b_P_has 1 = .ok (.ifCond .lt 15, 3) := by decide +kernel
theorem d_P_has_4 : decode b_P_has 4 = .ok (.iload_n 1, 1) := by decide +kernel
theorem d_P_has_5 : decode b_P_has 5 = .ok (.aload_n 0, 1) := by decide +kernel
theorem d_P_has_6 : decode b_P_has 6 = .ok (.getfield 31, 3) := by decide +kernel
theorem d_P_has_9 : decode b_P_has 9 = .ok (.if_icmp .ge 7, 3) := by decide +kernel
theorem d_P_has_12 : decode b_P_has 12 = .ok (.iconst 1, 1) := by decide +kernel
theorem d_P_has_13 : decode b_P_has 13 = .ok (.goto 4, 3) := by decide +kernel
theorem d_P_has_16 : decode b_P_has 16 = .ok (.iconst 0, 1) := by decide +kernel
theorem d_P_has_17 : decode b_P_has 17 = .ok (.ireturn, 1) := by decide +kernel
abbrev rm_P_isWaiting : Room := { frames := 1, cells := 0, slots := 0, locals := 21 }
theorem good_P_isWaiting : GoodIn TB (.code y_P_isWaiting b_P_isWaiting 2 (some .boolean) :: TB) := good_of tb_341
theorem hd_P_isWaiting : y_P_isWaiting.cls ≠ "java/lang/invoke/MethodHandle" ∧ y_P_isWaiting.cls ≠ "java/lang/invoke/VarHandle" ∧ (parseMethodDescriptor y_P_isWaiting.desc).map (fun d => d.parameters.length) = some 1 := by decide +kernel
theorem d_P_isWaiting_0 : decode b_P_isWaiting 0 = .ok (.aload_n 0, 1) := by decide +kernel
theorem d_P_isWaiting_1 : decode b_P_isWaiting 1 = .ok (.iload_n 1, 1) := by decide +kernel
theorem d_P_isWaiting_2 : decode b_P_isWaiting 2 = .ok (.invokevirtual 35, 3) := by decide +kernel
theorem d_P_isWaiting_5 : decode b_P_isWaiting 5 = .ok (.ifCond .eq 16, 3) := by decide +kernel
theorem d_P_isWaiting_8 : decode b_P_isWaiting 8 = .ok (.aload_n 0, 1) := by decide +kernel
theorem d_P_isWaiting_9 : decode b_P_isWaiting 9 = .ok (.getfield 24, 3) := by decide +kernel
theorem d_P_isWaiting_12 : decode b_P_isWaiting 12 = .ok (.iload_n 1, 1) := by decide +kernel
theorem d_P_isWaiting_13 : decode b_P_isWaiting 13 = .ok (.baload, 1) := by decide +kernel
theorem d_P_isWaiting_14 : decode b_P_isWaiting 14 = .ok (.ifCond .ne 7, 3) := by decide +kernel
theorem d_P_isWaiting_17 : decode b_P_isWaiting 17 = .ok (.iconst 1, 1) := by decide +kernel
theorem d_P_isWaiting_18 : decode b_P_isWaiting 18 = .ok (.goto 4, 3) := by decide +kernel
theorem d_P_isWaiting_21 : decode b_P_isWaiting 21 = .ok (.iconst 0, 1) := by decide +kernel
theorem d_P_isWaiting_22 : decode b_P_isWaiting 22 = .ok (.ireturn, 1) := by decide +kernel
abbrev rm_E_sectorsFrom : Room := { frames := 0, cells := 0, slots := 0, locals := 0 }
theorem good_E_sectorsFrom : GoodIn TB (.code y_E_sectorsFrom b_E_sectorsFrom 2 (some .long) :: TB) := good_of tb_191
theorem hd_E_sectorsFrom : y_E_sectorsFrom.cls ≠ "java/lang/invoke/MethodHandle" ∧ y_E_sectorsFrom.cls ≠ "java/lang/invoke/VarHandle" ∧ (parseMethodDescriptor y_E_sectorsFrom.desc).map (fun d => d.parameters.length) = some 2 := by decide +kernel
theorem d_E_sectorsFrom_0 : decode b_E_sectorsFrom 0 = .ok (.lconst 1, 1) := by decide +kernel
theorem d_E_sectorsFrom_1 : decode b_E_sectorsFrom 1 = .ok (.iload_n 1, 1) := by decide +kernel
theorem d_E_sectorsFrom_2 : decode b_E_sectorsFrom 2 = .ok (.lshl, 1) := by decide +kernel
theorem d_E_sectorsFrom_3 : decode b_E_sectorsFrom 3 = .ok (.lconst 1, 1) := by decide +kernel
theorem d_E_sectorsFrom_4 : decode b_E_sectorsFrom 4 = .ok (.lsub, 1) := by decide +kernel
theorem d_E_sectorsFrom_5 : decode b_E_sectorsFrom 5 = .ok (.iload_n 0, 1) := by decide +kernel
theorem d_E_sectorsFrom_6 : decode b_E_sectorsFrom 6 = .ok (.lshl, 1) := by decide +kernel
theorem d_E_sectorsFrom_7 : decode b_E_sectorsFrom 7 = .ok (.lreturn, 1) := by decide +kernel
abbrev rm_P_sectors : Room := { frames := 1, cells := 0, slots := 0, locals := 21 }
theorem good_P_sectors : GoodIn TB (.code y_P_sectors b_P_sectors 2 (some .long) :: TB) := good_of tb_188
theorem hd_P_sectors : y_P_sectors.cls ≠ "java/lang/invoke/MethodHandle" ∧ y_P_sectors.cls ≠ "java/lang/invoke/VarHandle" ∧ (parseMethodDescriptor y_P_sectors.desc).map (fun d => d.parameters.length) = some 1 := by decide +kernel
theorem d_P_sectors_0 : decode b_P_sectors 0 = .ok (.aload_n 0, 1) := by decide +kernel
theorem d_P_sectors_1 : decode b_P_sectors 1 = .ok (.getfield 15, 3) := by decide +kernel
theorem d_P_sectors_4 : decode b_P_sectors 4 = .ok (.iload_n 1, 1) := by decide +kernel
theorem d_P_sectors_5 : decode b_P_sectors 5 = .ok (.iaload, 1) := by decide +kernel
theorem d_P_sectors_6 : decode b_P_sectors 6 = .ok (.aload_n 0, 1) := by decide +kernel
theorem d_P_sectors_7 : decode b_P_sectors 7 = .ok (.getfield 18, 3) := by decide +kernel
theorem d_P_sectors_10 : decode b_P_sectors 10 = .ok (.iload_n 1, 1) := by decide +kernel
theorem d_P_sectors_11 : decode b_P_sectors 11 = .ok (.iaload, 1) := by decide +kernel
theorem d_P_sectors_12 : decode b_P_sectors 12 = .ok (.invokestatic 39, 3) := by decide +kernel
theorem d_P_sectors_15 : decode b_P_sectors 15 = .ok (.lreturn, 1) := by decide +kernel
abbrev rm_P_add : Room := { frames := 0, cells := 0, slots := 0, locals := 0 }
theorem good_P_add : GoodIn TB (.code y_P_add b_P_add 7 (some .int) :: TB) := good_of tb_216
theorem hd_P_add : y_P_add.cls ≠ "java/lang/invoke/MethodHandle" ∧ y_P_add.cls ≠ "java/lang/invoke/VarHandle" ∧ (parseMethodDescriptor y_P_add.desc).map (fun d => d.parameters.length) = some 4 := by decide +kernel
theorem d_P_add_0 : decode b_P_add 0 = .ok (.aload_n 0, 1) := by decide +kernel
theorem d_P_add_1 : decode b_P_add 1 = .ok (.getfield 31, 3) := by decide +kernel
theorem d_P_add_4 : decode b_P_add 4 = .ok (.istore 5, 2) := by decide +kernel
theorem d_P_add_6 : decode b_P_add 6 = .ok (.aload_n 0, 1) := by decide +kernel
theorem d_P_add_7 : decode b_P_add 7 = .ok (.getfield 9, 3) := by decide +kernel
theorem d_P_add_10 : decode b_P_add 10 = .ok (.iload 5, 2) := by decide +kernel
theorem d_P_add_12 : decode b_P_add 12 = .ok (.iload_n 1, 1) := by decide +kernel
theorem d_P_add_13 : decode b_P_add 13 = .ok (.iastore, 1) := by decide +kernel
theorem d_P_add_14 : decode b_P_add 14 = .ok (.aload_n 0, 1) := by decide +kernel
theorem d_P_add_15 : decode b_P_add 15 = .ok (.getfield 15, 3) := by decide +kernel
theorem d_P_add_18 : decode b_P_add 18 = .ok (.iload 5, 2) := by decide +kernel
theorem d_P_add_20 : decode b_P_add 20 = .ok (.iload_n 2, 1) := by decide +kernel
theorem d_P_add_21 : decode b_P_add 21 = .ok (.iastore, 1) := by decide +kernel
theorem d_P_add_22 : decode b_P_add 22 = .ok (.aload_n 0, 1) := by decide +kernel
theorem d_P_add_23 : decode b_P_add 23 = .ok (.getfield 18, 3) := by decide +kernel
theorem d_P_add_26 : decode b_P_add 26 = .ok (.iload 5, 2) := by decide +kernel
theorem d_P_add_28 : decode b_P_add 28 = .ok (.iload_n 3, 1) := by decide +kernel
theorem d_P_add_29 : decode b_P_add 29 = .ok (.iastore, 1) := by decide +kernel
theorem d_P_add_30 : decode b_P_add 30 = .ok (.iconst 0, 1) := by decide +kernel
theorem d_P_add_31 : decode b_P_add 31 = .ok (.istore 6, 2) := by decide +kernel
theorem d_P_add_33 : decode b_P_add 33 = .ok (.iload 6, 2) := by decide +kernel
theorem d_P_add_35 : decode b_P_add 35 = .ok (.iload_n 3, 1) := by decide +kernel
theorem d_P_add_36 : decode b_P_add 36 = .ok (.if_icmp .ge 27, 3) := by decide +kernel
theorem d_P_add_39 : decode b_P_add 39 = .ok (.aload_n 0, 1) := by decide +kernel
theorem d_P_add_40 : decode b_P_add 40 = .ok (.getfield 28, 3) := by decide +kernel
theorem d_P_add_43 : decode b_P_add 43 = .ok (.iload 5, 2) := by decide +kernel
theorem d_P_add_45 : decode b_P_add 45 = .ok (.bipush 8, 2) := by decide +kernel
theorem d_P_add_47 : decode b_P_add 47 = .ok (.imul, 1) := by decide +kernel
theorem d_P_add_48 : decode b_P_add 48 = .ok (.iload 6, 2) := by decide +kernel
theorem d_P_add_50 : decode b_P_add 50 = .ok (.iadd, 1) := by decide +kernel
theorem d_P_add_51 : decode b_P_add 51 = .ok (.iload 4, 2) := by decide +kernel
theorem d_P_add_53 : decode b_P_add 53 = .ok (.iload 6, 2) := by decide +kernel
theorem d_P_add_55 : decode b_P_add 55 = .ok (.iadd, 1) := by decide +kernel
theorem d_P_add_56 : decode b_P_add 56 = .ok (.iastore, 1) := by decide +kernel
theorem d_P_add_57 : decode b_P_add 57 = .ok (.iinc 6 1, 3) := by decide +kernel
theorem d_P_add_60 : decode b_P_add 60 = .ok (.goto (-27), 3) := by decide +kernel
theorem d_P_add_63 : decode b_P_add 63 = .ok (.aload_n 0, 1) := by decide +kernel
theorem d_P_add_64 : decode b_P_add 64 = .ok (.dup, 1) := by decide +kernel
theorem d_P_add_65 : decode b_P_add 65 = .ok (.getfield 31, 3) := by decide +kernel
theorem d_P_add_68 : decode b_P_add 68 = .ok (.iconst 1, 1) := by decide +kernel
theorem d_P_add_69 : decode b_P_add 69 = .ok (.iadd, 1) := by decide +kernel
theorem d_P_add_70 : decode b_P_add 70 = .ok (.putfield 31, 3) := by decide +kernel
theorem d_P_add_73 : decode b_P_add 73 = .ok (.iload 5, 2) := by decide +kernel
theorem d_P_add_75 : decode b_P_add 75 = .ok (.ireturn, 1) := by decide +kernel
abbrev rm_P_carryOut : Room := { frames := 1, cells := 0, slots := 0, locals := 60 }
theorem good_P_carryOut : GoodIn TB (.code y_P_carryOut b_P_carryOut 4 none :: TB) := good_of tb_300
theorem hd_P_carryOut : y_P_carryOut.cls ≠ "java/lang/invoke/MethodHandle" ∧ y_P_carryOut.cls ≠ "java/lang/invoke/VarHandle" ∧ (parseMethodDescriptor y_P_carryOut.desc).map (fun d => d.parameters.length) = some 2 := by decide +kernel
theorem d_P_carryOut_0 : decode b_P_carryOut 0 = .ok (.iload_n 1, 1) := by decide +kernel
theorem d_P_carryOut_1 : decode b_P_carryOut 1 = .ok (.bipush 8, 2) := by decide +kernel
theorem d_P_carryOut_3 : decode b_P_carryOut 3 = .ok (.imul, 1) := by decide +kernel
theorem d_P_carryOut_4 : decode b_P_carryOut 4 = .ok (.istore_n 3, 1) := by decide +kernel
theorem d_P_carryOut_5 : decode b_P_carryOut 5 = .ok (.aload_n 0, 1) := by decide +kernel
theorem d_P_carryOut_6 : decode b_P_carryOut 6 = .ok (.getfield 9, 3) := by decide +kernel
theorem d_P_carryOut_9 : decode b_P_carryOut 9 = .ok (.iload_n 1, 1) := by decide +kernel
theorem d_P_carryOut_10 : decode b_P_carryOut 10 = .ok (.iaload, 1) := by decide +kernel
theorem d_P_carryOut_11 : decode b_P_carryOut 11 = .ok (.iconst 1, 1) := by decide +kernel
theorem d_P_carryOut_12 : decode b_P_carryOut 12 = .ok (.if_icmp .ne 27, 3) := by decide +kernel
theorem d_P_carryOut_15 : decode b_P_carryOut 15 = .ok (.aload_n 0, 1) := by decide +kernel
theorem d_P_carryOut_16 : decode b_P_carryOut 16 = .ok (.getfield 28, 3) := by decide +kernel
theorem d_P_carryOut_19 : decode b_P_carryOut 19 = .ok (.iload_n 3, 1) := by decide +kernel
theorem d_P_carryOut_20 : decode b_P_carryOut 20 = .ok (.aload_n 2, 1) := by decide +kernel
theorem d_P_carryOut_21 : decode b_P_carryOut 21 = .ok (.aload_n 0, 1) := by decide +kernel
theorem d_P_carryOut_22 : decode b_P_carryOut 22 = .ok (.getfield 15, 3) := by decide +kernel
theorem d_P_carryOut_25 : decode b_P_carryOut 25 = .ok (.iload_n 1, 1) := by decide +kernel
theorem d_P_carryOut_26 : decode b_P_carryOut 26 = .ok (.iaload, 1) := by decide +kernel
theorem d_P_carryOut_27 : decode b_P_carryOut 27 = .ok (.aload_n 0, 1) := by decide +kernel
theorem d_P_carryOut_28 : decode b_P_carryOut 28 = .ok (.getfield 18, 3) := by decide +kernel
theorem d_P_carryOut_31 : decode b_P_carryOut 31 = .ok (.iload_n 1, 1) := by decide +kernel
theorem d_P_carryOut_32 : decode b_P_carryOut 32 = .ok (.iaload, 1) := by decide +kernel
theorem d_P_carryOut_33 : decode b_P_carryOut 33 = .ok (.invokestatic 43, 3) := by decide +kernel
theorem d_P_carryOut_36 : decode b_P_carryOut 36 = .ok (.goto 24, 3) := by decide +kernel
theorem d_P_carryOut_39 : decode b_P_carryOut 39 = .ok (.aload_n 2, 1) := by decide +kernel
theorem d_P_carryOut_40 : decode b_P_carryOut 40 = .ok (.aload_n 0, 1) := by decide +kernel
theorem d_P_carryOut_41 : decode b_P_carryOut 41 = .ok (.getfield 15, 3) := by decide +kernel
theorem d_P_carryOut_44 : decode b_P_carryOut 44 = .ok (.iload_n 1, 1) := by decide +kernel
theorem d_P_carryOut_45 : decode b_P_carryOut 45 = .ok (.iaload, 1) := by decide +kernel
theorem d_P_carryOut_46 : decode b_P_carryOut 46 = .ok (.aload_n 0, 1) := by decide +kernel
theorem d_P_carryOut_47 : decode b_P_carryOut 47 = .ok (.getfield 28, 3) := by decide +kernel
theorem d_P_carryOut_50 : decode b_P_carryOut 50 = .ok (.iload_n 3, 1) := by decide +kernel
theorem d_P_carryOut_51 : decode b_P_carryOut 51 = .ok (.aload_n 0, 1) := by decide +kernel
theorem d_P_carryOut_52 : decode b_P_carryOut 52 = .ok (.getfield 18, 3) := by decide +kernel
theorem d_P_carryOut_55 : decode b_P_carryOut 55 = .ok (.iload_n 1, 1) := by decide +kernel
theorem d_P_carryOut_56 : decode b_P_carryOut 56 = .ok (.iaload, 1) := by decide +kernel
theorem d_P_carryOut_57 : decode b_P_carryOut 57 = .ok (.invokestatic 43, 3) := by decide +kernel
theorem d_P_carryOut_60 : decode b_P_carryOut 60 = .ok (.aload_n 0, 1) := by decide +kernel
theorem d_P_carryOut_61 : decode b_P_carryOut 61 = .ok (.getfield 24, 3) := by decide +kernel
theorem d_P_carryOut_64 : decode b_P_carryOut 64 = .ok (.iload_n 1, 1) := by decide +kernel
theorem d_P_carryOut_65 : decode b_P_carryOut 65 = .ok (.iconst 1, 1) := by decide +kernel
theorem d_P_carryOut_66 : decode b_P_carryOut 66 = .ok (.bastore, 1) := by decide +kernel
theorem d_P_carryOut_67 : decode b_P_carryOut 67 = .ok (.return_, 1) := by decide +kernel
abbrev rm_R_end : Room := { frames := 0, cells := 0, slots := 0, locals := 0 }
theorem good_R_end : GoodIn TB (.code y_R_end b_R_end 2 (some .int) :: TB) := good_of tb_212
theorem hd_R_end : y_R_end.cls ≠ "java/lang/invoke/MethodHandle" ∧ y_R_end.cls ≠ "java/lang/invoke/VarHandle" ∧ (parseMethodDescriptor y_R_end.desc).map (fun d => d.parameters.length) = some 1 := by decide +kernel
theorem d_R_end_0 : decode b_R_end 0 = .ok (.aload_n 0, 1) := by decide +kernel
theorem d_R_end_1 : decode b_R_end 1 = .ok (.getfield 15, 3) := by decide +kernel
theorem d_R_end_4 : decode b_R_end 4 = .ok (.iload_n 1, 1) := by decide +kernel
theorem d_R_end_5 : decode b_R_end 5 = .ok (.iaload, 1) := by decide +kernel
theorem d_R_end_6 : decode b_R_end 6 = .ok (.aload_n 0, 1) := by decide +kernel
theorem d_R_end_7 : decode b_R_end 7 = .ok (.getfield 18, 3) := by decide +kernel
theorem d_R_end_10 : decode b_R_end 10 = .ok (.iload_n 1, 1) := by decide +kernel
theorem d_R_end_11 : decode b_R_end 11 = .ok (.iaload, 1) := by decide +kernel
theorem d_R_end_12 : decode b_R_end 12 = .ok (.iadd, 1) := by decide +kernel
theorem d_R_end_13 : decode b_R_end 13 = .ok (.ireturn, 1) := by decide +kernel
abbrev rm_R_isReady : Room := { frames := 0, cells := 0, slots := 0, locals := 0 }
theorem good_R_isReady : GoodIn TB (.code y_R_isReady b_R_isReady 3 (some .boolean) :: TB) := good_of tb_275
theorem hd_R_isReady : y_R_isReady.cls ≠ "java/lang/invoke/MethodHandle" ∧ y_R_isReady.cls ≠ "java/lang/invoke/VarHandle" ∧ (parseMethodDescriptor y_R_isReady.desc).map (fun d => d.parameters.length) = some 2 := by decide +kernel
theorem d_R_isReady_0 : decode b_R_isReady 0 = .ok (.aload_n 0, 1) := by decide +kernel
theorem d_R_isReady_1 : decode b_R_isReady 1 = .ok (.getfield 30, 3) := by decide +kernel
theorem d_R_isReady_4 : decode b_R_isReady 4 = .ok (.iload_n 1, 1) := by decide +kernel
theorem d_R_isReady_5 : decode b_R_isReady 5 = .ok (.baload, 1) := by decide +kernel
theorem d_R_isReady_6 : decode b_R_isReady 6 = .ok (.ifCond .eq 17, 3) := by decide +kernel
theorem d_R_isReady_9 : decode b_R_isReady 9 = .ok (.aload_n 0, 1) := by decide +kernel
theorem d_R_isReady_10 : decode b_R_isReady 10 = .ok (.getfield 9, 3) := by decide +kernel
theorem d_R_isReady_13 : decode b_R_isReady 13 = .ok (.iload_n 1, 1) := by decide +kernel
theorem d_R_isReady_14 : decode b_R_isReady 14 = .ok (.iaload, 1) := by decide +kernel
theorem d_R_isReady_15 : decode b_R_isReady 15 = .ok (.iload_n 2, 1) := by decide +kernel
theorem d_R_isReady_16 : decode b_R_isReady 16 = .ok (.if_icmp .ne 7, 3) := by decide +kernel
theorem d_R_isReady_19 : decode b_R_isReady 19 = .ok (.iconst 1, 1) := by decide +kernel
theorem d_R_isReady_20 : decode b_R_isReady 20 = .ok (.goto 4, 3) := by decide +kernel
theorem d_R_isReady_23 : decode b_R_isReady 23 = .ok (.iconst 0, 1) := by decide +kernel
theorem d_R_isReady_24 : decode b_R_isReady 24 = .ok (.ireturn, 1) := by decide +kernel
abbrev rm_R_open : Room := { frames := 0, cells := 0, slots := 0, locals := 0 }
theorem good_R_open : GoodIn TB (.code y_R_open b_R_open 7 none :: TB) := good_of tb_220
theorem hd_R_open : y_R_open.cls ≠ "java/lang/invoke/MethodHandle" ∧ y_R_open.cls ≠ "java/lang/invoke/VarHandle" ∧ (parseMethodDescriptor y_R_open.desc).map (fun d => d.parameters.length) = some 6 := by decide +kernel
theorem d_R_open_0 : decode b_R_open 0 = .ok (.aload_n 0, 1) := by decide +kernel
theorem d_R_open_1 : decode b_R_open 1 = .ok (.getfield 9, 3) := by decide +kernel
theorem d_R_open_4 : decode b_R_open 4 = .ok (.iload_n 1, 1) := by decide +kernel
theorem d_R_open_5 : decode b_R_open 5 = .ok (.iload_n 2, 1) := by decide +kernel
theorem d_R_open_6 : decode b_R_open 6 = .ok (.iastore, 1) := by decide +kernel
theorem d_R_open_7 : decode b_R_open 7 = .ok (.aload_n 0, 1) := by decide +kernel
theorem d_R_open_8 : decode b_R_open 8 = .ok (.getfield 15, 3) := by decide +kernel
theorem d_R_open_11 : decode b_R_open 11 = .ok (.iload_n 1, 1) := by decide +kernel
theorem d_R_open_12 : decode b_R_open 12 = .ok (.iload_n 3, 1) := by decide +kernel
theorem d_R_open_13 : decode b_R_open 13 = .ok (.iastore, 1) := by decide +kernel
theorem d_R_open_14 : decode b_R_open 14 = .ok (.aload_n 0, 1) := by decide +kernel
theorem d_R_open_15 : decode b_R_open 15 = .ok (.getfield 18, 3) := by decide +kernel
theorem d_R_open_18 : decode b_R_open 18 = .ok (.iload_n 1, 1) := by decide +kernel
theorem d_R_open_19 : decode b_R_open 19 = .ok (.iload 4, 2) := by decide +kernel
theorem d_R_open_21 : decode b_R_open 21 = .ok (.iastore, 1) := by decide +kernel
theorem d_R_open_22 : decode b_R_open 22 = .ok (.aload_n 0, 1) := by decide +kernel
theorem d_R_open_23 : decode b_R_open 23 = .ok (.getfield 21, 3) := by decide +kernel
theorem d_R_open_26 : decode b_R_open 26 = .ok (.iload_n 1, 1) := by decide +kernel
theorem d_R_open_27 : decode b_R_open 27 = .ok (.iconst 1, 1) := by decide +kernel
theorem d_R_open_28 : decode b_R_open 28 = .ok (.iastore, 1) := by decide +kernel
theorem d_R_open_29 : decode b_R_open 29 = .ok (.aload_n 0, 1) := by decide +kernel
theorem d_R_open_30 : decode b_R_open 30 = .ok (.getfield 24, 3) := by decide +kernel
theorem d_R_open_33 : decode b_R_open 33 = .ok (.iload_n 1, 1) := by decide +kernel
theorem d_R_open_34 : decode b_R_open 34 = .ok (.iload 5, 2) := by decide +kernel
theorem d_R_open_36 : decode b_R_open 36 = .ok (.iastore, 1) := by decide +kernel
theorem d_R_open_37 : decode b_R_open 37 = .ok (.aload_n 0, 1) := by decide +kernel
theorem d_R_open_38 : decode b_R_open 38 = .ok (.getfield 27, 3) := by decide +kernel
theorem d_R_open_41 : decode b_R_open 41 = .ok (.iload_n 1, 1) := by decide +kernel
theorem d_R_open_42 : decode b_R_open 42 = .ok (.iload 6, 2) := by decide +kernel
theorem d_R_open_44 : decode b_R_open 44 = .ok (.iastore, 1) := by decide +kernel
theorem d_R_open_45 : decode b_R_open 45 = .ok (.aload_n 0, 1) := by decide +kernel
theorem d_R_open_46 : decode b_R_open 46 = .ok (.getfield 34, 3) := by decide +kernel
theorem d_R_open_49 : decode b_R_open 49 = .ok (.aload_n 0, 1) := by decide +kernel
theorem d_R_open_50 : decode b_R_open 50 = .ok (.getfield 37, 3) := by decide +kernel
theorem d_R_open_53 : decode b_R_open 53 = .ok (.iload_n 1, 1) := by decide +kernel
theorem d_R_open_54 : decode b_R_open 54 = .ok (.iastore, 1) := by decide +kernel
theorem d_R_open_55 : decode b_R_open 55 = .ok (.aload_n 0, 1) := by decide +kernel
theorem d_R_open_56 : decode b_R_open 56 = .ok (.dup, 1) := by decide +kernel
theorem d_R_open_57 : decode b_R_open 57 = .ok (.getfield 37, 3) := by decide +kernel
theorem d_R_open_60 : decode b_R_open 60 = .ok (.iconst 1, 1) := by decide +kernel
theorem d_R_open_61 : decode b_R_open 61 = .ok (.iadd, 1) := by decide +kernel
theorem d_R_open_62 : decode b_R_open 62 = .ok (.putfield 37, 3) := by decide +kernel
theorem d_R_open_65 : decode b_R_open 65 = .ok (.return_, 1) := by decide +kernel
abbrev rm_R_extend : Room := { frames := 1, cells := 0, slots := 0, locals := 30 }
theorem good_R_extend : GoodIn TB (.code y_R_extend b_R_extend 4 none :: TB) := good_of tb_224
theorem hd_R_extend : y_R_extend.cls ≠ "java/lang/invoke/MethodHandle" ∧ y_R_extend.cls ≠ "java/lang/invoke/VarHandle" ∧ (parseMethodDescriptor y_R_extend.desc).map (fun d => d.parameters.length) = some 3 := by decide +kernel
theorem d_R_extend_0 : decode b_R_extend 0 = .ok (.aload_n 0, 1) := by decide +kernel
theorem d_R_extend_1 : decode b_R_extend 1 = .ok (.getfield 15, 3) := by decide +kernel
theorem d_R_extend_4 : decode b_R_extend 4 = .ok (.iload_n 1, 1) := by decide +kernel
theorem d_R_extend_5 : decode b_R_extend 5 = .ok (.aload_n 0, 1) := by decide +kernel
theorem d_R_extend_6 : decode b_R_extend 6 = .ok (.getfield 15, 3) := by decide +kernel
theorem d_R_extend_9 : decode b_R_extend 9 = .ok (.iload_n 1, 1) := by decide +kernel
theorem d_R_extend_10 : decode b_R_extend 10 = .ok (.iaload, 1) := by decide +kernel
theorem d_R_extend_11 : decode b_R_extend 11 = .ok (.iload_n 2, 1) := by decide +kernel
theorem d_R_extend_12 : decode b_R_extend 12 = .ok (.invokestatic 41, 3) := by decide +kernel
theorem d_R_extend_15 : decode b_R_extend 15 = .ok (.iastore, 1) := by decide +kernel
theorem d_R_extend_16 : decode b_R_extend 16 = .ok (.aload_n 0, 1) := by decide +kernel
theorem d_R_extend_17 : decode b_R_extend 17 = .ok (.getfield 18, 3) := by decide +kernel
theorem d_R_extend_20 : decode b_R_extend 20 = .ok (.iload_n 1, 1) := by decide +kernel
theorem d_R_extend_21 : decode b_R_extend 21 = .ok (.dup2, 1) := by decide +kernel
theorem d_R_extend_22 : decode b_R_extend 22 = .ok (.iaload, 1) := by decide +kernel
theorem d_R_extend_23 : decode b_R_extend 23 = .ok (.iload_n 3, 1) := by decide +kernel
theorem d_R_extend_24 : decode b_R_extend 24 = .ok (.iadd, 1) := by decide +kernel
theorem d_R_extend_25 : decode b_R_extend 25 = .ok (.iastore, 1) := by decide +kernel
theorem d_R_extend_26 : decode b_R_extend 26 = .ok (.aload_n 0, 1) := by decide +kernel
theorem d_R_extend_27 : decode b_R_extend 27 = .ok (.getfield 21, 3) := by decide +kernel
theorem d_R_extend_30 : decode b_R_extend 30 = .ok (.iload_n 1, 1) := by decide +kernel
theorem d_R_extend_31 : decode b_R_extend 31 = .ok (.dup2, 1) := by decide +kernel
theorem d_R_extend_32 : decode b_R_extend 32 = .ok (.iaload, 1) := by decide +kernel
theorem d_R_extend_33 : decode b_R_extend 33 = .ok (.iconst 1, 1) := by decide +kernel
theorem d_R_extend_34 : decode b_R_extend 34 = .ok (.iadd, 1) := by decide +kernel
theorem d_R_extend_35 : decode b_R_extend 35 = .ok (.iastore, 1) := by decide +kernel
theorem d_R_extend_36 : decode b_R_extend 36 = .ok (.return_, 1) := by decide +kernel
abbrev rm_R_remove : Room := { frames := 0, cells := 0, slots := 0, locals := 0 }
theorem good_R_remove : GoodIn TB (.code y_R_remove b_R_remove 4 none :: TB) := good_of tb_307
theorem hd_R_remove : y_R_remove.cls ≠ "java/lang/invoke/MethodHandle" ∧ y_R_remove.cls ≠ "java/lang/invoke/VarHandle" ∧ (parseMethodDescriptor y_R_remove.desc).map (fun d => d.parameters.length) = some 1 := by decide +kernel
theorem d_R_remove_0 : decode b_R_remove 0 = .ok (.iconst 0, 1) := by decide +kernel
theorem d_R_remove_1 : decode b_R_remove 1 = .ok (.istore_n 2, 1) := by decide +kernel
theorem d_R_remove_2 : decode b_R_remove 2 = .ok (.iconst 0, 1) := by decide +kernel
theorem d_R_remove_3 : decode b_R_remove 3 = .ok (.istore_n 3, 1) := by decide +kernel
theorem d_R_remove_4 : decode b_R_remove 4 = .ok (.iload_n 3, 1) := by decide +kernel
theorem d_R_remove_5 : decode b_R_remove 5 = .ok (.aload_n 0, 1) := by decide +kernel
theorem d_R_remove_6 : decode b_R_remove 6 = .ok (.getfield 37, 3) := by decide +kernel
theorem d_R_remove_9 : decode b_R_remove 9 = .ok (.if_icmp .ge 34, 3) := by decide +kernel
theorem d_R_remove_12 : decode b_R_remove 12 = .ok (.aload_n 0, 1) := by decide +kernel
theorem d_R_remove_13 : decode b_R_remove 13 = .ok (.getfield 34, 3) := by decide +kernel
theorem d_R_remove_16 : decode b_R_remove 16 = .ok (.iload_n 3, 1) := by decide +kernel
theorem d_R_remove_17 : decode b_R_remove 17 = .ok (.iaload, 1) := by decide +kernel
theorem d_R_remove_18 : decode b_R_remove 18 = .ok (.iload_n 1, 1) := by decide +kernel
theorem d_R_remove_19 : decode b_R_remove 19 = .ok (.if_icmp .eq 18, 3) := by decide +kernel
theorem d_R_remove_22 : decode b_R_remove 22 = .ok (.aload_n 0, 1) := by decide +kernel
theorem d_R_remove_23 : decode b_R_remove 23 = .ok (.getfield 34, 3) := by decide +kernel
theorem d_R_remove_26 : decode b_R_remove 26 = .ok (.iload_n 2, 1) := by decide +kernel
theorem d_R_remove_27 : decode b_R_remove 27 = .ok (.aload_n 0, 1) := by decide +kernel
theorem d_R_remove_28 : decode b_R_remove 28 = .ok (.getfield 34, 3) := by decide +kernel
theorem d_R_remove_31 : decode b_R_remove 31 = .ok (.iload_n 3, 1) := by decide +kernel
theorem d_R_remove_32 : decode b_R_remove 32 = .ok (.iaload, 1) := by decide +kernel
theorem d_R_remove_33 : decode b_R_remove 33 = .ok (.iastore, 1) := by decide +kernel
theorem d_R_remove_34 : decode b_R_remove 34 = .ok (.iinc 2 1, 3) := by decide +kernel
theorem d_R_remove_37 : decode b_R_remove 37 = .ok (.iinc 3 1, 3) := by decide +kernel
theorem d_R_remove_40 : decode b_R_remove 40 = .ok (.goto (-36), 3) := by decide +kernel
theorem d_R_remove_43 : decode b_R_remove 43 = .ok (.aload_n 0, 1) := by decide +kernel
theorem d_R_remove_44 : decode b_R_remove 44 = .ok (.iload_n 2, 1) := by decide +kernel
theorem d_R_remove_45 : decode b_R_remove 45 = .ok (.putfield 37, 3) := by decide +kernel
theorem d_R_remove_48 : decode b_R_remove 48 = .ok (.return_, 1) := by decide +kernel
abbrev rm_R_hasRoom : Room := { frames := 0, cells := 0, slots := 0, locals := 0 }
theorem good_R_hasRoom : GoodIn TB (.code y_R_hasRoom b_R_hasRoom 3 (some .boolean) :: TB) := good_of tb_208
theorem hd_R_hasRoom : y_R_hasRoom.cls ≠ "java/lang/invoke/MethodHandle" ∧ y_R_hasRoom.cls ≠ "java/lang/invoke/VarHandle" ∧ (parseMethodDescriptor y_R_hasRoom.desc).map (fun d => d.parameters.length) = some 2 := by decide +kernel
theorem d_R_hasRoom_0 : decode b_R_hasRoom 0 = .ok (.aload_n 0, 1) := by decide +kernel
theorem d_R_hasRoom_1 : decode b_R_hasRoom 1 = .ok (.getfield 21, 3) := by decide +kernel
theorem d_R_hasRoom_4 : decode b_R_hasRoom 4 = .ok (.iload_n 1, 1) := by decide +kernel
theorem d_R_hasRoom_5 : decode b_R_hasRoom 5 = .ok (.iaload, 1) := by decide +kernel
theorem d_R_hasRoom_6 : decode b_R_hasRoom 6 = .ok (.iconst 4, 1) := by decide +kernel
theorem d_R_hasRoom_7 : decode b_R_hasRoom 7 = .ok (.if_icmp .ge 20, 3) := by decide +kernel
theorem d_R_hasRoom_10 : decode b_R_hasRoom 10 = .ok (.aload_n 0, 1) := by decide +kernel
theorem d_R_hasRoom_11 : decode b_R_hasRoom 11 = .ok (.getfield 18, 3) := by decide +kernel
theorem d_R_hasRoom_14 : decode b_R_hasRoom 14 = .ok (.iload_n 1, 1) := by decide +kernel
theorem d_R_hasRoom_15 : decode b_R_hasRoom 15 = .ok (.iaload, 1) := by decide +kernel
theorem d_R_hasRoom_16 : decode b_R_hasRoom 16 = .ok (.iload_n 2, 1) := by decide +kernel
theorem d_R_hasRoom_17 : decode b_R_hasRoom 17 = .ok (.iadd, 1) := by decide +kernel
theorem d_R_hasRoom_18 : decode b_R_hasRoom 18 = .ok (.bipush 16, 2) := by decide +kernel
theorem d_R_hasRoom_20 : decode b_R_hasRoom 20 = .ok (.if_icmp .gt 7, 3) := by decide +kernel
theorem d_R_hasRoom_23 : decode b_R_hasRoom 23 = .ok (.iconst 1, 1) := by decide +kernel
theorem d_R_hasRoom_24 : decode b_R_hasRoom 24 = .ok (.goto 4, 3) := by decide +kernel
theorem d_R_hasRoom_27 : decode b_R_hasRoom 27 = .ok (.iconst 0, 1) := by decide +kernel
theorem d_R_hasRoom_28 : decode b_R_hasRoom 28 = .ok (.ireturn, 1) := by decide +kernel
abbrev rm_R_neighbourOf : Room := { frames := 1, cells := 0, slots := 0, locals := 22 }
theorem good_R_neighbourOf : GoodIn TB (.code y_R_neighbourOf b_R_neighbourOf 8 (some .int) :: TB) := good_of tb_204
theorem hd_R_neighbourOf : y_R_neighbourOf.cls ≠ "java/lang/invoke/MethodHandle" ∧ y_R_neighbourOf.cls ≠ "java/lang/invoke/VarHandle" ∧ (parseMethodDescriptor y_R_neighbourOf.desc).map (fun d => d.parameters.length) = some 4 := by decide +kernel
theorem d_R_neighbourOf_0 : decode b_R_neighbourOf 0 = .ok (.iconst (-1), 1) := by decide +kernel
theorem d_R_neighbourOf_1 : decode b_R_neighbourOf 1 = .ok (.istore 5, 2) := by decide +kernel
theorem d_R_neighbourOf_3 : decode b_R_neighbourOf 3 = .ok (.iconst 0, 1) := by decide +kernel
theorem d_R_neighbourOf_4 : decode b_R_neighbourOf 4 = .ok (.istore 6, 2) := by decide +kernel
theorem d_R_neighbourOf_6 : decode b_R_neighbourOf 6 = .ok (.iload 6, 2) := by decide +kernel
theorem d_R_neighbourOf_8 : decode b_R_neighbourOf 8 = .ok (.aload_n 0, 1) := by decide +kernel
theorem d_R_neighbourOf_9 : decode b_R_neighbourOf 9 = .ok (.getfield 37, 3) := by decide +kernel
theorem d_R_neighbourOf_12 : decode b_R_neighbourOf 12 = .ok (.if_icmp .ge 87, 3) := by decide +kernel
theorem d_R_neighbourOf_15 : decode b_R_neighbourOf 15 = .ok (.aload_n 0, 1) := by decide +kernel
theorem d_R_neighbourOf_16 : decode b_R_neighbourOf 16 = .ok (.getfield 34, 3) := by decide +kernel
theorem d_R_neighbourOf_19 : decode b_R_neighbourOf 19 = .ok (.iload 6, 2) := by decide +kernel
theorem d_R_neighbourOf_21 : decode b_R_neighbourOf 21 = .ok (.iaload, 1) := by decide +kernel
theorem d_R_neighbourOf_22 : decode b_R_neighbourOf 22 = .ok (.istore 7, 2) := by decide +kernel
theorem d_R_neighbourOf_24 : decode b_R_neighbourOf 24 = .ok (.aload_n 0, 1) := by decide +kernel
theorem d_R_neighbourOf_25 : decode b_R_neighbourOf 25 = .ok (.getfield 9, 3) := by decide +kernel
theorem d_R_neighbourOf_28 : decode b_R_neighbourOf 28 = .ok (.iload 7, 2) := by decide +kernel
theorem d_R_neighbourOf_30 : decode b_R_neighbourOf 30 = .ok (.iaload, 1) := by decide +kernel
theorem d_R_neighbourOf_31 : decode b_R_neighbourOf 31 = .ok (.iload_n 1, 1) := by decide +kernel
theorem d_R_neighbourOf_32 : decode b_R_neighbourOf 32 = .ok (.if_icmp .ne 61, 3) := by decide +kernel
theorem d_R_neighbourOf_35 : decode b_R_neighbourOf 35 = .ok (.aload_n 0, 1) := by decide +kernel
theorem d_R_neighbourOf_36 : decode b_R_neighbourOf 36 = .ok (.getfield 27, 3) := by decide +kernel
theorem d_R_neighbourOf_39 : decode b_R_neighbourOf 39 = .ok (.iload 7, 2) := by decide +kernel
theorem d_R_neighbourOf_41 : decode b_R_neighbourOf 41 = .ok (.iaload, 1) := by decide +kernel
theorem d_R_neighbourOf_42 : decode b_R_neighbourOf 42 = .ok (.iload 4, 2) := by decide +kernel
theorem d_R_neighbourOf_44 : decode b_R_neighbourOf 44 = .ok (.if_icmp .ne 49, 3) := by decide +kernel
theorem d_R_neighbourOf_47 : decode b_R_neighbourOf 47 = .ok (.aload_n 0, 1) := by decide +kernel
theorem d_R_neighbourOf_48 : decode b_R_neighbourOf 48 = .ok (.iload 7, 2) := by decide +kernel
theorem d_R_neighbourOf_50 : decode b_R_neighbourOf 50 = .ok (.iload_n 3, 1) := by decide +kernel
theorem d_R_neighbourOf_51 : decode b_R_neighbourOf 51 = .ok (.invokevirtual 47, 3) := by decide +kernel
theorem d_R_neighbourOf_54 : decode b_R_neighbourOf 54 = .ok (.ifCond .eq 39, 3) := by decide +kernel
theorem d_R_neighbourOf_57 : decode b_R_neighbourOf 57 = .ok (.aload_n 0, 1) := by decide +kernel
theorem d_R_neighbourOf_58 : decode b_R_neighbourOf 58 = .ok (.iload 7, 2) := by decide +kernel
theorem d_R_neighbourOf_60 : decode b_R_neighbourOf 60 = .ok (.invokevirtual 51, 3) := by decide +kernel
theorem d_R_neighbourOf_63 : decode b_R_neighbourOf 63 = .ok (.iload_n 2, 1) := by decide +kernel
theorem d_R_neighbourOf_64 : decode b_R_neighbourOf 64 = .ok (.if_icmp .ne 6, 3) := by decide +kernel
theorem d_R_neighbourOf_67 : decode b_R_neighbourOf 67 = .ok (.iload 7, 2) := by decide +kernel
theorem d_R_neighbourOf_69 : decode b_R_neighbourOf 69 = .ok (.ireturn, 1) := by decide +kernel
theorem d_R_neighbourOf_70 : decode b_R_neighbourOf 70 = .ok (.iload 5, 2) := by decide +kernel
theorem d_R_neighbourOf_72 : decode b_R_neighbourOf 72 = .ok (.iconst (-1), 1) := by decide +kernel
theorem d_R_neighbourOf_73 : decode b_R_neighbourOf 73 = .ok (.if_icmp .ne 20, 3) := by decide +kernel
theorem d_R_neighbourOf_76 : decode b_R_neighbourOf 76 = .ok (.aload_n 0, 1) := by decide +kernel
theorem d_R_neighbourOf_77 : decode b_R_neighbourOf 77 = .ok (.getfield 15, 3) := by decide +kernel
theorem d_R_neighbourOf_80 : decode b_R_neighbourOf 80 = .ok (.iload 7, 2) := by decide +kernel
theorem d_R_neighbourOf_82 : decode b_R_neighbourOf 82 = .ok (.iaload, 1) := by decide +kernel
theorem d_R_neighbourOf_83 : decode b_R_neighbourOf 83 = .ok (.iload_n 2, 1) := by decide +kernel
theorem d_R_neighbourOf_84 : decode b_R_neighbourOf 84 = .ok (.iload_n 3, 1) := by decide +kernel
theorem d_R_neighbourOf_85 : decode b_R_neighbourOf 85 = .ok (.iadd, 1) := by decide +kernel
theorem d_R_neighbourOf_86 : decode b_R_neighbourOf 86 = .ok (.if_icmp .ne 7, 3) := by decide +kernel
theorem d_R_neighbourOf_89 : decode b_R_neighbourOf 89 = .ok (.iload 7, 2) := by decide +kernel
theorem d_R_neighbourOf_91 : decode b_R_neighbourOf 91 = .ok (.istore 5, 2) := by decide +kernel
theorem d_R_neighbourOf_93 : decode b_R_neighbourOf 93 = .ok (.iinc 6 1, 3) := by decide +kernel
theorem d_R_neighbourOf_96 : decode b_R_neighbourOf 96 = .ok (.goto (-90), 3) := by decide +kernel
theorem d_R_neighbourOf_99 : decode b_R_neighbourOf 99 = .ok (.iload 5, 2) := by decide +kernel
theorem d_R_neighbourOf_101 : decode b_R_neighbourOf 101 = .ok (.ireturn, 1) := by decide +kernel
abbrev rm_R_markLeastGroup : Room := { frames := 0, cells := 0, slots := 0, locals := 0 }
theorem good_R_markLeastGroup : GoodIn TB (.code y_R_markLeastGroup b_R_markLeastGroup 2 none :: TB) := good_of tb_259
theorem hd_R_markLeastGroup : y_R_markLeastGroup.cls ≠ "java/lang/invoke/MethodHandle" ∧ y_R_markLeastGroup.cls ≠ "java/lang/invoke/VarHandle" ∧ (parseMethodDescriptor y_R_markLeastGroup.desc).map (fun d => d.parameters.length) = some 0 := by decide +kernel
theorem d_R_markLeastGroup_0 : decode b_R_markLeastGroup 0 = .ok (.iconst 0, 1) := by decide +kernel
theorem d_R_markLeastGroup_1 : decode b_R_markLeastGroup 1 = .ok (.istore_n 1, 1) := by decide +kernel
theorem d_R_markLeastGroup_2 : decode b_R_markLeastGroup 2 = .ok (.iload_n 1, 1) := by decide +kernel
theorem d_R_markLeastGroup_3 : decode b_R_markLeastGroup 3 = .ok (.aload_n 0, 1) := by decide +kernel
theorem d_R_markLeastGroup_4 : decode b_R_markLeastGroup 4 = .ok (.getfield 37, 3) := by decide +kernel
theorem d_R_markLeastGroup_7 : decode b_R_markLeastGroup 7 = .ok (.if_icmp .ge 50, 3) := by decide +kernel
theorem d_R_markLeastGroup_10 : decode b_R_markLeastGroup 10 = .ok (.aload_n 0, 1) := by decide +kernel
theorem d_R_markLeastGroup_11 : decode b_R_markLeastGroup 11 = .ok (.getfield 30, 3) := by decide +kernel
theorem d_R_markLeastGroup_14 : decode b_R_markLeastGroup 14 = .ok (.aload_n 0, 1) := by decide +kernel
theorem d_R_markLeastGroup_15 : decode b_R_markLeastGroup 15 = .ok (.getfield 34, 3) := by decide +kernel
theorem d_R_markLeastGroup_18 : decode b_R_markLeastGroup 18 = .ok (.iload_n 1, 1) := by decide +kernel
theorem d_R_markLeastGroup_19 : decode b_R_markLeastGroup 19 = .ok (.iaload, 1) := by decide +kernel
theorem d_R_markLeastGroup_20 : decode b_R_markLeastGroup 20 = .ok (.aload_n 0, 1) := by decide +kernel
theorem d_R_markLeastGroup_21 : decode b_R_markLeastGroup 21 = .ok (.getfield 27, 3) := by decide +kernel
theorem d_R_markLeastGroup_24 : decode b_R_markLeastGroup 24 = .ok (.aload_n 0, 1) := by decide +kernel
theorem d_R_markLeastGroup_25 : decode b_R_markLeastGroup 25 = .ok (.getfield 34, 3) := by decide +kernel
theorem d_R_markLeastGroup_28 : decode b_R_markLeastGroup 28 = .ok (.iload_n 1, 1) := by decide +kernel
theorem d_R_markLeastGroup_29 : decode b_R_markLeastGroup 29 = .ok (.iaload, 1) := by decide +kernel
theorem d_R_markLeastGroup_30 : decode b_R_markLeastGroup 30 = .ok (.iaload, 1) := by decide +kernel
theorem d_R_markLeastGroup_31 : decode b_R_markLeastGroup 31 = .ok (.aload_n 0, 1) := by decide +kernel
theorem d_R_markLeastGroup_32 : decode b_R_markLeastGroup 32 = .ok (.getfield 27, 3) := by decide +kernel
theorem d_R_markLeastGroup_35 : decode b_R_markLeastGroup 35 = .ok (.aload_n 0, 1) := by decide +kernel
theorem d_R_markLeastGroup_36 : decode b_R_markLeastGroup 36 = .ok (.getfield 34, 3) := by decide +kernel
theorem d_R_markLeastGroup_39 : decode b_R_markLeastGroup 39 = .ok (.iconst 0, 1) := by decide +kernel
theorem d_R_markLeastGroup_40 : decode b_R_markLeastGroup 40 = .ok (.iaload, 1) := by decide +kernel
theorem d_R_markLeastGroup_41 : decode b_R_markLeastGroup 41 = .ok (.iaload, 1) := by decide +kernel
theorem d_R_markLeastGroup_42 : decode b_R_markLeastGroup 42 = .ok (.if_icmp .ne 7, 3) := by decide +kernel
theorem d_R_markLeastGroup_45 : decode b_R_markLeastGroup 45 = .ok (.iconst 1, 1) := by decide +kernel
theorem d_R_markLeastGroup_46 : decode b_R_markLeastGroup 46 = .ok (.goto 4, 3) := by decide +kernel
theorem d_R_markLeastGroup_49 : decode b_R_markLeastGroup 49 = .ok (.iconst 0, 1) := by decide +kernel
theorem d_R_markLeastGroup_50 : decode b_R_markLeastGroup 50 = .ok (.bastore, 1) := by decide +kernel
theorem d_R_markLeastGroup_51 : decode b_R_markLeastGroup 51 = .ok (.iinc 1 1, 3) := by decide +kernel
theorem d_R_markLeastGroup_54 : decode b_R_markLeastGroup 54 = .ok (.goto (-52), 3) := by decide +kernel
theorem d_R_markLeastGroup_57 : decode b_R_markLeastGroup 57 = .ok (.return_, 1) := by decide +kernel
abbrev rm_R_leastStart : Room := { frames := 1, cells := 0, slots := 0, locals := 22 }
theorem good_R_leastStart : GoodIn TB (.code y_R_leastStart b_R_leastStart 6 (some .int) :: TB) := good_of tb_271
theorem hd_R_leastStart : y_R_leastStart.cls ≠ "java/lang/invoke/MethodHandle" ∧ y_R_leastStart.cls ≠ "java/lang/invoke/VarHandle" ∧ (parseMethodDescriptor y_R_leastStart.desc).map (fun d => d.parameters.length) = some 2 := by decide +kernel
theorem d_R_leastStart_0 : decode b_R_leastStart 0 = .ok (.iconst (-1), 1) := by decide +kernel
theorem d_R_leastStart_1 : decode b_R_leastStart 1 = .ok (.istore_n 3, 1) := by decide +kernel
theorem d_R_leastStart_2 : decode b_R_leastStart 2 = .ok (.iconst 0, 1) := by decide +kernel
theorem d_R_leastStart_3 : decode b_R_leastStart 3 = .ok (.istore 4, 2) := by decide +kernel
theorem d_R_leastStart_5 : decode b_R_leastStart 5 = .ok (.iload 4, 2) := by decide +kernel
theorem d_R_leastStart_7 : decode b_R_leastStart 7 = .ok (.aload_n 0, 1) := by decide +kernel
theorem d_R_leastStart_8 : decode b_R_leastStart 8 = .ok (.getfield 37, 3) := by decide +kernel
theorem d_R_leastStart_11 : decode b_R_leastStart 11 = .ok (.if_icmp .ge 63, 3) := by decide +kernel
theorem d_R_leastStart_14 : decode b_R_leastStart 14 = .ok (.aload_n 0, 1) := by decide +kernel
theorem d_R_leastStart_15 : decode b_R_leastStart 15 = .ok (.getfield 34, 3) := by decide +kernel
theorem d_R_leastStart_18 : decode b_R_leastStart 18 = .ok (.iload 4, 2) := by decide +kernel
theorem d_R_leastStart_20 : decode b_R_leastStart 20 = .ok (.iaload, 1) := by decide +kernel
theorem d_R_leastStart_21 : decode b_R_leastStart 21 = .ok (.istore 5, 2) := by decide +kernel
theorem d_R_leastStart_23 : decode b_R_leastStart 23 = .ok (.aload_n 0, 1) := by decide +kernel
theorem d_R_leastStart_24 : decode b_R_leastStart 24 = .ok (.iload 5, 2) := by decide +kernel
theorem d_R_leastStart_26 : decode b_R_leastStart 26 = .ok (.iload_n 1, 1) := by decide +kernel
theorem d_R_leastStart_27 : decode b_R_leastStart 27 = .ok (.invokevirtual 58, 3) := by decide +kernel
theorem d_R_leastStart_30 : decode b_R_leastStart 30 = .ok (.ifCond .eq 38, 3) := by decide +kernel
theorem d_R_leastStart_33 : decode b_R_leastStart 33 = .ok (.aload_n 0, 1) := by decide +kernel
theorem d_R_leastStart_34 : decode b_R_leastStart 34 = .ok (.getfield 15, 3) := by decide +kernel
theorem d_R_leastStart_37 : decode b_R_leastStart 37 = .ok (.iload 5, 2) := by decide +kernel
theorem d_R_leastStart_39 : decode b_R_leastStart 39 = .ok (.iaload, 1) := by decide +kernel
theorem d_R_leastStart_40 : decode b_R_leastStart 40 = .ok (.iload_n 2, 1) := by decide +kernel
theorem d_R_leastStart_41 : decode b_R_leastStart 41 = .ok (.if_icmp .lt 27, 3) := by decide +kernel
theorem d_R_leastStart_44 : decode b_R_leastStart 44 = .ok (.iload_n 3, 1) := by decide +kernel
theorem d_R_leastStart_45 : decode b_R_leastStart 45 = .ok (.iconst (-1), 1) := by decide +kernel
theorem d_R_leastStart_46 : decode b_R_leastStart 46 = .ok (.if_icmp .eq 19, 3) := by decide +kernel
theorem d_R_leastStart_49 : decode b_R_leastStart 49 = .ok (.aload_n 0, 1) := by decide +kernel
theorem d_R_leastStart_50 : decode b_R_leastStart 50 = .ok (.getfield 15, 3) := by decide +kernel
theorem d_R_leastStart_53 : decode b_R_leastStart 53 = .ok (.iload 5, 2) := by decide +kernel
theorem d_R_leastStart_55 : decode b_R_leastStart 55 = .ok (.iaload, 1) := by decide +kernel
theorem d_R_leastStart_56 : decode b_R_leastStart 56 = .ok (.aload_n 0, 1) := by decide +kernel
theorem d_R_leastStart_57 : decode b_R_leastStart 57 = .ok (.getfield 15, 3) := by decide +kernel
theorem d_R_leastStart_60 : decode b_R_leastStart 60 = .ok (.iload_n 3, 1) := by decide +kernel
theorem d_R_leastStart_61 : decode b_R_leastStart 61 = .ok (.iaload, 1) := by decide +kernel
theorem d_R_leastStart_62 : decode b_R_leastStart 62 = .ok (.if_icmp .ge 6, 3) := by decide +kernel
theorem d_R_leastStart_65 : decode b_R_leastStart 65 = .ok (.iload 5, 2) := by decide +kernel
theorem d_R_leastStart_67 : decode b_R_leastStart 67 = .ok (.istore_n 3, 1) := by decide +kernel
theorem d_R_leastStart_68 : decode b_R_leastStart 68 = .ok (.iinc 4 1, 3) := by decide +kernel
theorem d_R_leastStart_71 : decode b_R_leastStart 71 = .ok (.goto (-66), 3) := by decide +kernel
theorem d_R_leastStart_74 : decode b_R_leastStart 74 = .ok (.iload_n 3, 1) := by decide +kernel
theorem d_R_leastStart_75 : decode b_R_leastStart 75 = .ok (.ireturn, 1) := by decide +kernel
abbrev rm_R_hasReady : Room := { frames := 2, cells := 0, slots := 0, locals := 47 }
theorem good_R_hasReady : GoodIn TB (.code y_R_hasReady b_R_hasReady 2 (some .boolean) :: TB) := good_of tb_279
theorem hd_R_hasReady : y_R_hasReady.cls ≠ "java/lang/invoke/MethodHandle" ∧ y_R_hasReady.cls ≠ "java/lang/invoke/VarHandle" ∧ (parseMethodDescriptor y_R_hasReady.desc).map (fun d => d.parameters.length) = some 1 := by decide +kernel
theorem d_R_hasReady_0 : decode b_R_hasReady 0 = .ok (.aload_n 0, 1) := by decide +kernel
theorem d_R_hasReady_1 : decode b_R_hasReady 1 = .ok (.iload_n 1, 1) := by decide +kernel
theorem d_R_hasReady_2 : decode b_R_hasReady 2 = .ok (.iconst 0, 1) := by decide +kernel
theorem d_R_hasReady_3 : decode b_R_hasReady 3 = .ok (.invokevirtual 55, 3) := by decide +kernel
theorem d_R_hasReady_6 : decode b_R_hasReady 6 = .ok (.iconst (-1), 1) := by decide +kernel
theorem d_R_hasReady_7 : decode b_R_hasReady 7 = .ok (.if_icmp .eq 7, 3) := by decide +kernel
theorem d_R_hasReady_10 : decode b_R_hasReady 10 = .ok (.iconst 1, 1) := by decide +kernel
theorem d_R_hasReady_11 : decode b_R_hasReady 11 = .ok (.goto 4, 3) := by decide +kernel
theorem d_R_hasReady_14 : decode b_R_hasReady 14 = .ok (.iconst 0, 1) := by decide +kernel
theorem d_R_hasReady_15 : decode b_R_hasReady 15 = .ok (.ireturn, 1) := by decide +kernel
abbrev rm_R_leastExpired : Room := { frames := 1, cells := 0, slots := 0, locals := 22 }
theorem good_R_leastExpired : GoodIn TB (.code y_R_leastExpired b_R_leastExpired 6 (some .int) :: TB) := good_of tb_292
theorem hd_R_leastExpired : y_R_leastExpired.cls ≠ "java/lang/invoke/MethodHandle" ∧ y_R_leastExpired.cls ≠ "java/lang/invoke/VarHandle" ∧ (parseMethodDescriptor y_R_leastExpired.desc).map (fun d => d.parameters.length) = some 2 := by decide +kernel
theorem d_R_leastExpired_0 : decode b_R_leastExpired 0 = .ok (.iconst (-1), 1) := by decide +kernel
theorem d_R_leastExpired_1 : decode b_R_leastExpired 1 = .ok (.istore_n 3, 1) := by decide +kernel
theorem d_R_leastExpired_2 : decode b_R_leastExpired 2 = .ok (.iconst 0, 1) := by decide +kernel
theorem d_R_leastExpired_3 : decode b_R_leastExpired 3 = .ok (.istore 4, 2) := by decide +kernel
theorem d_R_leastExpired_5 : decode b_R_leastExpired 5 = .ok (.iload 4, 2) := by decide +kernel
theorem d_R_leastExpired_7 : decode b_R_leastExpired 7 = .ok (.aload_n 0, 1) := by decide +kernel
theorem d_R_leastExpired_8 : decode b_R_leastExpired 8 = .ok (.getfield 37, 3) := by decide +kernel
theorem d_R_leastExpired_11 : decode b_R_leastExpired 11 = .ok (.if_icmp .ge 63, 3) := by decide +kernel
theorem d_R_leastExpired_14 : decode b_R_leastExpired 14 = .ok (.aload_n 0, 1) := by decide +kernel
theorem d_R_leastExpired_15 : decode b_R_leastExpired 15 = .ok (.getfield 34, 3) := by decide +kernel
theorem d_R_leastExpired_18 : decode b_R_leastExpired 18 = .ok (.iload 4, 2) := by decide +kernel
theorem d_R_leastExpired_20 : decode b_R_leastExpired 20 = .ok (.iaload, 1) := by decide +kernel
theorem d_R_leastExpired_21 : decode b_R_leastExpired 21 = .ok (.istore 5, 2) := by decide +kernel
theorem d_R_leastExpired_23 : decode b_R_leastExpired 23 = .ok (.aload_n 0, 1) := by decide +kernel
theorem d_R_leastExpired_24 : decode b_R_leastExpired 24 = .ok (.iload 5, 2) := by decide +kernel
theorem d_R_leastExpired_26 : decode b_R_leastExpired 26 = .ok (.iload_n 1, 1) := by decide +kernel
theorem d_R_leastExpired_27 : decode b_R_leastExpired 27 = .ok (.invokevirtual 58, 3) := by decide +kernel
theorem d_R_leastExpired_30 : decode b_R_leastExpired 30 = .ok (.ifCond .eq 38, 3) := by decide +kernel
theorem d_R_leastExpired_33 : decode b_R_leastExpired 33 = .ok (.aload_n 0, 1) := by decide +kernel
theorem d_R_leastExpired_34 : decode b_R_leastExpired 34 = .ok (.getfield 24, 3) := by decide +kernel
theorem d_R_leastExpired_37 : decode b_R_leastExpired 37 = .ok (.iload 5, 2) := by decide +kernel
theorem d_R_leastExpired_39 : decode b_R_leastExpired 39 = .ok (.iaload, 1) := by decide +kernel
theorem d_R_leastExpired_40 : decode b_R_leastExpired 40 = .ok (.iload_n 2, 1) := by decide +kernel
theorem d_R_leastExpired_41 : decode b_R_leastExpired 41 = .ok (.if_icmp .gt 27, 3) := by decide +kernel
theorem d_R_leastExpired_44 : decode b_R_leastExpired 44 = .ok (.iload_n 3, 1) := by decide +kernel
theorem d_R_leastExpired_45 : decode b_R_leastExpired 45 = .ok (.iconst (-1), 1) := by decide +kernel
theorem d_R_leastExpired_46 : decode b_R_leastExpired 46 = .ok (.if_icmp .eq 19, 3) := by decide +kernel
theorem d_R_leastExpired_49 : decode b_R_leastExpired 49 = .ok (.aload_n 0, 1) := by decide +kernel
theorem d_R_leastExpired_50 : decode b_R_leastExpired 50 = .ok (.getfield 24, 3) := by decide +kernel
theorem d_R_leastExpired_53 : decode b_R_leastExpired 53 = .ok (.iload 5, 2) := by decide +kernel
theorem d_R_leastExpired_55 : decode b_R_leastExpired 55 = .ok (.iaload, 1) := by decide +kernel
theorem d_R_leastExpired_56 : decode b_R_leastExpired 56 = .ok (.aload_n 0, 1) := by decide +kernel
theorem d_R_leastExpired_57 : decode b_R_leastExpired 57 = .ok (.getfield 24, 3) := by decide +kernel
theorem d_R_leastExpired_60 : decode b_R_leastExpired 60 = .ok (.iload_n 3, 1) := by decide +kernel
theorem d_R_leastExpired_61 : decode b_R_leastExpired 61 = .ok (.iaload, 1) := by decide +kernel
theorem d_R_leastExpired_62 : decode b_R_leastExpired 62 = .ok (.if_icmp .ge 6, 3) := by decide +kernel
theorem d_R_leastExpired_65 : decode b_R_leastExpired 65 = .ok (.iload 5, 2) := by decide +kernel
theorem d_R_leastExpired_67 : decode b_R_leastExpired 67 = .ok (.istore_n 3, 1) := by decide +kernel
theorem d_R_leastExpired_68 : decode b_R_leastExpired 68 = .ok (.iinc 4 1, 3) := by decide +kernel
theorem d_R_leastExpired_71 : decode b_R_leastExpired 71 = .ok (.goto (-66), 3) := by decide +kernel
theorem d_R_leastExpired_74 : decode b_R_leastExpired 74 = .ok (.iload_n 3, 1) := by decide +kernel
theorem d_R_leastExpired_75 : decode b_R_leastExpired 75 = .ok (.ireturn, 1) := by decide +kernel
abbrev rm_E_isOnDisk : Room := { frames := 0, cells := 0, slots := 0, locals := 0 }
theorem good_E_isOnDisk : GoodIn TB (.code y_E_isOnDisk b_E_isOnDisk 2 (some .boolean) :: TB) := good_of tb_172
theorem hd_E_isOnDisk : y_E_isOnDisk.cls ≠ "java/lang/invoke/MethodHandle" ∧ y_E_isOnDisk.cls ≠ "java/lang/invoke/VarHandle" ∧ (parseMethodDescriptor y_E_isOnDisk.desc).map (fun d => d.parameters.length) = some 2 := by decide +kernel
theorem d_E_isOnDisk_0 : decode b_E_isOnDisk 0 = .ok (.iload_n 1, 1) := by decide +kernel
theorem d_E_isOnDisk_1 : decode b_E_isOnDisk 1 = .ok (.iconst 1, 1) := by decide +kernel
theorem d_E_isOnDisk_2 : decode b_E_isOnDisk 2 = .ok (.if_icmp .lt 25, 3) := by decide +kernel
theorem d_E_isOnDisk_5 : decode b_E_isOnDisk 5 = .ok (.iload_n 1, 1) := by decide +kernel
theorem d_E_isOnDisk_6 : decode b_E_isOnDisk 6 = .ok (.bipush 8, 2) := by decide +kernel
theorem d_E_isOnDisk_8 : decode b_E_isOnDisk 8 = .ok (.if_icmp .gt 19, 3) := by decide +kernel
theorem d_E_isOnDisk_11 : decode b_E_isOnDisk 11 = .ok (.iload_n 0, 1) := by decide +kernel
theorem d_E_isOnDisk_12 : decode b_E_isOnDisk 12 = .ok (.ifCond .lt 15, 3) := by decide +kernel
theorem d_E_isOnDisk_15 : decode b_E_isOnDisk 15 = .ok (.iload_n 0, 1) := by decide +kernel
theorem d_E_isOnDisk_16 : decode b_E_isOnDisk 16 = .ok (.bipush 64, 2) := by decide +kernel
theorem d_E_isOnDisk_18 : decode b_E_isOnDisk 18 = .ok (.iload_n 1, 1) := by decide +kernel
theorem d_E_isOnDisk_19 : decode b_E_isOnDisk 19 = .ok (.isub, 1) := by decide +kernel
theorem d_E_isOnDisk_20 : decode b_E_isOnDisk 20 = .ok (.if_icmp .gt 7, 3) := by decide +kernel
theorem d_E_isOnDisk_23 : decode b_E_isOnDisk 23 = .ok (.iconst 1, 1) := by decide +kernel
theorem d_E_isOnDisk_24 : decode b_E_isOnDisk 24 = .ok (.goto 4, 3) := by decide +kernel
theorem d_E_isOnDisk_27 : decode b_E_isOnDisk 27 = .ok (.iconst 0, 1) := by decide +kernel
theorem d_E_isOnDisk_28 : decode b_E_isOnDisk 28 = .ok (.ireturn, 1) := by decide +kernel
abbrev rm_E_claimAllWaiting : Room := { frames := 2, cells := 0, slots := 0, locals := 42 }
theorem good_E_claimAllWaiting : GoodIn TB (.code y_E_claimAllWaiting b_E_claimAllWaiting 2 none :: TB) := good_of tb_180
theorem hd_E_claimAllWaiting : y_E_claimAllWaiting.cls ≠ "java/lang/invoke/MethodHandle" ∧ y_E_claimAllWaiting.cls ≠ "java/lang/invoke/VarHandle" ∧ (parseMethodDescriptor y_E_claimAllWaiting.desc).map (fun d => d.parameters.length) = some 0 := by decide +kernel
theorem d_E_claimAllWaiting_0 : decode b_E_claimAllWaiting 0 = .ok (.aload_n 0, 1) := by decide +kernel
theorem d_E_claimAllWaiting_1 : decode b_E_claimAllWaiting 1 = .ok (.getfield 30, 3) := by decide +kernel
theorem d_E_claimAllWaiting_4 : decode b_E_claimAllWaiting 4 = .ok (.invokevirtual 164, 3) := by decide +kernel
theorem d_E_claimAllWaiting_7 : decode b_E_claimAllWaiting 7 = .ok (.iconst 0, 1) := by decide +kernel
theorem d_E_claimAllWaiting_8 : decode b_E_claimAllWaiting 8 = .ok (.istore_n 1, 1) := by decide +kernel
theorem d_E_claimAllWaiting_9 : decode b_E_claimAllWaiting 9 = .ok (.iload_n 1, 1) := by decide +kernel
theorem d_E_claimAllWaiting_10 : decode b_E_claimAllWaiting 10 = .ok (.aload_n 0, 1) := by decide +kernel
theorem d_E_claimAllWaiting_11 : decode b_E_claimAllWaiting 11 = .ok (.getfield 16, 3) := by decide +kernel
theorem d_E_claimAllWaiting_14 : decode b_E_claimAllWaiting 14 = .ok (.getfield 134, 3) := by decide +kernel
theorem d_E_claimAllWaiting_17 : decode b_E_claimAllWaiting 17 = .ok (.if_icmp .ge 45, 3) := by decide +kernel
theorem d_E_claimAllWaiting_20 : decode b_E_claimAllWaiting 20 = .ok (.aload_n 0, 1) := by decide +kernel
theorem d_E_claimAllWaiting_21 : decode b_E_claimAllWaiting 21 = .ok (.getfield 16, 3) := by decide +kernel
theorem d_E_claimAllWaiting_24 : decode b_E_claimAllWaiting 24 = .ok (.getfield 89, 3) := by decide +kernel
theorem d_E_claimAllWaiting_27 : decode b_E_claimAllWaiting 27 = .ok (.iload_n 1, 1) := by decide +kernel
theorem d_E_claimAllWaiting_28 : decode b_E_claimAllWaiting 28 = .ok (.baload, 1) := by decide +kernel
theorem d_E_claimAllWaiting_29 : decode b_E_claimAllWaiting 29 = .ok (.ifCond .ne 27, 3) := by decide +kernel
theorem d_E_claimAllWaiting_32 : decode b_E_claimAllWaiting 32 = .ok (.aload_n 0, 1) := by decide +kernel
theorem d_E_claimAllWaiting_33 : decode b_E_claimAllWaiting 33 = .ok (.getfield 30, 3) := by decide +kernel
theorem d_E_claimAllWaiting_36 : decode b_E_claimAllWaiting 36 = .ok (.aload_n 0, 1) := by decide +kernel
theorem d_E_claimAllWaiting_37 : decode b_E_claimAllWaiting 37 = .ok (.getfield 16, 3) := by decide +kernel
theorem d_E_claimAllWaiting_40 : decode b_E_claimAllWaiting 40 = .ok (.getfield 93, 3) := by decide +kernel
theorem d_E_claimAllWaiting_43 : decode b_E_claimAllWaiting 43 = .ok (.iload_n 1, 1) := by decide +kernel
theorem d_E_claimAllWaiting_44 : decode b_E_claimAllWaiting 44 = .ok (.iaload, 1) := by decide +kernel
theorem d_E_claimAllWaiting_45 : decode b_E_claimAllWaiting 45 = .ok (.aload_n 0, 1) := by decide +kernel
theorem d_E_claimAllWaiting_46 : decode b_E_claimAllWaiting 46 = .ok (.getfield 16, 3) := by decide +kernel
theorem d_E_claimAllWaiting_49 : decode b_E_claimAllWaiting 49 = .ok (.iload_n 1, 1) := by decide +kernel
theorem d_E_claimAllWaiting_50 : decode b_E_claimAllWaiting 50 = .ok (.invokevirtual 167, 3) := by decide +kernel
theorem d_E_claimAllWaiting_53 : decode b_E_claimAllWaiting 53 = .ok (.invokevirtual 171, 3) := by decide +kernel
theorem d_E_claimAllWaiting_56 : decode b_E_claimAllWaiting 56 = .ok (.iinc 1 1, 3) := by decide +kernel
theorem d_E_claimAllWaiting_59 : decode b_E_claimAllWaiting 59 = .ok (.goto (-50), 3) := by decide +kernel
theorem d_E_claimAllWaiting_62 : decode b_E_claimAllWaiting 62 = .ok (.return_, 1) := by decide +kernel
abbrev rm_E_hostFor : Room := { frames := 3, cells := 0, slots := 0, locals := 63 }
theorem good_E_hostFor : GoodIn TB (.code y_E_hostFor b_E_hostFor 4 (some .int) :: TB) := good_of tb_176
theorem hd_E_hostFor : y_E_hostFor.cls ≠ "java/lang/invoke/MethodHandle" ∧ y_E_hostFor.cls ≠ "java/lang/invoke/VarHandle" ∧ (parseMethodDescriptor y_E_hostFor.desc).map (fun d => d.parameters.length) = some 3 := by decide +kernel
theorem d_E_hostFor_0 : decode b_E_hostFor 0 = .ok (.aload_n 0, 1) := by decide +kernel
theorem d_E_hostFor_1 : decode b_E_hostFor 1 = .ok (.invokevirtual 150, 3) := by decide +kernel
theorem d_E_hostFor_4 : decode b_E_hostFor 4 = .ok (.aload_n 0, 1) := by decide +kernel
theorem d_E_hostFor_5 : decode b_E_hostFor 5 = .ok (.getfield 30, 3) := by decide +kernel
theorem d_E_hostFor_8 : decode b_E_hostFor 8 = .ok (.iload_n 1, 1) := by decide +kernel
theorem d_E_hostFor_9 : decode b_E_hostFor 9 = .ok (.iload_n 2, 1) := by decide +kernel
theorem d_E_hostFor_10 : decode b_E_hostFor 10 = .ok (.iload_n 3, 1) := by decide +kernel
theorem d_E_hostFor_11 : decode b_E_hostFor 11 = .ok (.invokestatic 153, 3) := by decide +kernel
theorem d_E_hostFor_14 : decode b_E_hostFor 14 = .ok (.invokevirtual 157, 3) := by decide +kernel
theorem d_E_hostFor_17 : decode b_E_hostFor 17 = .ok (.ifCond .eq 5, 3) := by decide +kernel
theorem d_E_hostFor_20 : decode b_E_hostFor 20 = .ok (.iconst (-1), 1) := by decide +kernel
theorem d_E_hostFor_21 : decode b_E_hostFor 21 = .ok (.ireturn, 1) := by decide +kernel
theorem d_E_hostFor_22 : decode b_E_hostFor 22 = .ok (.aload_n 0, 1) := by decide +kernel
theorem d_E_hostFor_23 : decode b_E_hostFor 23 = .ok (.getfield 23, 3) := by decide +kernel
theorem d_E_hostFor_26 : decode b_E_hostFor 26 = .ok (.iload_n 1, 1) := by decide +kernel
theorem d_E_hostFor_27 : decode b_E_hostFor 27 = .ok (.iload_n 2, 1) := by decide +kernel
theorem d_E_hostFor_28 : decode b_E_hostFor 28 = .ok (.iload_n 3, 1) := by decide +kernel
theorem d_E_hostFor_29 : decode b_E_hostFor 29 = .ok (.aload_n 0, 1) := by decide +kernel
theorem d_E_hostFor_30 : decode b_E_hostFor 30 = .ok (.getfield 48, 3) := by decide +kernel
theorem d_E_hostFor_33 : decode b_E_hostFor 33 = .ok (.invokevirtual 161, 3) := by decide +kernel
theorem d_E_hostFor_36 : decode b_E_hostFor 36 = .ok (.ireturn, 1) := by decide +kernel
abbrev rm_E_take : Room := { frames := 4, cells := 0, slots := 0, locals := 86 }
theorem good_E_take : GoodIn TB (.code y_E_take b_E_take 8 (some .int) :: TB) := good_of tb_169
theorem hd_E_take : y_E_take.cls ≠ "java/lang/invoke/MethodHandle" ∧ y_E_take.cls ≠ "java/lang/invoke/VarHandle" ∧ (parseMethodDescriptor y_E_take.desc).map (fun d => d.parameters.length) = some 4 := by decide +kernel
theorem d_E_take_0 : decode b_E_take 0 = .ok (.iload_n 2, 1) := by decide +kernel
theorem d_E_take_1 : decode b_E_take 1 = .ok (.iload_n 3, 1) := by decide +kernel
theorem d_E_take_2 : decode b_E_take 2 = .ok (.invokestatic 131, 3) := by decide +kernel
theorem d_E_take_5 : decode b_E_take 5 = .ok (.ifCond .ne 5, 3) := by decide +kernel
theorem d_E_take_8 : decode b_E_take 8 = .ok (.iconst (-1), 1) := by decide +kernel
theorem d_E_take_9 : decode b_E_take 9 = .ok (.ireturn, 1) := by decide +kernel
theorem d_E_take_10 : decode b_E_take 10 = .ok (.aload_n 0, 1) := by decide +kernel
theorem d_E_take_11 : decode b_E_take 11 = .ok (.getfield 16, 3) := by decide +kernel
theorem d_E_take_14 : decode b_E_take 14 = .ok (.getfield 134, 3) := by decide +kernel
theorem d_E_take_17 : decode b_E_take 17 = .ok (.sipush 200, 3) := by decide +kernel
theorem d_E_take_20 : decode b_E_take 20 = .ok (.if_icmp .eq 15, 3) := by decide +kernel
theorem d_E_take_23 : decode b_E_take 23 = .ok (.aload_n 0, 1) := by decide +kernel
theorem d_E_take_24 : decode b_E_take 24 = .ok (.getfield 23, 3) := by decide +kernel
theorem d_E_take_27 : decode b_E_take 27 = .ok (.getfield 68, 3) := by decide +kernel
theorem d_E_take_30 : decode b_E_take 30 = .ok (.bipush 24, 2) := by decide +kernel
theorem d_E_take_32 : decode b_E_take 32 = .ok (.if_icmp .ne 6, 3) := by decide +kernel
theorem d_E_take_35 : decode b_E_take 35 = .ok (.bipush (-2), 2) := by decide +kernel
theorem d_E_take_37 : decode b_E_take 37 = .ok (.ireturn, 1) := by decide +kernel
theorem d_E_take_38 : decode b_E_take 38 = .ok (.aload_n 0, 1) := by decide +kernel
theorem d_E_take_39 : decode b_E_take 39 = .ok (.iload_n 1, 1) := by decide +kernel
theorem d_E_take_40 : decode b_E_take 40 = .ok (.iload_n 2, 1) := by decide +kernel
theorem d_E_take_41 : decode b_E_take 41 = .ok (.iload_n 3, 1) := by decide +kernel
theorem d_E_take_42 : decode b_E_take 42 = .ok (.invokevirtual 135, 3) := by decide +kernel
theorem d_E_take_45 : decode b_E_take 45 = .ok (.istore 5, 2) := by decide +kernel
theorem d_E_take_47 : decode b_E_take 47 = .ok (.aload_n 0, 1) := by decide +kernel
theorem d_E_take_48 : decode b_E_take 48 = .ok (.getfield 16, 3) := by decide +kernel
theorem d_E_take_51 : decode b_E_take 51 = .ok (.iload_n 1, 1) := by decide +kernel
theorem d_E_take_52 : decode b_E_take 52 = .ok (.iload_n 2, 1) := by decide +kernel
theorem d_E_take_53 : decode b_E_take 53 = .ok (.iload_n 3, 1) := by decide +kernel
theorem d_E_take_54 : decode b_E_take 54 = .ok (.iload 4, 2) := by decide +kernel
theorem d_E_take_56 : decode b_E_take 56 = .ok (.invokevirtual 139, 3) := by decide +kernel
theorem d_E_take_59 : decode b_E_take 59 = .ok (.istore 6, 2) := by decide +kernel
theorem d_E_take_61 : decode b_E_take 61 = .ok (.iload 5, 2) := by decide +kernel
theorem d_E_take_63 : decode b_E_take 63 = .ok (.iconst (-1), 1) := by decide +kernel
theorem d_E_take_64 : decode b_E_take 64 = .ok (.if_icmp .ne 58, 3) := by decide +kernel
theorem d_E_take_67 : decode b_E_take 67 = .ok (.aload_n 0, 1) := by decide +kernel
theorem d_E_take_68 : decode b_E_take 68 = .ok (.getfield 16, 3) := by decide +kernel
theorem d_E_take_71 : decode b_E_take 71 = .ok (.getfield 112, 3) := by decide +kernel
theorem d_E_take_74 : decode b_E_take 74 = .ok (.iload 6, 2) := by decide +kernel
theorem d_E_take_76 : decode b_E_take 76 = .ok (.iload 6, 2) := by decide +kernel
theorem d_E_take_78 : decode b_E_take 78 = .ok (.iastore, 1) := by decide +kernel
theorem d_E_take_79 : decode b_E_take 79 = .ok (.iload_n 1, 1) := by decide +kernel
theorem d_E_take_80 : decode b_E_take 80 = .ok (.ifCond .ne 10, 3) := by decide +kernel
theorem d_E_take_83 : decode b_E_take 83 = .ok (.aload_n 0, 1) := by decide +kernel
theorem d_E_take_84 : decode b_E_take 84 = .ok (.getfield 41, 3) := by decide +kernel
theorem d_E_take_87 : decode b_E_take 87 = .ok (.goto 7, 3) := by decide +kernel
theorem d_E_take_90 : decode b_E_take 90 = .ok (.aload_n 0, 1) := by decide +kernel
theorem d_E_take_91 : decode b_E_take 91 = .ok (.getfield 45, 3) := by decide +kernel
theorem d_E_take_94 : decode b_E_take 94 = .ok (.istore 7, 2) := by decide +kernel
theorem d_E_take_96 : decode b_E_take 96 = .ok (.aload_n 0, 1) := by decide +kernel
theorem d_E_take_97 : decode b_E_take 97 = .ok (.getfield 23, 3) := by decide +kernel
theorem d_E_take_100 : decode b_E_take 100 = .ok (.iload 6, 2) := by decide +kernel
theorem d_E_take_102 : decode b_E_take 102 = .ok (.iload_n 1, 1) := by decide +kernel
theorem d_E_take_103 : decode b_E_take 103 = .ok (.iload_n 2, 1) := by decide +kernel
theorem d_E_take_104 : decode b_E_take 104 = .ok (.iload_n 3, 1) := by decide +kernel
theorem d_E_take_105 : decode b_E_take 105 = .ok (.aload_n 0, 1) := by decide +kernel
theorem d_E_take_106 : decode b_E_take 106 = .ok (.getfield 51, 3) := by decide +kernel
theorem d_E_take_109 : decode b_E_take 109 = .ok (.iload 7, 2) := by decide +kernel
theorem d_E_take_111 : decode b_E_take 111 = .ok (.iadd, 1) := by decide +kernel
theorem d_E_take_112 : decode b_E_take 112 = .ok (.aload_n 0, 1) := by decide +kernel
theorem d_E_take_113 : decode b_E_take 113 = .ok (.getfield 48, 3) := by decide +kernel
theorem d_E_take_116 : decode b_E_take 116 = .ok (.invokevirtual 142, 3) := by decide +kernel
theorem d_E_take_119 : decode b_E_take 119 = .ok (.goto 26, 3) := by decide +kernel
theorem d_E_take_122 : decode b_E_take 122 = .ok (.aload_n 0, 1) := by decide +kernel
theorem d_E_take_123 : decode b_E_take 123 = .ok (.getfield 16, 3) := by decide +kernel
theorem d_E_take_126 : decode b_E_take 126 = .ok (.getfield 112, 3) := by decide +kernel
theorem d_E_take_129 : decode b_E_take 129 = .ok (.iload 6, 2) := by decide +kernel
theorem d_E_take_131 : decode b_E_take 131 = .ok (.iload 5, 2) := by decide +kernel
theorem d_E_take_133 : decode b_E_take 133 = .ok (.iastore, 1) := by decide +kernel
theorem d_E_take_134 : decode b_E_take 134 = .ok (.aload_n 0, 1) := by decide +kernel
theorem d_E_take_135 : decode b_E_take 135 = .ok (.getfield 23, 3) := by decide +kernel
theorem d_E_take_138 : decode b_E_take 138 = .ok (.iload 5, 2) := by decide +kernel
theorem d_E_take_140 : decode b_E_take 140 = .ok (.iload_n 2, 1) := by decide +kernel
theorem d_E_take_141 : decode b_E_take 141 = .ok (.iload_n 3, 1) := by decide +kernel
theorem d_E_take_142 : decode b_E_take 142 = .ok (.invokevirtual 146, 3) := by decide +kernel
theorem d_E_take_145 : decode b_E_take 145 = .ok (.iload 6, 2) := by decide +kernel
theorem d_E_take_147 : decode b_E_take 147 = .ok (.ireturn, 1) := by decide +kernel
abbrev rm_E_read : Room := { frames := 5, cells := 0, slots := 0, locals := 113 }
theorem good_E_read : GoodIn TB (.code y_E_read b_E_read 3 (some .int) :: TB) := good_of tb_165
theorem hd_E_read : y_E_read.cls ≠ "java/lang/invoke/MethodHandle" ∧ y_E_read.cls ≠ "java/lang/invoke/VarHandle" ∧ (parseMethodDescriptor y_E_read.desc).map (fun d => d.parameters.length) = some 2 := by decide +kernel
theorem d_E_read_0 : decode b_E_read 0 = .ok (.aload_n 0, 1) := by decide +kernel
theorem d_E_read_1 : decode b_E_read 1 = .ok (.iconst 0, 1) := by decide +kernel
theorem d_E_read_2 : decode b_E_read 2 = .ok (.iload_n 1, 1) := by decide +kernel
theorem d_E_read_3 : decode b_E_read 3 = .ok (.iload_n 2, 1) := by decide +kernel
theorem d_E_read_4 : decode b_E_read 4 = .ok (.iconst 0, 1) := by decide +kernel
theorem d_E_read_5 : decode b_E_read 5 = .ok (.invokevirtual 60, 3) := by decide +kernel
theorem d_E_read_8 : decode b_E_read 8 = .ok (.ireturn, 1) := by decide +kernel
abbrev rm_E_write : Room := { frames := 5, cells := 0, slots := 0, locals := 113 }
theorem good_E_write : GoodIn TB (.code y_E_write b_E_write 4 (some .int) :: TB) := good_of tb_231
theorem hd_E_write : y_E_write.cls ≠ "java/lang/invoke/MethodHandle" ∧ y_E_write.cls ≠ "java/lang/invoke/VarHandle" ∧ (parseMethodDescriptor y_E_write.desc).map (fun d => d.parameters.length) = some 3 := by decide +kernel
theorem d_E_write_0 : decode b_E_write 0 = .ok (.aload_n 0, 1) := by decide +kernel
theorem d_E_write_1 : decode b_E_write 1 = .ok (.iconst 1, 1) := by decide +kernel
theorem d_E_write_2 : decode b_E_write 2 = .ok (.iload_n 1, 1) := by decide +kernel
theorem d_E_write_3 : decode b_E_write 3 = .ok (.iload_n 2, 1) := by decide +kernel
theorem d_E_write_4 : decode b_E_write 4 = .ok (.iload_n 3, 1) := by decide +kernel
theorem d_E_write_5 : decode b_E_write 5 = .ok (.invokevirtual 60, 3) := by decide +kernel
theorem d_E_write_8 : decode b_E_write 8 = .ok (.ireturn, 1) := by decide +kernel
abbrev rm_E_barrier : Room := { frames := 0, cells := 0, slots := 0, locals := 0 }
theorem good_E_barrier : GoodIn TB (.code y_E_barrier b_E_barrier 1 (some .int) :: TB) := good_of tb_235
theorem hd_E_barrier : y_E_barrier.cls ≠ "java/lang/invoke/MethodHandle" ∧ y_E_barrier.cls ≠ "java/lang/invoke/VarHandle" ∧ (parseMethodDescriptor y_E_barrier.desc).map (fun d => d.parameters.length) = some 0 := by decide +kernel
theorem d_E_barrier_0 : decode b_E_barrier 0 = .ok (.aload_n 0, 1) := by decide +kernel
theorem d_E_barrier_1 : decode b_E_barrier 1 = .ok (.dup, 1) := by decide +kernel
theorem d_E_barrier_2 : decode b_E_barrier 2 = .ok (.getfield 48, 3) := by decide +kernel
theorem d_E_barrier_5 : decode b_E_barrier 5 = .ok (.iconst 1, 1) := by decide +kernel
theorem d_E_barrier_6 : decode b_E_barrier 6 = .ok (.iadd, 1) := by decide +kernel
theorem d_E_barrier_7 : decode b_E_barrier 7 = .ok (.putfield 48, 3) := by decide +kernel
theorem d_E_barrier_10 : decode b_E_barrier 10 = .ok (.aload_n 0, 1) := by decide +kernel
theorem d_E_barrier_11 : decode b_E_barrier 11 = .ok (.getfield 48, 3) := by decide +kernel
theorem d_E_barrier_14 : decode b_E_barrier 14 = .ok (.ireturn, 1) := by decide +kernel
abbrev rm_E_isWithin : Room := { frames := 0, cells := 0, slots := 0, locals := 0 }
theorem good_E_isWithin : GoodIn TB (.code y_E_isWithin b_E_isWithin 2 (some .boolean) :: TB) := good_of tb_242
theorem hd_E_isWithin : y_E_isWithin.cls ≠ "java/lang/invoke/MethodHandle" ∧ y_E_isWithin.cls ≠ "java/lang/invoke/VarHandle" ∧ (parseMethodDescriptor y_E_isWithin.desc).map (fun d => d.parameters.length) = some 2 := by decide +kernel
theorem d_E_isWithin_0 : decode b_E_isWithin 0 = .ok (.iload_n 0, 1) := by decide +kernel
theorem d_E_isWithin_1 : decode b_E_isWithin 1 = .ok (.ifCond .lt 12, 3) := by decide +kernel
theorem d_E_isWithin_4 : decode b_E_isWithin 4 = .ok (.iload_n 0, 1) := by decide +kernel
theorem d_E_isWithin_5 : decode b_E_isWithin 5 = .ok (.iload_n 1, 1) := by decide +kernel
theorem d_E_isWithin_6 : decode b_E_isWithin 6 = .ok (.if_icmp .gt 7, 3) := by decide +kernel
theorem d_E_isWithin_9 : decode b_E_isWithin 9 = .ok (.iconst 1, 1) := by decide +kernel
theorem d_E_isWithin_10 : decode b_E_isWithin 10 = .ok (.goto 4, 3) := by decide +kernel
theorem d_E_isWithin_13 : decode b_E_isWithin 13 = .ok (.iconst 0, 1) := by decide +kernel
theorem d_E_isWithin_14 : decode b_E_isWithin 14 = .ok (.ireturn, 1) := by decide +kernel
abbrev rm_E_expire : Room := { frames := 1, cells := 0, slots := 0, locals := 21 }
theorem good_E_expire : GoodIn TB (.code y_E_expire b_E_expire 4 (some .boolean) :: TB) := good_of tb_239
theorem hd_E_expire : y_E_expire.cls ≠ "java/lang/invoke/MethodHandle" ∧ y_E_expire.cls ≠ "java/lang/invoke/VarHandle" ∧ (parseMethodDescriptor y_E_expire.desc).map (fun d => d.parameters.length) = some 2 := by decide +kernel
theorem d_E_expire_0 : decode b_E_expire 0 = .ok (.iload_n 1, 1) := by decide +kernel
theorem d_E_expire_1 : decode b_E_expire 1 = .ok (.sipush 10000, 3) := by decide +kernel
theorem d_E_expire_4 : decode b_E_expire 4 = .ok (.invokestatic 64, 3) := by decide +kernel
theorem d_E_expire_7 : decode b_E_expire 7 = .ok (.ifCond .eq 17, 3) := by decide +kernel
theorem d_E_expire_10 : decode b_E_expire 10 = .ok (.iload_n 2, 1) := by decide +kernel
theorem d_E_expire_11 : decode b_E_expire 11 = .ok (.sipush 10000, 3) := by decide +kernel
theorem d_E_expire_14 : decode b_E_expire 14 = .ok (.invokestatic 64, 3) := by decide +kernel
theorem d_E_expire_17 : decode b_E_expire 17 = .ok (.ifCond .eq 7, 3) := by decide +kernel
theorem d_E_expire_20 : decode b_E_expire 20 = .ok (.iconst 1, 1) := by decide +kernel
theorem d_E_expire_21 : decode b_E_expire 21 = .ok (.goto 4, 3) := by decide +kernel
theorem d_E_expire_24 : decode b_E_expire 24 = .ok (.iconst 0, 1) := by decide +kernel
theorem d_E_expire_25 : decode b_E_expire 25 = .ok (.istore_n 3, 1) := by decide +kernel
theorem d_E_expire_26 : decode b_E_expire 26 = .ok (.aload_n 0, 1) := by decide +kernel
theorem d_E_expire_27 : decode b_E_expire 27 = .ok (.getfield 23, 3) := by decide +kernel
theorem d_E_expire_30 : decode b_E_expire 30 = .ok (.getfield 68, 3) := by decide +kernel
theorem d_E_expire_33 : decode b_E_expire 33 = .ok (.ifCond .gt 7, 3) := by decide +kernel
theorem d_E_expire_36 : decode b_E_expire 36 = .ok (.iload_n 3, 1) := by decide +kernel
theorem d_E_expire_37 : decode b_E_expire 37 = .ok (.ifCond .ne 5, 3) := by decide +kernel
theorem d_E_expire_40 : decode b_E_expire 40 = .ok (.iconst 0, 1) := by decide +kernel
theorem d_E_expire_41 : decode b_E_expire 41 = .ok (.ireturn, 1) := by decide +kernel
theorem d_E_expire_42 : decode b_E_expire 42 = .ok (.aload_n 0, 1) := by decide +kernel
theorem d_E_expire_43 : decode b_E_expire 43 = .ok (.iload_n 1, 1) := by decide +kernel
theorem d_E_expire_44 : decode b_E_expire 44 = .ok (.putfield 41, 3) := by decide +kernel
theorem d_E_expire_47 : decode b_E_expire 47 = .ok (.aload_n 0, 1) := by decide +kernel
theorem d_E_expire_48 : decode b_E_expire 48 = .ok (.iload_n 2, 1) := by decide +kernel
theorem d_E_expire_49 : decode b_E_expire 49 = .ok (.putfield 45, 3) := by decide +kernel
theorem d_E_expire_52 : decode b_E_expire 52 = .ok (.iconst 1, 1) := by decide +kernel
theorem d_E_expire_53 : decode b_E_expire 53 = .ok (.ireturn, 1) := by decide +kernel
abbrev rm_E_tick : Room := { frames := 1, cells := 0, slots := 0, locals := 21 }
theorem good_E_tick : GoodIn TB (.code y_E_tick b_E_tick 2 (some .boolean) :: TB) := good_of tb_246
theorem hd_E_tick : y_E_tick.cls ≠ "java/lang/invoke/MethodHandle" ∧ y_E_tick.cls ≠ "java/lang/invoke/VarHandle" ∧ (parseMethodDescriptor y_E_tick.desc).map (fun d => d.parameters.length) = some 1 := by decide +kernel
theorem d_E_tick_0 : decode b_E_tick 0 = .ok (.iload_n 1, 1) := by decide +kernel
theorem d_E_tick_1 : decode b_E_tick 1 = .ok (.ldc 71, 2) := by decide +kernel
theorem d_E_tick_3 : decode b_E_tick 3 = .ok (.invokestatic 64, 3) := by decide +kernel
theorem d_E_tick_6 : decode b_E_tick 6 = .ok (.ifCond .ne 5, 3) := by decide +kernel
theorem d_E_tick_9 : decode b_E_tick 9 = .ok (.iconst 0, 1) := by decide +kernel
theorem d_E_tick_10 : decode b_E_tick 10 = .ok (.ireturn, 1) := by decide +kernel
theorem d_E_tick_11 : decode b_E_tick 11 = .ok (.aload_n 0, 1) := by decide +kernel
theorem d_E_tick_12 : decode b_E_tick 12 = .ok (.dup, 1) := by decide +kernel
theorem d_E_tick_13 : decode b_E_tick 13 = .ok (.getfield 51, 3) := by decide +kernel
theorem d_E_tick_16 : decode b_E_tick 16 = .ok (.iload_n 1, 1) := by decide +kernel
theorem d_E_tick_17 : decode b_E_tick 17 = .ok (.iadd, 1) := by decide +kernel
theorem d_E_tick_18 : decode b_E_tick 18 = .ok (.putfield 51, 3) := by decide +kernel
theorem d_E_tick_21 : decode b_E_tick 21 = .ok (.iconst 1, 1) := by decide +kernel
theorem d_E_tick_22 : decode b_E_tick 22 = .ok (.ireturn, 1) := by decide +kernel
end
section
abbrev rm_E_markReady : Room := { frames := 2, cells := 0, slots := 0, locals := 42 }
theorem good_E_markReady : GoodIn TB (.code y_E_markReady b_E_markReady 4 none :: TB) := good_of tb_255
theorem hd_E_markReady : y_E_markReady.cls ≠ "java/lang/invoke/MethodHandle" ∧ y_E_markReady.cls ≠ "java/lang/invoke/VarHandle" ∧ (parseMethodDescriptor y_E_markReady.desc).map (fun d => d.parameters.length) = some 0 := by decide +kernel
theorem d_E_markReady_0 : decode b_E_markReady 0 = .ok (.aload_n 0, 1) := by decide +kernel
theorem d_E_markReady_1 : decode b_E_markReady 1 = .ok (.getfield 23, 3) := by decide +kernel
theorem d_E_markReady_4 : decode b_E_markReady 4 = .ok (.invokevirtual 174, 3) := by decide +kernel
theorem d_E_markReady_7 : decode b_E_markReady 7 = .ok (.aload_n 0, 1) := by decide +kernel
theorem d_E_markReady_8 : decode b_E_markReady 8 = .ok (.getfield 30, 3) := by decide +kernel
theorem d_E_markReady_11 : decode b_E_markReady 11 = .ok (.invokevirtual 164, 3) := by decide +kernel
theorem d_E_markReady_14 : decode b_E_markReady 14 = .ok (.iconst 0, 1) := by decide +kernel
theorem d_E_markReady_15 : decode b_E_markReady 15 = .ok (.istore_n 1, 1) := by decide +kernel
theorem d_E_markReady_16 : decode b_E_markReady 16 = .ok (.iload_n 1, 1) := by decide +kernel
theorem d_E_markReady_17 : decode b_E_markReady 17 = .ok (.aload_n 0, 1) := by decide +kernel
theorem d_E_markReady_18 : decode b_E_markReady 18 = .ok (.getfield 16, 3) := by decide +kernel
theorem d_E_markReady_21 : decode b_E_markReady 21 = .ok (.getfield 134, 3) := by decide +kernel
theorem d_E_markReady_24 : decode b_E_markReady 24 = .ok (.if_icmp .ge 85, 3) := by decide +kernel
theorem d_E_markReady_27 : decode b_E_markReady 27 = .ok (.aload_n 0, 1) := by decide +kernel
theorem d_E_markReady_28 : decode b_E_markReady 28 = .ok (.getfield 16, 3) := by decide +kernel
theorem d_E_markReady_31 : decode b_E_markReady 31 = .ok (.getfield 89, 3) := by decide +kernel
theorem d_E_markReady_34 : decode b_E_markReady 34 = .ok (.iload_n 1, 1) := by decide +kernel
theorem d_E_markReady_35 : decode b_E_markReady 35 = .ok (.baload, 1) := by decide +kernel
theorem d_E_markReady_36 : decode b_E_markReady 36 = .ok (.ifCond .ne 67, 3) := by decide +kernel
theorem d_E_markReady_39 : decode b_E_markReady 39 = .ok (.aload_n 0, 1) := by decide +kernel
theorem d_E_markReady_40 : decode b_E_markReady 40 = .ok (.getfield 16, 3) := by decide +kernel
theorem d_E_markReady_43 : decode b_E_markReady 43 = .ok (.iload_n 1, 1) := by decide +kernel
theorem d_E_markReady_44 : decode b_E_markReady 44 = .ok (.invokevirtual 167, 3) := by decide +kernel
theorem d_E_markReady_47 : decode b_E_markReady 47 = .ok (.lstore_n 2, 1) := by decide +kernel
theorem d_E_markReady_48 : decode b_E_markReady 48 = .ok (.aload_n 0, 1) := by decide +kernel
theorem d_E_markReady_49 : decode b_E_markReady 49 = .ok (.getfield 30, 3) := by decide +kernel
theorem d_E_markReady_52 : decode b_E_markReady 52 = .ok (.aload_n 0, 1) := by decide +kernel
theorem d_E_markReady_53 : decode b_E_markReady 53 = .ok (.getfield 16, 3) := by decide +kernel
theorem d_E_markReady_56 : decode b_E_markReady 56 = .ok (.getfield 93, 3) := by decide +kernel
theorem d_E_markReady_59 : decode b_E_markReady 59 = .ok (.iload_n 1, 1) := by decide +kernel
theorem d_E_markReady_60 : decode b_E_markReady 60 = .ok (.iaload, 1) := by decide +kernel
theorem d_E_markReady_61 : decode b_E_markReady 61 = .ok (.lload_n 2, 1) := by decide +kernel
theorem d_E_markReady_62 : decode b_E_markReady 62 = .ok (.invokevirtual 157, 3) := by decide +kernel
theorem d_E_markReady_65 : decode b_E_markReady 65 = .ok (.ifCond .eq 21, 3) := by decide +kernel
theorem d_E_markReady_68 : decode b_E_markReady 68 = .ok (.aload_n 0, 1) := by decide +kernel
theorem d_E_markReady_69 : decode b_E_markReady 69 = .ok (.getfield 23, 3) := by decide +kernel
theorem d_E_markReady_72 : decode b_E_markReady 72 = .ok (.getfield 177, 3) := by decide +kernel
theorem d_E_markReady_75 : decode b_E_markReady 75 = .ok (.aload_n 0, 1) := by decide +kernel
theorem d_E_markReady_76 : decode b_E_markReady 76 = .ok (.getfield 16, 3) := by decide +kernel
theorem d_E_markReady_79 : decode b_E_markReady 79 = .ok (.getfield 112, 3) := by decide +kernel
theorem d_E_markReady_82 : decode b_E_markReady 82 = .ok (.iload_n 1, 1) := by decide +kernel
theorem d_E_markReady_83 : decode b_E_markReady 83 = .ok (.iaload, 1) := by decide +kernel
theorem d_E_markReady_84 : decode b_E_markReady 84 = .ok (.iconst 0, 1) := by decide +kernel
theorem d_E_markReady_85 : decode b_E_markReady 85 = .ok (.bastore, 1) := by decide +kernel
theorem d_E_markReady_86 : decode b_E_markReady 86 = .ok (.aload_n 0, 1) := by decide +kernel
theorem d_E_markReady_87 : decode b_E_markReady 87 = .ok (.getfield 30, 3) := by decide +kernel
theorem d_E_markReady_90 : decode b_E_markReady 90 = .ok (.aload_n 0, 1) := by decide +kernel
theorem d_E_markReady_91 : decode b_E_markReady 91 = .ok (.getfield 16, 3) := by decide +kernel
theorem d_E_markReady_94 : decode b_E_markReady 94 = .ok (.getfield 93, 3) := by decide +kernel
theorem d_E_markReady_97 : decode b_E_markReady 97 = .ok (.iload_n 1, 1) := by decide +kernel
theorem d_E_markReady_98 : decode b_E_markReady 98 = .ok (.iaload, 1) := by decide +kernel
theorem d_E_markReady_99 : decode b_E_markReady 99 = .ok (.lload_n 2, 1) := by decide +kernel
theorem d_E_markReady_100 : decode b_E_markReady 100 = .ok (.invokevirtual 171, 3) := by decide +kernel
theorem d_E_markReady_103 : decode b_E_markReady 103 = .ok (.iinc 1 1, 3) := by decide +kernel
theorem d_E_markReady_106 : decode b_E_markReady 106 = .ok (.goto (-90), 3) := by decide +kernel
theorem d_E_markReady_109 : decode b_E_markReady 109 = .ok (.return_, 1) := by decide +kernel
abbrev rm_E_firstOfBatch : Room := { frames := 2, cells := 0, slots := 0, locals := 47 }
theorem good_E_firstOfBatch : GoodIn TB (.code y_E_firstOfBatch b_E_firstOfBatch 4 (some .int) :: TB) := good_of tb_288
theorem hd_E_firstOfBatch : y_E_firstOfBatch.cls ≠ "java/lang/invoke/MethodHandle" ∧ y_E_firstOfBatch.cls ≠ "java/lang/invoke/VarHandle" ∧ (parseMethodDescriptor y_E_firstOfBatch.desc).map (fun d => d.parameters.length) = some 1 := by decide +kernel
theorem d_E_firstOfBatch_0 : decode b_E_firstOfBatch 0 = .ok (.aload_n 0, 1) := by decide +kernel
theorem d_E_firstOfBatch_1 : decode b_E_firstOfBatch 1 = .ok (.getfield 23, 3) := by decide +kernel
theorem d_E_firstOfBatch_4 : decode b_E_firstOfBatch 4 = .ok (.iload_n 1, 1) := by decide +kernel
theorem d_E_firstOfBatch_5 : decode b_E_firstOfBatch 5 = .ok (.aload_n 0, 1) := by decide +kernel
theorem d_E_firstOfBatch_6 : decode b_E_firstOfBatch 6 = .ok (.getfield 51, 3) := by decide +kernel
theorem d_E_firstOfBatch_9 : decode b_E_firstOfBatch 9 = .ok (.invokevirtual 199, 3) := by decide +kernel
theorem d_E_firstOfBatch_12 : decode b_E_firstOfBatch 12 = .ok (.istore_n 2, 1) := by decide +kernel
theorem d_E_firstOfBatch_13 : decode b_E_firstOfBatch 13 = .ok (.iload_n 2, 1) := by decide +kernel
theorem d_E_firstOfBatch_14 : decode b_E_firstOfBatch 14 = .ok (.iconst (-1), 1) := by decide +kernel
theorem d_E_firstOfBatch_15 : decode b_E_firstOfBatch 15 = .ok (.if_icmp .eq 5, 3) := by decide +kernel
theorem d_E_firstOfBatch_18 : decode b_E_firstOfBatch 18 = .ok (.iload_n 2, 1) := by decide +kernel
theorem d_E_firstOfBatch_19 : decode b_E_firstOfBatch 19 = .ok (.ireturn, 1) := by decide +kernel
theorem d_E_firstOfBatch_20 : decode b_E_firstOfBatch 20 = .ok (.aload_n 0, 1) := by decide +kernel
theorem d_E_firstOfBatch_21 : decode b_E_firstOfBatch 21 = .ok (.getfield 23, 3) := by decide +kernel
theorem d_E_firstOfBatch_24 : decode b_E_firstOfBatch 24 = .ok (.iload_n 1, 1) := by decide +kernel
theorem d_E_firstOfBatch_25 : decode b_E_firstOfBatch 25 = .ok (.aload_n 0, 1) := by decide +kernel
theorem d_E_firstOfBatch_26 : decode b_E_firstOfBatch 26 = .ok (.getfield 54, 3) := by decide +kernel
theorem d_E_firstOfBatch_29 : decode b_E_firstOfBatch 29 = .ok (.invokevirtual 184, 3) := by decide +kernel
theorem d_E_firstOfBatch_32 : decode b_E_firstOfBatch 32 = .ok (.istore_n 3, 1) := by decide +kernel
theorem d_E_firstOfBatch_33 : decode b_E_firstOfBatch 33 = .ok (.iload_n 3, 1) := by decide +kernel
theorem d_E_firstOfBatch_34 : decode b_E_firstOfBatch 34 = .ok (.iconst (-1), 1) := by decide +kernel
theorem d_E_firstOfBatch_35 : decode b_E_firstOfBatch 35 = .ok (.if_icmp .eq 7, 3) := by decide +kernel
theorem d_E_firstOfBatch_38 : decode b_E_firstOfBatch 38 = .ok (.iload_n 3, 1) := by decide +kernel
theorem d_E_firstOfBatch_39 : decode b_E_firstOfBatch 39 = .ok (.goto 12, 3) := by decide +kernel
theorem d_E_firstOfBatch_42 : decode b_E_firstOfBatch 42 = .ok (.aload_n 0, 1) := by decide +kernel
theorem d_E_firstOfBatch_43 : decode b_E_firstOfBatch 43 = .ok (.getfield 23, 3) := by decide +kernel
theorem d_E_firstOfBatch_46 : decode b_E_firstOfBatch 46 = .ok (.iload_n 1, 1) := by decide +kernel
theorem d_E_firstOfBatch_47 : decode b_E_firstOfBatch 47 = .ok (.iconst 0, 1) := by decide +kernel
theorem d_E_firstOfBatch_48 : decode b_E_firstOfBatch 48 = .ok (.invokevirtual 184, 3) := by decide +kernel
theorem d_E_firstOfBatch_51 : decode b_E_firstOfBatch 51 = .ok (.ireturn, 1) := by decide +kernel
abbrev rm_E_pick : Room := { frames := 3, cells := 0, slots := 0, locals := 70 }
theorem good_E_pick : GoodIn TB (.code y_E_pick b_E_pick 3 (some .int) :: TB) := good_of tb_263
theorem hd_E_pick : y_E_pick.cls ≠ "java/lang/invoke/MethodHandle" ∧ y_E_pick.cls ≠ "java/lang/invoke/VarHandle" ∧ (parseMethodDescriptor y_E_pick.desc).map (fun d => d.parameters.length) = some 0 := by decide +kernel
theorem d_E_pick_0 : decode b_E_pick 0 = .ok (.aload_n 0, 1) := by decide +kernel
theorem d_E_pick_1 : decode b_E_pick 1 = .ok (.getfield 37, 3) := by decide +kernel
theorem d_E_pick_4 : decode b_E_pick 4 = .ok (.invokevirtual 180, 3) := by decide +kernel
theorem d_E_pick_7 : decode b_E_pick 7 = .ok (.ifCond .eq 42, 3) := by decide +kernel
theorem d_E_pick_10 : decode b_E_pick 10 = .ok (.aload_n 0, 1) := by decide +kernel
theorem d_E_pick_11 : decode b_E_pick 11 = .ok (.getfield 23, 3) := by decide +kernel
theorem d_E_pick_14 : decode b_E_pick 14 = .ok (.aload_n 0, 1) := by decide +kernel
theorem d_E_pick_15 : decode b_E_pick 15 = .ok (.getfield 37, 3) := by decide +kernel
theorem d_E_pick_18 : decode b_E_pick 18 = .ok (.getfield 128, 3) := by decide +kernel
theorem d_E_pick_21 : decode b_E_pick 21 = .ok (.aload_n 0, 1) := by decide +kernel
theorem d_E_pick_22 : decode b_E_pick 22 = .ok (.getfield 54, 3) := by decide +kernel
theorem d_E_pick_25 : decode b_E_pick 25 = .ok (.invokevirtual 184, 3) := by decide +kernel
theorem d_E_pick_28 : decode b_E_pick 28 = .ok (.istore_n 1, 1) := by decide +kernel
theorem d_E_pick_29 : decode b_E_pick 29 = .ok (.iload_n 1, 1) := by decide +kernel
theorem d_E_pick_30 : decode b_E_pick 30 = .ok (.iconst (-1), 1) := by decide +kernel
theorem d_E_pick_31 : decode b_E_pick 31 = .ok (.if_icmp .eq 18, 3) := by decide +kernel
theorem d_E_pick_34 : decode b_E_pick 34 = .ok (.aload_n 0, 1) := by decide +kernel
theorem d_E_pick_35 : decode b_E_pick 35 = .ok (.getfield 37, 3) := by decide +kernel
theorem d_E_pick_38 : decode b_E_pick 38 = .ok (.dup, 1) := by decide +kernel
theorem d_E_pick_39 : decode b_E_pick 39 = .ok (.getfield 130, 3) := by decide +kernel
theorem d_E_pick_42 : decode b_E_pick 42 = .ok (.iconst 1, 1) := by decide +kernel
theorem d_E_pick_43 : decode b_E_pick 43 = .ok (.iadd, 1) := by decide +kernel
theorem d_E_pick_44 : decode b_E_pick 44 = .ok (.putfield 130, 3) := by decide +kernel
theorem d_E_pick_47 : decode b_E_pick 47 = .ok (.iload_n 1, 1) := by decide +kernel
theorem d_E_pick_48 : decode b_E_pick 48 = .ok (.ireturn, 1) := by decide +kernel
theorem d_E_pick_49 : decode b_E_pick 49 = .ok (.aload_n 0, 1) := by decide +kernel
theorem d_E_pick_50 : decode b_E_pick 50 = .ok (.getfield 23, 3) := by decide +kernel
theorem d_E_pick_53 : decode b_E_pick 53 = .ok (.iconst 0, 1) := by decide +kernel
theorem d_E_pick_54 : decode b_E_pick 54 = .ok (.invokevirtual 188, 3) := by decide +kernel
theorem d_E_pick_57 : decode b_E_pick 57 = .ok (.istore_n 1, 1) := by decide +kernel
theorem d_E_pick_58 : decode b_E_pick 58 = .ok (.aload_n 0, 1) := by decide +kernel
theorem d_E_pick_59 : decode b_E_pick 59 = .ok (.getfield 23, 3) := by decide +kernel
theorem d_E_pick_62 : decode b_E_pick 62 = .ok (.iconst 1, 1) := by decide +kernel
theorem d_E_pick_63 : decode b_E_pick 63 = .ok (.invokevirtual 188, 3) := by decide +kernel
theorem d_E_pick_66 : decode b_E_pick 66 = .ok (.istore_n 2, 1) := by decide +kernel
theorem d_E_pick_67 : decode b_E_pick 67 = .ok (.iload_n 1, 1) := by decide +kernel
theorem d_E_pick_68 : decode b_E_pick 68 = .ok (.ifCond .ne 9, 3) := by decide +kernel
theorem d_E_pick_71 : decode b_E_pick 71 = .ok (.iload_n 2, 1) := by decide +kernel
theorem d_E_pick_72 : decode b_E_pick 72 = .ok (.ifCond .ne 5, 3) := by decide +kernel
theorem d_E_pick_75 : decode b_E_pick 75 = .ok (.iconst (-1), 1) := by decide +kernel
theorem d_E_pick_76 : decode b_E_pick 76 = .ok (.ireturn, 1) := by decide +kernel
theorem d_E_pick_77 : decode b_E_pick 77 = .ok (.aload_n 0, 1) := by decide +kernel
theorem d_E_pick_78 : decode b_E_pick 78 = .ok (.getfield 37, 3) := by decide +kernel
theorem d_E_pick_81 : decode b_E_pick 81 = .ok (.iload_n 1, 1) := by decide +kernel
theorem d_E_pick_82 : decode b_E_pick 82 = .ok (.iload_n 2, 1) := by decide +kernel
theorem d_E_pick_83 : decode b_E_pick 83 = .ok (.invokevirtual 191, 3) := by decide +kernel
theorem d_E_pick_86 : decode b_E_pick 86 = .ok (.aload_n 0, 1) := by decide +kernel
theorem d_E_pick_87 : decode b_E_pick 87 = .ok (.aload_n 0, 1) := by decide +kernel
theorem d_E_pick_88 : decode b_E_pick 88 = .ok (.getfield 37, 3) := by decide +kernel
theorem d_E_pick_91 : decode b_E_pick 91 = .ok (.getfield 128, 3) := by decide +kernel
theorem d_E_pick_94 : decode b_E_pick 94 = .ok (.invokevirtual 195, 3) := by decide +kernel
theorem d_E_pick_97 : decode b_E_pick 97 = .ok (.ireturn, 1) := by decide +kernel
abbrev rm_E_carryOut : Room := { frames := 2, cells := 0, slots := 0, locals := 83 }
theorem good_E_carryOut : GoodIn TB (.code y_E_carryOut b_E_carryOut 3 none :: TB) := good_of tb_296
theorem hd_E_carryOut : y_E_carryOut.cls ≠ "java/lang/invoke/MethodHandle" ∧ y_E_carryOut.cls ≠ "java/lang/invoke/VarHandle" ∧ (parseMethodDescriptor y_E_carryOut.desc).map (fun d => d.parameters.length) = some 1 := by decide +kernel
theorem d_E_carryOut_0 : decode b_E_carryOut 0 = .ok (.iload_n 1, 1) := by decide +kernel
theorem d_E_carryOut_1 : decode b_E_carryOut 1 = .ok (.istore_n 2, 1) := by decide +kernel
theorem d_E_carryOut_2 : decode b_E_carryOut 2 = .ok (.iload_n 2, 1) := by decide +kernel
theorem d_E_carryOut_3 : decode b_E_carryOut 3 = .ok (.aload_n 0, 1) := by decide +kernel
theorem d_E_carryOut_4 : decode b_E_carryOut 4 = .ok (.getfield 16, 3) := by decide +kernel
theorem d_E_carryOut_7 : decode b_E_carryOut 7 = .ok (.getfield 134, 3) := by decide +kernel
theorem d_E_carryOut_10 : decode b_E_carryOut 10 = .ok (.if_icmp .ge 34, 3) := by decide +kernel
theorem d_E_carryOut_13 : decode b_E_carryOut 13 = .ok (.aload_n 0, 1) := by decide +kernel
theorem d_E_carryOut_14 : decode b_E_carryOut 14 = .ok (.getfield 16, 3) := by decide +kernel
theorem d_E_carryOut_17 : decode b_E_carryOut 17 = .ok (.getfield 112, 3) := by decide +kernel
theorem d_E_carryOut_20 : decode b_E_carryOut 20 = .ok (.iload_n 2, 1) := by decide +kernel
theorem d_E_carryOut_21 : decode b_E_carryOut 21 = .ok (.iaload, 1) := by decide +kernel
theorem d_E_carryOut_22 : decode b_E_carryOut 22 = .ok (.iload_n 1, 1) := by decide +kernel
theorem d_E_carryOut_23 : decode b_E_carryOut 23 = .ok (.if_icmp .ne 15, 3) := by decide +kernel
theorem d_E_carryOut_26 : decode b_E_carryOut 26 = .ok (.aload_n 0, 1) := by decide +kernel
theorem d_E_carryOut_27 : decode b_E_carryOut 27 = .ok (.getfield 16, 3) := by decide +kernel
theorem d_E_carryOut_30 : decode b_E_carryOut 30 = .ok (.iload_n 2, 1) := by decide +kernel
theorem d_E_carryOut_31 : decode b_E_carryOut 31 = .ok (.aload_n 0, 1) := by decide +kernel
theorem d_E_carryOut_32 : decode b_E_carryOut 32 = .ok (.getfield 9, 3) := by decide +kernel
theorem d_E_carryOut_35 : decode b_E_carryOut 35 = .ok (.invokevirtual 202, 3) := by decide +kernel
theorem d_E_carryOut_38 : decode b_E_carryOut 38 = .ok (.iinc 2 1, 3) := by decide +kernel
theorem d_E_carryOut_41 : decode b_E_carryOut 41 = .ok (.goto (-39), 3) := by decide +kernel
theorem d_E_carryOut_44 : decode b_E_carryOut 44 = .ok (.aload_n 0, 1) := by decide +kernel
theorem d_E_carryOut_45 : decode b_E_carryOut 45 = .ok (.getfield 23, 3) := by decide +kernel
theorem d_E_carryOut_48 : decode b_E_carryOut 48 = .ok (.iload_n 1, 1) := by decide +kernel
theorem d_E_carryOut_49 : decode b_E_carryOut 49 = .ok (.invokevirtual 205, 3) := by decide +kernel
theorem d_E_carryOut_52 : decode b_E_carryOut 52 = .ok (.aload_n 0, 1) := by decide +kernel
theorem d_E_carryOut_53 : decode b_E_carryOut 53 = .ok (.aload_n 0, 1) := by decide +kernel
theorem d_E_carryOut_54 : decode b_E_carryOut 54 = .ok (.getfield 23, 3) := by decide +kernel
theorem d_E_carryOut_57 : decode b_E_carryOut 57 = .ok (.iload_n 1, 1) := by decide +kernel
theorem d_E_carryOut_58 : decode b_E_carryOut 58 = .ok (.invokevirtual 208, 3) := by decide +kernel
theorem d_E_carryOut_61 : decode b_E_carryOut 61 = .ok (.putfield 54, 3) := by decide +kernel
theorem d_E_carryOut_64 : decode b_E_carryOut 64 = .ok (.aload_n 0, 1) := by decide +kernel
theorem d_E_carryOut_65 : decode b_E_carryOut 65 = .ok (.iload_n 1, 1) := by decide +kernel
theorem d_E_carryOut_66 : decode b_E_carryOut 66 = .ok (.putfield 57, 3) := by decide +kernel
theorem d_E_carryOut_69 : decode b_E_carryOut 69 = .ok (.return_, 1) := by decide +kernel
abbrev rm_E_dispatch : Room := { frames := 4, cells := 0, slots := 0, locals := 105 }
theorem good_E_dispatch : GoodIn TB (.code y_E_dispatch b_E_dispatch 2 (some .int) :: TB) := good_of tb_251
theorem hd_E_dispatch : y_E_dispatch.cls ≠ "java/lang/invoke/MethodHandle" ∧ y_E_dispatch.cls ≠ "java/lang/invoke/VarHandle" ∧ (parseMethodDescriptor y_E_dispatch.desc).map (fun d => d.parameters.length) = some 0 := by decide +kernel
theorem d_E_dispatch_0 : decode b_E_dispatch 0 = .ok (.aload_n 0, 1) := by decide +kernel
theorem d_E_dispatch_1 : decode b_E_dispatch 1 = .ok (.invokevirtual 72, 3) := by decide +kernel
theorem d_E_dispatch_4 : decode b_E_dispatch 4 = .ok (.aload_n 0, 1) := by decide +kernel
theorem d_E_dispatch_5 : decode b_E_dispatch 5 = .ok (.invokevirtual 75, 3) := by decide +kernel
theorem d_E_dispatch_8 : decode b_E_dispatch 8 = .ok (.istore_n 1, 1) := by decide +kernel
theorem d_E_dispatch_9 : decode b_E_dispatch 9 = .ok (.iload_n 1, 1) := by decide +kernel
theorem d_E_dispatch_10 : decode b_E_dispatch 10 = .ok (.iconst (-1), 1) := by decide +kernel
theorem d_E_dispatch_11 : decode b_E_dispatch 11 = .ok (.if_icmp .ne 5, 3) := by decide +kernel
theorem d_E_dispatch_14 : decode b_E_dispatch 14 = .ok (.iconst 0, 1) := by decide +kernel
theorem d_E_dispatch_15 : decode b_E_dispatch 15 = .ok (.ireturn, 1) := by decide +kernel
theorem d_E_dispatch_16 : decode b_E_dispatch 16 = .ok (.aload_n 0, 1) := by decide +kernel
theorem d_E_dispatch_17 : decode b_E_dispatch 17 = .ok (.iload_n 1, 1) := by decide +kernel
theorem d_E_dispatch_18 : decode b_E_dispatch 18 = .ok (.invokevirtual 79, 3) := by decide +kernel
theorem d_E_dispatch_21 : decode b_E_dispatch 21 = .ok (.aload_n 0, 1) := by decide +kernel
theorem d_E_dispatch_22 : decode b_E_dispatch 22 = .ok (.getfield 23, 3) := by decide +kernel
theorem d_E_dispatch_25 : decode b_E_dispatch 25 = .ok (.getfield 83, 3) := by decide +kernel
theorem d_E_dispatch_28 : decode b_E_dispatch 28 = .ok (.iload_n 1, 1) := by decide +kernel
theorem d_E_dispatch_29 : decode b_E_dispatch 29 = .ok (.iaload, 1) := by decide +kernel
theorem d_E_dispatch_30 : decode b_E_dispatch 30 = .ok (.ireturn, 1) := by decide +kernel
abbrev rm_E_state : Room := { frames := 1, cells := 0, slots := 0, locals := 21 }
theorem good_E_state : GoodIn TB (.code y_E_state b_E_state 2 (some .int) :: TB) := good_of tb_312
theorem hd_E_state : y_E_state.cls ≠ "java/lang/invoke/MethodHandle" ∧ y_E_state.cls ≠ "java/lang/invoke/VarHandle" ∧ (parseMethodDescriptor y_E_state.desc).map (fun d => d.parameters.length) = some 1 := by decide +kernel
theorem d_E_state_0 : decode b_E_state 0 = .ok (.aload_n 0, 1) := by decide +kernel
theorem d_E_state_1 : decode b_E_state 1 = .ok (.getfield 16, 3) := by decide +kernel
theorem d_E_state_4 : decode b_E_state 4 = .ok (.iload_n 1, 1) := by decide +kernel
theorem d_E_state_5 : decode b_E_state 5 = .ok (.invokevirtual 85, 3) := by decide +kernel
theorem d_E_state_8 : decode b_E_state 8 = .ok (.ifCond .ne 5, 3) := by decide +kernel
theorem d_E_state_11 : decode b_E_state 11 = .ok (.iconst 0, 1) := by decide +kernel
theorem d_E_state_12 : decode b_E_state 12 = .ok (.ireturn, 1) := by decide +kernel
theorem d_E_state_13 : decode b_E_state 13 = .ok (.aload_n 0, 1) := by decide +kernel
theorem d_E_state_14 : decode b_E_state 14 = .ok (.getfield 16, 3) := by decide +kernel
theorem d_E_state_17 : decode b_E_state 17 = .ok (.getfield 89, 3) := by decide +kernel
theorem d_E_state_20 : decode b_E_state 20 = .ok (.iload_n 1, 1) := by decide +kernel
theorem d_E_state_21 : decode b_E_state 21 = .ok (.baload, 1) := by decide +kernel
theorem d_E_state_22 : decode b_E_state 22 = .ok (.ifCond .eq 7, 3) := by decide +kernel
theorem d_E_state_25 : decode b_E_state 25 = .ok (.iconst 2, 1) := by decide +kernel
theorem d_E_state_26 : decode b_E_state 26 = .ok (.goto 4, 3) := by decide +kernel
theorem d_E_state_29 : decode b_E_state 29 = .ok (.iconst 1, 1) := by decide +kernel
theorem d_E_state_30 : decode b_E_state 30 = .ok (.ireturn, 1) := by decide +kernel
abbrev rm_E_value : Room := { frames := 1, cells := 0, slots := 0, locals := 21 }
theorem good_E_value : GoodIn TB (.code y_E_value b_E_value 3 (some .int) :: TB) := good_of tb_320
theorem hd_E_value : y_E_value.cls ≠ "java/lang/invoke/MethodHandle" ∧ y_E_value.cls ≠ "java/lang/invoke/VarHandle" ∧ (parseMethodDescriptor y_E_value.desc).map (fun d => d.parameters.length) = some 2 := by decide +kernel
theorem d_E_value_0 : decode b_E_value 0 = .ok (.aload_n 0, 1) := by decide +kernel
theorem d_E_value_1 : decode b_E_value 1 = .ok (.getfield 16, 3) := by decide +kernel
theorem d_E_value_4 : decode b_E_value 4 = .ok (.iload_n 1, 1) := by decide +kernel
theorem d_E_value_5 : decode b_E_value 5 = .ok (.invokevirtual 85, 3) := by decide +kernel
theorem d_E_value_8 : decode b_E_value 8 = .ok (.ifCond .eq 27, 3) := by decide +kernel
theorem d_E_value_11 : decode b_E_value 11 = .ok (.aload_n 0, 1) := by decide +kernel
theorem d_E_value_12 : decode b_E_value 12 = .ok (.getfield 16, 3) := by decide +kernel
theorem d_E_value_15 : decode b_E_value 15 = .ok (.getfield 89, 3) := by decide +kernel
theorem d_E_value_18 : decode b_E_value 18 = .ok (.iload_n 1, 1) := by decide +kernel
theorem d_E_value_19 : decode b_E_value 19 = .ok (.baload, 1) := by decide +kernel
theorem d_E_value_20 : decode b_E_value 20 = .ok (.ifCond .eq 15, 3) := by decide +kernel
theorem d_E_value_23 : decode b_E_value 23 = .ok (.aload_n 0, 1) := by decide +kernel
theorem d_E_value_24 : decode b_E_value 24 = .ok (.getfield 16, 3) := by decide +kernel
theorem d_E_value_27 : decode b_E_value 27 = .ok (.getfield 93, 3) := by decide +kernel
theorem d_E_value_30 : decode b_E_value 30 = .ok (.iload_n 1, 1) := by decide +kernel
theorem d_E_value_31 : decode b_E_value 31 = .ok (.iaload, 1) := by decide +kernel
theorem d_E_value_32 : decode b_E_value 32 = .ok (.ifCond .eq 5, 3) := by decide +kernel
theorem d_E_value_35 : decode b_E_value 35 = .ok (.iconst 0, 1) := by decide +kernel
theorem d_E_value_36 : decode b_E_value 36 = .ok (.ireturn, 1) := by decide +kernel
theorem d_E_value_37 : decode b_E_value 37 = .ok (.iload_n 2, 1) := by decide +kernel
theorem d_E_value_38 : decode b_E_value 38 = .ok (.ifCond .lt 16, 3) := by decide +kernel
theorem d_E_value_41 : decode b_E_value 41 = .ok (.iload_n 2, 1) := by decide +kernel
theorem d_E_value_42 : decode b_E_value 42 = .ok (.aload_n 0, 1) := by decide +kernel
theorem d_E_value_43 : decode b_E_value 43 = .ok (.getfield 16, 3) := by decide +kernel
theorem d_E_value_46 : decode b_E_value 46 = .ok (.getfield 96, 3) := by decide +kernel
theorem d_E_value_49 : decode b_E_value 49 = .ok (.iload_n 1, 1) := by decide +kernel
theorem d_E_value_50 : decode b_E_value 50 = .ok (.iaload, 1) := by decide +kernel
theorem d_E_value_51 : decode b_E_value 51 = .ok (.if_icmp .lt 5, 3) := by decide +kernel
theorem d_E_value_54 : decode b_E_value 54 = .ok (.iconst 0, 1) := by decide +kernel
theorem d_E_value_55 : decode b_E_value 55 = .ok (.ireturn, 1) := by decide +kernel
theorem d_E_value_56 : decode b_E_value 56 = .ok (.aload_n 0, 1) := by decide +kernel
theorem d_E_value_57 : decode b_E_value 57 = .ok (.getfield 16, 3) := by decide +kernel
theorem d_E_value_60 : decode b_E_value 60 = .ok (.getfield 99, 3) := by decide +kernel
theorem d_E_value_63 : decode b_E_value 63 = .ok (.iload_n 1, 1) := by decide +kernel
theorem d_E_value_64 : decode b_E_value 64 = .ok (.bipush 8, 2) := by decide +kernel
theorem d_E_value_66 : decode b_E_value 66 = .ok (.imul, 1) := by decide +kernel
theorem d_E_value_67 : decode b_E_value 67 = .ok (.iload_n 2, 1) := by decide +kernel
theorem d_E_value_68 : decode b_E_value 68 = .ok (.iadd, 1) := by decide +kernel
theorem d_E_value_69 : decode b_E_value 69 = .ok (.iaload, 1) := by decide +kernel
theorem d_E_value_70 : decode b_E_value 70 = .ok (.ireturn, 1) := by decide +kernel
abbrev rm_E_sector : Room := { frames := 1, cells := 0, slots := 0, locals := 21 }
theorem good_E_sector : GoodIn TB (.code y_E_sector b_E_sector 2 (some .int) :: TB) := good_of tb_324
theorem hd_E_sector : y_E_sector.cls ≠ "java/lang/invoke/MethodHandle" ∧ y_E_sector.cls ≠ "java/lang/invoke/VarHandle" ∧ (parseMethodDescriptor y_E_sector.desc).map (fun d => d.parameters.length) = some 1 := by decide +kernel
theorem d_E_sector_0 : decode b_E_sector 0 = .ok (.iload_n 1, 1) := by decide +kernel
theorem d_E_sector_1 : decode b_E_sector 1 = .ok (.bipush 63, 2) := by decide +kernel
theorem d_E_sector_3 : decode b_E_sector 3 = .ok (.invokestatic 64, 3) := by decide +kernel
theorem d_E_sector_6 : decode b_E_sector 6 = .ok (.ifCond .eq 12, 3) := by decide +kernel
theorem d_E_sector_9 : decode b_E_sector 9 = .ok (.aload_n 0, 1) := by decide +kernel
theorem d_E_sector_10 : decode b_E_sector 10 = .ok (.getfield 9, 3) := by decide +kernel
theorem d_E_sector_13 : decode b_E_sector 13 = .ok (.iload_n 1, 1) := by decide +kernel
theorem d_E_sector_14 : decode b_E_sector 14 = .ok (.iaload, 1) := by decide +kernel
theorem d_E_sector_15 : decode b_E_sector 15 = .ok (.goto 4, 3) := by decide +kernel
theorem d_E_sector_18 : decode b_E_sector 18 = .ok (.iconst 0, 1) := by decide +kernel
theorem d_E_sector_19 : decode b_E_sector 19 = .ok (.ireturn, 1) := by decide +kernel
abbrev rm_E_waiting : Room := { frames := 1, cells := 0, slots := 0, locals := 21 }
theorem good_E_waiting : GoodIn TB (.code y_E_waiting b_E_waiting 4 (some .int) :: TB) := good_of tb_328
theorem hd_E_waiting : y_E_waiting.cls ≠ "java/lang/invoke/MethodHandle" ∧ y_E_waiting.cls ≠ "java/lang/invoke/VarHandle" ∧ (parseMethodDescriptor y_E_waiting.desc).map (fun d => d.parameters.length) = some 1 := by decide +kernel
theorem d_E_waiting_0 : decode b_E_waiting 0 = .ok (.iload_n 1, 1) := by decide +kernel
theorem d_E_waiting_1 : decode b_E_waiting 1 = .ok (.iconst 1, 1) := by decide +kernel
theorem d_E_waiting_2 : decode b_E_waiting 2 = .ok (.invokestatic 64, 3) := by decide +kernel
theorem d_E_waiting_5 : decode b_E_waiting 5 = .ok (.ifCond .ne 5, 3) := by decide +kernel
theorem d_E_waiting_8 : decode b_E_waiting 8 = .ok (.iconst (-1), 1) := by decide +kernel
theorem d_E_waiting_9 : decode b_E_waiting 9 = .ok (.ireturn, 1) := by decide +kernel
theorem d_E_waiting_10 : decode b_E_waiting 10 = .ok (.iconst 0, 1) := by decide +kernel
theorem d_E_waiting_11 : decode b_E_waiting 11 = .ok (.istore_n 2, 1) := by decide +kernel
theorem d_E_waiting_12 : decode b_E_waiting 12 = .ok (.iconst 0, 1) := by decide +kernel
theorem d_E_waiting_13 : decode b_E_waiting 13 = .ok (.istore_n 3, 1) := by decide +kernel
theorem d_E_waiting_14 : decode b_E_waiting 14 = .ok (.iload_n 3, 1) := by decide +kernel
theorem d_E_waiting_15 : decode b_E_waiting 15 = .ok (.aload_n 0, 1) := by decide +kernel
theorem d_E_waiting_16 : decode b_E_waiting 16 = .ok (.getfield 23, 3) := by decide +kernel
theorem d_E_waiting_19 : decode b_E_waiting 19 = .ok (.getfield 68, 3) := by decide +kernel
theorem d_E_waiting_22 : decode b_E_waiting 22 = .ok (.if_icmp .ge 33, 3) := by decide +kernel
theorem d_E_waiting_25 : decode b_E_waiting 25 = .ok (.aload_n 0, 1) := by decide +kernel
theorem d_E_waiting_26 : decode b_E_waiting 26 = .ok (.getfield 23, 3) := by decide +kernel
theorem d_E_waiting_29 : decode b_E_waiting 29 = .ok (.getfield 102, 3) := by decide +kernel
theorem d_E_waiting_32 : decode b_E_waiting 32 = .ok (.aload_n 0, 1) := by decide +kernel
theorem d_E_waiting_33 : decode b_E_waiting 33 = .ok (.getfield 23, 3) := by decide +kernel
theorem d_E_waiting_36 : decode b_E_waiting 36 = .ok (.getfield 103, 3) := by decide +kernel
theorem d_E_waiting_39 : decode b_E_waiting 39 = .ok (.iload_n 3, 1) := by decide +kernel
theorem d_E_waiting_40 : decode b_E_waiting 40 = .ok (.iaload, 1) := by decide +kernel
theorem d_E_waiting_41 : decode b_E_waiting 41 = .ok (.iaload, 1) := by decide +kernel
theorem d_E_waiting_42 : decode b_E_waiting 42 = .ok (.iload_n 1, 1) := by decide +kernel
theorem d_E_waiting_43 : decode b_E_waiting 43 = .ok (.if_icmp .ne 6, 3) := by decide +kernel
theorem d_E_waiting_46 : decode b_E_waiting 46 = .ok (.iinc 2 1, 3) := by decide +kernel
theorem d_E_waiting_49 : decode b_E_waiting 49 = .ok (.iinc 3 1, 3) := by decide +kernel
theorem d_E_waiting_52 : decode b_E_waiting 52 = .ok (.goto (-38), 3) := by decide +kernel
theorem d_E_waiting_55 : decode b_E_waiting 55 = .ok (.iload_n 2, 1) := by decide +kernel
theorem d_E_waiting_56 : decode b_E_waiting 56 = .ok (.ireturn, 1) := by decide +kernel
abbrev rm_E_ready : Room := { frames := 3, cells := 0, slots := 0, locals := 65 }
theorem good_E_ready : GoodIn TB (.code y_E_ready b_E_ready 4 (some .int) :: TB) := good_of tb_332
theorem hd_E_ready : y_E_ready.cls ≠ "java/lang/invoke/MethodHandle" ∧ y_E_ready.cls ≠ "java/lang/invoke/VarHandle" ∧ (parseMethodDescriptor y_E_ready.desc).map (fun d => d.parameters.length) = some 1 := by decide +kernel
theorem d_E_ready_0 : decode b_E_ready 0 = .ok (.iload_n 1, 1) := by decide +kernel
theorem d_E_ready_1 : decode b_E_ready 1 = .ok (.iconst 1, 1) := by decide +kernel
theorem d_E_ready_2 : decode b_E_ready 2 = .ok (.invokestatic 64, 3) := by decide +kernel
theorem d_E_ready_5 : decode b_E_ready 5 = .ok (.ifCond .ne 5, 3) := by decide +kernel
theorem d_E_ready_8 : decode b_E_ready 8 = .ok (.iconst (-1), 1) := by decide +kernel
theorem d_E_ready_9 : decode b_E_ready 9 = .ok (.ireturn, 1) := by decide +kernel
theorem d_E_ready_10 : decode b_E_ready 10 = .ok (.aload_n 0, 1) := by decide +kernel
theorem d_E_ready_11 : decode b_E_ready 11 = .ok (.invokevirtual 72, 3) := by decide +kernel
theorem d_E_ready_14 : decode b_E_ready 14 = .ok (.iconst 0, 1) := by decide +kernel
theorem d_E_ready_15 : decode b_E_ready 15 = .ok (.istore_n 2, 1) := by decide +kernel
theorem d_E_ready_16 : decode b_E_ready 16 = .ok (.iconst 0, 1) := by decide +kernel
theorem d_E_ready_17 : decode b_E_ready 17 = .ok (.istore_n 3, 1) := by decide +kernel
theorem d_E_ready_18 : decode b_E_ready 18 = .ok (.iload_n 3, 1) := by decide +kernel
theorem d_E_ready_19 : decode b_E_ready 19 = .ok (.aload_n 0, 1) := by decide +kernel
theorem d_E_ready_20 : decode b_E_ready 20 = .ok (.getfield 23, 3) := by decide +kernel
theorem d_E_ready_23 : decode b_E_ready 23 = .ok (.getfield 68, 3) := by decide +kernel
theorem d_E_ready_26 : decode b_E_ready 26 = .ok (.if_icmp .ge 32, 3) := by decide +kernel
theorem d_E_ready_29 : decode b_E_ready 29 = .ok (.aload_n 0, 1) := by decide +kernel
theorem d_E_ready_30 : decode b_E_ready 30 = .ok (.getfield 23, 3) := by decide +kernel
theorem d_E_ready_33 : decode b_E_ready 33 = .ok (.aload_n 0, 1) := by decide +kernel
theorem d_E_ready_34 : decode b_E_ready 34 = .ok (.getfield 23, 3) := by decide +kernel
theorem d_E_ready_37 : decode b_E_ready 37 = .ok (.getfield 103, 3) := by decide +kernel
theorem d_E_ready_40 : decode b_E_ready 40 = .ok (.iload_n 3, 1) := by decide +kernel
theorem d_E_ready_41 : decode b_E_ready 41 = .ok (.iaload, 1) := by decide +kernel
theorem d_E_ready_42 : decode b_E_ready 42 = .ok (.iload_n 1, 1) := by decide +kernel
theorem d_E_ready_43 : decode b_E_ready 43 = .ok (.invokevirtual 106, 3) := by decide +kernel
theorem d_E_ready_46 : decode b_E_ready 46 = .ok (.ifCond .eq 6, 3) := by decide +kernel
theorem d_E_ready_49 : decode b_E_ready 49 = .ok (.iinc 2 1, 3) := by decide +kernel
theorem d_E_ready_52 : decode b_E_ready 52 = .ok (.iinc 3 1, 3) := by decide +kernel
theorem d_E_ready_55 : decode b_E_ready 55 = .ok (.goto (-37), 3) := by decide +kernel
theorem d_E_ready_58 : decode b_E_ready 58 = .ok (.iload_n 2, 1) := by decide +kernel
theorem d_E_ready_59 : decode b_E_ready 59 = .ok (.ireturn, 1) := by decide +kernel
abbrev rm_E_requestOf : Room := { frames := 2, cells := 0, slots := 0, locals := 42 }
theorem good_E_requestOf : GoodIn TB (.code y_E_requestOf b_E_requestOf 2 (some .int) :: TB) := good_of tb_337
theorem hd_E_requestOf : y_E_requestOf.cls ≠ "java/lang/invoke/MethodHandle" ∧ y_E_requestOf.cls ≠ "java/lang/invoke/VarHandle" ∧ (parseMethodDescriptor y_E_requestOf.desc).map (fun d => d.parameters.length) = some 1 := by decide +kernel
theorem d_E_requestOf_0 : decode b_E_requestOf 0 = .ok (.aload_n 0, 1) := by decide +kernel
theorem d_E_requestOf_1 : decode b_E_requestOf 1 = .ok (.getfield 16, 3) := by decide +kernel
theorem d_E_requestOf_4 : decode b_E_requestOf 4 = .ok (.iload_n 1, 1) := by decide +kernel
theorem d_E_requestOf_5 : decode b_E_requestOf 5 = .ok (.invokevirtual 109, 3) := by decide +kernel
theorem d_E_requestOf_8 : decode b_E_requestOf 8 = .ok (.ifCond .eq 15, 3) := by decide +kernel
theorem d_E_requestOf_11 : decode b_E_requestOf 11 = .ok (.aload_n 0, 1) := by decide +kernel
theorem d_E_requestOf_12 : decode b_E_requestOf 12 = .ok (.getfield 16, 3) := by decide +kernel
theorem d_E_requestOf_15 : decode b_E_requestOf 15 = .ok (.getfield 112, 3) := by decide +kernel
theorem d_E_requestOf_18 : decode b_E_requestOf 18 = .ok (.iload_n 1, 1) := by decide +kernel
theorem d_E_requestOf_19 : decode b_E_requestOf 19 = .ok (.iaload, 1) := by decide +kernel
theorem d_E_requestOf_20 : decode b_E_requestOf 20 = .ok (.goto 4, 3) := by decide +kernel
theorem d_E_requestOf_23 : decode b_E_requestOf 23 = .ok (.iconst (-1), 1) := by decide +kernel
theorem d_E_requestOf_24 : decode b_E_requestOf 24 = .ok (.ireturn, 1) := by decide +kernel
abbrev rm_E_about : Room := { frames := 2, cells := 0, slots := 0, locals := 42 }
theorem good_E_about : GoodIn TB (.code y_E_about b_E_about 4 (some .int) :: TB) := good_of tb_346
theorem hd_E_about : y_E_about.cls ≠ "java/lang/invoke/MethodHandle" ∧ y_E_about.cls ≠ "java/lang/invoke/VarHandle" ∧ (parseMethodDescriptor y_E_about.desc).map (fun d => d.parameters.length) = some 2 := by decide +kernel
theorem d_E_about_0 : decode b_E_about 0 = .ok (.aload_n 0, 1) := by decide +kernel
theorem d_E_about_1 : decode b_E_about 1 = .ok (.getfield 16, 3) := by decide +kernel
theorem d_E_about_4 : decode b_E_about 4 = .ok (.iload_n 1, 1) := by decide +kernel
theorem d_E_about_5 : decode b_E_about 5 = .ok (.invokevirtual 109, 3) := by decide +kernel
theorem d_E_about_8 : decode b_E_about 8 = .ok (.ifCond .ne 5, 3) := by decide +kernel
theorem d_E_about_11 : decode b_E_about 11 = .ok (.iconst (-1), 1) := by decide +kernel
theorem d_E_about_12 : decode b_E_about 12 = .ok (.ireturn, 1) := by decide +kernel
theorem d_E_about_13 : decode b_E_about 13 = .ok (.aload_n 0, 1) := by decide +kernel
theorem d_E_about_14 : decode b_E_about 14 = .ok (.getfield 16, 3) := by decide +kernel
theorem d_E_about_17 : decode b_E_about 17 = .ok (.getfield 112, 3) := by decide +kernel
theorem d_E_about_20 : decode b_E_about 20 = .ok (.iload_n 1, 1) := by decide +kernel
theorem d_E_about_21 : decode b_E_about 21 = .ok (.iaload, 1) := by decide +kernel
theorem d_E_about_22 : decode b_E_about 22 = .ok (.istore_n 3, 1) := by decide +kernel
theorem d_E_about_23 : decode b_E_about 23 = .ok (.iload_n 2, 1) := by decide +kernel
theorem d_E_about_24 : decode b_E_about 24 = .ok (.tableswitch 86 0 4 #[36, 46, 56, 66, 76], 36) := by decide +kernel
theorem d_E_about_60 : decode b_E_about 60 = .ok (.aload_n 0, 1) := by decide +kernel
theorem d_E_about_61 : decode b_E_about 61 = .ok (.getfield 23, 3) := by decide +kernel
theorem d_E_about_64 : decode b_E_about 64 = .ok (.getfield 115, 3) := by decide +kernel
theorem d_E_about_67 : decode b_E_about 67 = .ok (.iload_n 3, 1) := by decide +kernel
theorem d_E_about_68 : decode b_E_about 68 = .ok (.iaload, 1) := by decide +kernel
theorem d_E_about_69 : decode b_E_about 69 = .ok (.ireturn, 1) := by decide +kernel
theorem d_E_about_70 : decode b_E_about 70 = .ok (.aload_n 0, 1) := by decide +kernel
theorem d_E_about_71 : decode b_E_about 71 = .ok (.getfield 23, 3) := by decide +kernel
theorem d_E_about_74 : decode b_E_about 74 = .ok (.getfield 118, 3) := by decide +kernel
theorem d_E_about_77 : decode b_E_about 77 = .ok (.iload_n 3, 1) := by decide +kernel
theorem d_E_about_78 : decode b_E_about 78 = .ok (.iaload, 1) := by decide +kernel
theorem d_E_about_79 : decode b_E_about 79 = .ok (.ireturn, 1) := by decide +kernel
theorem d_E_about_80 : decode b_E_about 80 = .ok (.aload_n 0, 1) := by decide +kernel
theorem d_E_about_81 : decode b_E_about 81 = .ok (.getfield 23, 3) := by decide +kernel
theorem d_E_about_84 : decode b_E_about 84 = .ok (.getfield 119, 3) := by decide +kernel
theorem d_E_about_87 : decode b_E_about 87 = .ok (.iload_n 3, 1) := by decide +kernel
theorem d_E_about_88 : decode b_E_about 88 = .ok (.iaload, 1) := by decide +kernel
theorem d_E_about_89 : decode b_E_about 89 = .ok (.ireturn, 1) := by decide +kernel
theorem d_E_about_90 : decode b_E_about 90 = .ok (.aload_n 0, 1) := by decide +kernel
theorem d_E_about_91 : decode b_E_about 91 = .ok (.getfield 23, 3) := by decide +kernel
theorem d_E_about_94 : decode b_E_about 94 = .ok (.getfield 122, 3) := by decide +kernel
theorem d_E_about_97 : decode b_E_about 97 = .ok (.iload_n 3, 1) := by decide +kernel
theorem d_E_about_98 : decode b_E_about 98 = .ok (.iaload, 1) := by decide +kernel
theorem d_E_about_99 : decode b_E_about 99 = .ok (.ireturn, 1) := by decide +kernel
theorem d_E_about_100 : decode b_E_about 100 = .ok (.aload_n 0, 1) := by decide +kernel
theorem d_E_about_101 : decode b_E_about 101 = .ok (.getfield 23, 3) := by decide +kernel
theorem d_E_about_104 : decode b_E_about 104 = .ok (.getfield 102, 3) := by decide +kernel
theorem d_E_about_107 : decode b_E_about 107 = .ok (.iload_n 3, 1) := by decide +kernel
theorem d_E_about_108 : decode b_E_about 108 = .ok (.iaload, 1) := by decide +kernel
theorem d_E_about_109 : decode b_E_about 109 = .ok (.ireturn, 1) := by decide +kernel
theorem d_E_about_110 : decode b_E_about 110 = .ok (.iconst (-1), 1) := by decide +kernel
theorem d_E_about_111 : decode b_E_about 111 = .ok (.ireturn, 1) := by decide +kernel
abbrev rm_E_latest : Room := { frames := 0, cells := 0, slots := 0, locals := 0 }
theorem good_E_latest : GoodIn TB (.code y_E_latest b_E_latest 1 (some .int) :: TB) := good_of tb_350
theorem hd_E_latest : y_E_latest.cls ≠ "java/lang/invoke/MethodHandle" ∧ y_E_latest.cls ≠ "java/lang/invoke/VarHandle" ∧ (parseMethodDescriptor y_E_latest.desc).map (fun d => d.parameters.length) = some 0 := by decide +kernel
theorem d_E_latest_0 : decode b_E_latest 0 = .ok (.aload_n 0, 1) := by decide +kernel
theorem d_E_latest_1 : decode b_E_latest 1 = .ok (.getfield 57, 3) := by decide +kernel
theorem d_E_latest_4 : decode b_E_latest 4 = .ok (.ireturn, 1) := by decide +kernel
abbrev rm_E_head : Room := { frames := 0, cells := 0, slots := 0, locals := 0 }
theorem good_E_head : GoodIn TB (.code y_E_head b_E_head 1 (some .int) :: TB) := good_of tb_354
theorem hd_E_head : y_E_head.cls ≠ "java/lang/invoke/MethodHandle" ∧ y_E_head.cls ≠ "java/lang/invoke/VarHandle" ∧ (parseMethodDescriptor y_E_head.desc).map (fun d => d.parameters.length) = some 0 := by decide +kernel
theorem d_E_head_0 : decode b_E_head 0 = .ok (.aload_n 0, 1) := by decide +kernel
theorem d_E_head_1 : decode b_E_head 1 = .ok (.getfield 54, 3) := by decide +kernel
theorem d_E_head_4 : decode b_E_head 4 = .ok (.ireturn, 1) := by decide +kernel
abbrev rm_E_now : Room := { frames := 0, cells := 0, slots := 0, locals := 0 }
theorem good_E_now : GoodIn TB (.code y_E_now b_E_now 1 (some .int) :: TB) := good_of tb_358
theorem hd_E_now : y_E_now.cls ≠ "java/lang/invoke/MethodHandle" ∧ y_E_now.cls ≠ "java/lang/invoke/VarHandle" ∧ (parseMethodDescriptor y_E_now.desc).map (fun d => d.parameters.length) = some 0 := by decide +kernel
theorem d_E_now_0 : decode b_E_now 0 = .ok (.aload_n 0, 1) := by decide +kernel
theorem d_E_now_1 : decode b_E_now 1 = .ok (.getfield 51, 3) := by decide +kernel
theorem d_E_now_4 : decode b_E_now 4 = .ok (.ireturn, 1) := by decide +kernel
abbrev rm_E_batch : Room := { frames := 0, cells := 0, slots := 0, locals := 0 }
theorem good_E_batch : GoodIn TB (.code y_E_batch b_E_batch 1 (some .int) :: TB) := good_of tb_362
theorem hd_E_batch : y_E_batch.cls ≠ "java/lang/invoke/MethodHandle" ∧ y_E_batch.cls ≠ "java/lang/invoke/VarHandle" ∧ (parseMethodDescriptor y_E_batch.desc).map (fun d => d.parameters.length) = some 0 := by decide +kernel
theorem d_E_batch_0 : decode b_E_batch 0 = .ok (.bipush 10, 2) := by decide +kernel
theorem d_E_batch_2 : decode b_E_batch 2 = .ok (.aload_n 0, 1) := by decide +kernel
theorem d_E_batch_3 : decode b_E_batch 3 = .ok (.getfield 37, 3) := by decide +kernel
theorem d_E_batch_6 : decode b_E_batch 6 = .ok (.getfield 125, 3) := by decide +kernel
theorem d_E_batch_9 : decode b_E_batch 9 = .ok (.imul, 1) := by decide +kernel
theorem d_E_batch_10 : decode b_E_batch 10 = .ok (.iconst 5, 1) := by decide +kernel
theorem d_E_batch_11 : decode b_E_batch 11 = .ok (.aload_n 0, 1) := by decide +kernel
theorem d_E_batch_12 : decode b_E_batch 12 = .ok (.getfield 37, 3) := by decide +kernel
theorem d_E_batch_15 : decode b_E_batch 15 = .ok (.getfield 128, 3) := by decide +kernel
theorem d_E_batch_18 : decode b_E_batch 18 = .ok (.imul, 1) := by decide +kernel
theorem d_E_batch_19 : decode b_E_batch 19 = .ok (.iadd, 1) := by decide +kernel
theorem d_E_batch_20 : decode b_E_batch 20 = .ok (.aload_n 0, 1) := by decide +kernel
theorem d_E_batch_21 : decode b_E_batch 21 = .ok (.getfield 37, 3) := by decide +kernel
theorem d_E_batch_24 : decode b_E_batch 24 = .ok (.getfield 130, 3) := by decide +kernel
theorem d_E_batch_27 : decode b_E_batch 27 = .ok (.iadd, 1) := by decide +kernel
theorem d_E_batch_28 : decode b_E_batch 28 = .ok (.ireturn, 1) := by decide +kernel
abbrev rm_M_waits : Room := { frames := 0, cells := 0, slots := 0, locals := 0 }
theorem good_M_waits : GoodIn TB (.code y_M_waits b_M_waits 2 (some .boolean) :: TB) := good_of tb_442
theorem hd_M_waits : y_M_waits.cls ≠ "java/lang/invoke/MethodHandle" ∧ y_M_waits.cls ≠ "java/lang/invoke/VarHandle" ∧ (parseMethodDescriptor y_M_waits.desc).map (fun d => d.parameters.length) = some 1 := by decide +kernel
theorem d_M_waits_0 : decode b_M_waits 0 = .ok (.aload_n 0, 1) := by decide +kernel
theorem d_M_waits_1 : decode b_M_waits 1 = .ok (.getfield 28, 3) := by decide +kernel
theorem d_M_waits_4 : decode b_M_waits 4 = .ok (.iload_n 1, 1) := by decide +kernel
theorem d_M_waits_5 : decode b_M_waits 5 = .ok (.iaload, 1) := by decide +kernel
theorem d_M_waits_6 : decode b_M_waits 6 = .ok (.iconst 1, 1) := by decide +kernel
theorem d_M_waits_7 : decode b_M_waits 7 = .ok (.if_icmp .ne 17, 3) := by decide +kernel
theorem d_M_waits_10 : decode b_M_waits 10 = .ok (.aload_n 0, 1) := by decide +kernel
theorem d_M_waits_11 : decode b_M_waits 11 = .ok (.getfield 25, 3) := by decide +kernel
theorem d_M_waits_14 : decode b_M_waits 14 = .ok (.iload_n 1, 1) := by decide +kernel
theorem d_M_waits_15 : decode b_M_waits 15 = .ok (.iaload, 1) := by decide +kernel
theorem d_M_waits_16 : decode b_M_waits 16 = .ok (.iload_n 1, 1) := by decide +kernel
theorem d_M_waits_17 : decode b_M_waits 17 = .ok (.if_icmp .ne 7, 3) := by decide +kernel
theorem d_M_waits_20 : decode b_M_waits 20 = .ok (.iconst 1, 1) := by decide +kernel
theorem d_M_waits_21 : decode b_M_waits 21 = .ok (.goto 4, 3) := by decide +kernel
theorem d_M_waits_24 : decode b_M_waits 24 = .ok (.iconst 0, 1) := by decide +kernel
theorem d_M_waits_25 : decode b_M_waits 25 = .ok (.ireturn, 1) := by decide +kernel
abbrev rm_M_start : Room := { frames := 0, cells := 0, slots := 0, locals := 0 }
theorem good_M_start : GoodIn TB (.code y_M_start b_M_start 4 (some .int) :: TB) := good_of tb_462
theorem hd_M_start : y_M_start.cls ≠ "java/lang/invoke/MethodHandle" ∧ y_M_start.cls ≠ "java/lang/invoke/VarHandle" ∧ (parseMethodDescriptor y_M_start.desc).map (fun d => d.parameters.length) = some 1 := by decide +kernel
theorem d_M_start_0 : decode b_M_start 0 = .ok (.bipush 64, 2) := by decide +kernel
theorem d_M_start_2 : decode b_M_start 2 = .ok (.istore_n 2, 1) := by decide +kernel
theorem d_M_start_3 : decode b_M_start 3 = .ok (.iconst 0, 1) := by decide +kernel
theorem d_M_start_4 : decode b_M_start 4 = .ok (.istore_n 3, 1) := by decide +kernel
theorem d_M_start_5 : decode b_M_start 5 = .ok (.iload_n 3, 1) := by decide +kernel
theorem d_M_start_6 : decode b_M_start 6 = .ok (.aload_n 0, 1) := by decide +kernel
theorem d_M_start_7 : decode b_M_start 7 = .ok (.getfield 47, 3) := by decide +kernel
theorem d_M_start_10 : decode b_M_start 10 = .ok (.if_icmp .ge 36, 3) := by decide +kernel
theorem d_M_start_13 : decode b_M_start 13 = .ok (.aload_n 0, 1) := by decide +kernel
theorem d_M_start_14 : decode b_M_start 14 = .ok (.getfield 25, 3) := by decide +kernel
theorem d_M_start_17 : decode b_M_start 17 = .ok (.iload_n 3, 1) := by decide +kernel
theorem d_M_start_18 : decode b_M_start 18 = .ok (.iaload, 1) := by decide +kernel
theorem d_M_start_19 : decode b_M_start 19 = .ok (.iload_n 1, 1) := by decide +kernel
theorem d_M_start_20 : decode b_M_start 20 = .ok (.if_icmp .ne 20, 3) := by decide +kernel
theorem d_M_start_23 : decode b_M_start 23 = .ok (.aload_n 0, 1) := by decide +kernel
theorem d_M_start_24 : decode b_M_start 24 = .ok (.getfield 16, 3) := by decide +kernel
theorem d_M_start_27 : decode b_M_start 27 = .ok (.iload_n 3, 1) := by decide +kernel
theorem d_M_start_28 : decode b_M_start 28 = .ok (.iaload, 1) := by decide +kernel
theorem d_M_start_29 : decode b_M_start 29 = .ok (.iload_n 2, 1) := by decide +kernel
theorem d_M_start_30 : decode b_M_start 30 = .ok (.if_icmp .ge 10, 3) := by decide +kernel
theorem d_M_start_33 : decode b_M_start 33 = .ok (.aload_n 0, 1) := by decide +kernel
theorem d_M_start_34 : decode b_M_start 34 = .ok (.getfield 16, 3) := by decide +kernel
theorem d_M_start_37 : decode b_M_start 37 = .ok (.iload_n 3, 1) := by decide +kernel
theorem d_M_start_38 : decode b_M_start 38 = .ok (.iaload, 1) := by decide +kernel
theorem d_M_start_39 : decode b_M_start 39 = .ok (.istore_n 2, 1) := by decide +kernel
theorem d_M_start_40 : decode b_M_start 40 = .ok (.iinc 3 1, 3) := by decide +kernel
theorem d_M_start_43 : decode b_M_start 43 = .ok (.goto (-38), 3) := by decide +kernel
theorem d_M_start_46 : decode b_M_start 46 = .ok (.iload_n 2, 1) := by decide +kernel
theorem d_M_start_47 : decode b_M_start 47 = .ok (.ireturn, 1) := by decide +kernel
abbrev rm_M_length : Room := { frames := 0, cells := 0, slots := 0, locals := 0 }
theorem good_M_length : GoodIn TB (.code y_M_length b_M_length 4 (some .int) :: TB) := good_of tb_458
theorem hd_M_length : y_M_length.cls ≠ "java/lang/invoke/MethodHandle" ∧ y_M_length.cls ≠ "java/lang/invoke/VarHandle" ∧ (parseMethodDescriptor y_M_length.desc).map (fun d => d.parameters.length) = some 1 := by decide +kernel
theorem d_M_length_0 : decode b_M_length 0 = .ok (.iconst 0, 1) := by decide +kernel
theorem d_M_length_1 : decode b_M_length 1 = .ok (.istore_n 2, 1) := by decide +kernel
theorem d_M_length_2 : decode b_M_length 2 = .ok (.iconst 0, 1) := by decide +kernel
theorem d_M_length_3 : decode b_M_length 3 = .ok (.istore_n 3, 1) := by decide +kernel
theorem d_M_length_4 : decode b_M_length 4 = .ok (.iload_n 3, 1) := by decide +kernel
theorem d_M_length_5 : decode b_M_length 5 = .ok (.aload_n 0, 1) := by decide +kernel
theorem d_M_length_6 : decode b_M_length 6 = .ok (.getfield 47, 3) := by decide +kernel
theorem d_M_length_9 : decode b_M_length 9 = .ok (.if_icmp .ge 32, 3) := by decide +kernel
theorem d_M_length_12 : decode b_M_length 12 = .ok (.aload_n 0, 1) := by decide +kernel
theorem d_M_length_13 : decode b_M_length 13 = .ok (.getfield 25, 3) := by decide +kernel
theorem d_M_length_16 : decode b_M_length 16 = .ok (.iload_n 3, 1) := by decide +kernel
theorem d_M_length_17 : decode b_M_length 17 = .ok (.iaload, 1) := by decide +kernel
theorem d_M_length_18 : decode b_M_length 18 = .ok (.iload_n 1, 1) := by decide +kernel
theorem d_M_length_19 : decode b_M_length 19 = .ok (.if_icmp .ne 14, 3) := by decide +kernel
theorem d_M_length_22 : decode b_M_length 22 = .ok (.iload_n 2, 1) := by decide +kernel
theorem d_M_length_23 : decode b_M_length 23 = .ok (.aload_n 0, 1) := by decide +kernel
theorem d_M_length_24 : decode b_M_length 24 = .ok (.getfield 19, 3) := by decide +kernel
theorem d_M_length_27 : decode b_M_length 27 = .ok (.iload_n 3, 1) := by decide +kernel
theorem d_M_length_28 : decode b_M_length 28 = .ok (.iaload, 1) := by decide +kernel
theorem d_M_length_29 : decode b_M_length 29 = .ok (.iadd, 1) := by decide +kernel
theorem d_M_length_30 : decode b_M_length 30 = .ok (.goto 4, 3) := by decide +kernel
theorem d_M_length_33 : decode b_M_length 33 = .ok (.iload_n 2, 1) := by decide +kernel
theorem d_M_length_34 : decode b_M_length 34 = .ok (.istore_n 2, 1) := by decide +kernel
theorem d_M_length_35 : decode b_M_length 35 = .ok (.iinc 3 1, 3) := by decide +kernel
theorem d_M_length_38 : decode b_M_length 38 = .ok (.goto (-34), 3) := by decide +kernel
theorem d_M_length_41 : decode b_M_length 41 = .ok (.iload_n 2, 1) := by decide +kernel
theorem d_M_length_42 : decode b_M_length 42 = .ok (.ireturn, 1) := by decide +kernel
abbrev rm_M_members : Room := { frames := 0, cells := 0, slots := 0, locals := 0 }
theorem good_M_members : GoodIn TB (.code y_M_members b_M_members 4 (some .int) :: TB) := good_of tb_454
theorem hd_M_members : y_M_members.cls ≠ "java/lang/invoke/MethodHandle" ∧ y_M_members.cls ≠ "java/lang/invoke/VarHandle" ∧ (parseMethodDescriptor y_M_members.desc).map (fun d => d.parameters.length) = some 1 := by decide +kernel
theorem d_M_members_0 : decode b_M_members 0 = .ok (.iconst 0, 1) := by decide +kernel
theorem d_M_members_1 : decode b_M_members 1 = .ok (.istore_n 2, 1) := by decide +kernel
theorem d_M_members_2 : decode b_M_members 2 = .ok (.iconst 0, 1) := by decide +kernel
theorem d_M_members_3 : decode b_M_members 3 = .ok (.istore_n 3, 1) := by decide +kernel
theorem d_M_members_4 : decode b_M_members 4 = .ok (.iload_n 3, 1) := by decide +kernel
theorem d_M_members_5 : decode b_M_members 5 = .ok (.aload_n 0, 1) := by decide +kernel
theorem d_M_members_6 : decode b_M_members 6 = .ok (.getfield 47, 3) := by decide +kernel
theorem d_M_members_9 : decode b_M_members 9 = .ok (.if_icmp .ge 27, 3) := by decide +kernel
theorem d_M_members_12 : decode b_M_members 12 = .ok (.aload_n 0, 1) := by decide +kernel
theorem d_M_members_13 : decode b_M_members 13 = .ok (.getfield 25, 3) := by decide +kernel
theorem d_M_members_16 : decode b_M_members 16 = .ok (.iload_n 3, 1) := by decide +kernel
theorem d_M_members_17 : decode b_M_members 17 = .ok (.iaload, 1) := by decide +kernel
theorem d_M_members_18 : decode b_M_members 18 = .ok (.iload_n 1, 1) := by decide +kernel
theorem d_M_members_19 : decode b_M_members 19 = .ok (.if_icmp .ne 9, 3) := by decide +kernel
theorem d_M_members_22 : decode b_M_members 22 = .ok (.iload_n 2, 1) := by decide +kernel
theorem d_M_members_23 : decode b_M_members 23 = .ok (.iconst 1, 1) := by decide +kernel
theorem d_M_members_24 : decode b_M_members 24 = .ok (.iadd, 1) := by decide +kernel
theorem d_M_members_25 : decode b_M_members 25 = .ok (.goto 4, 3) := by decide +kernel
theorem d_M_members_28 : decode b_M_members 28 = .ok (.iload_n 2, 1) := by decide +kernel
theorem d_M_members_29 : decode b_M_members 29 = .ok (.istore_n 2, 1) := by decide +kernel
theorem d_M_members_30 : decode b_M_members 30 = .ok (.iinc 3 1, 3) := by decide +kernel
theorem d_M_members_33 : decode b_M_members 33 = .ok (.goto (-29), 3) := by decide +kernel
theorem d_M_members_36 : decode b_M_members 36 = .ok (.iload_n 2, 1) := by decide +kernel
theorem d_M_members_37 : decode b_M_members 37 = .ok (.ireturn, 1) := by decide +kernel
abbrev rm_M_conflict : Room := { frames := 0, cells := 0, slots := 0, locals := 0 }
theorem good_M_conflict : GoodIn TB (.code y_M_conflict b_M_conflict 3 (some .boolean) :: TB) := good_of tb_450
theorem hd_M_conflict : y_M_conflict.cls ≠ "java/lang/invoke/MethodHandle" ∧ y_M_conflict.cls ≠ "java/lang/invoke/VarHandle" ∧ (parseMethodDescriptor y_M_conflict.desc).map (fun d => d.parameters.length) = some 2 := by decide +kernel
theorem d_M_conflict_0 : decode b_M_conflict 0 = .ok (.aload_n 0, 1) := by decide +kernel
theorem d_M_conflict_1 : decode b_M_conflict 1 = .ok (.getfield 13, 3) := by decide +kernel
theorem d_M_conflict_4 : decode b_M_conflict 4 = .ok (.iload_n 1, 1) := by decide +kernel
theorem d_M_conflict_5 : decode b_M_conflict 5 = .ok (.iaload, 1) := by decide +kernel
theorem d_M_conflict_6 : decode b_M_conflict 6 = .ok (.iconst 1, 1) := by decide +kernel
theorem d_M_conflict_7 : decode b_M_conflict 7 = .ok (.if_icmp .eq 13, 3) := by decide +kernel
theorem d_M_conflict_10 : decode b_M_conflict 10 = .ok (.aload_n 0, 1) := by decide +kernel
theorem d_M_conflict_11 : decode b_M_conflict 11 = .ok (.getfield 13, 3) := by decide +kernel
theorem d_M_conflict_14 : decode b_M_conflict 14 = .ok (.iload_n 2, 1) := by decide +kernel
theorem d_M_conflict_15 : decode b_M_conflict 15 = .ok (.iaload, 1) := by decide +kernel
theorem d_M_conflict_16 : decode b_M_conflict 16 = .ok (.iconst 1, 1) := by decide +kernel
theorem d_M_conflict_17 : decode b_M_conflict 17 = .ok (.if_icmp .ne 51, 3) := by decide +kernel
theorem d_M_conflict_20 : decode b_M_conflict 20 = .ok (.aload_n 0, 1) := by decide +kernel
theorem d_M_conflict_21 : decode b_M_conflict 21 = .ok (.getfield 16, 3) := by decide +kernel
theorem d_M_conflict_24 : decode b_M_conflict 24 = .ok (.iload_n 1, 1) := by decide +kernel
theorem d_M_conflict_25 : decode b_M_conflict 25 = .ok (.iaload, 1) := by decide +kernel
theorem d_M_conflict_26 : decode b_M_conflict 26 = .ok (.aload_n 0, 1) := by decide +kernel
theorem d_M_conflict_27 : decode b_M_conflict 27 = .ok (.getfield 16, 3) := by decide +kernel
theorem d_M_conflict_30 : decode b_M_conflict 30 = .ok (.iload_n 2, 1) := by decide +kernel
theorem d_M_conflict_31 : decode b_M_conflict 31 = .ok (.iaload, 1) := by decide +kernel
theorem d_M_conflict_32 : decode b_M_conflict 32 = .ok (.aload_n 0, 1) := by decide +kernel
theorem d_M_conflict_33 : decode b_M_conflict 33 = .ok (.getfield 19, 3) := by decide +kernel
theorem d_M_conflict_36 : decode b_M_conflict 36 = .ok (.iload_n 2, 1) := by decide +kernel
theorem d_M_conflict_37 : decode b_M_conflict 37 = .ok (.iaload, 1) := by decide +kernel
theorem d_M_conflict_38 : decode b_M_conflict 38 = .ok (.iadd, 1) := by decide +kernel
theorem d_M_conflict_39 : decode b_M_conflict 39 = .ok (.if_icmp .ge 29, 3) := by decide +kernel
theorem d_M_conflict_42 : decode b_M_conflict 42 = .ok (.aload_n 0, 1) := by decide +kernel
theorem d_M_conflict_43 : decode b_M_conflict 43 = .ok (.getfield 16, 3) := by decide +kernel
theorem d_M_conflict_46 : decode b_M_conflict 46 = .ok (.iload_n 2, 1) := by decide +kernel
theorem d_M_conflict_47 : decode b_M_conflict 47 = .ok (.iaload, 1) := by decide +kernel
theorem d_M_conflict_48 : decode b_M_conflict 48 = .ok (.aload_n 0, 1) := by decide +kernel
theorem d_M_conflict_49 : decode b_M_conflict 49 = .ok (.getfield 16, 3) := by decide +kernel
theorem d_M_conflict_52 : decode b_M_conflict 52 = .ok (.iload_n 1, 1) := by decide +kernel
theorem d_M_conflict_53 : decode b_M_conflict 53 = .ok (.iaload, 1) := by decide +kernel
theorem d_M_conflict_54 : decode b_M_conflict 54 = .ok (.aload_n 0, 1) := by decide +kernel
theorem d_M_conflict_55 : decode b_M_conflict 55 = .ok (.getfield 19, 3) := by decide +kernel
theorem d_M_conflict_58 : decode b_M_conflict 58 = .ok (.iload_n 1, 1) := by decide +kernel
theorem d_M_conflict_59 : decode b_M_conflict 59 = .ok (.iaload, 1) := by decide +kernel
theorem d_M_conflict_60 : decode b_M_conflict 60 = .ok (.iadd, 1) := by decide +kernel
theorem d_M_conflict_61 : decode b_M_conflict 61 = .ok (.if_icmp .ge 7, 3) := by decide +kernel
theorem d_M_conflict_64 : decode b_M_conflict 64 = .ok (.iconst 1, 1) := by decide +kernel
theorem d_M_conflict_65 : decode b_M_conflict 65 = .ok (.goto 4, 3) := by decide +kernel
theorem d_M_conflict_68 : decode b_M_conflict 68 = .ok (.iconst 0, 1) := by decide +kernel
theorem d_M_conflict_69 : decode b_M_conflict 69 = .ok (.ireturn, 1) := by decide +kernel
abbrev rm_M_isReady : Room := { frames := 1, cells := 0, slots := 0, locals := 22 }
theorem good_M_isReady : GoodIn TB (.code y_M_isReady b_M_isReady 4 (some .boolean) :: TB) := good_of tb_491
theorem hd_M_isReady : y_M_isReady.cls ≠ "java/lang/invoke/MethodHandle" ∧ y_M_isReady.cls ≠ "java/lang/invoke/VarHandle" ∧ (parseMethodDescriptor y_M_isReady.desc).map (fun d => d.parameters.length) = some 1 := by decide +kernel
theorem d_M_isReady_0 : decode b_M_isReady 0 = .ok (.aload_n 0, 1) := by decide +kernel
theorem d_M_isReady_1 : decode b_M_isReady 1 = .ok (.iload_n 1, 1) := by decide +kernel
theorem d_M_isReady_2 : decode b_M_isReady 2 = .ok (.invokevirtual 50, 3) := by decide +kernel
theorem d_M_isReady_5 : decode b_M_isReady 5 = .ok (.ifCond .ne 5, 3) := by decide +kernel
theorem d_M_isReady_8 : decode b_M_isReady 8 = .ok (.iconst 0, 1) := by decide +kernel
theorem d_M_isReady_9 : decode b_M_isReady 9 = .ok (.ireturn, 1) := by decide +kernel
theorem d_M_isReady_10 : decode b_M_isReady 10 = .ok (.iconst 0, 1) := by decide +kernel
theorem d_M_isReady_11 : decode b_M_isReady 11 = .ok (.istore_n 2, 1) := by decide +kernel
theorem d_M_isReady_12 : decode b_M_isReady 12 = .ok (.iload_n 2, 1) := by decide +kernel
theorem d_M_isReady_13 : decode b_M_isReady 13 = .ok (.aload_n 0, 1) := by decide +kernel
theorem d_M_isReady_14 : decode b_M_isReady 14 = .ok (.getfield 47, 3) := by decide +kernel
theorem d_M_isReady_17 : decode b_M_isReady 17 = .ok (.if_icmp .ge 90, 3) := by decide +kernel
theorem d_M_isReady_20 : decode b_M_isReady 20 = .ok (.aload_n 0, 1) := by decide +kernel
theorem d_M_isReady_21 : decode b_M_isReady 21 = .ok (.getfield 28, 3) := by decide +kernel
theorem d_M_isReady_24 : decode b_M_isReady 24 = .ok (.iload_n 2, 1) := by decide +kernel
theorem d_M_isReady_25 : decode b_M_isReady 25 = .ok (.iaload, 1) := by decide +kernel
theorem d_M_isReady_26 : decode b_M_isReady 26 = .ok (.iconst 1, 1) := by decide +kernel
theorem d_M_isReady_27 : decode b_M_isReady 27 = .ok (.if_icmp .ne 74, 3) := by decide +kernel
theorem d_M_isReady_30 : decode b_M_isReady 30 = .ok (.aload_n 0, 1) := by decide +kernel
theorem d_M_isReady_31 : decode b_M_isReady 31 = .ok (.getfield 25, 3) := by decide +kernel
theorem d_M_isReady_34 : decode b_M_isReady 34 = .ok (.iload_n 2, 1) := by decide +kernel
theorem d_M_isReady_35 : decode b_M_isReady 35 = .ok (.iaload, 1) := by decide +kernel
theorem d_M_isReady_36 : decode b_M_isReady 36 = .ok (.iload_n 1, 1) := by decide +kernel
theorem d_M_isReady_37 : decode b_M_isReady 37 = .ok (.if_icmp .eq 64, 3) := by decide +kernel
theorem d_M_isReady_40 : decode b_M_isReady 40 = .ok (.aload_n 0, 1) := by decide +kernel
theorem d_M_isReady_41 : decode b_M_isReady 41 = .ok (.getfield 37, 3) := by decide +kernel
theorem d_M_isReady_44 : decode b_M_isReady 44 = .ok (.aload_n 0, 1) := by decide +kernel
theorem d_M_isReady_45 : decode b_M_isReady 45 = .ok (.getfield 25, 3) := by decide +kernel
theorem d_M_isReady_48 : decode b_M_isReady 48 = .ok (.iload_n 2, 1) := by decide +kernel
theorem d_M_isReady_49 : decode b_M_isReady 49 = .ok (.iaload, 1) := by decide +kernel
theorem d_M_isReady_50 : decode b_M_isReady 50 = .ok (.iaload, 1) := by decide +kernel
theorem d_M_isReady_51 : decode b_M_isReady 51 = .ok (.aload_n 0, 1) := by decide +kernel
theorem d_M_isReady_52 : decode b_M_isReady 52 = .ok (.getfield 37, 3) := by decide +kernel
theorem d_M_isReady_55 : decode b_M_isReady 55 = .ok (.iload_n 1, 1) := by decide +kernel
theorem d_M_isReady_56 : decode b_M_isReady 56 = .ok (.iaload, 1) := by decide +kernel
theorem d_M_isReady_57 : decode b_M_isReady 57 = .ok (.if_icmp .ge 5, 3) := by decide +kernel
theorem d_M_isReady_60 : decode b_M_isReady 60 = .ok (.iconst 0, 1) := by decide +kernel
theorem d_M_isReady_61 : decode b_M_isReady 61 = .ok (.ireturn, 1) := by decide +kernel
theorem d_M_isReady_62 : decode b_M_isReady 62 = .ok (.iload_n 2, 1) := by decide +kernel
theorem d_M_isReady_63 : decode b_M_isReady 63 = .ok (.iconst 1, 1) := by decide +kernel
theorem d_M_isReady_64 : decode b_M_isReady 64 = .ok (.iadd, 1) := by decide +kernel
theorem d_M_isReady_65 : decode b_M_isReady 65 = .ok (.istore_n 3, 1) := by decide +kernel
theorem d_M_isReady_66 : decode b_M_isReady 66 = .ok (.iload_n 3, 1) := by decide +kernel
theorem d_M_isReady_67 : decode b_M_isReady 67 = .ok (.aload_n 0, 1) := by decide +kernel
theorem d_M_isReady_68 : decode b_M_isReady 68 = .ok (.getfield 47, 3) := by decide +kernel
theorem d_M_isReady_71 : decode b_M_isReady 71 = .ok (.if_icmp .ge 30, 3) := by decide +kernel
theorem d_M_isReady_74 : decode b_M_isReady 74 = .ok (.aload_n 0, 1) := by decide +kernel
theorem d_M_isReady_75 : decode b_M_isReady 75 = .ok (.getfield 25, 3) := by decide +kernel
theorem d_M_isReady_78 : decode b_M_isReady 78 = .ok (.iload_n 3, 1) := by decide +kernel
theorem d_M_isReady_79 : decode b_M_isReady 79 = .ok (.iaload, 1) := by decide +kernel
theorem d_M_isReady_80 : decode b_M_isReady 80 = .ok (.iload_n 1, 1) := by decide +kernel
theorem d_M_isReady_81 : decode b_M_isReady 81 = .ok (.if_icmp .ne 14, 3) := by decide +kernel
theorem d_M_isReady_84 : decode b_M_isReady 84 = .ok (.aload_n 0, 1) := by decide +kernel
theorem d_M_isReady_85 : decode b_M_isReady 85 = .ok (.iload_n 3, 1) := by decide +kernel
theorem d_M_isReady_86 : decode b_M_isReady 86 = .ok (.iload_n 2, 1) := by decide +kernel
theorem d_M_isReady_87 : decode b_M_isReady 87 = .ok (.invokevirtual 54, 3) := by decide +kernel
theorem d_M_isReady_90 : decode b_M_isReady 90 = .ok (.ifCond .eq 5, 3) := by decide +kernel
theorem d_M_isReady_93 : decode b_M_isReady 93 = .ok (.iconst 0, 1) := by decide +kernel
theorem d_M_isReady_94 : decode b_M_isReady 94 = .ok (.ireturn, 1) := by decide +kernel
theorem d_M_isReady_95 : decode b_M_isReady 95 = .ok (.iinc 3 1, 3) := by decide +kernel
theorem d_M_isReady_98 : decode b_M_isReady 98 = .ok (.goto (-32), 3) := by decide +kernel
theorem d_M_isReady_101 : decode b_M_isReady 101 = .ok (.iinc 2 1, 3) := by decide +kernel
theorem d_M_isReady_104 : decode b_M_isReady 104 = .ok (.goto (-92), 3) := by decide +kernel
theorem d_M_isReady_107 : decode b_M_isReady 107 = .ok (.iconst 1, 1) := by decide +kernel
theorem d_M_isReady_108 : decode b_M_isReady 108 = .ok (.ireturn, 1) := by decide +kernel
abbrev rm_M_joined : Room := { frames := 1, cells := 0, slots := 0, locals := 23 }
theorem good_M_joined : GoodIn TB (.code y_M_joined b_M_joined 5 (some .int) :: TB) := good_of tb_446
theorem hd_M_joined : y_M_joined.cls ≠ "java/lang/invoke/MethodHandle" ∧ y_M_joined.cls ≠ "java/lang/invoke/VarHandle" ∧ (parseMethodDescriptor y_M_joined.desc).map (fun d => d.parameters.length) = some 1 := by decide +kernel
theorem d_M_joined_0 : decode b_M_joined 0 = .ok (.iconst 0, 1) := by decide +kernel
theorem d_M_joined_1 : decode b_M_joined 1 = .ok (.istore_n 2, 1) := by decide +kernel
theorem d_M_joined_2 : decode b_M_joined 2 = .ok (.iload_n 2, 1) := by decide +kernel
theorem d_M_joined_3 : decode b_M_joined 3 = .ok (.iload_n 1, 1) := by decide +kernel
theorem d_M_joined_4 : decode b_M_joined 4 = .ok (.if_icmp .ge 30, 3) := by decide +kernel
theorem d_M_joined_7 : decode b_M_joined 7 = .ok (.aload_n 0, 1) := by decide +kernel
theorem d_M_joined_8 : decode b_M_joined 8 = .ok (.getfield 28, 3) := by decide +kernel
theorem d_M_joined_11 : decode b_M_joined 11 = .ok (.iload_n 2, 1) := by decide +kernel
theorem d_M_joined_12 : decode b_M_joined 12 = .ok (.iaload, 1) := by decide +kernel
theorem d_M_joined_13 : decode b_M_joined 13 = .ok (.iconst 1, 1) := by decide +kernel
theorem d_M_joined_14 : decode b_M_joined 14 = .ok (.if_icmp .ne 14, 3) := by decide +kernel
theorem d_M_joined_17 : decode b_M_joined 17 = .ok (.aload_n 0, 1) := by decide +kernel
theorem d_M_joined_18 : decode b_M_joined 18 = .ok (.iload_n 1, 1) := by decide +kernel
theorem d_M_joined_19 : decode b_M_joined 19 = .ok (.iload_n 2, 1) := by decide +kernel
theorem d_M_joined_20 : decode b_M_joined 20 = .ok (.invokevirtual 54, 3) := by decide +kernel
theorem d_M_joined_23 : decode b_M_joined 23 = .ok (.ifCond .eq 5, 3) := by decide +kernel
theorem d_M_joined_26 : decode b_M_joined 26 = .ok (.iload_n 1, 1) := by decide +kernel
theorem d_M_joined_27 : decode b_M_joined 27 = .ok (.ireturn, 1) := by decide +kernel
theorem d_M_joined_28 : decode b_M_joined 28 = .ok (.iinc 2 1, 3) := by decide +kernel
theorem d_M_joined_31 : decode b_M_joined 31 = .ok (.goto (-29), 3) := by decide +kernel
theorem d_M_joined_34 : decode b_M_joined 34 = .ok (.iconst 0, 1) := by decide +kernel
theorem d_M_joined_35 : decode b_M_joined 35 = .ok (.istore_n 2, 1) := by decide +kernel
theorem d_M_joined_36 : decode b_M_joined 36 = .ok (.iload_n 2, 1) := by decide +kernel
theorem d_M_joined_37 : decode b_M_joined 37 = .ok (.iconst 2, 1) := by decide +kernel
theorem d_M_joined_38 : decode b_M_joined 38 = .ok (.if_icmp .ge 151, 3) := by decide +kernel
theorem d_M_joined_41 : decode b_M_joined 41 = .ok (.iconst 0, 1) := by decide +kernel
theorem d_M_joined_42 : decode b_M_joined 42 = .ok (.istore_n 3, 1) := by decide +kernel
theorem d_M_joined_43 : decode b_M_joined 43 = .ok (.iload_n 3, 1) := by decide +kernel
theorem d_M_joined_44 : decode b_M_joined 44 = .ok (.iload_n 1, 1) := by decide +kernel
theorem d_M_joined_45 : decode b_M_joined 45 = .ok (.if_icmp .ge 138, 3) := by decide +kernel
theorem d_M_joined_48 : decode b_M_joined 48 = .ok (.aload_n 0, 1) := by decide +kernel
theorem d_M_joined_49 : decode b_M_joined 49 = .ok (.iload_n 3, 1) := by decide +kernel
theorem d_M_joined_50 : decode b_M_joined 50 = .ok (.invokevirtual 50, 3) := by decide +kernel
theorem d_M_joined_53 : decode b_M_joined 53 = .ok (.ifCond .eq 124, 3) := by decide +kernel
theorem d_M_joined_56 : decode b_M_joined 56 = .ok (.aload_n 0, 1) := by decide +kernel
theorem d_M_joined_57 : decode b_M_joined 57 = .ok (.getfield 13, 3) := by decide +kernel
theorem d_M_joined_60 : decode b_M_joined 60 = .ok (.iload_n 3, 1) := by decide +kernel
theorem d_M_joined_61 : decode b_M_joined 61 = .ok (.iaload, 1) := by decide +kernel
theorem d_M_joined_62 : decode b_M_joined 62 = .ok (.aload_n 0, 1) := by decide +kernel
theorem d_M_joined_63 : decode b_M_joined 63 = .ok (.getfield 13, 3) := by decide +kernel
theorem d_M_joined_66 : decode b_M_joined 66 = .ok (.iload_n 1, 1) := by decide +kernel
theorem d_M_joined_67 : decode b_M_joined 67 = .ok (.iaload, 1) := by decide +kernel
theorem d_M_joined_68 : decode b_M_joined 68 = .ok (.if_icmp .ne 109, 3) := by decide +kernel
theorem d_M_joined_71 : decode b_M_joined 71 = .ok (.aload_n 0, 1) := by decide +kernel
theorem d_M_joined_72 : decode b_M_joined 72 = .ok (.getfield 37, 3) := by decide +kernel
theorem d_M_joined_75 : decode b_M_joined 75 = .ok (.iload_n 3, 1) := by decide +kernel
theorem d_M_joined_76 : decode b_M_joined 76 = .ok (.iaload, 1) := by decide +kernel
theorem d_M_joined_77 : decode b_M_joined 77 = .ok (.aload_n 0, 1) := by decide +kernel
theorem d_M_joined_78 : decode b_M_joined 78 = .ok (.getfield 58, 3) := by decide +kernel
theorem d_M_joined_81 : decode b_M_joined 81 = .ok (.if_icmp .ne 96, 3) := by decide +kernel
theorem d_M_joined_84 : decode b_M_joined 84 = .ok (.aload_n 0, 1) := by decide +kernel
theorem d_M_joined_85 : decode b_M_joined 85 = .ok (.iload_n 3, 1) := by decide +kernel
theorem d_M_joined_86 : decode b_M_joined 86 = .ok (.invokevirtual 61, 3) := by decide +kernel
theorem d_M_joined_89 : decode b_M_joined 89 = .ok (.iconst 4, 1) := by decide +kernel
theorem d_M_joined_90 : decode b_M_joined 90 = .ok (.if_icmp .ge 87, 3) := by decide +kernel
theorem d_M_joined_93 : decode b_M_joined 93 = .ok (.aload_n 0, 1) := by decide +kernel
theorem d_M_joined_94 : decode b_M_joined 94 = .ok (.iload_n 3, 1) := by decide +kernel
theorem d_M_joined_95 : decode b_M_joined 95 = .ok (.invokevirtual 65, 3) := by decide +kernel
theorem d_M_joined_98 : decode b_M_joined 98 = .ok (.aload_n 0, 1) := by decide +kernel
theorem d_M_joined_99 : decode b_M_joined 99 = .ok (.getfield 19, 3) := by decide +kernel
theorem d_M_joined_102 : decode b_M_joined 102 = .ok (.iload_n 1, 1) := by decide +kernel
theorem d_M_joined_103 : decode b_M_joined 103 = .ok (.iaload, 1) := by decide +kernel
theorem d_M_joined_104 : decode b_M_joined 104 = .ok (.iadd, 1) := by decide +kernel
theorem d_M_joined_105 : decode b_M_joined 105 = .ok (.bipush 16, 2) := by decide +kernel
theorem d_M_joined_107 : decode b_M_joined 107 = .ok (.if_icmp .gt 70, 3) := by decide +kernel
theorem d_M_joined_110 : decode b_M_joined 110 = .ok (.iload_n 2, 1) := by decide +kernel
theorem d_M_joined_111 : decode b_M_joined 111 = .ok (.ifCond .ne 31, 3) := by decide +kernel
theorem d_M_joined_114 : decode b_M_joined 114 = .ok (.aload_n 0, 1) := by decide +kernel
theorem d_M_joined_115 : decode b_M_joined 115 = .ok (.iload_n 3, 1) := by decide +kernel
theorem d_M_joined_116 : decode b_M_joined 116 = .ok (.invokevirtual 68, 3) := by decide +kernel
theorem d_M_joined_119 : decode b_M_joined 119 = .ok (.aload_n 0, 1) := by decide +kernel
theorem d_M_joined_120 : decode b_M_joined 120 = .ok (.iload_n 3, 1) := by decide +kernel
theorem d_M_joined_121 : decode b_M_joined 121 = .ok (.invokevirtual 65, 3) := by decide +kernel
theorem d_M_joined_124 : decode b_M_joined 124 = .ok (.iadd, 1) := by decide +kernel
theorem d_M_joined_125 : decode b_M_joined 125 = .ok (.aload_n 0, 1) := by decide +kernel
theorem d_M_joined_126 : decode b_M_joined 126 = .ok (.getfield 16, 3) := by decide +kernel
theorem d_M_joined_129 : decode b_M_joined 129 = .ok (.iload_n 1, 1) := by decide +kernel
theorem d_M_joined_130 : decode b_M_joined 130 = .ok (.iaload, 1) := by decide +kernel
theorem d_M_joined_131 : decode b_M_joined 131 = .ok (.if_icmp .ne 7, 3) := by decide +kernel
theorem d_M_joined_134 : decode b_M_joined 134 = .ok (.iconst 1, 1) := by decide +kernel
theorem d_M_joined_135 : decode b_M_joined 135 = .ok (.goto 33, 3) := by decide +kernel
theorem d_M_joined_138 : decode b_M_joined 138 = .ok (.iconst 0, 1) := by decide +kernel
theorem d_M_joined_139 : decode b_M_joined 139 = .ok (.goto 29, 3) := by decide +kernel
theorem d_M_joined_142 : decode b_M_joined 142 = .ok (.aload_n 0, 1) := by decide +kernel
theorem d_M_joined_143 : decode b_M_joined 143 = .ok (.iload_n 3, 1) := by decide +kernel
theorem d_M_joined_144 : decode b_M_joined 144 = .ok (.invokevirtual 68, 3) := by decide +kernel
theorem d_M_joined_147 : decode b_M_joined 147 = .ok (.aload_n 0, 1) := by decide +kernel
theorem d_M_joined_148 : decode b_M_joined 148 = .ok (.getfield 16, 3) := by decide +kernel
theorem d_M_joined_151 : decode b_M_joined 151 = .ok (.iload_n 1, 1) := by decide +kernel
theorem d_M_joined_152 : decode b_M_joined 152 = .ok (.iaload, 1) := by decide +kernel
theorem d_M_joined_153 : decode b_M_joined 153 = .ok (.aload_n 0, 1) := by decide +kernel
theorem d_M_joined_154 : decode b_M_joined 154 = .ok (.getfield 19, 3) := by decide +kernel
theorem d_M_joined_157 : decode b_M_joined 157 = .ok (.iload_n 1, 1) := by decide +kernel
theorem d_M_joined_158 : decode b_M_joined 158 = .ok (.iaload, 1) := by decide +kernel
theorem d_M_joined_159 : decode b_M_joined 159 = .ok (.iadd, 1) := by decide +kernel
theorem d_M_joined_160 : decode b_M_joined 160 = .ok (.if_icmp .ne 7, 3) := by decide +kernel
theorem d_M_joined_163 : decode b_M_joined 163 = .ok (.iconst 1, 1) := by decide +kernel
theorem d_M_joined_164 : decode b_M_joined 164 = .ok (.goto 4, 3) := by decide +kernel
theorem d_M_joined_167 : decode b_M_joined 167 = .ok (.iconst 0, 1) := by decide +kernel
theorem d_M_joined_168 : decode b_M_joined 168 = .ok (.istore 4, 2) := by decide +kernel
theorem d_M_joined_170 : decode b_M_joined 170 = .ok (.iload 4, 2) := by decide +kernel
theorem d_M_joined_172 : decode b_M_joined 172 = .ok (.ifCond .eq 5, 3) := by decide +kernel
theorem d_M_joined_175 : decode b_M_joined 175 = .ok (.iload_n 3, 1) := by decide +kernel
theorem d_M_joined_176 : decode b_M_joined 176 = .ok (.ireturn, 1) := by decide +kernel
theorem d_M_joined_177 : decode b_M_joined 177 = .ok (.iinc 3 1, 3) := by decide +kernel
theorem d_M_joined_180 : decode b_M_joined 180 = .ok (.goto (-137), 3) := by decide +kernel
theorem d_M_joined_183 : decode b_M_joined 183 = .ok (.iinc 2 1, 3) := by decide +kernel
theorem d_M_joined_186 : decode b_M_joined 186 = .ok (.goto (-150), 3) := by decide +kernel
theorem d_M_joined_189 : decode b_M_joined 189 = .ok (.iload_n 1, 1) := by decide +kernel
theorem d_M_joined_190 : decode b_M_joined 190 = .ok (.ireturn, 1) := by decide +kernel
abbrev rm_M_waiting : Room := { frames := 1, cells := 0, slots := 0, locals := 21 }
theorem good_M_waiting : GoodIn TB (.code y_M_waiting b_M_waiting 4 (some .int) :: TB) := good_of tb_438
theorem hd_M_waiting : y_M_waiting.cls ≠ "java/lang/invoke/MethodHandle" ∧ y_M_waiting.cls ≠ "java/lang/invoke/VarHandle" ∧ (parseMethodDescriptor y_M_waiting.desc).map (fun d => d.parameters.length) = some 1 := by decide +kernel
theorem d_M_waiting_0 : decode b_M_waiting 0 = .ok (.iconst 0, 1) := by decide +kernel
theorem d_M_waiting_1 : decode b_M_waiting 1 = .ok (.istore_n 2, 1) := by decide +kernel
theorem d_M_waiting_2 : decode b_M_waiting 2 = .ok (.iconst 0, 1) := by decide +kernel
theorem d_M_waiting_3 : decode b_M_waiting 3 = .ok (.istore_n 3, 1) := by decide +kernel
theorem d_M_waiting_4 : decode b_M_waiting 4 = .ok (.iload_n 3, 1) := by decide +kernel
theorem d_M_waiting_5 : decode b_M_waiting 5 = .ok (.aload_n 0, 1) := by decide +kernel
theorem d_M_waiting_6 : decode b_M_waiting 6 = .ok (.getfield 47, 3) := by decide +kernel
theorem d_M_waiting_9 : decode b_M_waiting 9 = .ok (.if_icmp .ge 35, 3) := by decide +kernel
theorem d_M_waiting_12 : decode b_M_waiting 12 = .ok (.aload_n 0, 1) := by decide +kernel
theorem d_M_waiting_13 : decode b_M_waiting 13 = .ok (.iload_n 3, 1) := by decide +kernel
theorem d_M_waiting_14 : decode b_M_waiting 14 = .ok (.invokevirtual 50, 3) := by decide +kernel
theorem d_M_waiting_17 : decode b_M_waiting 17 = .ok (.ifCond .eq 19, 3) := by decide +kernel
theorem d_M_waiting_20 : decode b_M_waiting 20 = .ok (.aload_n 0, 1) := by decide +kernel
theorem d_M_waiting_21 : decode b_M_waiting 21 = .ok (.getfield 13, 3) := by decide +kernel
theorem d_M_waiting_24 : decode b_M_waiting 24 = .ok (.iload_n 3, 1) := by decide +kernel
theorem d_M_waiting_25 : decode b_M_waiting 25 = .ok (.iaload, 1) := by decide +kernel
theorem d_M_waiting_26 : decode b_M_waiting 26 = .ok (.iload_n 1, 1) := by decide +kernel
theorem d_M_waiting_27 : decode b_M_waiting 27 = .ok (.if_icmp .ne 9, 3) := by decide +kernel
theorem d_M_waiting_30 : decode b_M_waiting 30 = .ok (.iload_n 2, 1) := by decide +kernel
theorem d_M_waiting_31 : decode b_M_waiting 31 = .ok (.iconst 1, 1) := by decide +kernel
theorem d_M_waiting_32 : decode b_M_waiting 32 = .ok (.iadd, 1) := by decide +kernel
theorem d_M_waiting_33 : decode b_M_waiting 33 = .ok (.goto 4, 3) := by decide +kernel
theorem d_M_waiting_36 : decode b_M_waiting 36 = .ok (.iload_n 2, 1) := by decide +kernel
theorem d_M_waiting_37 : decode b_M_waiting 37 = .ok (.istore_n 2, 1) := by decide +kernel
theorem d_M_waiting_38 : decode b_M_waiting 38 = .ok (.iinc 3 1, 3) := by decide +kernel
theorem d_M_waiting_41 : decode b_M_waiting 41 = .ok (.goto (-37), 3) := by decide +kernel
theorem d_M_waiting_44 : decode b_M_waiting 44 = .ok (.iload_n 1, 1) := by decide +kernel
theorem d_M_waiting_45 : decode b_M_waiting 45 = .ok (.ifCond .lt 8, 3) := by decide +kernel
theorem d_M_waiting_48 : decode b_M_waiting 48 = .ok (.iload_n 1, 1) := by decide +kernel
theorem d_M_waiting_49 : decode b_M_waiting 49 = .ok (.iconst 1, 1) := by decide +kernel
theorem d_M_waiting_50 : decode b_M_waiting 50 = .ok (.if_icmp .le 7, 3) := by decide +kernel
theorem d_M_waiting_53 : decode b_M_waiting 53 = .ok (.iconst (-1), 1) := by decide +kernel
theorem d_M_waiting_54 : decode b_M_waiting 54 = .ok (.goto 4, 3) := by decide +kernel
theorem d_M_waiting_57 : decode b_M_waiting 57 = .ok (.iload_n 2, 1) := by decide +kernel
theorem d_M_waiting_58 : decode b_M_waiting 58 = .ok (.ireturn, 1) := by decide +kernel
end
section
abbrev rm_M_come : Room := { frames := 2, cells := 0, slots := 0, locals := 47 }
theorem good_M_come : GoodIn TB (.code y_M_come b_M_come 7 (some .int) :: TB) := good_of tb_434
theorem hd_M_come : y_M_come.cls ≠ "java/lang/invoke/MethodHandle" ∧ y_M_come.cls ≠ "java/lang/invoke/VarHandle" ∧ (parseMethodDescriptor y_M_come.desc).map (fun d => d.parameters.length) = some 4 := by decide +kernel
theorem d_M_come_0 : decode b_M_come 0 = .ok (.iload_n 3, 1) := by decide +kernel
theorem d_M_come_1 : decode b_M_come 1 = .ok (.iconst 1, 1) := by decide +kernel
theorem d_M_come_2 : decode b_M_come 2 = .ok (.if_icmp .lt 21, 3) := by decide +kernel
theorem d_M_come_5 : decode b_M_come 5 = .ok (.iload_n 3, 1) := by decide +kernel
theorem d_M_come_6 : decode b_M_come 6 = .ok (.bipush 8, 2) := by decide +kernel
theorem d_M_come_8 : decode b_M_come 8 = .ok (.if_icmp .gt 15, 3) := by decide +kernel
theorem d_M_come_11 : decode b_M_come 11 = .ok (.iload_n 2, 1) := by decide +kernel
theorem d_M_come_12 : decode b_M_come 12 = .ok (.ifCond .lt 11, 3) := by decide +kernel
theorem d_M_come_15 : decode b_M_come 15 = .ok (.iload_n 2, 1) := by decide +kernel
theorem d_M_come_16 : decode b_M_come 16 = .ok (.bipush 64, 2) := by decide +kernel
theorem d_M_come_18 : decode b_M_come 18 = .ok (.iload_n 3, 1) := by decide +kernel
theorem d_M_come_19 : decode b_M_come 19 = .ok (.isub, 1) := by decide +kernel
theorem d_M_come_20 : decode b_M_come 20 = .ok (.if_icmp .le 5, 3) := by decide +kernel
theorem d_M_come_23 : decode b_M_come 23 = .ok (.iconst (-1), 1) := by decide +kernel
theorem d_M_come_24 : decode b_M_come 24 = .ok (.ireturn, 1) := by decide +kernel
theorem d_M_come_25 : decode b_M_come 25 = .ok (.aload_n 0, 1) := by decide +kernel
theorem d_M_come_26 : decode b_M_come 26 = .ok (.getfield 47, 3) := by decide +kernel
theorem d_M_come_29 : decode b_M_come 29 = .ok (.sipush 200, 3) := by decide +kernel
theorem d_M_come_32 : decode b_M_come 32 = .ok (.if_icmp .eq 19, 3) := by decide +kernel
theorem d_M_come_35 : decode b_M_come 35 = .ok (.aload_n 0, 1) := by decide +kernel
theorem d_M_come_36 : decode b_M_come 36 = .ok (.iconst 0, 1) := by decide +kernel
theorem d_M_come_37 : decode b_M_come 37 = .ok (.invokevirtual 71, 3) := by decide +kernel
theorem d_M_come_40 : decode b_M_come 40 = .ok (.aload_n 0, 1) := by decide +kernel
theorem d_M_come_41 : decode b_M_come 41 = .ok (.iconst 1, 1) := by decide +kernel
theorem d_M_come_42 : decode b_M_come 42 = .ok (.invokevirtual 71, 3) := by decide +kernel
theorem d_M_come_45 : decode b_M_come 45 = .ok (.iadd, 1) := by decide +kernel
theorem d_M_come_46 : decode b_M_come 46 = .ok (.bipush 24, 2) := by decide +kernel
theorem d_M_come_48 : decode b_M_come 48 = .ok (.if_icmp .ne 6, 3) := by decide +kernel
theorem d_M_come_51 : decode b_M_come 51 = .ok (.bipush (-2), 2) := by decide +kernel
theorem d_M_come_53 : decode b_M_come 53 = .ok (.ireturn, 1) := by decide +kernel
theorem d_M_come_54 : decode b_M_come 54 = .ok (.aload_n 0, 1) := by decide +kernel
theorem d_M_come_55 : decode b_M_come 55 = .ok (.getfield 47, 3) := by decide +kernel
theorem d_M_come_58 : decode b_M_come 58 = .ok (.istore 5, 2) := by decide +kernel
theorem d_M_come_60 : decode b_M_come 60 = .ok (.aload_n 0, 1) := by decide +kernel
theorem d_M_come_61 : decode b_M_come 61 = .ok (.getfield 13, 3) := by decide +kernel
theorem d_M_come_64 : decode b_M_come 64 = .ok (.iload 5, 2) := by decide +kernel
theorem d_M_come_66 : decode b_M_come 66 = .ok (.iload_n 1, 1) := by decide +kernel
theorem d_M_come_67 : decode b_M_come 67 = .ok (.iastore, 1) := by decide +kernel
theorem d_M_come_68 : decode b_M_come 68 = .ok (.aload_n 0, 1) := by decide +kernel
theorem d_M_come_69 : decode b_M_come 69 = .ok (.getfield 16, 3) := by decide +kernel
theorem d_M_come_72 : decode b_M_come 72 = .ok (.iload 5, 2) := by decide +kernel
theorem d_M_come_74 : decode b_M_come 74 = .ok (.iload_n 2, 1) := by decide +kernel
theorem d_M_come_75 : decode b_M_come 75 = .ok (.iastore, 1) := by decide +kernel
theorem d_M_come_76 : decode b_M_come 76 = .ok (.aload_n 0, 1) := by decide +kernel
theorem d_M_come_77 : decode b_M_come 77 = .ok (.getfield 19, 3) := by decide +kernel
theorem d_M_come_80 : decode b_M_come 80 = .ok (.iload 5, 2) := by decide +kernel
theorem d_M_come_82 : decode b_M_come 82 = .ok (.iload_n 3, 1) := by decide +kernel
theorem d_M_come_83 : decode b_M_come 83 = .ok (.iastore, 1) := by decide +kernel
theorem d_M_come_84 : decode b_M_come 84 = .ok (.aload_n 0, 1) := by decide +kernel
theorem d_M_come_85 : decode b_M_come 85 = .ok (.getfield 22, 3) := by decide +kernel
theorem d_M_come_88 : decode b_M_come 88 = .ok (.iload 5, 2) := by decide +kernel
theorem d_M_come_90 : decode b_M_come 90 = .ok (.iload 4, 2) := by decide +kernel
theorem d_M_come_92 : decode b_M_come 92 = .ok (.iastore, 1) := by decide +kernel
theorem d_M_come_93 : decode b_M_come 93 = .ok (.aload_n 0, 1) := by decide +kernel
theorem d_M_come_94 : decode b_M_come 94 = .ok (.iload 5, 2) := by decide +kernel
theorem d_M_come_96 : decode b_M_come 96 = .ok (.invokevirtual 74, 3) := by decide +kernel
theorem d_M_come_99 : decode b_M_come 99 = .ok (.istore 6, 2) := by decide +kernel
theorem d_M_come_101 : decode b_M_come 101 = .ok (.aload_n 0, 1) := by decide +kernel
theorem d_M_come_102 : decode b_M_come 102 = .ok (.aload_n 0, 1) := by decide +kernel
theorem d_M_come_103 : decode b_M_come 103 = .ok (.getfield 47, 3) := by decide +kernel
theorem d_M_come_106 : decode b_M_come 106 = .ok (.iconst 1, 1) := by decide +kernel
theorem d_M_come_107 : decode b_M_come 107 = .ok (.iadd, 1) := by decide +kernel
theorem d_M_come_108 : decode b_M_come 108 = .ok (.putfield 47, 3) := by decide +kernel
theorem d_M_come_111 : decode b_M_come 111 = .ok (.aload_n 0, 1) := by decide +kernel
theorem d_M_come_112 : decode b_M_come 112 = .ok (.getfield 25, 3) := by decide +kernel
theorem d_M_come_115 : decode b_M_come 115 = .ok (.iload 5, 2) := by decide +kernel
theorem d_M_come_117 : decode b_M_come 117 = .ok (.iload 6, 2) := by decide +kernel
theorem d_M_come_119 : decode b_M_come 119 = .ok (.iastore, 1) := by decide +kernel
theorem d_M_come_120 : decode b_M_come 120 = .ok (.aload_n 0, 1) := by decide +kernel
theorem d_M_come_121 : decode b_M_come 121 = .ok (.getfield 28, 3) := by decide +kernel
theorem d_M_come_124 : decode b_M_come 124 = .ok (.iload 5, 2) := by decide +kernel
theorem d_M_come_126 : decode b_M_come 126 = .ok (.iconst 1, 1) := by decide +kernel
theorem d_M_come_127 : decode b_M_come 127 = .ok (.iastore, 1) := by decide +kernel
theorem d_M_come_128 : decode b_M_come 128 = .ok (.iload 6, 2) := by decide +kernel
theorem d_M_come_130 : decode b_M_come 130 = .ok (.iload 5, 2) := by decide +kernel
theorem d_M_come_132 : decode b_M_come 132 = .ok (.if_icmp .ne 32, 3) := by decide +kernel
theorem d_M_come_135 : decode b_M_come 135 = .ok (.aload_n 0, 1) := by decide +kernel
theorem d_M_come_136 : decode b_M_come 136 = .ok (.getfield 34, 3) := by decide +kernel
theorem d_M_come_139 : decode b_M_come 139 = .ok (.iload 5, 2) := by decide +kernel
theorem d_M_come_141 : decode b_M_come 141 = .ok (.aload_n 0, 1) := by decide +kernel
theorem d_M_come_142 : decode b_M_come 142 = .ok (.getfield 77, 3) := by decide +kernel
theorem d_M_come_145 : decode b_M_come 145 = .ok (.aload_n 0, 1) := by decide +kernel
theorem d_M_come_146 : decode b_M_come 146 = .ok (.getfield 40, 3) := by decide +kernel
theorem d_M_come_149 : decode b_M_come 149 = .ok (.iload_n 1, 1) := by decide +kernel
theorem d_M_come_150 : decode b_M_come 150 = .ok (.iaload, 1) := by decide +kernel
theorem d_M_come_151 : decode b_M_come 151 = .ok (.iadd, 1) := by decide +kernel
theorem d_M_come_152 : decode b_M_come 152 = .ok (.iastore, 1) := by decide +kernel
theorem d_M_come_153 : decode b_M_come 153 = .ok (.aload_n 0, 1) := by decide +kernel
theorem d_M_come_154 : decode b_M_come 154 = .ok (.getfield 37, 3) := by decide +kernel
theorem d_M_come_157 : decode b_M_come 157 = .ok (.iload 5, 2) := by decide +kernel
theorem d_M_come_159 : decode b_M_come 159 = .ok (.aload_n 0, 1) := by decide +kernel
theorem d_M_come_160 : decode b_M_come 160 = .ok (.getfield 58, 3) := by decide +kernel
theorem d_M_come_163 : decode b_M_come 163 = .ok (.iastore, 1) := by decide +kernel
theorem d_M_come_164 : decode b_M_come 164 = .ok (.iload 5, 2) := by decide +kernel
theorem d_M_come_166 : decode b_M_come 166 = .ok (.ireturn, 1) := by decide +kernel
abbrev rm_M_read : Room := { frames := 3, cells := 0, slots := 0, locals := 73 }
theorem good_M_read : GoodIn TB (.code y_M_read b_M_read 3 (some .int) :: TB) := good_of tb_430
theorem hd_M_read : y_M_read.cls ≠ "java/lang/invoke/MethodHandle" ∧ y_M_read.cls ≠ "java/lang/invoke/VarHandle" ∧ (parseMethodDescriptor y_M_read.desc).map (fun d => d.parameters.length) = some 2 := by decide +kernel
theorem d_M_read_0 : decode b_M_read 0 = .ok (.aload_n 0, 1) := by decide +kernel
theorem d_M_read_1 : decode b_M_read 1 = .ok (.iconst 0, 1) := by decide +kernel
theorem d_M_read_2 : decode b_M_read 2 = .ok (.iload_n 1, 1) := by decide +kernel
theorem d_M_read_3 : decode b_M_read 3 = .ok (.iload_n 2, 1) := by decide +kernel
theorem d_M_read_4 : decode b_M_read 4 = .ok (.iconst 0, 1) := by decide +kernel
theorem d_M_read_5 : decode b_M_read 5 = .ok (.invokevirtual 80, 3) := by decide +kernel
theorem d_M_read_8 : decode b_M_read 8 = .ok (.ireturn, 1) := by decide +kernel
abbrev rm_M_write : Room := { frames := 3, cells := 0, slots := 0, locals := 73 }
theorem good_M_write : GoodIn TB (.code y_M_write b_M_write 4 (some .int) :: TB) := good_of tb_466
theorem hd_M_write : y_M_write.cls ≠ "java/lang/invoke/MethodHandle" ∧ y_M_write.cls ≠ "java/lang/invoke/VarHandle" ∧ (parseMethodDescriptor y_M_write.desc).map (fun d => d.parameters.length) = some 3 := by decide +kernel
theorem d_M_write_0 : decode b_M_write 0 = .ok (.aload_n 0, 1) := by decide +kernel
theorem d_M_write_1 : decode b_M_write 1 = .ok (.iconst 1, 1) := by decide +kernel
theorem d_M_write_2 : decode b_M_write 2 = .ok (.iload_n 1, 1) := by decide +kernel
theorem d_M_write_3 : decode b_M_write 3 = .ok (.iload_n 2, 1) := by decide +kernel
theorem d_M_write_4 : decode b_M_write 4 = .ok (.iload_n 3, 1) := by decide +kernel
theorem d_M_write_5 : decode b_M_write 5 = .ok (.invokevirtual 80, 3) := by decide +kernel
theorem d_M_write_8 : decode b_M_write 8 = .ok (.ireturn, 1) := by decide +kernel
abbrev rm_M_barrier : Room := { frames := 0, cells := 0, slots := 0, locals := 0 }
theorem good_M_barrier : GoodIn TB (.code y_M_barrier b_M_barrier 1 (some .int) :: TB) := good_of tb_470
theorem hd_M_barrier : y_M_barrier.cls ≠ "java/lang/invoke/MethodHandle" ∧ y_M_barrier.cls ≠ "java/lang/invoke/VarHandle" ∧ (parseMethodDescriptor y_M_barrier.desc).map (fun d => d.parameters.length) = some 0 := by decide +kernel
theorem d_M_barrier_0 : decode b_M_barrier 0 = .ok (.aload_n 0, 1) := by decide +kernel
theorem d_M_barrier_1 : decode b_M_barrier 1 = .ok (.aload_n 0, 1) := by decide +kernel
theorem d_M_barrier_2 : decode b_M_barrier 2 = .ok (.getfield 58, 3) := by decide +kernel
theorem d_M_barrier_5 : decode b_M_barrier 5 = .ok (.iconst 1, 1) := by decide +kernel
theorem d_M_barrier_6 : decode b_M_barrier 6 = .ok (.iadd, 1) := by decide +kernel
theorem d_M_barrier_7 : decode b_M_barrier 7 = .ok (.putfield 58, 3) := by decide +kernel
theorem d_M_barrier_10 : decode b_M_barrier 10 = .ok (.aload_n 0, 1) := by decide +kernel
theorem d_M_barrier_11 : decode b_M_barrier 11 = .ok (.getfield 58, 3) := by decide +kernel
theorem d_M_barrier_14 : decode b_M_barrier 14 = .ok (.ireturn, 1) := by decide +kernel
abbrev rm_M_expire : Room := { frames := 2, cells := 0, slots := 0, locals := 44 }
theorem good_M_expire : GoodIn TB (.code y_M_expire b_M_expire 3 (some .boolean) :: TB) := good_of tb_474
theorem hd_M_expire : y_M_expire.cls ≠ "java/lang/invoke/MethodHandle" ∧ y_M_expire.cls ≠ "java/lang/invoke/VarHandle" ∧ (parseMethodDescriptor y_M_expire.desc).map (fun d => d.parameters.length) = some 2 := by decide +kernel
theorem d_M_expire_0 : decode b_M_expire 0 = .ok (.aload_n 0, 1) := by decide +kernel
theorem d_M_expire_1 : decode b_M_expire 1 = .ok (.iconst 0, 1) := by decide +kernel
theorem d_M_expire_2 : decode b_M_expire 2 = .ok (.invokevirtual 71, 3) := by decide +kernel
theorem d_M_expire_5 : decode b_M_expire 5 = .ok (.aload_n 0, 1) := by decide +kernel
theorem d_M_expire_6 : decode b_M_expire 6 = .ok (.iconst 1, 1) := by decide +kernel
theorem d_M_expire_7 : decode b_M_expire 7 = .ok (.invokevirtual 71, 3) := by decide +kernel
theorem d_M_expire_10 : decode b_M_expire 10 = .ok (.iadd, 1) := by decide +kernel
theorem d_M_expire_11 : decode b_M_expire 11 = .ok (.ifCond .gt 25, 3) := by decide +kernel
theorem d_M_expire_14 : decode b_M_expire 14 = .ok (.iload_n 1, 1) := by decide +kernel
theorem d_M_expire_15 : decode b_M_expire 15 = .ok (.ifCond .lt 21, 3) := by decide +kernel
theorem d_M_expire_18 : decode b_M_expire 18 = .ok (.iload_n 1, 1) := by decide +kernel
theorem d_M_expire_19 : decode b_M_expire 19 = .ok (.sipush 10000, 3) := by decide +kernel
theorem d_M_expire_22 : decode b_M_expire 22 = .ok (.if_icmp .gt 14, 3) := by decide +kernel
theorem d_M_expire_25 : decode b_M_expire 25 = .ok (.iload_n 2, 1) := by decide +kernel
theorem d_M_expire_26 : decode b_M_expire 26 = .ok (.ifCond .lt 10, 3) := by decide +kernel
theorem d_M_expire_29 : decode b_M_expire 29 = .ok (.iload_n 2, 1) := by decide +kernel
theorem d_M_expire_30 : decode b_M_expire 30 = .ok (.sipush 10000, 3) := by decide +kernel
theorem d_M_expire_33 : decode b_M_expire 33 = .ok (.if_icmp .le 5, 3) := by decide +kernel
theorem d_M_expire_36 : decode b_M_expire 36 = .ok (.iconst 0, 1) := by decide +kernel
theorem d_M_expire_37 : decode b_M_expire 37 = .ok (.ireturn, 1) := by decide +kernel
theorem d_M_expire_38 : decode b_M_expire 38 = .ok (.aload_n 0, 1) := by decide +kernel
theorem d_M_expire_39 : decode b_M_expire 39 = .ok (.getfield 40, 3) := by decide +kernel
theorem d_M_expire_42 : decode b_M_expire 42 = .ok (.iconst 0, 1) := by decide +kernel
theorem d_M_expire_43 : decode b_M_expire 43 = .ok (.iload_n 1, 1) := by decide +kernel
theorem d_M_expire_44 : decode b_M_expire 44 = .ok (.iastore, 1) := by decide +kernel
theorem d_M_expire_45 : decode b_M_expire 45 = .ok (.aload_n 0, 1) := by decide +kernel
theorem d_M_expire_46 : decode b_M_expire 46 = .ok (.getfield 40, 3) := by decide +kernel
theorem d_M_expire_49 : decode b_M_expire 49 = .ok (.iconst 1, 1) := by decide +kernel
theorem d_M_expire_50 : decode b_M_expire 50 = .ok (.iload_n 2, 1) := by decide +kernel
theorem d_M_expire_51 : decode b_M_expire 51 = .ok (.iastore, 1) := by decide +kernel
theorem d_M_expire_52 : decode b_M_expire 52 = .ok (.iconst 1, 1) := by decide +kernel
theorem d_M_expire_53 : decode b_M_expire 53 = .ok (.ireturn, 1) := by decide +kernel
abbrev rm_M_tick : Room := { frames := 0, cells := 0, slots := 0, locals := 0 }
theorem good_M_tick : GoodIn TB (.code y_M_tick b_M_tick 2 (some .boolean) :: TB) := good_of tb_478
theorem hd_M_tick : y_M_tick.cls ≠ "java/lang/invoke/MethodHandle" ∧ y_M_tick.cls ≠ "java/lang/invoke/VarHandle" ∧ (parseMethodDescriptor y_M_tick.desc).map (fun d => d.parameters.length) = some 1 := by decide +kernel
theorem d_M_tick_0 : decode b_M_tick 0 = .ok (.iload_n 1, 1) := by decide +kernel
theorem d_M_tick_1 : decode b_M_tick 1 = .ok (.ifCond .lt 9, 3) := by decide +kernel
theorem d_M_tick_4 : decode b_M_tick 4 = .ok (.iload_n 1, 1) := by decide +kernel
theorem d_M_tick_5 : decode b_M_tick 5 = .ok (.ldc 84, 2) := by decide +kernel
theorem d_M_tick_7 : decode b_M_tick 7 = .ok (.if_icmp .le 5, 3) := by decide +kernel
theorem d_M_tick_10 : decode b_M_tick 10 = .ok (.iconst 0, 1) := by decide +kernel
theorem d_M_tick_11 : decode b_M_tick 11 = .ok (.ireturn, 1) := by decide +kernel
theorem d_M_tick_12 : decode b_M_tick 12 = .ok (.aload_n 0, 1) := by decide +kernel
theorem d_M_tick_13 : decode b_M_tick 13 = .ok (.aload_n 0, 1) := by decide +kernel
theorem d_M_tick_14 : decode b_M_tick 14 = .ok (.getfield 77, 3) := by decide +kernel
theorem d_M_tick_17 : decode b_M_tick 17 = .ok (.iload_n 1, 1) := by decide +kernel
theorem d_M_tick_18 : decode b_M_tick 18 = .ok (.iadd, 1) := by decide +kernel
theorem d_M_tick_19 : decode b_M_tick 19 = .ok (.putfield 77, 3) := by decide +kernel
theorem d_M_tick_22 : decode b_M_tick 22 = .ok (.iconst 1, 1) := by decide +kernel
theorem d_M_tick_23 : decode b_M_tick 23 = .ok (.ireturn, 1) := by decide +kernel
abbrev rm_M_sweep : Room := { frames := 2, cells := 0, slots := 0, locals := 45 }
theorem good_M_sweep : GoodIn TB (.code y_M_sweep b_M_sweep 5 (some .int) :: TB) := good_of tb_487
theorem hd_M_sweep : y_M_sweep.cls ≠ "java/lang/invoke/MethodHandle" ∧ y_M_sweep.cls ≠ "java/lang/invoke/VarHandle" ∧ (parseMethodDescriptor y_M_sweep.desc).map (fun d => d.parameters.length) = some 2 := by decide +kernel
theorem d_M_sweep_0 : decode b_M_sweep 0 = .ok (.iconst (-1), 1) := by decide +kernel
theorem d_M_sweep_1 : decode b_M_sweep 1 = .ok (.istore_n 3, 1) := by decide +kernel
theorem d_M_sweep_2 : decode b_M_sweep 2 = .ok (.iconst 0, 1) := by decide +kernel
theorem d_M_sweep_3 : decode b_M_sweep 3 = .ok (.istore 4, 2) := by decide +kernel
theorem d_M_sweep_5 : decode b_M_sweep 5 = .ok (.iload 4, 2) := by decide +kernel
theorem d_M_sweep_7 : decode b_M_sweep 7 = .ok (.aload_n 0, 1) := by decide +kernel
theorem d_M_sweep_8 : decode b_M_sweep 8 = .ok (.getfield 47, 3) := by decide +kernel
theorem d_M_sweep_11 : decode b_M_sweep 11 = .ok (.if_icmp .ge 60, 3) := by decide +kernel
theorem d_M_sweep_14 : decode b_M_sweep 14 = .ok (.aload_n 0, 1) := by decide +kernel
theorem d_M_sweep_15 : decode b_M_sweep 15 = .ok (.iload 4, 2) := by decide +kernel
theorem d_M_sweep_17 : decode b_M_sweep 17 = .ok (.invokevirtual 85, 3) := by decide +kernel
theorem d_M_sweep_20 : decode b_M_sweep 20 = .ok (.ifCond .eq 45, 3) := by decide +kernel
theorem d_M_sweep_23 : decode b_M_sweep 23 = .ok (.aload_n 0, 1) := by decide +kernel
theorem d_M_sweep_24 : decode b_M_sweep 24 = .ok (.getfield 13, 3) := by decide +kernel
theorem d_M_sweep_27 : decode b_M_sweep 27 = .ok (.iload 4, 2) := by decide +kernel
theorem d_M_sweep_29 : decode b_M_sweep 29 = .ok (.iaload, 1) := by decide +kernel
theorem d_M_sweep_30 : decode b_M_sweep 30 = .ok (.iload_n 1, 1) := by decide +kernel
theorem d_M_sweep_31 : decode b_M_sweep 31 = .ok (.if_icmp .ne 34, 3) := by decide +kernel
theorem d_M_sweep_34 : decode b_M_sweep 34 = .ok (.aload_n 0, 1) := by decide +kernel
theorem d_M_sweep_35 : decode b_M_sweep 35 = .ok (.iload 4, 2) := by decide +kernel
theorem d_M_sweep_37 : decode b_M_sweep 37 = .ok (.invokevirtual 68, 3) := by decide +kernel
theorem d_M_sweep_40 : decode b_M_sweep 40 = .ok (.iload_n 2, 1) := by decide +kernel
theorem d_M_sweep_41 : decode b_M_sweep 41 = .ok (.if_icmp .lt 24, 3) := by decide +kernel
theorem d_M_sweep_44 : decode b_M_sweep 44 = .ok (.iload_n 3, 1) := by decide +kernel
theorem d_M_sweep_45 : decode b_M_sweep 45 = .ok (.ifCond .lt 17, 3) := by decide +kernel
theorem d_M_sweep_48 : decode b_M_sweep 48 = .ok (.aload_n 0, 1) := by decide +kernel
theorem d_M_sweep_49 : decode b_M_sweep 49 = .ok (.iload 4, 2) := by decide +kernel
theorem d_M_sweep_51 : decode b_M_sweep 51 = .ok (.invokevirtual 68, 3) := by decide +kernel
theorem d_M_sweep_54 : decode b_M_sweep 54 = .ok (.aload_n 0, 1) := by decide +kernel
theorem d_M_sweep_55 : decode b_M_sweep 55 = .ok (.iload_n 3, 1) := by decide +kernel
theorem d_M_sweep_56 : decode b_M_sweep 56 = .ok (.invokevirtual 68, 3) := by decide +kernel
theorem d_M_sweep_59 : decode b_M_sweep 59 = .ok (.if_icmp .ge 6, 3) := by decide +kernel
theorem d_M_sweep_62 : decode b_M_sweep 62 = .ok (.iload 4, 2) := by decide +kernel
theorem d_M_sweep_64 : decode b_M_sweep 64 = .ok (.istore_n 3, 1) := by decide +kernel
theorem d_M_sweep_65 : decode b_M_sweep 65 = .ok (.iinc 4 1, 3) := by decide +kernel
theorem d_M_sweep_68 : decode b_M_sweep 68 = .ok (.goto (-63), 3) := by decide +kernel
theorem d_M_sweep_71 : decode b_M_sweep 71 = .ok (.iload_n 3, 1) := by decide +kernel
theorem d_M_sweep_72 : decode b_M_sweep 72 = .ok (.ireturn, 1) := by decide +kernel
abbrev rm_M_late : Room := { frames := 2, cells := 0, slots := 0, locals := 45 }
theorem good_M_late : GoodIn TB (.code y_M_late b_M_late 4 (some .int) :: TB) := good_of tb_503
theorem hd_M_late : y_M_late.cls ≠ "java/lang/invoke/MethodHandle" ∧ y_M_late.cls ≠ "java/lang/invoke/VarHandle" ∧ (parseMethodDescriptor y_M_late.desc).map (fun d => d.parameters.length) = some 1 := by decide +kernel
theorem d_M_late_0 : decode b_M_late 0 = .ok (.iconst (-1), 1) := by decide +kernel
theorem d_M_late_1 : decode b_M_late 1 = .ok (.istore_n 2, 1) := by decide +kernel
theorem d_M_late_2 : decode b_M_late 2 = .ok (.iconst 0, 1) := by decide +kernel
theorem d_M_late_3 : decode b_M_late 3 = .ok (.istore_n 3, 1) := by decide +kernel
theorem d_M_late_4 : decode b_M_late 4 = .ok (.iload_n 3, 1) := by decide +kernel
theorem d_M_late_5 : decode b_M_late 5 = .ok (.aload_n 0, 1) := by decide +kernel
theorem d_M_late_6 : decode b_M_late 6 = .ok (.getfield 47, 3) := by decide +kernel
theorem d_M_late_9 : decode b_M_late 9 = .ok (.if_icmp .ge 61, 3) := by decide +kernel
theorem d_M_late_12 : decode b_M_late 12 = .ok (.aload_n 0, 1) := by decide +kernel
theorem d_M_late_13 : decode b_M_late 13 = .ok (.iload_n 3, 1) := by decide +kernel
theorem d_M_late_14 : decode b_M_late 14 = .ok (.invokevirtual 85, 3) := by decide +kernel
theorem d_M_late_17 : decode b_M_late 17 = .ok (.ifCond .eq 47, 3) := by decide +kernel
theorem d_M_late_20 : decode b_M_late 20 = .ok (.aload_n 0, 1) := by decide +kernel
theorem d_M_late_21 : decode b_M_late 21 = .ok (.getfield 13, 3) := by decide +kernel
theorem d_M_late_24 : decode b_M_late 24 = .ok (.iload_n 3, 1) := by decide +kernel
theorem d_M_late_25 : decode b_M_late 25 = .ok (.iaload, 1) := by decide +kernel
theorem d_M_late_26 : decode b_M_late 26 = .ok (.iload_n 1, 1) := by decide +kernel
theorem d_M_late_27 : decode b_M_late 27 = .ok (.if_icmp .ne 37, 3) := by decide +kernel
theorem d_M_late_30 : decode b_M_late 30 = .ok (.aload_n 0, 1) := by decide +kernel
theorem d_M_late_31 : decode b_M_late 31 = .ok (.getfield 34, 3) := by decide +kernel
theorem d_M_late_34 : decode b_M_late 34 = .ok (.iload_n 3, 1) := by decide +kernel
theorem d_M_late_35 : decode b_M_late 35 = .ok (.iaload, 1) := by decide +kernel
theorem d_M_late_36 : decode b_M_late 36 = .ok (.aload_n 0, 1) := by decide +kernel
theorem d_M_late_37 : decode b_M_late 37 = .ok (.getfield 77, 3) := by decide +kernel
theorem d_M_late_40 : decode b_M_late 40 = .ok (.if_icmp .gt 24, 3) := by decide +kernel
theorem d_M_late_43 : decode b_M_late 43 = .ok (.iload_n 2, 1) := by decide +kernel
theorem d_M_late_44 : decode b_M_late 44 = .ok (.ifCond .lt 18, 3) := by decide +kernel
theorem d_M_late_47 : decode b_M_late 47 = .ok (.aload_n 0, 1) := by decide +kernel
theorem d_M_late_48 : decode b_M_late 48 = .ok (.getfield 34, 3) := by decide +kernel
theorem d_M_late_51 : decode b_M_late 51 = .ok (.iload_n 3, 1) := by decide +kernel
theorem d_M_late_52 : decode b_M_late 52 = .ok (.iaload, 1) := by decide +kernel
theorem d_M_late_53 : decode b_M_late 53 = .ok (.aload_n 0, 1) := by decide +kernel
theorem d_M_late_54 : decode b_M_late 54 = .ok (.getfield 34, 3) := by decide +kernel
theorem d_M_late_57 : decode b_M_late 57 = .ok (.iload_n 2, 1) := by decide +kernel
theorem d_M_late_58 : decode b_M_late 58 = .ok (.iaload, 1) := by decide +kernel
theorem d_M_late_59 : decode b_M_late 59 = .ok (.if_icmp .ge 5, 3) := by decide +kernel
theorem d_M_late_62 : decode b_M_late 62 = .ok (.iload_n 3, 1) := by decide +kernel
theorem d_M_late_63 : decode b_M_late 63 = .ok (.istore_n 2, 1) := by decide +kernel
theorem d_M_late_64 : decode b_M_late 64 = .ok (.iinc 3 1, 3) := by decide +kernel
theorem d_M_late_67 : decode b_M_late 67 = .ok (.goto (-63), 3) := by decide +kernel
theorem d_M_late_70 : decode b_M_late 70 = .ok (.iload_n 2, 1) := by decide +kernel
theorem d_M_late_71 : decode b_M_late 71 = .ok (.ireturn, 1) := by decide +kernel
abbrev rm_M_ready : Room := { frames := 2, cells := 0, slots := 0, locals := 45 }
theorem good_M_ready : GoodIn TB (.code y_M_ready b_M_ready 4 (some .int) :: TB) := good_of tb_499
theorem hd_M_ready : y_M_ready.cls ≠ "java/lang/invoke/MethodHandle" ∧ y_M_ready.cls ≠ "java/lang/invoke/VarHandle" ∧ (parseMethodDescriptor y_M_ready.desc).map (fun d => d.parameters.length) = some 1 := by decide +kernel
theorem d_M_ready_0 : decode b_M_ready 0 = .ok (.iconst 0, 1) := by decide +kernel
theorem d_M_ready_1 : decode b_M_ready 1 = .ok (.istore_n 2, 1) := by decide +kernel
theorem d_M_ready_2 : decode b_M_ready 2 = .ok (.iconst 0, 1) := by decide +kernel
theorem d_M_ready_3 : decode b_M_ready 3 = .ok (.istore_n 3, 1) := by decide +kernel
theorem d_M_ready_4 : decode b_M_ready 4 = .ok (.iload_n 3, 1) := by decide +kernel
theorem d_M_ready_5 : decode b_M_ready 5 = .ok (.aload_n 0, 1) := by decide +kernel
theorem d_M_ready_6 : decode b_M_ready 6 = .ok (.getfield 47, 3) := by decide +kernel
theorem d_M_ready_9 : decode b_M_ready 9 = .ok (.if_icmp .ge 35, 3) := by decide +kernel
theorem d_M_ready_12 : decode b_M_ready 12 = .ok (.aload_n 0, 1) := by decide +kernel
theorem d_M_ready_13 : decode b_M_ready 13 = .ok (.getfield 13, 3) := by decide +kernel
theorem d_M_ready_16 : decode b_M_ready 16 = .ok (.iload_n 3, 1) := by decide +kernel
theorem d_M_ready_17 : decode b_M_ready 17 = .ok (.iaload, 1) := by decide +kernel
theorem d_M_ready_18 : decode b_M_ready 18 = .ok (.iload_n 1, 1) := by decide +kernel
theorem d_M_ready_19 : decode b_M_ready 19 = .ok (.if_icmp .ne 17, 3) := by decide +kernel
theorem d_M_ready_22 : decode b_M_ready 22 = .ok (.aload_n 0, 1) := by decide +kernel
theorem d_M_ready_23 : decode b_M_ready 23 = .ok (.iload_n 3, 1) := by decide +kernel
theorem d_M_ready_24 : decode b_M_ready 24 = .ok (.invokevirtual 85, 3) := by decide +kernel
theorem d_M_ready_27 : decode b_M_ready 27 = .ok (.ifCond .eq 9, 3) := by decide +kernel
theorem d_M_ready_30 : decode b_M_ready 30 = .ok (.iload_n 2, 1) := by decide +kernel
theorem d_M_ready_31 : decode b_M_ready 31 = .ok (.iconst 1, 1) := by decide +kernel
theorem d_M_ready_32 : decode b_M_ready 32 = .ok (.iadd, 1) := by decide +kernel
theorem d_M_ready_33 : decode b_M_ready 33 = .ok (.goto 4, 3) := by decide +kernel
theorem d_M_ready_36 : decode b_M_ready 36 = .ok (.iload_n 2, 1) := by decide +kernel
theorem d_M_ready_37 : decode b_M_ready 37 = .ok (.istore_n 2, 1) := by decide +kernel
theorem d_M_ready_38 : decode b_M_ready 38 = .ok (.iinc 3 1, 3) := by decide +kernel
theorem d_M_ready_41 : decode b_M_ready 41 = .ok (.goto (-37), 3) := by decide +kernel
theorem d_M_ready_44 : decode b_M_ready 44 = .ok (.iload_n 1, 1) := by decide +kernel
theorem d_M_ready_45 : decode b_M_ready 45 = .ok (.ifCond .lt 8, 3) := by decide +kernel
theorem d_M_ready_48 : decode b_M_ready 48 = .ok (.iload_n 1, 1) := by decide +kernel
theorem d_M_ready_49 : decode b_M_ready 49 = .ok (.iconst 1, 1) := by decide +kernel
theorem d_M_ready_50 : decode b_M_ready 50 = .ok (.if_icmp .le 7, 3) := by decide +kernel
theorem d_M_ready_53 : decode b_M_ready 53 = .ok (.iconst (-1), 1) := by decide +kernel
theorem d_M_ready_54 : decode b_M_ready 54 = .ok (.goto 4, 3) := by decide +kernel
theorem d_M_ready_57 : decode b_M_ready 57 = .ok (.iload_n 2, 1) := by decide +kernel
theorem d_M_ready_58 : decode b_M_ready 58 = .ok (.ireturn, 1) := by decide +kernel
abbrev rm_M_fresh : Room := { frames := 3, cells := 0, slots := 0, locals := 69 }
theorem good_M_fresh : GoodIn TB (.code y_M_fresh b_M_fresh 3 (some .int) :: TB) := good_of tb_495
theorem hd_M_fresh : y_M_fresh.cls ≠ "java/lang/invoke/MethodHandle" ∧ y_M_fresh.cls ≠ "java/lang/invoke/VarHandle" ∧ (parseMethodDescriptor y_M_fresh.desc).map (fun d => d.parameters.length) = some 0 := by decide +kernel
theorem d_M_fresh_0 : decode b_M_fresh 0 = .ok (.aload_n 0, 1) := by decide +kernel
theorem d_M_fresh_1 : decode b_M_fresh 1 = .ok (.iconst 1, 1) := by decide +kernel
theorem d_M_fresh_2 : decode b_M_fresh 2 = .ok (.invokevirtual 88, 3) := by decide +kernel
theorem d_M_fresh_5 : decode b_M_fresh 5 = .ok (.ifCond .le 7, 3) := by decide +kernel
theorem d_M_fresh_8 : decode b_M_fresh 8 = .ok (.iconst 1, 1) := by decide +kernel
theorem d_M_fresh_9 : decode b_M_fresh 9 = .ok (.goto 4, 3) := by decide +kernel
theorem d_M_fresh_12 : decode b_M_fresh 12 = .ok (.iconst 0, 1) := by decide +kernel
theorem d_M_fresh_13 : decode b_M_fresh 13 = .ok (.istore_n 1, 1) := by decide +kernel
theorem d_M_fresh_14 : decode b_M_fresh 14 = .ok (.aload_n 0, 1) := by decide +kernel
theorem d_M_fresh_15 : decode b_M_fresh 15 = .ok (.iconst 0, 1) := by decide +kernel
theorem d_M_fresh_16 : decode b_M_fresh 16 = .ok (.invokevirtual 88, 3) := by decide +kernel
theorem d_M_fresh_19 : decode b_M_fresh 19 = .ok (.ifCond .le 44, 3) := by decide +kernel
theorem d_M_fresh_22 : decode b_M_fresh 22 = .ok (.iload_n 1, 1) := by decide +kernel
theorem d_M_fresh_23 : decode b_M_fresh 23 = .ok (.ifCond .eq 11, 3) := by decide +kernel
theorem d_M_fresh_26 : decode b_M_fresh 26 = .ok (.aload_n 0, 1) := by decide +kernel
theorem d_M_fresh_27 : decode b_M_fresh 27 = .ok (.getfield 91, 3) := by decide +kernel
theorem d_M_fresh_30 : decode b_M_fresh 30 = .ok (.iconst 2, 1) := by decide +kernel
theorem d_M_fresh_31 : decode b_M_fresh 31 = .ok (.if_icmp .ge 32, 3) := by decide +kernel
theorem d_M_fresh_34 : decode b_M_fresh 34 = .ok (.aload_n 0, 1) := by decide +kernel
theorem d_M_fresh_35 : decode b_M_fresh 35 = .ok (.iconst 0, 1) := by decide +kernel
theorem d_M_fresh_36 : decode b_M_fresh 36 = .ok (.putfield 94, 3) := by decide +kernel
theorem d_M_fresh_39 : decode b_M_fresh 39 = .ok (.aload_n 0, 1) := by decide +kernel
theorem d_M_fresh_40 : decode b_M_fresh 40 = .ok (.iload_n 1, 1) := by decide +kernel
theorem d_M_fresh_41 : decode b_M_fresh 41 = .ok (.ifCond .eq 12, 3) := by decide +kernel
theorem d_M_fresh_44 : decode b_M_fresh 44 = .ok (.aload_n 0, 1) := by decide +kernel
theorem d_M_fresh_45 : decode b_M_fresh 45 = .ok (.getfield 91, 3) := by decide +kernel
theorem d_M_fresh_48 : decode b_M_fresh 48 = .ok (.iconst 1, 1) := by decide +kernel
theorem d_M_fresh_49 : decode b_M_fresh 49 = .ok (.iadd, 1) := by decide +kernel
theorem d_M_fresh_50 : decode b_M_fresh 50 = .ok (.goto 7, 3) := by decide +kernel
theorem d_M_fresh_53 : decode b_M_fresh 53 = .ok (.aload_n 0, 1) := by decide +kernel
theorem d_M_fresh_54 : decode b_M_fresh 54 = .ok (.getfield 91, 3) := by decide +kernel
theorem d_M_fresh_57 : decode b_M_fresh 57 = .ok (.putfield 91, 3) := by decide +kernel
theorem d_M_fresh_60 : decode b_M_fresh 60 = .ok (.goto 13, 3) := by decide +kernel
theorem d_M_fresh_63 : decode b_M_fresh 63 = .ok (.aload_n 0, 1) := by decide +kernel
theorem d_M_fresh_64 : decode b_M_fresh 64 = .ok (.iconst 1, 1) := by decide +kernel
theorem d_M_fresh_65 : decode b_M_fresh 65 = .ok (.putfield 94, 3) := by decide +kernel
theorem d_M_fresh_68 : decode b_M_fresh 68 = .ok (.aload_n 0, 1) := by decide +kernel
theorem d_M_fresh_69 : decode b_M_fresh 69 = .ok (.iconst 0, 1) := by decide +kernel
theorem d_M_fresh_70 : decode b_M_fresh 70 = .ok (.putfield 91, 3) := by decide +kernel
theorem d_M_fresh_73 : decode b_M_fresh 73 = .ok (.aload_n 0, 1) := by decide +kernel
theorem d_M_fresh_74 : decode b_M_fresh 74 = .ok (.iconst 1, 1) := by decide +kernel
theorem d_M_fresh_75 : decode b_M_fresh 75 = .ok (.putfield 97, 3) := by decide +kernel
theorem d_M_fresh_78 : decode b_M_fresh 78 = .ok (.aload_n 0, 1) := by decide +kernel
theorem d_M_fresh_79 : decode b_M_fresh 79 = .ok (.aload_n 0, 1) := by decide +kernel
theorem d_M_fresh_80 : decode b_M_fresh 80 = .ok (.getfield 94, 3) := by decide +kernel
theorem d_M_fresh_83 : decode b_M_fresh 83 = .ok (.invokevirtual 100, 3) := by decide +kernel
theorem d_M_fresh_86 : decode b_M_fresh 86 = .ok (.istore_n 2, 1) := by decide +kernel
theorem d_M_fresh_87 : decode b_M_fresh 87 = .ok (.iload_n 2, 1) := by decide +kernel
theorem d_M_fresh_88 : decode b_M_fresh 88 = .ok (.ifCond .ge 18, 3) := by decide +kernel
theorem d_M_fresh_91 : decode b_M_fresh 91 = .ok (.aload_n 0, 1) := by decide +kernel
theorem d_M_fresh_92 : decode b_M_fresh 92 = .ok (.aload_n 0, 1) := by decide +kernel
theorem d_M_fresh_93 : decode b_M_fresh 93 = .ok (.getfield 94, 3) := by decide +kernel
theorem d_M_fresh_96 : decode b_M_fresh 96 = .ok (.aload_n 0, 1) := by decide +kernel
theorem d_M_fresh_97 : decode b_M_fresh 97 = .ok (.getfield 103, 3) := by decide +kernel
theorem d_M_fresh_100 : decode b_M_fresh 100 = .ok (.invokevirtual 106, 3) := by decide +kernel
theorem d_M_fresh_103 : decode b_M_fresh 103 = .ok (.goto 4, 3) := by decide +kernel
theorem d_M_fresh_106 : decode b_M_fresh 106 = .ok (.iload_n 2, 1) := by decide +kernel
theorem d_M_fresh_107 : decode b_M_fresh 107 = .ok (.istore_n 2, 1) := by decide +kernel
theorem d_M_fresh_108 : decode b_M_fresh 108 = .ok (.iload_n 2, 1) := by decide +kernel
theorem d_M_fresh_109 : decode b_M_fresh 109 = .ok (.ifCond .ge 15, 3) := by decide +kernel
theorem d_M_fresh_112 : decode b_M_fresh 112 = .ok (.aload_n 0, 1) := by decide +kernel
theorem d_M_fresh_113 : decode b_M_fresh 113 = .ok (.aload_n 0, 1) := by decide +kernel
theorem d_M_fresh_114 : decode b_M_fresh 114 = .ok (.getfield 94, 3) := by decide +kernel
theorem d_M_fresh_117 : decode b_M_fresh 117 = .ok (.iconst 0, 1) := by decide +kernel
theorem d_M_fresh_118 : decode b_M_fresh 118 = .ok (.invokevirtual 106, 3) := by decide +kernel
theorem d_M_fresh_121 : decode b_M_fresh 121 = .ok (.goto 4, 3) := by decide +kernel
theorem d_M_fresh_124 : decode b_M_fresh 124 = .ok (.iload_n 2, 1) := by decide +kernel
theorem d_M_fresh_125 : decode b_M_fresh 125 = .ok (.ireturn, 1) := by decide +kernel
abbrev rm_M_carryOut : Room := { frames := 0, cells := 0, slots := 0, locals := 0 }
theorem good_M_carryOut : GoodIn TB (.code y_M_carryOut b_M_carryOut 3 none :: TB) := good_of tb_507
theorem hd_M_carryOut : y_M_carryOut.cls ≠ "java/lang/invoke/MethodHandle" ∧ y_M_carryOut.cls ≠ "java/lang/invoke/VarHandle" ∧ (parseMethodDescriptor y_M_carryOut.desc).map (fun d => d.parameters.length) = some 1 := by decide +kernel
theorem d_M_carryOut_0 : decode b_M_carryOut 0 = .ok (.aload_n 0, 1) := by decide +kernel
theorem d_M_carryOut_1 : decode b_M_carryOut 1 = .ok (.getfield 28, 3) := by decide +kernel
theorem d_M_carryOut_4 : decode b_M_carryOut 4 = .ok (.iload_n 1, 1) := by decide +kernel
theorem d_M_carryOut_5 : decode b_M_carryOut 5 = .ok (.iconst 2, 1) := by decide +kernel
theorem d_M_carryOut_6 : decode b_M_carryOut 6 = .ok (.iastore, 1) := by decide +kernel
theorem d_M_carryOut_7 : decode b_M_carryOut 7 = .ok (.iconst 0, 1) := by decide +kernel
theorem d_M_carryOut_8 : decode b_M_carryOut 8 = .ok (.istore_n 2, 1) := by decide +kernel
theorem d_M_carryOut_9 : decode b_M_carryOut 9 = .ok (.iload_n 2, 1) := by decide +kernel
theorem d_M_carryOut_10 : decode b_M_carryOut 10 = .ok (.aload_n 0, 1) := by decide +kernel
theorem d_M_carryOut_11 : decode b_M_carryOut 11 = .ok (.getfield 19, 3) := by decide +kernel
theorem d_M_carryOut_14 : decode b_M_carryOut 14 = .ok (.iload_n 1, 1) := by decide +kernel
theorem d_M_carryOut_15 : decode b_M_carryOut 15 = .ok (.iaload, 1) := by decide +kernel
theorem d_M_carryOut_16 : decode b_M_carryOut 16 = .ok (.if_icmp .ge 67, 3) := by decide +kernel
theorem d_M_carryOut_19 : decode b_M_carryOut 19 = .ok (.aload_n 0, 1) := by decide +kernel
theorem d_M_carryOut_20 : decode b_M_carryOut 20 = .ok (.getfield 13, 3) := by decide +kernel
theorem d_M_carryOut_23 : decode b_M_carryOut 23 = .ok (.iload_n 1, 1) := by decide +kernel
theorem d_M_carryOut_24 : decode b_M_carryOut 24 = .ok (.iaload, 1) := by decide +kernel
theorem d_M_carryOut_25 : decode b_M_carryOut 25 = .ok (.iconst 1, 1) := by decide +kernel
theorem d_M_carryOut_26 : decode b_M_carryOut 26 = .ok (.if_icmp .ne 27, 3) := by decide +kernel
theorem d_M_carryOut_29 : decode b_M_carryOut 29 = .ok (.aload_n 0, 1) := by decide +kernel
theorem d_M_carryOut_30 : decode b_M_carryOut 30 = .ok (.getfield 7, 3) := by decide +kernel
theorem d_M_carryOut_33 : decode b_M_carryOut 33 = .ok (.aload_n 0, 1) := by decide +kernel
theorem d_M_carryOut_34 : decode b_M_carryOut 34 = .ok (.getfield 16, 3) := by decide +kernel
theorem d_M_carryOut_37 : decode b_M_carryOut 37 = .ok (.iload_n 1, 1) := by decide +kernel
theorem d_M_carryOut_38 : decode b_M_carryOut 38 = .ok (.iaload, 1) := by decide +kernel
theorem d_M_carryOut_39 : decode b_M_carryOut 39 = .ok (.iload_n 2, 1) := by decide +kernel
theorem d_M_carryOut_40 : decode b_M_carryOut 40 = .ok (.iadd, 1) := by decide +kernel
theorem d_M_carryOut_41 : decode b_M_carryOut 41 = .ok (.aload_n 0, 1) := by decide +kernel
theorem d_M_carryOut_42 : decode b_M_carryOut 42 = .ok (.getfield 22, 3) := by decide +kernel
theorem d_M_carryOut_45 : decode b_M_carryOut 45 = .ok (.iload_n 1, 1) := by decide +kernel
theorem d_M_carryOut_46 : decode b_M_carryOut 46 = .ok (.iaload, 1) := by decide +kernel
theorem d_M_carryOut_47 : decode b_M_carryOut 47 = .ok (.iload_n 2, 1) := by decide +kernel
theorem d_M_carryOut_48 : decode b_M_carryOut 48 = .ok (.iadd, 1) := by decide +kernel
theorem d_M_carryOut_49 : decode b_M_carryOut 49 = .ok (.iastore, 1) := by decide +kernel
theorem d_M_carryOut_50 : decode b_M_carryOut 50 = .ok (.goto 27, 3) := by decide +kernel
theorem d_M_carryOut_53 : decode b_M_carryOut 53 = .ok (.aload_n 0, 1) := by decide +kernel
theorem d_M_carryOut_54 : decode b_M_carryOut 54 = .ok (.getfield 31, 3) := by decide +kernel
theorem d_M_carryOut_57 : decode b_M_carryOut 57 = .ok (.bipush 8, 2) := by decide +kernel
theorem d_M_carryOut_59 : decode b_M_carryOut 59 = .ok (.iload_n 1, 1) := by decide +kernel
theorem d_M_carryOut_60 : decode b_M_carryOut 60 = .ok (.imul, 1) := by decide +kernel
theorem d_M_carryOut_61 : decode b_M_carryOut 61 = .ok (.iload_n 2, 1) := by decide +kernel
theorem d_M_carryOut_62 : decode b_M_carryOut 62 = .ok (.iadd, 1) := by decide +kernel
theorem d_M_carryOut_63 : decode b_M_carryOut 63 = .ok (.aload_n 0, 1) := by decide +kernel
theorem d_M_carryOut_64 : decode b_M_carryOut 64 = .ok (.getfield 7, 3) := by decide +kernel
theorem d_M_carryOut_67 : decode b_M_carryOut 67 = .ok (.aload_n 0, 1) := by decide +kernel
theorem d_M_carryOut_68 : decode b_M_carryOut 68 = .ok (.getfield 16, 3) := by decide +kernel
theorem d_M_carryOut_71 : decode b_M_carryOut 71 = .ok (.iload_n 1, 1) := by decide +kernel
theorem d_M_carryOut_72 : decode b_M_carryOut 72 = .ok (.iaload, 1) := by decide +kernel
theorem d_M_carryOut_73 : decode b_M_carryOut 73 = .ok (.iload_n 2, 1) := by decide +kernel
theorem d_M_carryOut_74 : decode b_M_carryOut 74 = .ok (.iadd, 1) := by decide +kernel
theorem d_M_carryOut_75 : decode b_M_carryOut 75 = .ok (.iaload, 1) := by decide +kernel
theorem d_M_carryOut_76 : decode b_M_carryOut 76 = .ok (.iastore, 1) := by decide +kernel
theorem d_M_carryOut_77 : decode b_M_carryOut 77 = .ok (.iinc 2 1, 3) := by decide +kernel
theorem d_M_carryOut_80 : decode b_M_carryOut 80 = .ok (.goto (-71), 3) := by decide +kernel
theorem d_M_carryOut_83 : decode b_M_carryOut 83 = .ok (.return_, 1) := by decide +kernel
abbrev rm_M_dispatch : Room := { frames := 4, cells := 0, slots := 0, locals := 91 }
theorem good_M_dispatch : GoodIn TB (.code y_M_dispatch b_M_dispatch 4 (some .int) :: TB) := good_of tb_483
theorem hd_M_dispatch : y_M_dispatch.cls ≠ "java/lang/invoke/MethodHandle" ∧ y_M_dispatch.cls ≠ "java/lang/invoke/VarHandle" ∧ (parseMethodDescriptor y_M_dispatch.desc).map (fun d => d.parameters.length) = some 0 := by decide +kernel
theorem d_M_dispatch_0 : decode b_M_dispatch 0 = .ok (.aload_n 0, 1) := by decide +kernel
theorem d_M_dispatch_1 : decode b_M_dispatch 1 = .ok (.iconst 0, 1) := by decide +kernel
theorem d_M_dispatch_2 : decode b_M_dispatch 2 = .ok (.invokevirtual 71, 3) := by decide +kernel
theorem d_M_dispatch_5 : decode b_M_dispatch 5 = .ok (.aload_n 0, 1) := by decide +kernel
theorem d_M_dispatch_6 : decode b_M_dispatch 6 = .ok (.iconst 1, 1) := by decide +kernel
theorem d_M_dispatch_7 : decode b_M_dispatch 7 = .ok (.invokevirtual 71, 3) := by decide +kernel
theorem d_M_dispatch_10 : decode b_M_dispatch 10 = .ok (.iadd, 1) := by decide +kernel
theorem d_M_dispatch_11 : decode b_M_dispatch 11 = .ok (.ifCond .ne 5, 3) := by decide +kernel
theorem d_M_dispatch_14 : decode b_M_dispatch 14 = .ok (.iconst 0, 1) := by decide +kernel
theorem d_M_dispatch_15 : decode b_M_dispatch 15 = .ok (.ireturn, 1) := by decide +kernel
theorem d_M_dispatch_16 : decode b_M_dispatch 16 = .ok (.aload_n 0, 1) := by decide +kernel
theorem d_M_dispatch_17 : decode b_M_dispatch 17 = .ok (.getfield 97, 3) := by decide +kernel
theorem d_M_dispatch_20 : decode b_M_dispatch 20 = .ok (.ifCond .le 26, 3) := by decide +kernel
theorem d_M_dispatch_23 : decode b_M_dispatch 23 = .ok (.aload_n 0, 1) := by decide +kernel
theorem d_M_dispatch_24 : decode b_M_dispatch 24 = .ok (.getfield 97, 3) := by decide +kernel
theorem d_M_dispatch_27 : decode b_M_dispatch 27 = .ok (.iconst 4, 1) := by decide +kernel
theorem d_M_dispatch_28 : decode b_M_dispatch 28 = .ok (.if_icmp .ge 18, 3) := by decide +kernel
theorem d_M_dispatch_31 : decode b_M_dispatch 31 = .ok (.aload_n 0, 1) := by decide +kernel
theorem d_M_dispatch_32 : decode b_M_dispatch 32 = .ok (.aload_n 0, 1) := by decide +kernel
theorem d_M_dispatch_33 : decode b_M_dispatch 33 = .ok (.getfield 94, 3) := by decide +kernel
theorem d_M_dispatch_36 : decode b_M_dispatch 36 = .ok (.aload_n 0, 1) := by decide +kernel
theorem d_M_dispatch_37 : decode b_M_dispatch 37 = .ok (.getfield 103, 3) := by decide +kernel
theorem d_M_dispatch_40 : decode b_M_dispatch 40 = .ok (.invokevirtual 106, 3) := by decide +kernel
theorem d_M_dispatch_43 : decode b_M_dispatch 43 = .ok (.goto 4, 3) := by decide +kernel
theorem d_M_dispatch_46 : decode b_M_dispatch 46 = .ok (.iconst (-1), 1) := by decide +kernel
theorem d_M_dispatch_47 : decode b_M_dispatch 47 = .ok (.istore_n 1, 1) := by decide +kernel
theorem d_M_dispatch_48 : decode b_M_dispatch 48 = .ok (.iload_n 1, 1) := by decide +kernel
theorem d_M_dispatch_49 : decode b_M_dispatch 49 = .ok (.ifCond .lt 16, 3) := by decide +kernel
theorem d_M_dispatch_52 : decode b_M_dispatch 52 = .ok (.aload_n 0, 1) := by decide +kernel
theorem d_M_dispatch_53 : decode b_M_dispatch 53 = .ok (.aload_n 0, 1) := by decide +kernel
theorem d_M_dispatch_54 : decode b_M_dispatch 54 = .ok (.getfield 97, 3) := by decide +kernel
theorem d_M_dispatch_57 : decode b_M_dispatch 57 = .ok (.iconst 1, 1) := by decide +kernel
theorem d_M_dispatch_58 : decode b_M_dispatch 58 = .ok (.iadd, 1) := by decide +kernel
theorem d_M_dispatch_59 : decode b_M_dispatch 59 = .ok (.putfield 97, 3) := by decide +kernel
theorem d_M_dispatch_62 : decode b_M_dispatch 62 = .ok (.goto 8, 3) := by decide +kernel
theorem d_M_dispatch_65 : decode b_M_dispatch 65 = .ok (.aload_n 0, 1) := by decide +kernel
theorem d_M_dispatch_66 : decode b_M_dispatch 66 = .ok (.invokevirtual 110, 3) := by decide +kernel
theorem d_M_dispatch_69 : decode b_M_dispatch 69 = .ok (.istore_n 1, 1) := by decide +kernel
theorem d_M_dispatch_70 : decode b_M_dispatch 70 = .ok (.aload_n 0, 1) := by decide +kernel
theorem d_M_dispatch_71 : decode b_M_dispatch 71 = .ok (.aload_n 0, 1) := by decide +kernel
theorem d_M_dispatch_72 : decode b_M_dispatch 72 = .ok (.iload_n 1, 1) := by decide +kernel
theorem d_M_dispatch_73 : decode b_M_dispatch 73 = .ok (.invokevirtual 68, 3) := by decide +kernel
theorem d_M_dispatch_76 : decode b_M_dispatch 76 = .ok (.aload_n 0, 1) := by decide +kernel
theorem d_M_dispatch_77 : decode b_M_dispatch 77 = .ok (.iload_n 1, 1) := by decide +kernel
theorem d_M_dispatch_78 : decode b_M_dispatch 78 = .ok (.invokevirtual 65, 3) := by decide +kernel
theorem d_M_dispatch_81 : decode b_M_dispatch 81 = .ok (.iadd, 1) := by decide +kernel
theorem d_M_dispatch_82 : decode b_M_dispatch 82 = .ok (.putfield 103, 3) := by decide +kernel
theorem d_M_dispatch_85 : decode b_M_dispatch 85 = .ok (.aload_n 0, 1) := by decide +kernel
theorem d_M_dispatch_86 : decode b_M_dispatch 86 = .ok (.iload_n 1, 1) := by decide +kernel
theorem d_M_dispatch_87 : decode b_M_dispatch 87 = .ok (.putfield 43, 3) := by decide +kernel
theorem d_M_dispatch_90 : decode b_M_dispatch 90 = .ok (.iconst 0, 1) := by decide +kernel
theorem d_M_dispatch_91 : decode b_M_dispatch 91 = .ok (.istore_n 2, 1) := by decide +kernel
theorem d_M_dispatch_92 : decode b_M_dispatch 92 = .ok (.iconst 0, 1) := by decide +kernel
theorem d_M_dispatch_93 : decode b_M_dispatch 93 = .ok (.istore_n 3, 1) := by decide +kernel
theorem d_M_dispatch_94 : decode b_M_dispatch 94 = .ok (.iload_n 3, 1) := by decide +kernel
theorem d_M_dispatch_95 : decode b_M_dispatch 95 = .ok (.aload_n 0, 1) := by decide +kernel
theorem d_M_dispatch_96 : decode b_M_dispatch 96 = .ok (.getfield 47, 3) := by decide +kernel
theorem d_M_dispatch_99 : decode b_M_dispatch 99 = .ok (.if_icmp .ge 28, 3) := by decide +kernel
theorem d_M_dispatch_102 : decode b_M_dispatch 102 = .ok (.aload_n 0, 1) := by decide +kernel
theorem d_M_dispatch_103 : decode b_M_dispatch 103 = .ok (.getfield 25, 3) := by decide +kernel
theorem d_M_dispatch_106 : decode b_M_dispatch 106 = .ok (.iload_n 3, 1) := by decide +kernel
theorem d_M_dispatch_107 : decode b_M_dispatch 107 = .ok (.iaload, 1) := by decide +kernel
theorem d_M_dispatch_108 : decode b_M_dispatch 108 = .ok (.iload_n 1, 1) := by decide +kernel
theorem d_M_dispatch_109 : decode b_M_dispatch 109 = .ok (.if_icmp .ne 12, 3) := by decide +kernel
theorem d_M_dispatch_112 : decode b_M_dispatch 112 = .ok (.aload_n 0, 1) := by decide +kernel
theorem d_M_dispatch_113 : decode b_M_dispatch 113 = .ok (.iload_n 3, 1) := by decide +kernel
theorem d_M_dispatch_114 : decode b_M_dispatch 114 = .ok (.invokevirtual 114, 3) := by decide +kernel
theorem d_M_dispatch_117 : decode b_M_dispatch 117 = .ok (.iload_n 2, 1) := by decide +kernel
theorem d_M_dispatch_118 : decode b_M_dispatch 118 = .ok (.iconst 1, 1) := by decide +kernel
theorem d_M_dispatch_119 : decode b_M_dispatch 119 = .ok (.iadd, 1) := by decide +kernel
theorem d_M_dispatch_120 : decode b_M_dispatch 120 = .ok (.istore_n 2, 1) := by decide +kernel
theorem d_M_dispatch_121 : decode b_M_dispatch 121 = .ok (.iinc 3 1, 3) := by decide +kernel
theorem d_M_dispatch_124 : decode b_M_dispatch 124 = .ok (.goto (-30), 3) := by decide +kernel
theorem d_M_dispatch_127 : decode b_M_dispatch 127 = .ok (.iload_n 2, 1) := by decide +kernel
theorem d_M_dispatch_128 : decode b_M_dispatch 128 = .ok (.ireturn, 1) := by decide +kernel
abbrev rm_M_isPart : Room := { frames := 0, cells := 0, slots := 0, locals := 0 }
theorem good_M_isPart : GoodIn TB (.code y_M_isPart b_M_isPart 2 (some .boolean) :: TB) := good_of tb_515
theorem hd_M_isPart : y_M_isPart.cls ≠ "java/lang/invoke/MethodHandle" ∧ y_M_isPart.cls ≠ "java/lang/invoke/VarHandle" ∧ (parseMethodDescriptor y_M_isPart.desc).map (fun d => d.parameters.length) = some 1 := by decide +kernel
theorem d_M_isPart_0 : decode b_M_isPart 0 = .ok (.iload_n 1, 1) := by decide +kernel
theorem d_M_isPart_1 : decode b_M_isPart 1 = .ok (.ifCond .lt 15, 3) := by decide +kernel
theorem d_M_isPart_4 : decode b_M_isPart 4 = .ok (.iload_n 1, 1) := by decide +kernel
theorem d_M_isPart_5 : decode b_M_isPart 5 = .ok (.aload_n 0, 1) := by decide +kernel
theorem d_M_isPart_6 : decode b_M_isPart 6 = .ok (.getfield 47, 3) := by decide +kernel
theorem d_M_isPart_9 : decode b_M_isPart 9 = .ok (.if_icmp .ge 7, 3) := by decide +kernel
theorem d_M_isPart_12 : decode b_M_isPart 12 = .ok (.iconst 1, 1) := by decide +kernel
theorem d_M_isPart_13 : decode b_M_isPart 13 = .ok (.goto 4, 3) := by decide +kernel
theorem d_M_isPart_16 : decode b_M_isPart 16 = .ok (.iconst 0, 1) := by decide +kernel
theorem d_M_isPart_17 : decode b_M_isPart 17 = .ok (.ireturn, 1) := by decide +kernel
abbrev rm_M_state : Room := { frames := 1, cells := 0, slots := 0, locals := 21 }
theorem good_M_state : GoodIn TB (.code y_M_state b_M_state 2 (some .int) :: TB) := good_of tb_511
theorem hd_M_state : y_M_state.cls ≠ "java/lang/invoke/MethodHandle" ∧ y_M_state.cls ≠ "java/lang/invoke/VarHandle" ∧ (parseMethodDescriptor y_M_state.desc).map (fun d => d.parameters.length) = some 1 := by decide +kernel
theorem d_M_state_0 : decode b_M_state 0 = .ok (.aload_n 0, 1) := by decide +kernel
theorem d_M_state_1 : decode b_M_state 1 = .ok (.iload_n 1, 1) := by decide +kernel
theorem d_M_state_2 : decode b_M_state 2 = .ok (.invokevirtual 118, 3) := by decide +kernel
theorem d_M_state_5 : decode b_M_state 5 = .ok (.ifCond .eq 12, 3) := by decide +kernel
theorem d_M_state_8 : decode b_M_state 8 = .ok (.aload_n 0, 1) := by decide +kernel
theorem d_M_state_9 : decode b_M_state 9 = .ok (.getfield 28, 3) := by decide +kernel
theorem d_M_state_12 : decode b_M_state 12 = .ok (.iload_n 1, 1) := by decide +kernel
theorem d_M_state_13 : decode b_M_state 13 = .ok (.iaload, 1) := by decide +kernel
theorem d_M_state_14 : decode b_M_state 14 = .ok (.goto 4, 3) := by decide +kernel
theorem d_M_state_17 : decode b_M_state 17 = .ok (.iconst 0, 1) := by decide +kernel
theorem d_M_state_18 : decode b_M_state 18 = .ok (.ireturn, 1) := by decide +kernel
abbrev rm_M_value : Room := { frames := 1, cells := 0, slots := 0, locals := 21 }
theorem good_M_value : GoodIn TB (.code y_M_value b_M_value 3 (some .int) :: TB) := good_of tb_519
theorem hd_M_value : y_M_value.cls ≠ "java/lang/invoke/MethodHandle" ∧ y_M_value.cls ≠ "java/lang/invoke/VarHandle" ∧ (parseMethodDescriptor y_M_value.desc).map (fun d => d.parameters.length) = some 2 := by decide +kernel
theorem d_M_value_0 : decode b_M_value 0 = .ok (.aload_n 0, 1) := by decide +kernel
theorem d_M_value_1 : decode b_M_value 1 = .ok (.iload_n 1, 1) := by decide +kernel
theorem d_M_value_2 : decode b_M_value 2 = .ok (.invokevirtual 118, 3) := by decide +kernel
theorem d_M_value_5 : decode b_M_value 5 = .ok (.ifCond .eq 50, 3) := by decide +kernel
theorem d_M_value_8 : decode b_M_value 8 = .ok (.aload_n 0, 1) := by decide +kernel
theorem d_M_value_9 : decode b_M_value 9 = .ok (.getfield 13, 3) := by decide +kernel
theorem d_M_value_12 : decode b_M_value 12 = .ok (.iload_n 1, 1) := by decide +kernel
theorem d_M_value_13 : decode b_M_value 13 = .ok (.iaload, 1) := by decide +kernel
theorem d_M_value_14 : decode b_M_value 14 = .ok (.ifCond .ne 41, 3) := by decide +kernel
theorem d_M_value_17 : decode b_M_value 17 = .ok (.aload_n 0, 1) := by decide +kernel
theorem d_M_value_18 : decode b_M_value 18 = .ok (.getfield 28, 3) := by decide +kernel
theorem d_M_value_21 : decode b_M_value 21 = .ok (.iload_n 1, 1) := by decide +kernel
theorem d_M_value_22 : decode b_M_value 22 = .ok (.iaload, 1) := by decide +kernel
theorem d_M_value_23 : decode b_M_value 23 = .ok (.iconst 2, 1) := by decide +kernel
theorem d_M_value_24 : decode b_M_value 24 = .ok (.if_icmp .ne 31, 3) := by decide +kernel
theorem d_M_value_27 : decode b_M_value 27 = .ok (.iload_n 2, 1) := by decide +kernel
theorem d_M_value_28 : decode b_M_value 28 = .ok (.ifCond .lt 27, 3) := by decide +kernel
theorem d_M_value_31 : decode b_M_value 31 = .ok (.iload_n 2, 1) := by decide +kernel
theorem d_M_value_32 : decode b_M_value 32 = .ok (.aload_n 0, 1) := by decide +kernel
theorem d_M_value_33 : decode b_M_value 33 = .ok (.getfield 19, 3) := by decide +kernel
theorem d_M_value_36 : decode b_M_value 36 = .ok (.iload_n 1, 1) := by decide +kernel
theorem d_M_value_37 : decode b_M_value 37 = .ok (.iaload, 1) := by decide +kernel
theorem d_M_value_38 : decode b_M_value 38 = .ok (.if_icmp .ge 17, 3) := by decide +kernel
theorem d_M_value_41 : decode b_M_value 41 = .ok (.aload_n 0, 1) := by decide +kernel
theorem d_M_value_42 : decode b_M_value 42 = .ok (.getfield 31, 3) := by decide +kernel
theorem d_M_value_45 : decode b_M_value 45 = .ok (.bipush 8, 2) := by decide +kernel
theorem d_M_value_47 : decode b_M_value 47 = .ok (.iload_n 1, 1) := by decide +kernel
theorem d_M_value_48 : decode b_M_value 48 = .ok (.imul, 1) := by decide +kernel
theorem d_M_value_49 : decode b_M_value 49 = .ok (.iload_n 2, 1) := by decide +kernel
theorem d_M_value_50 : decode b_M_value 50 = .ok (.iadd, 1) := by decide +kernel
theorem d_M_value_51 : decode b_M_value 51 = .ok (.iaload, 1) := by decide +kernel
theorem d_M_value_52 : decode b_M_value 52 = .ok (.goto 4, 3) := by decide +kernel
theorem d_M_value_55 : decode b_M_value 55 = .ok (.iconst 0, 1) := by decide +kernel
theorem d_M_value_56 : decode b_M_value 56 = .ok (.ireturn, 1) := by decide +kernel
abbrev rm_M_sector : Room := { frames := 0, cells := 0, slots := 0, locals := 0 }
theorem good_M_sector : GoodIn TB (.code y_M_sector b_M_sector 2 (some .int) :: TB) := good_of tb_523
theorem hd_M_sector : y_M_sector.cls ≠ "java/lang/invoke/MethodHandle" ∧ y_M_sector.cls ≠ "java/lang/invoke/VarHandle" ∧ (parseMethodDescriptor y_M_sector.desc).map (fun d => d.parameters.length) = some 1 := by decide +kernel
theorem d_M_sector_0 : decode b_M_sector 0 = .ok (.iload_n 1, 1) := by decide +kernel
theorem d_M_sector_1 : decode b_M_sector 1 = .ok (.ifCond .lt 9, 3) := by decide +kernel
theorem d_M_sector_4 : decode b_M_sector 4 = .ok (.iload_n 1, 1) := by decide +kernel
theorem d_M_sector_5 : decode b_M_sector 5 = .ok (.bipush 63, 2) := by decide +kernel
theorem d_M_sector_7 : decode b_M_sector 7 = .ok (.if_icmp .le 7, 3) := by decide +kernel
theorem d_M_sector_10 : decode b_M_sector 10 = .ok (.iconst 0, 1) := by decide +kernel
theorem d_M_sector_11 : decode b_M_sector 11 = .ok (.goto 9, 3) := by decide +kernel
theorem d_M_sector_14 : decode b_M_sector 14 = .ok (.aload_n 0, 1) := by decide +kernel
theorem d_M_sector_15 : decode b_M_sector 15 = .ok (.getfield 7, 3) := by decide +kernel
theorem d_M_sector_18 : decode b_M_sector 18 = .ok (.iload_n 1, 1) := by decide +kernel
theorem d_M_sector_19 : decode b_M_sector 19 = .ok (.iaload, 1) := by decide +kernel
theorem d_M_sector_20 : decode b_M_sector 20 = .ok (.ireturn, 1) := by decide +kernel
abbrev rm_M_requestOf : Room := { frames := 1, cells := 0, slots := 0, locals := 21 }
theorem good_M_requestOf : GoodIn TB (.code y_M_requestOf b_M_requestOf 2 (some .int) :: TB) := good_of tb_529
theorem hd_M_requestOf : y_M_requestOf.cls ≠ "java/lang/invoke/MethodHandle" ∧ y_M_requestOf.cls ≠ "java/lang/invoke/VarHandle" ∧ (parseMethodDescriptor y_M_requestOf.desc).map (fun d => d.parameters.length) = some 1 := by decide +kernel
theorem d_M_requestOf_0 : decode b_M_requestOf 0 = .ok (.aload_n 0, 1) := by decide +kernel
theorem d_M_requestOf_1 : decode b_M_requestOf 1 = .ok (.iload_n 1, 1) := by decide +kernel
theorem d_M_requestOf_2 : decode b_M_requestOf 2 = .ok (.invokevirtual 118, 3) := by decide +kernel
theorem d_M_requestOf_5 : decode b_M_requestOf 5 = .ok (.ifCond .eq 22, 3) := by decide +kernel
theorem d_M_requestOf_8 : decode b_M_requestOf 8 = .ok (.aload_n 0, 1) := by decide +kernel
theorem d_M_requestOf_9 : decode b_M_requestOf 9 = .ok (.getfield 28, 3) := by decide +kernel
theorem d_M_requestOf_12 : decode b_M_requestOf 12 = .ok (.iload_n 1, 1) := by decide +kernel
theorem d_M_requestOf_13 : decode b_M_requestOf 13 = .ok (.iaload, 1) := by decide +kernel
theorem d_M_requestOf_14 : decode b_M_requestOf 14 = .ok (.iconst 1, 1) := by decide +kernel
theorem d_M_requestOf_15 : decode b_M_requestOf 15 = .ok (.if_icmp .ne 12, 3) := by decide +kernel
theorem d_M_requestOf_18 : decode b_M_requestOf 18 = .ok (.aload_n 0, 1) := by decide +kernel
theorem d_M_requestOf_19 : decode b_M_requestOf 19 = .ok (.getfield 25, 3) := by decide +kernel
theorem d_M_requestOf_22 : decode b_M_requestOf 22 = .ok (.iload_n 1, 1) := by decide +kernel
theorem d_M_requestOf_23 : decode b_M_requestOf 23 = .ok (.iaload, 1) := by decide +kernel
theorem d_M_requestOf_24 : decode b_M_requestOf 24 = .ok (.goto 4, 3) := by decide +kernel
theorem d_M_requestOf_27 : decode b_M_requestOf 27 = .ok (.iconst (-1), 1) := by decide +kernel
theorem d_M_requestOf_28 : decode b_M_requestOf 28 = .ok (.ireturn, 1) := by decide +kernel
abbrev rm_M_about : Room := { frames := 2, cells := 0, slots := 0, locals := 42 }
theorem good_M_about : GoodIn TB (.code y_M_about b_M_about 4 (some .int) :: TB) := good_of tb_533
theorem hd_M_about : y_M_about.cls ≠ "java/lang/invoke/MethodHandle" ∧ y_M_about.cls ≠ "java/lang/invoke/VarHandle" ∧ (parseMethodDescriptor y_M_about.desc).map (fun d => d.parameters.length) = some 2 := by decide +kernel
theorem d_M_about_0 : decode b_M_about 0 = .ok (.aload_n 0, 1) := by decide +kernel
theorem d_M_about_1 : decode b_M_about 1 = .ok (.iload_n 1, 1) := by decide +kernel
theorem d_M_about_2 : decode b_M_about 2 = .ok (.invokevirtual 121, 3) := by decide +kernel
theorem d_M_about_5 : decode b_M_about 5 = .ok (.istore_n 3, 1) := by decide +kernel
theorem d_M_about_6 : decode b_M_about 6 = .ok (.iload_n 3, 1) := by decide +kernel
theorem d_M_about_7 : decode b_M_about 7 = .ok (.ifCond .lt 12, 3) := by decide +kernel
theorem d_M_about_10 : decode b_M_about 10 = .ok (.iload_n 2, 1) := by decide +kernel
theorem d_M_about_11 : decode b_M_about 11 = .ok (.ifCond .lt 8, 3) := by decide +kernel
theorem d_M_about_14 : decode b_M_about 14 = .ok (.iload_n 2, 1) := by decide +kernel
theorem d_M_about_15 : decode b_M_about 15 = .ok (.iconst 4, 1) := by decide +kernel
theorem d_M_about_16 : decode b_M_about 16 = .ok (.if_icmp .le 5, 3) := by decide +kernel
theorem d_M_about_19 : decode b_M_about 19 = .ok (.iconst (-1), 1) := by decide +kernel
theorem d_M_about_20 : decode b_M_about 20 = .ok (.ireturn, 1) := by decide +kernel
theorem d_M_about_21 : decode b_M_about 21 = .ok (.iload_n 2, 1) := by decide +kernel
theorem d_M_about_22 : decode b_M_about 22 = .ok (.ifCond .ne 11, 3) := by decide +kernel
theorem d_M_about_25 : decode b_M_about 25 = .ok (.aload_n 0, 1) := by decide +kernel
theorem d_M_about_26 : decode b_M_about 26 = .ok (.iload_n 3, 1) := by decide +kernel
theorem d_M_about_27 : decode b_M_about 27 = .ok (.invokevirtual 68, 3) := by decide +kernel
theorem d_M_about_30 : decode b_M_about 30 = .ok (.goto 50, 3) := by decide +kernel
theorem d_M_about_33 : decode b_M_about 33 = .ok (.iload_n 2, 1) := by decide +kernel
theorem d_M_about_34 : decode b_M_about 34 = .ok (.iconst 1, 1) := by decide +kernel
theorem d_M_about_35 : decode b_M_about 35 = .ok (.if_icmp .ne 11, 3) := by decide +kernel
theorem d_M_about_38 : decode b_M_about 38 = .ok (.aload_n 0, 1) := by decide +kernel
theorem d_M_about_39 : decode b_M_about 39 = .ok (.iload_n 3, 1) := by decide +kernel
theorem d_M_about_40 : decode b_M_about 40 = .ok (.invokevirtual 65, 3) := by decide +kernel
theorem d_M_about_43 : decode b_M_about 43 = .ok (.goto 37, 3) := by decide +kernel
theorem d_M_about_46 : decode b_M_about 46 = .ok (.iload_n 2, 1) := by decide +kernel
theorem d_M_about_47 : decode b_M_about 47 = .ok (.iconst 2, 1) := by decide +kernel
theorem d_M_about_48 : decode b_M_about 48 = .ok (.if_icmp .ne 12, 3) := by decide +kernel
theorem d_M_about_51 : decode b_M_about 51 = .ok (.aload_n 0, 1) := by decide +kernel
theorem d_M_about_52 : decode b_M_about 52 = .ok (.getfield 34, 3) := by decide +kernel
theorem d_M_about_55 : decode b_M_about 55 = .ok (.iload_n 3, 1) := by decide +kernel
theorem d_M_about_56 : decode b_M_about 56 = .ok (.iaload, 1) := by decide +kernel
theorem d_M_about_57 : decode b_M_about 57 = .ok (.goto 23, 3) := by decide +kernel
theorem d_M_about_60 : decode b_M_about 60 = .ok (.iload_n 2, 1) := by decide +kernel
theorem d_M_about_61 : decode b_M_about 61 = .ok (.iconst 3, 1) := by decide +kernel
theorem d_M_about_62 : decode b_M_about 62 = .ok (.if_icmp .ne 12, 3) := by decide +kernel
theorem d_M_about_65 : decode b_M_about 65 = .ok (.aload_n 0, 1) := by decide +kernel
theorem d_M_about_66 : decode b_M_about 66 = .ok (.getfield 37, 3) := by decide +kernel
theorem d_M_about_69 : decode b_M_about 69 = .ok (.iload_n 3, 1) := by decide +kernel
theorem d_M_about_70 : decode b_M_about 70 = .ok (.iaload, 1) := by decide +kernel
theorem d_M_about_71 : decode b_M_about 71 = .ok (.goto 9, 3) := by decide +kernel
theorem d_M_about_74 : decode b_M_about 74 = .ok (.aload_n 0, 1) := by decide +kernel
theorem d_M_about_75 : decode b_M_about 75 = .ok (.getfield 13, 3) := by decide +kernel
theorem d_M_about_78 : decode b_M_about 78 = .ok (.iload_n 3, 1) := by decide +kernel
theorem d_M_about_79 : decode b_M_about 79 = .ok (.iaload, 1) := by decide +kernel
theorem d_M_about_80 : decode b_M_about 80 = .ok (.ireturn, 1) := by decide +kernel
abbrev rm_M_latest : Room := { frames := 0, cells := 0, slots := 0, locals := 0 }
theorem good_M_latest : GoodIn TB (.code y_M_latest b_M_latest 1 (some .int) :: TB) := good_of tb_538
theorem hd_M_latest : y_M_latest.cls ≠ "java/lang/invoke/MethodHandle" ∧ y_M_latest.cls ≠ "java/lang/invoke/VarHandle" ∧ (parseMethodDescriptor y_M_latest.desc).map (fun d => d.parameters.length) = some 0 := by decide +kernel
theorem d_M_latest_0 : decode b_M_latest 0 = .ok (.aload_n 0, 1) := by decide +kernel
theorem d_M_latest_1 : decode b_M_latest 1 = .ok (.getfield 43, 3) := by decide +kernel
theorem d_M_latest_4 : decode b_M_latest 4 = .ok (.ireturn, 1) := by decide +kernel
abbrev rm_M_head : Room := { frames := 0, cells := 0, slots := 0, locals := 0 }
theorem good_M_head : GoodIn TB (.code y_M_head b_M_head 1 (some .int) :: TB) := good_of tb_542
theorem hd_M_head : y_M_head.cls ≠ "java/lang/invoke/MethodHandle" ∧ y_M_head.cls ≠ "java/lang/invoke/VarHandle" ∧ (parseMethodDescriptor y_M_head.desc).map (fun d => d.parameters.length) = some 0 := by decide +kernel
theorem d_M_head_0 : decode b_M_head 0 = .ok (.aload_n 0, 1) := by decide +kernel
theorem d_M_head_1 : decode b_M_head 1 = .ok (.getfield 103, 3) := by decide +kernel
theorem d_M_head_4 : decode b_M_head 4 = .ok (.ireturn, 1) := by decide +kernel
abbrev rm_M_now : Room := { frames := 0, cells := 0, slots := 0, locals := 0 }
theorem good_M_now : GoodIn TB (.code y_M_now b_M_now 1 (some .int) :: TB) := good_of tb_546
theorem hd_M_now : y_M_now.cls ≠ "java/lang/invoke/MethodHandle" ∧ y_M_now.cls ≠ "java/lang/invoke/VarHandle" ∧ (parseMethodDescriptor y_M_now.desc).map (fun d => d.parameters.length) = some 0 := by decide +kernel
theorem d_M_now_0 : decode b_M_now 0 = .ok (.aload_n 0, 1) := by decide +kernel
theorem d_M_now_1 : decode b_M_now 1 = .ok (.getfield 77, 3) := by decide +kernel
theorem d_M_now_4 : decode b_M_now 4 = .ok (.ireturn, 1) := by decide +kernel
abbrev rm_M_batch : Room := { frames := 0, cells := 0, slots := 0, locals := 0 }
theorem good_M_batch : GoodIn TB (.code y_M_batch b_M_batch 1 (some .int) :: TB) := good_of tb_550
theorem hd_M_batch : y_M_batch.cls ≠ "java/lang/invoke/MethodHandle" ∧ y_M_batch.cls ≠ "java/lang/invoke/VarHandle" ∧ (parseMethodDescriptor y_M_batch.desc).map (fun d => d.parameters.length) = some 0 := by decide +kernel
theorem d_M_batch_0 : decode b_M_batch 0 = .ok (.bipush 10, 2) := by decide +kernel
theorem d_M_batch_2 : decode b_M_batch 2 = .ok (.aload_n 0, 1) := by decide +kernel
theorem d_M_batch_3 : decode b_M_batch 3 = .ok (.getfield 91, 3) := by decide +kernel
theorem d_M_batch_6 : decode b_M_batch 6 = .ok (.imul, 1) := by decide +kernel
theorem d_M_batch_7 : decode b_M_batch 7 = .ok (.iconst 5, 1) := by decide +kernel
theorem d_M_batch_8 : decode b_M_batch 8 = .ok (.aload_n 0, 1) := by decide +kernel
theorem d_M_batch_9 : decode b_M_batch 9 = .ok (.getfield 94, 3) := by decide +kernel
theorem d_M_batch_12 : decode b_M_batch 12 = .ok (.imul, 1) := by decide +kernel
theorem d_M_batch_13 : decode b_M_batch 13 = .ok (.iadd, 1) := by decide +kernel
theorem d_M_batch_14 : decode b_M_batch 14 = .ok (.aload_n 0, 1) := by decide +kernel
theorem d_M_batch_15 : decode b_M_batch 15 = .ok (.getfield 97, 3) := by decide +kernel
theorem d_M_batch_18 : decode b_M_batch 18 = .ok (.iadd, 1) := by decide +kernel
theorem d_M_batch_19 : decode b_M_batch 19 = .ok (.ireturn, 1) := by decide +kernel
end
section
-- a side's state: arrays, int fields, long fields; and how a step changes it
abbrev St : Type := (Nat → Nat → Int32) × (Nat → Int32) × (Nat → Int64)
def sA (g : St) (k j : Nat) (x : Int32) : St := (va_up g.1 k (upd (g.1 k) j x), g.2)
def sC (g : St) (k : Nat) (f : Nat → Int32) : St := (va_up g.1 k f, g.2)
def sI (g : St) (k : Nat) (x : Int32) : St := (g.1, va_up g.2.1 k x, g.2.2)
def sL (g : St) (k : Nat) (x : Int64) : St := (g.1, g.2.1, va_up g.2.2 k x)
abbrev ty_ (cI cZ : ClassId) : List (ClassId × FieldType) := [(cI, .int), (cZ, .boolean)]
-- a contract: where it starts, where it ends
abbrev CE (ww : St → va_W) (D : va_G) (tys : List (ClassId × FieldType)) (sz : Nat) (g : St) (U : State) : Prop :=
  U.heap.size = sz ∧ va_P D cls_ (ww g) U.heap ∧ va_K D cls_ tys U ∧ va_D (fun _ => True) (ww g) ∧ NW U
abbrev CB (ww : St → va_W) (D : va_G) (tys : List (ClassId × FieldType)) (A : Nat → Prop) (u : St) (t : State) : Prop :=
  va_P D cls_ (ww u) t.heap ∧ va_K D cls_ tys t ∧ va_D A (ww u)
abbrev MT_i (l : Launch) (y : MethodName) (cc : ByteArray) (nL : Nat) (rm : Room) (ww : St → va_W) (D : va_G) (tys : List (ClassId × FieldType)) (sz : Nat) (g : St) (av : List Value) (Q : Int32 → St → Prop) : Prop :=
  Met l y (.code y cc nL (some .int) :: TB) rm (va_Pc av (CE ww D tys sz g)) (va_Qi Q (CB ww D tys (va_A (ww g) sz)) (va_A (ww g) sz)) 0 0 (va_A (ww g) sz)
abbrev MT_z (l : Launch) (y : MethodName) (cc : ByteArray) (nL : Nat) (rm : Room) (ww : St → va_W) (D : va_G) (tys : List (ClassId × FieldType)) (sz : Nat) (g : St) (av : List Value) (Q : Int32 → St → Prop) : Prop :=
  Met l y (.code y cc nL (some .boolean) :: TB) rm (va_Pc av (CE ww D tys sz g)) (va_Qi Q (CB ww D tys (va_A (ww g) sz)) (va_A (ww g) sz)) 0 0 (va_A (ww g) sz)
abbrev MT_l (l : Launch) (y : MethodName) (cc : ByteArray) (nL : Nat) (rm : Room) (ww : St → va_W) (D : va_G) (tys : List (ClassId × FieldType)) (sz : Nat) (g : St) (av : List Value) (Q : Int64 → St → Prop) : Prop :=
  Met l y (.code y cc nL (some .long) :: TB) rm (va_Pc av (CE ww D tys sz g)) (va_Ql Q (CB ww D tys (va_A (ww g) sz)) (va_A (ww g) sz)) 0 0 (va_A (ww g) sz)
abbrev MT_v (l : Launch) (y : MethodName) (cc : ByteArray) (nL : Nat) (rm : Room) (ww : St → va_W) (D : va_G) (tys : List (ClassId × FieldType)) (sz : Nat) (g : St) (av : List Value) (Q : St → Prop) : Prop :=
  Met l y (.code y cc nL none :: TB) rm (va_Pc av (CE ww D tys sz g)) (va_Qv Q (CB ww D tys (va_A (ww g) sz)) (va_A (ww g) sz)) 0 0 (va_A (ww g) sz)
abbrev wE (a : Nat → Nat) (cI cZ : ClassId) (g : St) : va_W := [(a 0, .inr (4, [.ref (a 1), .ref (a 2), .ref (a 9), .ref (a 18), .ref (a 19), .int (g.2.1 5), .int (g.2.1 6), .int (g.2.1 7), .int (g.2.1 8), .int (g.2.1 9), .int (g.2.1 10)])),
  (a 1, .inl (cI, 64, .inl (g.1 0))),
  (a 2, .inr (2, [.ref (a 3), .ref (a 4), .ref (a 5), .ref (a 6), .ref (a 7), .ref (a 8), .int (g.2.1 0)])),
  (a 3, .inl (cI, 200, .inl (g.1 1))),
  (a 4, .inl (cI, 200, .inl (g.1 2))),
  (a 5, .inl (cI, 200, .inl (g.1 3))),
  (a 6, .inl (cI, 200, .inl (g.1 4))),
  (a 7, .inl (cZ, 200, .inl (g.1 5))),
  (a 8, .inl (cI, 1600, .inl (g.1 6))),
  (a 9, .inr (3, [.ref (a 10), .ref (a 11), .ref (a 12), .ref (a 13), .ref (a 14), .ref (a 15), .ref (a 16), .ref (a 17), .int (g.2.1 1)])),
  (a 10, .inl (cI, 200, .inl (g.1 7))),
  (a 11, .inl (cI, 200, .inl (g.1 8))),
  (a 12, .inl (cI, 200, .inl (g.1 9))),
  (a 13, .inl (cI, 200, .inl (g.1 10))),
  (a 14, .inl (cI, 200, .inl (g.1 11))),
  (a 15, .inl (cI, 200, .inl (g.1 12))),
  (a 16, .inl (cZ, 200, .inl (g.1 13))),
  (a 17, .inl (cI, 24, .inl (g.1 14))),
  (a 18, .inr (1, [.long (g.2.2 0), .long (g.2.2 1)])),
  (a 19, .inr (0, [.int (g.2.1 2), .int (g.2.1 3), .int (g.2.1 4)]))]
abbrev wM (a : Nat → Nat) (cI cZ : ClassId) (g : St) : va_W := [(a 0, .inr (5, [.ref (a 1), .int (g.2.1 0), .ref (a 2), .ref (a 3), .ref (a 4), .ref (a 5), .ref (a 6), .ref (a 7), .ref (a 8), .ref (a 9), .ref (a 10), .int (g.2.1 1), .int (g.2.1 2), .ref (a 11), .int (g.2.1 3), .int (g.2.1 4), .int (g.2.1 5), .int (g.2.1 6), .int (g.2.1 7)])),
  (a 1, .inl (cI, 64, .inl (g.1 0))),
  (a 2, .inl (cI, 200, .inl (g.1 1))),
  (a 3, .inl (cI, 200, .inl (g.1 2))),
  (a 4, .inl (cI, 200, .inl (g.1 3))),
  (a 5, .inl (cI, 200, .inl (g.1 4))),
  (a 6, .inl (cI, 200, .inl (g.1 5))),
  (a 7, .inl (cI, 200, .inl (g.1 6))),
  (a 8, .inl (cI, 1600, .inl (g.1 7))),
  (a 9, .inl (cI, 200, .inl (g.1 8))),
  (a 10, .inl (cI, 200, .inl (g.1 9))),
  (a 11, .inl (cI, 2, .inl (g.1 10)))]
theorem pI_E_5 {D : va_G} {a : Nat → Nat} {cI cZ : ClassId} {g : St} {H : Heap} {v : Int32} (h : va_P D cls_ ((wE a cI cZ g).set 0 (a 0, .inr (4, [.ref (a 1), .ref (a 2), .ref (a 9), .ref (a 18), .ref (a 19), .int (g.2.1 5), .int (g.2.1 6), .int (g.2.1 7), .int (g.2.1 8), .int (g.2.1 9), .int (g.2.1 10)].set 5 (.int v)))) H) : va_P D cls_ (wE a cI cZ (sI g 5 v)) H := h
theorem dI_E_5 {A : Nat → Prop} {a : Nat → Nat} {cI cZ : ClassId} {g : St} {v : Int32} (h : va_D A ((wE a cI cZ g).set 0 (a 0, .inr (4, [.ref (a 1), .ref (a 2), .ref (a 9), .ref (a 18), .ref (a 19), .int (g.2.1 5), .int (g.2.1 6), .int (g.2.1 7), .int (g.2.1 8), .int (g.2.1 9), .int (g.2.1 10)].set 5 (.int v))))) : va_D A (wE a cI cZ (sI g 5 v)) := h
theorem pI_E_6 {D : va_G} {a : Nat → Nat} {cI cZ : ClassId} {g : St} {H : Heap} {v : Int32} (h : va_P D cls_ ((wE a cI cZ g).set 0 (a 0, .inr (4, [.ref (a 1), .ref (a 2), .ref (a 9), .ref (a 18), .ref (a 19), .int (g.2.1 5), .int (g.2.1 6), .int (g.2.1 7), .int (g.2.1 8), .int (g.2.1 9), .int (g.2.1 10)].set 6 (.int v)))) H) : va_P D cls_ (wE a cI cZ (sI g 6 v)) H := h
theorem dI_E_6 {A : Nat → Prop} {a : Nat → Nat} {cI cZ : ClassId} {g : St} {v : Int32} (h : va_D A ((wE a cI cZ g).set 0 (a 0, .inr (4, [.ref (a 1), .ref (a 2), .ref (a 9), .ref (a 18), .ref (a 19), .int (g.2.1 5), .int (g.2.1 6), .int (g.2.1 7), .int (g.2.1 8), .int (g.2.1 9), .int (g.2.1 10)].set 6 (.int v))))) : va_D A (wE a cI cZ (sI g 6 v)) := h
theorem pI_E_7 {D : va_G} {a : Nat → Nat} {cI cZ : ClassId} {g : St} {H : Heap} {v : Int32} (h : va_P D cls_ ((wE a cI cZ g).set 0 (a 0, .inr (4, [.ref (a 1), .ref (a 2), .ref (a 9), .ref (a 18), .ref (a 19), .int (g.2.1 5), .int (g.2.1 6), .int (g.2.1 7), .int (g.2.1 8), .int (g.2.1 9), .int (g.2.1 10)].set 7 (.int v)))) H) : va_P D cls_ (wE a cI cZ (sI g 7 v)) H := h
theorem dI_E_7 {A : Nat → Prop} {a : Nat → Nat} {cI cZ : ClassId} {g : St} {v : Int32} (h : va_D A ((wE a cI cZ g).set 0 (a 0, .inr (4, [.ref (a 1), .ref (a 2), .ref (a 9), .ref (a 18), .ref (a 19), .int (g.2.1 5), .int (g.2.1 6), .int (g.2.1 7), .int (g.2.1 8), .int (g.2.1 9), .int (g.2.1 10)].set 7 (.int v))))) : va_D A (wE a cI cZ (sI g 7 v)) := h
theorem pI_E_8 {D : va_G} {a : Nat → Nat} {cI cZ : ClassId} {g : St} {H : Heap} {v : Int32} (h : va_P D cls_ ((wE a cI cZ g).set 0 (a 0, .inr (4, [.ref (a 1), .ref (a 2), .ref (a 9), .ref (a 18), .ref (a 19), .int (g.2.1 5), .int (g.2.1 6), .int (g.2.1 7), .int (g.2.1 8), .int (g.2.1 9), .int (g.2.1 10)].set 8 (.int v)))) H) : va_P D cls_ (wE a cI cZ (sI g 8 v)) H := h
theorem dI_E_8 {A : Nat → Prop} {a : Nat → Nat} {cI cZ : ClassId} {g : St} {v : Int32} (h : va_D A ((wE a cI cZ g).set 0 (a 0, .inr (4, [.ref (a 1), .ref (a 2), .ref (a 9), .ref (a 18), .ref (a 19), .int (g.2.1 5), .int (g.2.1 6), .int (g.2.1 7), .int (g.2.1 8), .int (g.2.1 9), .int (g.2.1 10)].set 8 (.int v))))) : va_D A (wE a cI cZ (sI g 8 v)) := h
theorem pI_E_9 {D : va_G} {a : Nat → Nat} {cI cZ : ClassId} {g : St} {H : Heap} {v : Int32} (h : va_P D cls_ ((wE a cI cZ g).set 0 (a 0, .inr (4, [.ref (a 1), .ref (a 2), .ref (a 9), .ref (a 18), .ref (a 19), .int (g.2.1 5), .int (g.2.1 6), .int (g.2.1 7), .int (g.2.1 8), .int (g.2.1 9), .int (g.2.1 10)].set 9 (.int v)))) H) : va_P D cls_ (wE a cI cZ (sI g 9 v)) H := h
theorem dI_E_9 {A : Nat → Prop} {a : Nat → Nat} {cI cZ : ClassId} {g : St} {v : Int32} (h : va_D A ((wE a cI cZ g).set 0 (a 0, .inr (4, [.ref (a 1), .ref (a 2), .ref (a 9), .ref (a 18), .ref (a 19), .int (g.2.1 5), .int (g.2.1 6), .int (g.2.1 7), .int (g.2.1 8), .int (g.2.1 9), .int (g.2.1 10)].set 9 (.int v))))) : va_D A (wE a cI cZ (sI g 9 v)) := h
theorem pI_E_10 {D : va_G} {a : Nat → Nat} {cI cZ : ClassId} {g : St} {H : Heap} {v : Int32} (h : va_P D cls_ ((wE a cI cZ g).set 0 (a 0, .inr (4, [.ref (a 1), .ref (a 2), .ref (a 9), .ref (a 18), .ref (a 19), .int (g.2.1 5), .int (g.2.1 6), .int (g.2.1 7), .int (g.2.1 8), .int (g.2.1 9), .int (g.2.1 10)].set 10 (.int v)))) H) : va_P D cls_ (wE a cI cZ (sI g 10 v)) H := h
theorem dI_E_10 {A : Nat → Prop} {a : Nat → Nat} {cI cZ : ClassId} {g : St} {v : Int32} (h : va_D A ((wE a cI cZ g).set 0 (a 0, .inr (4, [.ref (a 1), .ref (a 2), .ref (a 9), .ref (a 18), .ref (a 19), .int (g.2.1 5), .int (g.2.1 6), .int (g.2.1 7), .int (g.2.1 8), .int (g.2.1 9), .int (g.2.1 10)].set 10 (.int v))))) : va_D A (wE a cI cZ (sI g 10 v)) := h
theorem pA_E_0 {D : va_G} {a : Nat → Nat} {cI cZ : ClassId} {g : St} {H : Heap} {j : Nat} {x : Int32} (h : va_P D cls_ ((wE a cI cZ g).set 1 (a 1, .inl (cI, 64, .inl (upd (g.1 0) j x)))) H) : va_P D cls_ (wE a cI cZ (sA g 0 j x)) H := h
theorem dA_E_0 {A : Nat → Prop} {a : Nat → Nat} {cI cZ : ClassId} {g : St} {j : Nat} {x : Int32} (h : va_D A ((wE a cI cZ g).set 1 (a 1, .inl (cI, 64, .inl (upd (g.1 0) j x))))) : va_D A (wE a cI cZ (sA g 0 j x)) := h
theorem pC_E_0 {D : va_G} {a : Nat → Nat} {cI cZ : ClassId} {g : St} {H : Heap} {f : Nat → Int32} (h : va_P D cls_ ((wE a cI cZ g).set 1 (a 1, .inl (cI, 64, .inl f))) H) : va_P D cls_ (wE a cI cZ (sC g 0 f)) H := h
theorem dC_E_0 {A : Nat → Prop} {a : Nat → Nat} {cI cZ : ClassId} {g : St} {f : Nat → Int32} (h : va_D A ((wE a cI cZ g).set 1 (a 1, .inl (cI, 64, .inl f)))) : va_D A (wE a cI cZ (sC g 0 f)) := h
theorem pI_E_0 {D : va_G} {a : Nat → Nat} {cI cZ : ClassId} {g : St} {H : Heap} {v : Int32} (h : va_P D cls_ ((wE a cI cZ g).set 2 (a 2, .inr (2, [.ref (a 3), .ref (a 4), .ref (a 5), .ref (a 6), .ref (a 7), .ref (a 8), .int (g.2.1 0)].set 6 (.int v)))) H) : va_P D cls_ (wE a cI cZ (sI g 0 v)) H := h
theorem dI_E_0 {A : Nat → Prop} {a : Nat → Nat} {cI cZ : ClassId} {g : St} {v : Int32} (h : va_D A ((wE a cI cZ g).set 2 (a 2, .inr (2, [.ref (a 3), .ref (a 4), .ref (a 5), .ref (a 6), .ref (a 7), .ref (a 8), .int (g.2.1 0)].set 6 (.int v))))) : va_D A (wE a cI cZ (sI g 0 v)) := h
theorem pA_E_1 {D : va_G} {a : Nat → Nat} {cI cZ : ClassId} {g : St} {H : Heap} {j : Nat} {x : Int32} (h : va_P D cls_ ((wE a cI cZ g).set 3 (a 3, .inl (cI, 200, .inl (upd (g.1 1) j x)))) H) : va_P D cls_ (wE a cI cZ (sA g 1 j x)) H := h
theorem dA_E_1 {A : Nat → Prop} {a : Nat → Nat} {cI cZ : ClassId} {g : St} {j : Nat} {x : Int32} (h : va_D A ((wE a cI cZ g).set 3 (a 3, .inl (cI, 200, .inl (upd (g.1 1) j x))))) : va_D A (wE a cI cZ (sA g 1 j x)) := h
theorem pC_E_1 {D : va_G} {a : Nat → Nat} {cI cZ : ClassId} {g : St} {H : Heap} {f : Nat → Int32} (h : va_P D cls_ ((wE a cI cZ g).set 3 (a 3, .inl (cI, 200, .inl f))) H) : va_P D cls_ (wE a cI cZ (sC g 1 f)) H := h
theorem dC_E_1 {A : Nat → Prop} {a : Nat → Nat} {cI cZ : ClassId} {g : St} {f : Nat → Int32} (h : va_D A ((wE a cI cZ g).set 3 (a 3, .inl (cI, 200, .inl f)))) : va_D A (wE a cI cZ (sC g 1 f)) := h
theorem pA_E_2 {D : va_G} {a : Nat → Nat} {cI cZ : ClassId} {g : St} {H : Heap} {j : Nat} {x : Int32} (h : va_P D cls_ ((wE a cI cZ g).set 4 (a 4, .inl (cI, 200, .inl (upd (g.1 2) j x)))) H) : va_P D cls_ (wE a cI cZ (sA g 2 j x)) H := h
theorem dA_E_2 {A : Nat → Prop} {a : Nat → Nat} {cI cZ : ClassId} {g : St} {j : Nat} {x : Int32} (h : va_D A ((wE a cI cZ g).set 4 (a 4, .inl (cI, 200, .inl (upd (g.1 2) j x))))) : va_D A (wE a cI cZ (sA g 2 j x)) := h
theorem pC_E_2 {D : va_G} {a : Nat → Nat} {cI cZ : ClassId} {g : St} {H : Heap} {f : Nat → Int32} (h : va_P D cls_ ((wE a cI cZ g).set 4 (a 4, .inl (cI, 200, .inl f))) H) : va_P D cls_ (wE a cI cZ (sC g 2 f)) H := h
theorem dC_E_2 {A : Nat → Prop} {a : Nat → Nat} {cI cZ : ClassId} {g : St} {f : Nat → Int32} (h : va_D A ((wE a cI cZ g).set 4 (a 4, .inl (cI, 200, .inl f)))) : va_D A (wE a cI cZ (sC g 2 f)) := h
theorem pA_E_3 {D : va_G} {a : Nat → Nat} {cI cZ : ClassId} {g : St} {H : Heap} {j : Nat} {x : Int32} (h : va_P D cls_ ((wE a cI cZ g).set 5 (a 5, .inl (cI, 200, .inl (upd (g.1 3) j x)))) H) : va_P D cls_ (wE a cI cZ (sA g 3 j x)) H := h
theorem dA_E_3 {A : Nat → Prop} {a : Nat → Nat} {cI cZ : ClassId} {g : St} {j : Nat} {x : Int32} (h : va_D A ((wE a cI cZ g).set 5 (a 5, .inl (cI, 200, .inl (upd (g.1 3) j x))))) : va_D A (wE a cI cZ (sA g 3 j x)) := h
theorem pC_E_3 {D : va_G} {a : Nat → Nat} {cI cZ : ClassId} {g : St} {H : Heap} {f : Nat → Int32} (h : va_P D cls_ ((wE a cI cZ g).set 5 (a 5, .inl (cI, 200, .inl f))) H) : va_P D cls_ (wE a cI cZ (sC g 3 f)) H := h
theorem dC_E_3 {A : Nat → Prop} {a : Nat → Nat} {cI cZ : ClassId} {g : St} {f : Nat → Int32} (h : va_D A ((wE a cI cZ g).set 5 (a 5, .inl (cI, 200, .inl f)))) : va_D A (wE a cI cZ (sC g 3 f)) := h
theorem pA_E_4 {D : va_G} {a : Nat → Nat} {cI cZ : ClassId} {g : St} {H : Heap} {j : Nat} {x : Int32} (h : va_P D cls_ ((wE a cI cZ g).set 6 (a 6, .inl (cI, 200, .inl (upd (g.1 4) j x)))) H) : va_P D cls_ (wE a cI cZ (sA g 4 j x)) H := h
theorem dA_E_4 {A : Nat → Prop} {a : Nat → Nat} {cI cZ : ClassId} {g : St} {j : Nat} {x : Int32} (h : va_D A ((wE a cI cZ g).set 6 (a 6, .inl (cI, 200, .inl (upd (g.1 4) j x))))) : va_D A (wE a cI cZ (sA g 4 j x)) := h
theorem pC_E_4 {D : va_G} {a : Nat → Nat} {cI cZ : ClassId} {g : St} {H : Heap} {f : Nat → Int32} (h : va_P D cls_ ((wE a cI cZ g).set 6 (a 6, .inl (cI, 200, .inl f))) H) : va_P D cls_ (wE a cI cZ (sC g 4 f)) H := h
theorem dC_E_4 {A : Nat → Prop} {a : Nat → Nat} {cI cZ : ClassId} {g : St} {f : Nat → Int32} (h : va_D A ((wE a cI cZ g).set 6 (a 6, .inl (cI, 200, .inl f)))) : va_D A (wE a cI cZ (sC g 4 f)) := h
theorem pA_E_5 {D : va_G} {a : Nat → Nat} {cI cZ : ClassId} {g : St} {H : Heap} {j : Nat} {x : Int32} (h : va_P D cls_ ((wE a cI cZ g).set 7 (a 7, .inl (cZ, 200, .inl (upd (g.1 5) j x)))) H) : va_P D cls_ (wE a cI cZ (sA g 5 j x)) H := h
theorem dA_E_5 {A : Nat → Prop} {a : Nat → Nat} {cI cZ : ClassId} {g : St} {j : Nat} {x : Int32} (h : va_D A ((wE a cI cZ g).set 7 (a 7, .inl (cZ, 200, .inl (upd (g.1 5) j x))))) : va_D A (wE a cI cZ (sA g 5 j x)) := h
theorem pC_E_5 {D : va_G} {a : Nat → Nat} {cI cZ : ClassId} {g : St} {H : Heap} {f : Nat → Int32} (h : va_P D cls_ ((wE a cI cZ g).set 7 (a 7, .inl (cZ, 200, .inl f))) H) : va_P D cls_ (wE a cI cZ (sC g 5 f)) H := h
theorem dC_E_5 {A : Nat → Prop} {a : Nat → Nat} {cI cZ : ClassId} {g : St} {f : Nat → Int32} (h : va_D A ((wE a cI cZ g).set 7 (a 7, .inl (cZ, 200, .inl f)))) : va_D A (wE a cI cZ (sC g 5 f)) := h
theorem pA_E_6 {D : va_G} {a : Nat → Nat} {cI cZ : ClassId} {g : St} {H : Heap} {j : Nat} {x : Int32} (h : va_P D cls_ ((wE a cI cZ g).set 8 (a 8, .inl (cI, 1600, .inl (upd (g.1 6) j x)))) H) : va_P D cls_ (wE a cI cZ (sA g 6 j x)) H := h
theorem dA_E_6 {A : Nat → Prop} {a : Nat → Nat} {cI cZ : ClassId} {g : St} {j : Nat} {x : Int32} (h : va_D A ((wE a cI cZ g).set 8 (a 8, .inl (cI, 1600, .inl (upd (g.1 6) j x))))) : va_D A (wE a cI cZ (sA g 6 j x)) := h
theorem pC_E_6 {D : va_G} {a : Nat → Nat} {cI cZ : ClassId} {g : St} {H : Heap} {f : Nat → Int32} (h : va_P D cls_ ((wE a cI cZ g).set 8 (a 8, .inl (cI, 1600, .inl f))) H) : va_P D cls_ (wE a cI cZ (sC g 6 f)) H := h
theorem dC_E_6 {A : Nat → Prop} {a : Nat → Nat} {cI cZ : ClassId} {g : St} {f : Nat → Int32} (h : va_D A ((wE a cI cZ g).set 8 (a 8, .inl (cI, 1600, .inl f)))) : va_D A (wE a cI cZ (sC g 6 f)) := h
theorem pI_E_1 {D : va_G} {a : Nat → Nat} {cI cZ : ClassId} {g : St} {H : Heap} {v : Int32} (h : va_P D cls_ ((wE a cI cZ g).set 9 (a 9, .inr (3, [.ref (a 10), .ref (a 11), .ref (a 12), .ref (a 13), .ref (a 14), .ref (a 15), .ref (a 16), .ref (a 17), .int (g.2.1 1)].set 8 (.int v)))) H) : va_P D cls_ (wE a cI cZ (sI g 1 v)) H := h
theorem dI_E_1 {A : Nat → Prop} {a : Nat → Nat} {cI cZ : ClassId} {g : St} {v : Int32} (h : va_D A ((wE a cI cZ g).set 9 (a 9, .inr (3, [.ref (a 10), .ref (a 11), .ref (a 12), .ref (a 13), .ref (a 14), .ref (a 15), .ref (a 16), .ref (a 17), .int (g.2.1 1)].set 8 (.int v))))) : va_D A (wE a cI cZ (sI g 1 v)) := h
theorem pA_E_7 {D : va_G} {a : Nat → Nat} {cI cZ : ClassId} {g : St} {H : Heap} {j : Nat} {x : Int32} (h : va_P D cls_ ((wE a cI cZ g).set 10 (a 10, .inl (cI, 200, .inl (upd (g.1 7) j x)))) H) : va_P D cls_ (wE a cI cZ (sA g 7 j x)) H := h
theorem dA_E_7 {A : Nat → Prop} {a : Nat → Nat} {cI cZ : ClassId} {g : St} {j : Nat} {x : Int32} (h : va_D A ((wE a cI cZ g).set 10 (a 10, .inl (cI, 200, .inl (upd (g.1 7) j x))))) : va_D A (wE a cI cZ (sA g 7 j x)) := h
theorem pC_E_7 {D : va_G} {a : Nat → Nat} {cI cZ : ClassId} {g : St} {H : Heap} {f : Nat → Int32} (h : va_P D cls_ ((wE a cI cZ g).set 10 (a 10, .inl (cI, 200, .inl f))) H) : va_P D cls_ (wE a cI cZ (sC g 7 f)) H := h
theorem dC_E_7 {A : Nat → Prop} {a : Nat → Nat} {cI cZ : ClassId} {g : St} {f : Nat → Int32} (h : va_D A ((wE a cI cZ g).set 10 (a 10, .inl (cI, 200, .inl f)))) : va_D A (wE a cI cZ (sC g 7 f)) := h
theorem pA_E_8 {D : va_G} {a : Nat → Nat} {cI cZ : ClassId} {g : St} {H : Heap} {j : Nat} {x : Int32} (h : va_P D cls_ ((wE a cI cZ g).set 11 (a 11, .inl (cI, 200, .inl (upd (g.1 8) j x)))) H) : va_P D cls_ (wE a cI cZ (sA g 8 j x)) H := h
theorem dA_E_8 {A : Nat → Prop} {a : Nat → Nat} {cI cZ : ClassId} {g : St} {j : Nat} {x : Int32} (h : va_D A ((wE a cI cZ g).set 11 (a 11, .inl (cI, 200, .inl (upd (g.1 8) j x))))) : va_D A (wE a cI cZ (sA g 8 j x)) := h
theorem pC_E_8 {D : va_G} {a : Nat → Nat} {cI cZ : ClassId} {g : St} {H : Heap} {f : Nat → Int32} (h : va_P D cls_ ((wE a cI cZ g).set 11 (a 11, .inl (cI, 200, .inl f))) H) : va_P D cls_ (wE a cI cZ (sC g 8 f)) H := h
theorem dC_E_8 {A : Nat → Prop} {a : Nat → Nat} {cI cZ : ClassId} {g : St} {f : Nat → Int32} (h : va_D A ((wE a cI cZ g).set 11 (a 11, .inl (cI, 200, .inl f)))) : va_D A (wE a cI cZ (sC g 8 f)) := h
theorem pA_E_9 {D : va_G} {a : Nat → Nat} {cI cZ : ClassId} {g : St} {H : Heap} {j : Nat} {x : Int32} (h : va_P D cls_ ((wE a cI cZ g).set 12 (a 12, .inl (cI, 200, .inl (upd (g.1 9) j x)))) H) : va_P D cls_ (wE a cI cZ (sA g 9 j x)) H := h
theorem dA_E_9 {A : Nat → Prop} {a : Nat → Nat} {cI cZ : ClassId} {g : St} {j : Nat} {x : Int32} (h : va_D A ((wE a cI cZ g).set 12 (a 12, .inl (cI, 200, .inl (upd (g.1 9) j x))))) : va_D A (wE a cI cZ (sA g 9 j x)) := h
theorem pC_E_9 {D : va_G} {a : Nat → Nat} {cI cZ : ClassId} {g : St} {H : Heap} {f : Nat → Int32} (h : va_P D cls_ ((wE a cI cZ g).set 12 (a 12, .inl (cI, 200, .inl f))) H) : va_P D cls_ (wE a cI cZ (sC g 9 f)) H := h
theorem dC_E_9 {A : Nat → Prop} {a : Nat → Nat} {cI cZ : ClassId} {g : St} {f : Nat → Int32} (h : va_D A ((wE a cI cZ g).set 12 (a 12, .inl (cI, 200, .inl f)))) : va_D A (wE a cI cZ (sC g 9 f)) := h
theorem pA_E_10 {D : va_G} {a : Nat → Nat} {cI cZ : ClassId} {g : St} {H : Heap} {j : Nat} {x : Int32} (h : va_P D cls_ ((wE a cI cZ g).set 13 (a 13, .inl (cI, 200, .inl (upd (g.1 10) j x)))) H) : va_P D cls_ (wE a cI cZ (sA g 10 j x)) H := h
theorem dA_E_10 {A : Nat → Prop} {a : Nat → Nat} {cI cZ : ClassId} {g : St} {j : Nat} {x : Int32} (h : va_D A ((wE a cI cZ g).set 13 (a 13, .inl (cI, 200, .inl (upd (g.1 10) j x))))) : va_D A (wE a cI cZ (sA g 10 j x)) := h
theorem pC_E_10 {D : va_G} {a : Nat → Nat} {cI cZ : ClassId} {g : St} {H : Heap} {f : Nat → Int32} (h : va_P D cls_ ((wE a cI cZ g).set 13 (a 13, .inl (cI, 200, .inl f))) H) : va_P D cls_ (wE a cI cZ (sC g 10 f)) H := h
theorem dC_E_10 {A : Nat → Prop} {a : Nat → Nat} {cI cZ : ClassId} {g : St} {f : Nat → Int32} (h : va_D A ((wE a cI cZ g).set 13 (a 13, .inl (cI, 200, .inl f)))) : va_D A (wE a cI cZ (sC g 10 f)) := h
theorem pA_E_11 {D : va_G} {a : Nat → Nat} {cI cZ : ClassId} {g : St} {H : Heap} {j : Nat} {x : Int32} (h : va_P D cls_ ((wE a cI cZ g).set 14 (a 14, .inl (cI, 200, .inl (upd (g.1 11) j x)))) H) : va_P D cls_ (wE a cI cZ (sA g 11 j x)) H := h
theorem dA_E_11 {A : Nat → Prop} {a : Nat → Nat} {cI cZ : ClassId} {g : St} {j : Nat} {x : Int32} (h : va_D A ((wE a cI cZ g).set 14 (a 14, .inl (cI, 200, .inl (upd (g.1 11) j x))))) : va_D A (wE a cI cZ (sA g 11 j x)) := h
theorem pC_E_11 {D : va_G} {a : Nat → Nat} {cI cZ : ClassId} {g : St} {H : Heap} {f : Nat → Int32} (h : va_P D cls_ ((wE a cI cZ g).set 14 (a 14, .inl (cI, 200, .inl f))) H) : va_P D cls_ (wE a cI cZ (sC g 11 f)) H := h
theorem dC_E_11 {A : Nat → Prop} {a : Nat → Nat} {cI cZ : ClassId} {g : St} {f : Nat → Int32} (h : va_D A ((wE a cI cZ g).set 14 (a 14, .inl (cI, 200, .inl f)))) : va_D A (wE a cI cZ (sC g 11 f)) := h
theorem pA_E_12 {D : va_G} {a : Nat → Nat} {cI cZ : ClassId} {g : St} {H : Heap} {j : Nat} {x : Int32} (h : va_P D cls_ ((wE a cI cZ g).set 15 (a 15, .inl (cI, 200, .inl (upd (g.1 12) j x)))) H) : va_P D cls_ (wE a cI cZ (sA g 12 j x)) H := h
theorem dA_E_12 {A : Nat → Prop} {a : Nat → Nat} {cI cZ : ClassId} {g : St} {j : Nat} {x : Int32} (h : va_D A ((wE a cI cZ g).set 15 (a 15, .inl (cI, 200, .inl (upd (g.1 12) j x))))) : va_D A (wE a cI cZ (sA g 12 j x)) := h
theorem pC_E_12 {D : va_G} {a : Nat → Nat} {cI cZ : ClassId} {g : St} {H : Heap} {f : Nat → Int32} (h : va_P D cls_ ((wE a cI cZ g).set 15 (a 15, .inl (cI, 200, .inl f))) H) : va_P D cls_ (wE a cI cZ (sC g 12 f)) H := h
theorem dC_E_12 {A : Nat → Prop} {a : Nat → Nat} {cI cZ : ClassId} {g : St} {f : Nat → Int32} (h : va_D A ((wE a cI cZ g).set 15 (a 15, .inl (cI, 200, .inl f)))) : va_D A (wE a cI cZ (sC g 12 f)) := h
theorem pA_E_13 {D : va_G} {a : Nat → Nat} {cI cZ : ClassId} {g : St} {H : Heap} {j : Nat} {x : Int32} (h : va_P D cls_ ((wE a cI cZ g).set 16 (a 16, .inl (cZ, 200, .inl (upd (g.1 13) j x)))) H) : va_P D cls_ (wE a cI cZ (sA g 13 j x)) H := h
theorem dA_E_13 {A : Nat → Prop} {a : Nat → Nat} {cI cZ : ClassId} {g : St} {j : Nat} {x : Int32} (h : va_D A ((wE a cI cZ g).set 16 (a 16, .inl (cZ, 200, .inl (upd (g.1 13) j x))))) : va_D A (wE a cI cZ (sA g 13 j x)) := h
theorem pC_E_13 {D : va_G} {a : Nat → Nat} {cI cZ : ClassId} {g : St} {H : Heap} {f : Nat → Int32} (h : va_P D cls_ ((wE a cI cZ g).set 16 (a 16, .inl (cZ, 200, .inl f))) H) : va_P D cls_ (wE a cI cZ (sC g 13 f)) H := h
theorem dC_E_13 {A : Nat → Prop} {a : Nat → Nat} {cI cZ : ClassId} {g : St} {f : Nat → Int32} (h : va_D A ((wE a cI cZ g).set 16 (a 16, .inl (cZ, 200, .inl f)))) : va_D A (wE a cI cZ (sC g 13 f)) := h
theorem pA_E_14 {D : va_G} {a : Nat → Nat} {cI cZ : ClassId} {g : St} {H : Heap} {j : Nat} {x : Int32} (h : va_P D cls_ ((wE a cI cZ g).set 17 (a 17, .inl (cI, 24, .inl (upd (g.1 14) j x)))) H) : va_P D cls_ (wE a cI cZ (sA g 14 j x)) H := h
theorem dA_E_14 {A : Nat → Prop} {a : Nat → Nat} {cI cZ : ClassId} {g : St} {j : Nat} {x : Int32} (h : va_D A ((wE a cI cZ g).set 17 (a 17, .inl (cI, 24, .inl (upd (g.1 14) j x))))) : va_D A (wE a cI cZ (sA g 14 j x)) := h
theorem pC_E_14 {D : va_G} {a : Nat → Nat} {cI cZ : ClassId} {g : St} {H : Heap} {f : Nat → Int32} (h : va_P D cls_ ((wE a cI cZ g).set 17 (a 17, .inl (cI, 24, .inl f))) H) : va_P D cls_ (wE a cI cZ (sC g 14 f)) H := h
theorem dC_E_14 {A : Nat → Prop} {a : Nat → Nat} {cI cZ : ClassId} {g : St} {f : Nat → Int32} (h : va_D A ((wE a cI cZ g).set 17 (a 17, .inl (cI, 24, .inl f)))) : va_D A (wE a cI cZ (sC g 14 f)) := h
theorem pL_E_0 {D : va_G} {a : Nat → Nat} {cI cZ : ClassId} {g : St} {H : Heap} {v : Int64} (h : va_P D cls_ ((wE a cI cZ g).set 18 (a 18, .inr (1, [.long (g.2.2 0), .long (g.2.2 1)].set 0 (.long v)))) H) : va_P D cls_ (wE a cI cZ (sL g 0 v)) H := h
theorem dL_E_0 {A : Nat → Prop} {a : Nat → Nat} {cI cZ : ClassId} {g : St} {v : Int64} (h : va_D A ((wE a cI cZ g).set 18 (a 18, .inr (1, [.long (g.2.2 0), .long (g.2.2 1)].set 0 (.long v))))) : va_D A (wE a cI cZ (sL g 0 v)) := h
theorem pL_E_1 {D : va_G} {a : Nat → Nat} {cI cZ : ClassId} {g : St} {H : Heap} {v : Int64} (h : va_P D cls_ ((wE a cI cZ g).set 18 (a 18, .inr (1, [.long (g.2.2 0), .long (g.2.2 1)].set 1 (.long v)))) H) : va_P D cls_ (wE a cI cZ (sL g 1 v)) H := h
theorem dL_E_1 {A : Nat → Prop} {a : Nat → Nat} {cI cZ : ClassId} {g : St} {v : Int64} (h : va_D A ((wE a cI cZ g).set 18 (a 18, .inr (1, [.long (g.2.2 0), .long (g.2.2 1)].set 1 (.long v))))) : va_D A (wE a cI cZ (sL g 1 v)) := h
theorem pI_E_2 {D : va_G} {a : Nat → Nat} {cI cZ : ClassId} {g : St} {H : Heap} {v : Int32} (h : va_P D cls_ ((wE a cI cZ g).set 19 (a 19, .inr (0, [.int (g.2.1 2), .int (g.2.1 3), .int (g.2.1 4)].set 0 (.int v)))) H) : va_P D cls_ (wE a cI cZ (sI g 2 v)) H := h
theorem dI_E_2 {A : Nat → Prop} {a : Nat → Nat} {cI cZ : ClassId} {g : St} {v : Int32} (h : va_D A ((wE a cI cZ g).set 19 (a 19, .inr (0, [.int (g.2.1 2), .int (g.2.1 3), .int (g.2.1 4)].set 0 (.int v))))) : va_D A (wE a cI cZ (sI g 2 v)) := h
theorem pI_E_3 {D : va_G} {a : Nat → Nat} {cI cZ : ClassId} {g : St} {H : Heap} {v : Int32} (h : va_P D cls_ ((wE a cI cZ g).set 19 (a 19, .inr (0, [.int (g.2.1 2), .int (g.2.1 3), .int (g.2.1 4)].set 1 (.int v)))) H) : va_P D cls_ (wE a cI cZ (sI g 3 v)) H := h
theorem dI_E_3 {A : Nat → Prop} {a : Nat → Nat} {cI cZ : ClassId} {g : St} {v : Int32} (h : va_D A ((wE a cI cZ g).set 19 (a 19, .inr (0, [.int (g.2.1 2), .int (g.2.1 3), .int (g.2.1 4)].set 1 (.int v))))) : va_D A (wE a cI cZ (sI g 3 v)) := h
theorem pI_E_4 {D : va_G} {a : Nat → Nat} {cI cZ : ClassId} {g : St} {H : Heap} {v : Int32} (h : va_P D cls_ ((wE a cI cZ g).set 19 (a 19, .inr (0, [.int (g.2.1 2), .int (g.2.1 3), .int (g.2.1 4)].set 2 (.int v)))) H) : va_P D cls_ (wE a cI cZ (sI g 4 v)) H := h
theorem dI_E_4 {A : Nat → Prop} {a : Nat → Nat} {cI cZ : ClassId} {g : St} {v : Int32} (h : va_D A ((wE a cI cZ g).set 19 (a 19, .inr (0, [.int (g.2.1 2), .int (g.2.1 3), .int (g.2.1 4)].set 2 (.int v))))) : va_D A (wE a cI cZ (sI g 4 v)) := h
theorem pI_M_0 {D : va_G} {a : Nat → Nat} {cI cZ : ClassId} {g : St} {H : Heap} {v : Int32} (h : va_P D cls_ ((wM a cI cZ g).set 0 (a 0, .inr (5, [.ref (a 1), .int (g.2.1 0), .ref (a 2), .ref (a 3), .ref (a 4), .ref (a 5), .ref (a 6), .ref (a 7), .ref (a 8), .ref (a 9), .ref (a 10), .int (g.2.1 1), .int (g.2.1 2), .ref (a 11), .int (g.2.1 3), .int (g.2.1 4), .int (g.2.1 5), .int (g.2.1 6), .int (g.2.1 7)].set 1 (.int v)))) H) : va_P D cls_ (wM a cI cZ (sI g 0 v)) H := h
theorem dI_M_0 {A : Nat → Prop} {a : Nat → Nat} {cI cZ : ClassId} {g : St} {v : Int32} (h : va_D A ((wM a cI cZ g).set 0 (a 0, .inr (5, [.ref (a 1), .int (g.2.1 0), .ref (a 2), .ref (a 3), .ref (a 4), .ref (a 5), .ref (a 6), .ref (a 7), .ref (a 8), .ref (a 9), .ref (a 10), .int (g.2.1 1), .int (g.2.1 2), .ref (a 11), .int (g.2.1 3), .int (g.2.1 4), .int (g.2.1 5), .int (g.2.1 6), .int (g.2.1 7)].set 1 (.int v))))) : va_D A (wM a cI cZ (sI g 0 v)) := h
theorem pI_M_1 {D : va_G} {a : Nat → Nat} {cI cZ : ClassId} {g : St} {H : Heap} {v : Int32} (h : va_P D cls_ ((wM a cI cZ g).set 0 (a 0, .inr (5, [.ref (a 1), .int (g.2.1 0), .ref (a 2), .ref (a 3), .ref (a 4), .ref (a 5), .ref (a 6), .ref (a 7), .ref (a 8), .ref (a 9), .ref (a 10), .int (g.2.1 1), .int (g.2.1 2), .ref (a 11), .int (g.2.1 3), .int (g.2.1 4), .int (g.2.1 5), .int (g.2.1 6), .int (g.2.1 7)].set 11 (.int v)))) H) : va_P D cls_ (wM a cI cZ (sI g 1 v)) H := h
theorem dI_M_1 {A : Nat → Prop} {a : Nat → Nat} {cI cZ : ClassId} {g : St} {v : Int32} (h : va_D A ((wM a cI cZ g).set 0 (a 0, .inr (5, [.ref (a 1), .int (g.2.1 0), .ref (a 2), .ref (a 3), .ref (a 4), .ref (a 5), .ref (a 6), .ref (a 7), .ref (a 8), .ref (a 9), .ref (a 10), .int (g.2.1 1), .int (g.2.1 2), .ref (a 11), .int (g.2.1 3), .int (g.2.1 4), .int (g.2.1 5), .int (g.2.1 6), .int (g.2.1 7)].set 11 (.int v))))) : va_D A (wM a cI cZ (sI g 1 v)) := h
theorem pI_M_2 {D : va_G} {a : Nat → Nat} {cI cZ : ClassId} {g : St} {H : Heap} {v : Int32} (h : va_P D cls_ ((wM a cI cZ g).set 0 (a 0, .inr (5, [.ref (a 1), .int (g.2.1 0), .ref (a 2), .ref (a 3), .ref (a 4), .ref (a 5), .ref (a 6), .ref (a 7), .ref (a 8), .ref (a 9), .ref (a 10), .int (g.2.1 1), .int (g.2.1 2), .ref (a 11), .int (g.2.1 3), .int (g.2.1 4), .int (g.2.1 5), .int (g.2.1 6), .int (g.2.1 7)].set 12 (.int v)))) H) : va_P D cls_ (wM a cI cZ (sI g 2 v)) H := h
theorem dI_M_2 {A : Nat → Prop} {a : Nat → Nat} {cI cZ : ClassId} {g : St} {v : Int32} (h : va_D A ((wM a cI cZ g).set 0 (a 0, .inr (5, [.ref (a 1), .int (g.2.1 0), .ref (a 2), .ref (a 3), .ref (a 4), .ref (a 5), .ref (a 6), .ref (a 7), .ref (a 8), .ref (a 9), .ref (a 10), .int (g.2.1 1), .int (g.2.1 2), .ref (a 11), .int (g.2.1 3), .int (g.2.1 4), .int (g.2.1 5), .int (g.2.1 6), .int (g.2.1 7)].set 12 (.int v))))) : va_D A (wM a cI cZ (sI g 2 v)) := h
theorem pI_M_3 {D : va_G} {a : Nat → Nat} {cI cZ : ClassId} {g : St} {H : Heap} {v : Int32} (h : va_P D cls_ ((wM a cI cZ g).set 0 (a 0, .inr (5, [.ref (a 1), .int (g.2.1 0), .ref (a 2), .ref (a 3), .ref (a 4), .ref (a 5), .ref (a 6), .ref (a 7), .ref (a 8), .ref (a 9), .ref (a 10), .int (g.2.1 1), .int (g.2.1 2), .ref (a 11), .int (g.2.1 3), .int (g.2.1 4), .int (g.2.1 5), .int (g.2.1 6), .int (g.2.1 7)].set 14 (.int v)))) H) : va_P D cls_ (wM a cI cZ (sI g 3 v)) H := h
theorem dI_M_3 {A : Nat → Prop} {a : Nat → Nat} {cI cZ : ClassId} {g : St} {v : Int32} (h : va_D A ((wM a cI cZ g).set 0 (a 0, .inr (5, [.ref (a 1), .int (g.2.1 0), .ref (a 2), .ref (a 3), .ref (a 4), .ref (a 5), .ref (a 6), .ref (a 7), .ref (a 8), .ref (a 9), .ref (a 10), .int (g.2.1 1), .int (g.2.1 2), .ref (a 11), .int (g.2.1 3), .int (g.2.1 4), .int (g.2.1 5), .int (g.2.1 6), .int (g.2.1 7)].set 14 (.int v))))) : va_D A (wM a cI cZ (sI g 3 v)) := h
theorem pI_M_4 {D : va_G} {a : Nat → Nat} {cI cZ : ClassId} {g : St} {H : Heap} {v : Int32} (h : va_P D cls_ ((wM a cI cZ g).set 0 (a 0, .inr (5, [.ref (a 1), .int (g.2.1 0), .ref (a 2), .ref (a 3), .ref (a 4), .ref (a 5), .ref (a 6), .ref (a 7), .ref (a 8), .ref (a 9), .ref (a 10), .int (g.2.1 1), .int (g.2.1 2), .ref (a 11), .int (g.2.1 3), .int (g.2.1 4), .int (g.2.1 5), .int (g.2.1 6), .int (g.2.1 7)].set 15 (.int v)))) H) : va_P D cls_ (wM a cI cZ (sI g 4 v)) H := h
theorem dI_M_4 {A : Nat → Prop} {a : Nat → Nat} {cI cZ : ClassId} {g : St} {v : Int32} (h : va_D A ((wM a cI cZ g).set 0 (a 0, .inr (5, [.ref (a 1), .int (g.2.1 0), .ref (a 2), .ref (a 3), .ref (a 4), .ref (a 5), .ref (a 6), .ref (a 7), .ref (a 8), .ref (a 9), .ref (a 10), .int (g.2.1 1), .int (g.2.1 2), .ref (a 11), .int (g.2.1 3), .int (g.2.1 4), .int (g.2.1 5), .int (g.2.1 6), .int (g.2.1 7)].set 15 (.int v))))) : va_D A (wM a cI cZ (sI g 4 v)) := h
theorem pI_M_5 {D : va_G} {a : Nat → Nat} {cI cZ : ClassId} {g : St} {H : Heap} {v : Int32} (h : va_P D cls_ ((wM a cI cZ g).set 0 (a 0, .inr (5, [.ref (a 1), .int (g.2.1 0), .ref (a 2), .ref (a 3), .ref (a 4), .ref (a 5), .ref (a 6), .ref (a 7), .ref (a 8), .ref (a 9), .ref (a 10), .int (g.2.1 1), .int (g.2.1 2), .ref (a 11), .int (g.2.1 3), .int (g.2.1 4), .int (g.2.1 5), .int (g.2.1 6), .int (g.2.1 7)].set 16 (.int v)))) H) : va_P D cls_ (wM a cI cZ (sI g 5 v)) H := h
theorem dI_M_5 {A : Nat → Prop} {a : Nat → Nat} {cI cZ : ClassId} {g : St} {v : Int32} (h : va_D A ((wM a cI cZ g).set 0 (a 0, .inr (5, [.ref (a 1), .int (g.2.1 0), .ref (a 2), .ref (a 3), .ref (a 4), .ref (a 5), .ref (a 6), .ref (a 7), .ref (a 8), .ref (a 9), .ref (a 10), .int (g.2.1 1), .int (g.2.1 2), .ref (a 11), .int (g.2.1 3), .int (g.2.1 4), .int (g.2.1 5), .int (g.2.1 6), .int (g.2.1 7)].set 16 (.int v))))) : va_D A (wM a cI cZ (sI g 5 v)) := h
theorem pI_M_6 {D : va_G} {a : Nat → Nat} {cI cZ : ClassId} {g : St} {H : Heap} {v : Int32} (h : va_P D cls_ ((wM a cI cZ g).set 0 (a 0, .inr (5, [.ref (a 1), .int (g.2.1 0), .ref (a 2), .ref (a 3), .ref (a 4), .ref (a 5), .ref (a 6), .ref (a 7), .ref (a 8), .ref (a 9), .ref (a 10), .int (g.2.1 1), .int (g.2.1 2), .ref (a 11), .int (g.2.1 3), .int (g.2.1 4), .int (g.2.1 5), .int (g.2.1 6), .int (g.2.1 7)].set 17 (.int v)))) H) : va_P D cls_ (wM a cI cZ (sI g 6 v)) H := h
theorem dI_M_6 {A : Nat → Prop} {a : Nat → Nat} {cI cZ : ClassId} {g : St} {v : Int32} (h : va_D A ((wM a cI cZ g).set 0 (a 0, .inr (5, [.ref (a 1), .int (g.2.1 0), .ref (a 2), .ref (a 3), .ref (a 4), .ref (a 5), .ref (a 6), .ref (a 7), .ref (a 8), .ref (a 9), .ref (a 10), .int (g.2.1 1), .int (g.2.1 2), .ref (a 11), .int (g.2.1 3), .int (g.2.1 4), .int (g.2.1 5), .int (g.2.1 6), .int (g.2.1 7)].set 17 (.int v))))) : va_D A (wM a cI cZ (sI g 6 v)) := h
theorem pI_M_7 {D : va_G} {a : Nat → Nat} {cI cZ : ClassId} {g : St} {H : Heap} {v : Int32} (h : va_P D cls_ ((wM a cI cZ g).set 0 (a 0, .inr (5, [.ref (a 1), .int (g.2.1 0), .ref (a 2), .ref (a 3), .ref (a 4), .ref (a 5), .ref (a 6), .ref (a 7), .ref (a 8), .ref (a 9), .ref (a 10), .int (g.2.1 1), .int (g.2.1 2), .ref (a 11), .int (g.2.1 3), .int (g.2.1 4), .int (g.2.1 5), .int (g.2.1 6), .int (g.2.1 7)].set 18 (.int v)))) H) : va_P D cls_ (wM a cI cZ (sI g 7 v)) H := h
theorem dI_M_7 {A : Nat → Prop} {a : Nat → Nat} {cI cZ : ClassId} {g : St} {v : Int32} (h : va_D A ((wM a cI cZ g).set 0 (a 0, .inr (5, [.ref (a 1), .int (g.2.1 0), .ref (a 2), .ref (a 3), .ref (a 4), .ref (a 5), .ref (a 6), .ref (a 7), .ref (a 8), .ref (a 9), .ref (a 10), .int (g.2.1 1), .int (g.2.1 2), .ref (a 11), .int (g.2.1 3), .int (g.2.1 4), .int (g.2.1 5), .int (g.2.1 6), .int (g.2.1 7)].set 18 (.int v))))) : va_D A (wM a cI cZ (sI g 7 v)) := h
theorem pA_M_0 {D : va_G} {a : Nat → Nat} {cI cZ : ClassId} {g : St} {H : Heap} {j : Nat} {x : Int32} (h : va_P D cls_ ((wM a cI cZ g).set 1 (a 1, .inl (cI, 64, .inl (upd (g.1 0) j x)))) H) : va_P D cls_ (wM a cI cZ (sA g 0 j x)) H := h
theorem dA_M_0 {A : Nat → Prop} {a : Nat → Nat} {cI cZ : ClassId} {g : St} {j : Nat} {x : Int32} (h : va_D A ((wM a cI cZ g).set 1 (a 1, .inl (cI, 64, .inl (upd (g.1 0) j x))))) : va_D A (wM a cI cZ (sA g 0 j x)) := h
theorem pC_M_0 {D : va_G} {a : Nat → Nat} {cI cZ : ClassId} {g : St} {H : Heap} {f : Nat → Int32} (h : va_P D cls_ ((wM a cI cZ g).set 1 (a 1, .inl (cI, 64, .inl f))) H) : va_P D cls_ (wM a cI cZ (sC g 0 f)) H := h
theorem dC_M_0 {A : Nat → Prop} {a : Nat → Nat} {cI cZ : ClassId} {g : St} {f : Nat → Int32} (h : va_D A ((wM a cI cZ g).set 1 (a 1, .inl (cI, 64, .inl f)))) : va_D A (wM a cI cZ (sC g 0 f)) := h
theorem pA_M_1 {D : va_G} {a : Nat → Nat} {cI cZ : ClassId} {g : St} {H : Heap} {j : Nat} {x : Int32} (h : va_P D cls_ ((wM a cI cZ g).set 2 (a 2, .inl (cI, 200, .inl (upd (g.1 1) j x)))) H) : va_P D cls_ (wM a cI cZ (sA g 1 j x)) H := h
theorem dA_M_1 {A : Nat → Prop} {a : Nat → Nat} {cI cZ : ClassId} {g : St} {j : Nat} {x : Int32} (h : va_D A ((wM a cI cZ g).set 2 (a 2, .inl (cI, 200, .inl (upd (g.1 1) j x))))) : va_D A (wM a cI cZ (sA g 1 j x)) := h
theorem pC_M_1 {D : va_G} {a : Nat → Nat} {cI cZ : ClassId} {g : St} {H : Heap} {f : Nat → Int32} (h : va_P D cls_ ((wM a cI cZ g).set 2 (a 2, .inl (cI, 200, .inl f))) H) : va_P D cls_ (wM a cI cZ (sC g 1 f)) H := h
theorem dC_M_1 {A : Nat → Prop} {a : Nat → Nat} {cI cZ : ClassId} {g : St} {f : Nat → Int32} (h : va_D A ((wM a cI cZ g).set 2 (a 2, .inl (cI, 200, .inl f)))) : va_D A (wM a cI cZ (sC g 1 f)) := h
theorem pA_M_2 {D : va_G} {a : Nat → Nat} {cI cZ : ClassId} {g : St} {H : Heap} {j : Nat} {x : Int32} (h : va_P D cls_ ((wM a cI cZ g).set 3 (a 3, .inl (cI, 200, .inl (upd (g.1 2) j x)))) H) : va_P D cls_ (wM a cI cZ (sA g 2 j x)) H := h
theorem dA_M_2 {A : Nat → Prop} {a : Nat → Nat} {cI cZ : ClassId} {g : St} {j : Nat} {x : Int32} (h : va_D A ((wM a cI cZ g).set 3 (a 3, .inl (cI, 200, .inl (upd (g.1 2) j x))))) : va_D A (wM a cI cZ (sA g 2 j x)) := h
theorem pC_M_2 {D : va_G} {a : Nat → Nat} {cI cZ : ClassId} {g : St} {H : Heap} {f : Nat → Int32} (h : va_P D cls_ ((wM a cI cZ g).set 3 (a 3, .inl (cI, 200, .inl f))) H) : va_P D cls_ (wM a cI cZ (sC g 2 f)) H := h
theorem dC_M_2 {A : Nat → Prop} {a : Nat → Nat} {cI cZ : ClassId} {g : St} {f : Nat → Int32} (h : va_D A ((wM a cI cZ g).set 3 (a 3, .inl (cI, 200, .inl f)))) : va_D A (wM a cI cZ (sC g 2 f)) := h
theorem pA_M_3 {D : va_G} {a : Nat → Nat} {cI cZ : ClassId} {g : St} {H : Heap} {j : Nat} {x : Int32} (h : va_P D cls_ ((wM a cI cZ g).set 4 (a 4, .inl (cI, 200, .inl (upd (g.1 3) j x)))) H) : va_P D cls_ (wM a cI cZ (sA g 3 j x)) H := h
theorem dA_M_3 {A : Nat → Prop} {a : Nat → Nat} {cI cZ : ClassId} {g : St} {j : Nat} {x : Int32} (h : va_D A ((wM a cI cZ g).set 4 (a 4, .inl (cI, 200, .inl (upd (g.1 3) j x))))) : va_D A (wM a cI cZ (sA g 3 j x)) := h
theorem pC_M_3 {D : va_G} {a : Nat → Nat} {cI cZ : ClassId} {g : St} {H : Heap} {f : Nat → Int32} (h : va_P D cls_ ((wM a cI cZ g).set 4 (a 4, .inl (cI, 200, .inl f))) H) : va_P D cls_ (wM a cI cZ (sC g 3 f)) H := h
theorem dC_M_3 {A : Nat → Prop} {a : Nat → Nat} {cI cZ : ClassId} {g : St} {f : Nat → Int32} (h : va_D A ((wM a cI cZ g).set 4 (a 4, .inl (cI, 200, .inl f)))) : va_D A (wM a cI cZ (sC g 3 f)) := h
theorem pA_M_4 {D : va_G} {a : Nat → Nat} {cI cZ : ClassId} {g : St} {H : Heap} {j : Nat} {x : Int32} (h : va_P D cls_ ((wM a cI cZ g).set 5 (a 5, .inl (cI, 200, .inl (upd (g.1 4) j x)))) H) : va_P D cls_ (wM a cI cZ (sA g 4 j x)) H := h
theorem dA_M_4 {A : Nat → Prop} {a : Nat → Nat} {cI cZ : ClassId} {g : St} {j : Nat} {x : Int32} (h : va_D A ((wM a cI cZ g).set 5 (a 5, .inl (cI, 200, .inl (upd (g.1 4) j x))))) : va_D A (wM a cI cZ (sA g 4 j x)) := h
theorem pC_M_4 {D : va_G} {a : Nat → Nat} {cI cZ : ClassId} {g : St} {H : Heap} {f : Nat → Int32} (h : va_P D cls_ ((wM a cI cZ g).set 5 (a 5, .inl (cI, 200, .inl f))) H) : va_P D cls_ (wM a cI cZ (sC g 4 f)) H := h
theorem dC_M_4 {A : Nat → Prop} {a : Nat → Nat} {cI cZ : ClassId} {g : St} {f : Nat → Int32} (h : va_D A ((wM a cI cZ g).set 5 (a 5, .inl (cI, 200, .inl f)))) : va_D A (wM a cI cZ (sC g 4 f)) := h
theorem pA_M_5 {D : va_G} {a : Nat → Nat} {cI cZ : ClassId} {g : St} {H : Heap} {j : Nat} {x : Int32} (h : va_P D cls_ ((wM a cI cZ g).set 6 (a 6, .inl (cI, 200, .inl (upd (g.1 5) j x)))) H) : va_P D cls_ (wM a cI cZ (sA g 5 j x)) H := h
theorem dA_M_5 {A : Nat → Prop} {a : Nat → Nat} {cI cZ : ClassId} {g : St} {j : Nat} {x : Int32} (h : va_D A ((wM a cI cZ g).set 6 (a 6, .inl (cI, 200, .inl (upd (g.1 5) j x))))) : va_D A (wM a cI cZ (sA g 5 j x)) := h
theorem pC_M_5 {D : va_G} {a : Nat → Nat} {cI cZ : ClassId} {g : St} {H : Heap} {f : Nat → Int32} (h : va_P D cls_ ((wM a cI cZ g).set 6 (a 6, .inl (cI, 200, .inl f))) H) : va_P D cls_ (wM a cI cZ (sC g 5 f)) H := h
theorem dC_M_5 {A : Nat → Prop} {a : Nat → Nat} {cI cZ : ClassId} {g : St} {f : Nat → Int32} (h : va_D A ((wM a cI cZ g).set 6 (a 6, .inl (cI, 200, .inl f)))) : va_D A (wM a cI cZ (sC g 5 f)) := h
theorem pA_M_6 {D : va_G} {a : Nat → Nat} {cI cZ : ClassId} {g : St} {H : Heap} {j : Nat} {x : Int32} (h : va_P D cls_ ((wM a cI cZ g).set 7 (a 7, .inl (cI, 200, .inl (upd (g.1 6) j x)))) H) : va_P D cls_ (wM a cI cZ (sA g 6 j x)) H := h
theorem dA_M_6 {A : Nat → Prop} {a : Nat → Nat} {cI cZ : ClassId} {g : St} {j : Nat} {x : Int32} (h : va_D A ((wM a cI cZ g).set 7 (a 7, .inl (cI, 200, .inl (upd (g.1 6) j x))))) : va_D A (wM a cI cZ (sA g 6 j x)) := h
theorem pC_M_6 {D : va_G} {a : Nat → Nat} {cI cZ : ClassId} {g : St} {H : Heap} {f : Nat → Int32} (h : va_P D cls_ ((wM a cI cZ g).set 7 (a 7, .inl (cI, 200, .inl f))) H) : va_P D cls_ (wM a cI cZ (sC g 6 f)) H := h
theorem dC_M_6 {A : Nat → Prop} {a : Nat → Nat} {cI cZ : ClassId} {g : St} {f : Nat → Int32} (h : va_D A ((wM a cI cZ g).set 7 (a 7, .inl (cI, 200, .inl f)))) : va_D A (wM a cI cZ (sC g 6 f)) := h
theorem pA_M_7 {D : va_G} {a : Nat → Nat} {cI cZ : ClassId} {g : St} {H : Heap} {j : Nat} {x : Int32} (h : va_P D cls_ ((wM a cI cZ g).set 8 (a 8, .inl (cI, 1600, .inl (upd (g.1 7) j x)))) H) : va_P D cls_ (wM a cI cZ (sA g 7 j x)) H := h
theorem dA_M_7 {A : Nat → Prop} {a : Nat → Nat} {cI cZ : ClassId} {g : St} {j : Nat} {x : Int32} (h : va_D A ((wM a cI cZ g).set 8 (a 8, .inl (cI, 1600, .inl (upd (g.1 7) j x))))) : va_D A (wM a cI cZ (sA g 7 j x)) := h
theorem pC_M_7 {D : va_G} {a : Nat → Nat} {cI cZ : ClassId} {g : St} {H : Heap} {f : Nat → Int32} (h : va_P D cls_ ((wM a cI cZ g).set 8 (a 8, .inl (cI, 1600, .inl f))) H) : va_P D cls_ (wM a cI cZ (sC g 7 f)) H := h
theorem dC_M_7 {A : Nat → Prop} {a : Nat → Nat} {cI cZ : ClassId} {g : St} {f : Nat → Int32} (h : va_D A ((wM a cI cZ g).set 8 (a 8, .inl (cI, 1600, .inl f)))) : va_D A (wM a cI cZ (sC g 7 f)) := h
theorem pA_M_8 {D : va_G} {a : Nat → Nat} {cI cZ : ClassId} {g : St} {H : Heap} {j : Nat} {x : Int32} (h : va_P D cls_ ((wM a cI cZ g).set 9 (a 9, .inl (cI, 200, .inl (upd (g.1 8) j x)))) H) : va_P D cls_ (wM a cI cZ (sA g 8 j x)) H := h
theorem dA_M_8 {A : Nat → Prop} {a : Nat → Nat} {cI cZ : ClassId} {g : St} {j : Nat} {x : Int32} (h : va_D A ((wM a cI cZ g).set 9 (a 9, .inl (cI, 200, .inl (upd (g.1 8) j x))))) : va_D A (wM a cI cZ (sA g 8 j x)) := h
theorem pC_M_8 {D : va_G} {a : Nat → Nat} {cI cZ : ClassId} {g : St} {H : Heap} {f : Nat → Int32} (h : va_P D cls_ ((wM a cI cZ g).set 9 (a 9, .inl (cI, 200, .inl f))) H) : va_P D cls_ (wM a cI cZ (sC g 8 f)) H := h
theorem dC_M_8 {A : Nat → Prop} {a : Nat → Nat} {cI cZ : ClassId} {g : St} {f : Nat → Int32} (h : va_D A ((wM a cI cZ g).set 9 (a 9, .inl (cI, 200, .inl f)))) : va_D A (wM a cI cZ (sC g 8 f)) := h
theorem pA_M_9 {D : va_G} {a : Nat → Nat} {cI cZ : ClassId} {g : St} {H : Heap} {j : Nat} {x : Int32} (h : va_P D cls_ ((wM a cI cZ g).set 10 (a 10, .inl (cI, 200, .inl (upd (g.1 9) j x)))) H) : va_P D cls_ (wM a cI cZ (sA g 9 j x)) H := h
theorem dA_M_9 {A : Nat → Prop} {a : Nat → Nat} {cI cZ : ClassId} {g : St} {j : Nat} {x : Int32} (h : va_D A ((wM a cI cZ g).set 10 (a 10, .inl (cI, 200, .inl (upd (g.1 9) j x))))) : va_D A (wM a cI cZ (sA g 9 j x)) := h
theorem pC_M_9 {D : va_G} {a : Nat → Nat} {cI cZ : ClassId} {g : St} {H : Heap} {f : Nat → Int32} (h : va_P D cls_ ((wM a cI cZ g).set 10 (a 10, .inl (cI, 200, .inl f))) H) : va_P D cls_ (wM a cI cZ (sC g 9 f)) H := h
theorem dC_M_9 {A : Nat → Prop} {a : Nat → Nat} {cI cZ : ClassId} {g : St} {f : Nat → Int32} (h : va_D A ((wM a cI cZ g).set 10 (a 10, .inl (cI, 200, .inl f)))) : va_D A (wM a cI cZ (sC g 9 f)) := h
theorem pA_M_10 {D : va_G} {a : Nat → Nat} {cI cZ : ClassId} {g : St} {H : Heap} {j : Nat} {x : Int32} (h : va_P D cls_ ((wM a cI cZ g).set 11 (a 11, .inl (cI, 2, .inl (upd (g.1 10) j x)))) H) : va_P D cls_ (wM a cI cZ (sA g 10 j x)) H := h
theorem dA_M_10 {A : Nat → Prop} {a : Nat → Nat} {cI cZ : ClassId} {g : St} {j : Nat} {x : Int32} (h : va_D A ((wM a cI cZ g).set 11 (a 11, .inl (cI, 2, .inl (upd (g.1 10) j x))))) : va_D A (wM a cI cZ (sA g 10 j x)) := h
theorem pC_M_10 {D : va_G} {a : Nat → Nat} {cI cZ : ClassId} {g : St} {H : Heap} {f : Nat → Int32} (h : va_P D cls_ ((wM a cI cZ g).set 11 (a 11, .inl (cI, 2, .inl f))) H) : va_P D cls_ (wM a cI cZ (sC g 10 f)) H := h
theorem dC_M_10 {A : Nat → Prop} {a : Nat → Nat} {cI cZ : ClassId} {g : St} {f : Nat → Int32} (h : va_D A ((wM a cI cZ g).set 11 (a 11, .inl (cI, 2, .inl f)))) : va_D A (wM a cI cZ (sC g 10 f)) := h
theorem MTi_of {l : Launch} {y : MethodName} {cc : ByteArray} {nL : Nat} {rm : Room} {ww : St → va_W} {D : va_G} {tys : List (ClassId × FieldType)} {sz : Nat} {g : St} {av : List Value} {Q : Int32 → St → Prop} (hy : plainName y.cls = true) (hlen : (lg_sl av).length ≤ nL)
    (body : ∀ (p : Program) (e : Env) (s : State) (m : MethodId) (args : Array Value) (below : List Frame) (meth : Method) (c : Code) (A : Nat → Prop) (Qt : State → Prop) (ls : Array Slot), p.tables.exec = Jvm.exec → c.code = cc → c.maxLocals = nL → (∀ w ∈ TB, w.before args s = true) → s.vm.findClass y.cls = some m.cls → NW s → va_K D cls_ tys s → va_P D cls_ (ww g) s.heap → va_D A (ww g) → (∀ q : Nat, s.heap.size ≤ q → A q) → lv_has ls nL (lv_args 0 av) →
      (∀ (v : Int32) (u : St) (H : Heap) (locs : List Loc) (pc : Nat) (ls : Array Slot), Q v u → va_P D cls_ (ww u) H → va_D A (ww u) → va_S A s.heap H locs → decode cc pc = .ok (.ireturn, 1) → W p l e rm s m args below meth c H locs 0 0 Qt (F0 m pc ls [.int v])) →
      W p l e rm s m args below meth c s.heap [] 0 0 Qt (F0 m 0 ls [])) : MT_i l y cc nL rm ww D tys sz g av Q := by
  refine Met.ofW (cc := cc) (maxL := nL) (ret := (some .int)) hy rfl ?_
  intro p e s m args below meth c s₁ B hml hv
  obtain ⟨rfl, hsz, hP, hK, hD0, hN⟩ := hv
  have hts := atoms_spec (ws := Cond.code y cc nL (some .int) :: TB) B.pre
  have hown : s.vm.findClass y.cls = some m.cls := findClass_of_methodNamed B.named
  have hlocks := B.notSynchronized
  subst hsz
  have hD := hD0.self (sz := s.heap.size)
  generalize hAe : va_A (ww g) s.heap.size = A at hD ⊢
  have hA : ∀ q : Nat, s.heap.size ≤ q → A q := fun q h => by rw [← hAe]; exact Or.inr h
  have hl := lv_entry av (n := nL) hlen
  rw [lg_entry_eq]
  refine body p e s m _ below meth c A _ _ B.exec B.bytes hml (fun w h => hts w (List.mem_cons_of_mem _ h)) hown hN hK hP hD hA hl ?_
  intro v u H locs pc ls hq hP hD hS hdg
  exact W.iret B.exec B.bytes B.returns (fun t ht hW => ⟨⟨v, u, rfl, hq, by rw [ht]; exact hP, va_K.moved hW.alike hK, hD⟩, hS.F ht⟩) hS.2.2 hdg
theorem MTz_of {l : Launch} {y : MethodName} {cc : ByteArray} {nL : Nat} {rm : Room} {ww : St → va_W} {D : va_G} {tys : List (ClassId × FieldType)} {sz : Nat} {g : St} {av : List Value} {Q : Int32 → St → Prop} (hy : plainName y.cls = true) (hlen : (lg_sl av).length ≤ nL)
    (body : ∀ (p : Program) (e : Env) (s : State) (m : MethodId) (args : Array Value) (below : List Frame) (meth : Method) (c : Code) (A : Nat → Prop) (Qt : State → Prop) (ls : Array Slot), p.tables.exec = Jvm.exec → c.code = cc → c.maxLocals = nL → (∀ w ∈ TB, w.before args s = true) → s.vm.findClass y.cls = some m.cls → NW s → va_K D cls_ tys s → va_P D cls_ (ww g) s.heap → va_D A (ww g) → (∀ q : Nat, s.heap.size ≤ q → A q) → lv_has ls nL (lv_args 0 av) →
      (∀ (v : Int32) (u : St) (H : Heap) (locs : List Loc) (pc : Nat) (ls : Array Slot), narrow .boolean (.int v) = .int v → Q v u → va_P D cls_ (ww u) H → va_D A (ww u) → va_S A s.heap H locs → decode cc pc = .ok (.ireturn, 1) → W p l e rm s m args below meth c H locs 0 0 Qt (F0 m pc ls [.int v])) →
      W p l e rm s m args below meth c s.heap [] 0 0 Qt (F0 m 0 ls [])) : MT_z l y cc nL rm ww D tys sz g av Q := by
  refine Met.ofW (cc := cc) (maxL := nL) (ret := (some .boolean)) hy rfl ?_
  intro p e s m args below meth c s₁ B hml hv
  obtain ⟨rfl, hsz, hP, hK, hD0, hN⟩ := hv
  have hts := atoms_spec (ws := Cond.code y cc nL (some .boolean) :: TB) B.pre
  have hown : s.vm.findClass y.cls = some m.cls := findClass_of_methodNamed B.named
  have hlocks := B.notSynchronized
  subst hsz
  have hD := hD0.self (sz := s.heap.size)
  generalize hAe : va_A (ww g) s.heap.size = A at hD ⊢
  have hA : ∀ q : Nat, s.heap.size ≤ q → A q := fun q h => by rw [← hAe]; exact Or.inr h
  have hl := lv_entry av (n := nL) hlen
  rw [lg_entry_eq]
  refine body p e s m _ below meth c A _ _ B.exec B.bytes hml (fun w h => hts w (List.mem_cons_of_mem _ h)) hown hN hK hP hD hA hl ?_
  intro v u H locs pc ls hn hq hP hD hS hdg
  exact W.zret B.exec B.bytes B.returns hn (fun t ht hW => ⟨⟨v, u, rfl, hq, by rw [ht]; exact hP, va_K.moved hW.alike hK, hD⟩, hS.F ht⟩) hS.2.2 hdg
theorem MTl_of {l : Launch} {y : MethodName} {cc : ByteArray} {nL : Nat} {rm : Room} {ww : St → va_W} {D : va_G} {tys : List (ClassId × FieldType)} {sz : Nat} {g : St} {av : List Value} {Q : Int64 → St → Prop} (hy : plainName y.cls = true) (hlen : (lg_sl av).length ≤ nL)
    (body : ∀ (p : Program) (e : Env) (s : State) (m : MethodId) (args : Array Value) (below : List Frame) (meth : Method) (c : Code) (A : Nat → Prop) (Qt : State → Prop) (ls : Array Slot), p.tables.exec = Jvm.exec → c.code = cc → c.maxLocals = nL → (∀ w ∈ TB, w.before args s = true) → s.vm.findClass y.cls = some m.cls → NW s → va_K D cls_ tys s → va_P D cls_ (ww g) s.heap → va_D A (ww g) → (∀ q : Nat, s.heap.size ≤ q → A q) → lv_has ls nL (lv_args 0 av) →
      (∀ (v : Int64) (u : St) (H : Heap) (locs : List Loc) (pc : Nat) (ls : Array Slot), Q v u → va_P D cls_ (ww u) H → va_D A (ww u) → va_S A s.heap H locs → decode cc pc = .ok (.lreturn, 1) → W p l e rm s m args below meth c H locs 0 0 Qt (F0 m pc ls [.long v])) →
      W p l e rm s m args below meth c s.heap [] 0 0 Qt (F0 m 0 ls [])) : MT_l l y cc nL rm ww D tys sz g av Q := by
  refine Met.ofW (cc := cc) (maxL := nL) (ret := (some .long)) hy rfl ?_
  intro p e s m args below meth c s₁ B hml hv
  obtain ⟨rfl, hsz, hP, hK, hD0, hN⟩ := hv
  have hts := atoms_spec (ws := Cond.code y cc nL (some .long) :: TB) B.pre
  have hown : s.vm.findClass y.cls = some m.cls := findClass_of_methodNamed B.named
  have hlocks := B.notSynchronized
  subst hsz
  have hD := hD0.self (sz := s.heap.size)
  generalize hAe : va_A (ww g) s.heap.size = A at hD ⊢
  have hA : ∀ q : Nat, s.heap.size ≤ q → A q := fun q h => by rw [← hAe]; exact Or.inr h
  have hl := lv_entry av (n := nL) hlen
  rw [lg_entry_eq]
  refine body p e s m _ below meth c A _ _ B.exec B.bytes hml (fun w h => hts w (List.mem_cons_of_mem _ h)) hown hN hK hP hD hA hl ?_
  intro v u H locs pc ls hq hP hD hS hdg
  exact W.lret B.exec B.bytes B.returns (fun t ht hW => ⟨⟨v, u, rfl, hq, by rw [ht]; exact hP, va_K.moved hW.alike hK, hD⟩, hS.F ht⟩) hS.2.2 hdg
theorem MTv_of {l : Launch} {y : MethodName} {cc : ByteArray} {nL : Nat} {rm : Room} {ww : St → va_W} {D : va_G} {tys : List (ClassId × FieldType)} {sz : Nat} {g : St} {av : List Value} {Q : St → Prop} (hy : plainName y.cls = true) (hlen : (lg_sl av).length ≤ nL)
    (body : ∀ (p : Program) (e : Env) (s : State) (m : MethodId) (args : Array Value) (below : List Frame) (meth : Method) (c : Code) (A : Nat → Prop) (Qt : State → Prop) (ls : Array Slot), p.tables.exec = Jvm.exec → c.code = cc → c.maxLocals = nL → (∀ w ∈ TB, w.before args s = true) → s.vm.findClass y.cls = some m.cls → NW s → va_K D cls_ tys s → va_P D cls_ (ww g) s.heap → va_D A (ww g) → (∀ q : Nat, s.heap.size ≤ q → A q) → lv_has ls nL (lv_args 0 av) →
      (∀ (u : St) (H : Heap) (locs : List Loc) (pc : Nat) (ls : Array Slot), Q u → va_P D cls_ (ww u) H → va_D A (ww u) → va_S A s.heap H locs → decode cc pc = .ok (.return_, 1) → W p l e rm s m args below meth c H locs 0 0 Qt (F0 m pc ls [])) →
      W p l e rm s m args below meth c s.heap [] 0 0 Qt (F0 m 0 ls [])) : MT_v l y cc nL rm ww D tys sz g av Q := by
  refine Met.ofW (cc := cc) (maxL := nL) (ret := none) hy rfl ?_
  intro p e s m args below meth c s₁ B hml hv
  obtain ⟨rfl, hsz, hP, hK, hD0, hN⟩ := hv
  have hts := atoms_spec (ws := Cond.code y cc nL none :: TB) B.pre
  have hown : s.vm.findClass y.cls = some m.cls := findClass_of_methodNamed B.named
  have hlocks := B.notSynchronized
  subst hsz
  have hD := hD0.self (sz := s.heap.size)
  generalize hAe : va_A (ww g) s.heap.size = A at hD ⊢
  have hA : ∀ q : Nat, s.heap.size ≤ q → A q := fun q h => by rw [← hAe]; exact Or.inr h
  have hl := lv_entry av (n := nL) hlen
  rw [lg_entry_eq]
  refine body p e s m _ below meth c A _ _ B.exec B.bytes hml (fun w h => hts w (List.mem_cons_of_mem _ h)) hown hN hK hP hD hA hl ?_
  intro u H locs pc ls hq hP hD hS hdg
  exact W.vret B.exec B.bytes B.returns (fun t ht hW => ⟨⟨u, rfl, hq, by rw [ht]; exact hP, va_K.moved hW.alike hK, hD⟩, hS.F ht⟩) hS.2.2 hdg
section AFT
variable {p : Program} {l : Launch} {e : Env} {R : Room} {s : State} {m : MethodId} {args : Array Value} {below : List Frame} {meth : Method} {c : Code} {H : Heap} {locs : List Loc} {cells slots : Nat} {Q : State → Prop}
variable {pc : Nat} {ls : Array Slot} {rest st0 : List Value} {av : Array Value} {A : Nat → Prop} {D : va_G} {tys : List (ClassId × FieldType)} {ww : St → va_W} {g : St}
theorem aft_i {post : Int32 → St → Prop} (hr : va_Run p l e R s m args below meth c H locs cells slots 0 0 (F0 m pc ls st0) rest (va_Qi post (CB ww D tys (va_A (ww g) H.size)) (va_A (ww g) H.size) av) (va_A (ww g) H.size)) (hD : va_D A (ww g)) (hS : va_S A s.heap H locs) (hA : ∀ q : Nat, s.heap.size ≤ q → A q) (hK : va_K D cls_ tys s)
    (kk : ∀ (r : Int32) (u : St) (H1 : Heap) (locs1 : List Loc), post r u → va_P D cls_ (ww u) H1 → va_D A (ww u) → va_S A s.heap H1 locs1 → W p l e R s m args below meth c H1 locs1 cells slots Q (F0 m (pc + 3) ls (.int r :: rest))) : W p l e R s m args below meth c H locs cells slots Q (F0 m pc ls st0) := by
  have hF : ∀ q, va_A (ww g) H.size q → A q := by
    intro q hq
    rcases hq with ⟨k, e, h⟩ | h
    · exact hD.2 k (q, e) h
    · exact hA q (Nat.le_trans hS.1 h)
  refine va_calli hr hS (fun q _ h => hF q h) hF (fun r u t H1 locs1 ht hvm hpost hB hz hk hS1 => ?_)
  obtain ⟨hP1, hK1, hD1⟩ := hB
  rw [ht] at hP1
  exact kk r u H1 locs1 hpost hP1 (hD1.weaken (fun _ q _ h => hF q.1 h)) hS1
theorem aft_l {post : Int64 → St → Prop} (hr : va_Run p l e R s m args below meth c H locs cells slots 0 0 (F0 m pc ls st0) rest (va_Ql post (CB ww D tys (va_A (ww g) H.size)) (va_A (ww g) H.size) av) (va_A (ww g) H.size)) (hD : va_D A (ww g)) (hS : va_S A s.heap H locs) (hA : ∀ q : Nat, s.heap.size ≤ q → A q) (hK : va_K D cls_ tys s)
    (kk : ∀ (r : Int64) (u : St) (H1 : Heap) (locs1 : List Loc), post r u → va_P D cls_ (ww u) H1 → va_D A (ww u) → va_S A s.heap H1 locs1 → W p l e R s m args below meth c H1 locs1 cells slots Q (F0 m (pc + 3) ls (.long r :: rest))) : W p l e R s m args below meth c H locs cells slots Q (F0 m pc ls st0) := by
  have hF : ∀ q, va_A (ww g) H.size q → A q := by
    intro q hq
    rcases hq with ⟨k, e, h⟩ | h
    · exact hD.2 k (q, e) h
    · exact hA q (Nat.le_trans hS.1 h)
  refine va_calll hr hS (fun q _ h => hF q h) hF (fun r u t H1 locs1 ht hvm hpost hB hz hk hS1 => ?_)
  obtain ⟨hP1, hK1, hD1⟩ := hB
  rw [ht] at hP1
  exact kk r u H1 locs1 hpost hP1 (hD1.weaken (fun _ q _ h => hF q.1 h)) hS1
theorem aft_v {post : St → Prop} (hr : va_Run p l e R s m args below meth c H locs cells slots 0 0 (F0 m pc ls st0) rest (va_Qv post (CB ww D tys (va_A (ww g) H.size)) (va_A (ww g) H.size) av) (va_A (ww g) H.size)) (hD : va_D A (ww g)) (hS : va_S A s.heap H locs) (hA : ∀ q : Nat, s.heap.size ≤ q → A q) (hK : va_K D cls_ tys s)
    (kk : ∀ (u : St) (H1 : Heap) (locs1 : List Loc), post u → va_P D cls_ (ww u) H1 → va_D A (ww u) → va_S A s.heap H1 locs1 → W p l e R s m args below meth c H1 locs1 cells slots Q (F0 m (pc + 3) ls (rest))) : W p l e R s m args below meth c H locs cells slots Q (F0 m pc ls st0) := by
  have hF : ∀ q, va_A (ww g) H.size q → A q := by
    intro q hq
    rcases hq with ⟨k, e, h⟩ | h
    · exact hD.2 k (q, e) h
    · exact hA q (Nat.le_trans hS.1 h)
  refine va_callv hr hS (fun q _ h => hF q h) hF (fun u t H1 locs1 ht hvm hpost hB hz hk hS1 => ?_)
  obtain ⟨hP1, hK1, hD1⟩ := hB
  rw [ht] at hP1
  exact kk u H1 locs1 hpost hP1 (hD1.weaken (fun _ q _ h => hF q.1 h)) hS1
theorem preV (q0 ci : Nat) {C : String} {T : u_T} {N : Nat} {fs : List Value} {b : Nat} {As : List Value} (hP : va_P D cls_ (ww g) H) (hD : va_D A (ww g)) (hK : va_K D cls_ tys s) (hN : NW s) (he : (ww g)[q0]? = some (b, .inr (ci, fs))) (hc : cls_[ci]? = some (C, T, N)) : PreV s H C b (va_Pc (.ref b :: As) (CE ww D tys H.size g)) As :=
  ⟨fun a U gg mk q => by obtain ⟨q0, q1, qP, qK, qD, qN⟩ := q; exact ⟨q0, q1, qP, va_K.moved (u := U) (U := U.calling gg mk a) (Vm.Alike.refl U.vm) qK, qD, NW_same (u := U) (U := U.calling gg mk a) rfl qN⟩, va_recv hK hP hc he, fun U hU hW => ⟨rfl, by rw [hU], by rw [hU]; exact hP, va_K.moved hW.alike hK, hD.weaken (fun _ _ _ _ => trivial), NW_warm hW hN⟩⟩
theorem preS {As : List Value} (hP : va_P D cls_ (ww g) H) (hD : va_D A (ww g)) (hK : va_K D cls_ tys s) (hN : NW s) : PreS s H (va_Pc As (CE ww D tys H.size g)) As :=
  ⟨fun a U gg mk q => by obtain ⟨q0, q1, qP, qK, qD, qN⟩ := q; exact ⟨q0, q1, qP, va_K.moved (u := U) (U := U.calling gg mk a) (Vm.Alike.refl U.vm) qK, qD, NW_same (u := U) (U := U.calling gg mk a) rfl qN⟩, fun U hU hW => ⟨rfl, by rw [hU], by rw [hU]; exact hP, va_K.moved hW.alike hK, hD.weaken (fun _ _ _ _ => trivial), NW_warm hW hN⟩⟩
end AFT
-- switches
theorem sw_eq {x : Int32} {k : Int} {y : Int32} (h : x.toInt = k) (hy : y.toInt = k) : x = y := Int32.toInt_inj.mp (h.trans hy.symm)
theorem sw_5 (x : Int32) : (x.toInt < 0 ∨ 4 < x.toInt) ∨ x = 0 ∨ x = 1 ∨ x = 2 ∨ x = 3 ∨ x = 4 := by
  by_cases h : x.toInt < 0 ∨ 4 < x.toInt
  · exact Or.inl h
  · have h5 : x.toInt = 0 ∨ x.toInt = 1 ∨ x.toInt = 2 ∨ x.toInt = 3 ∨ x.toInt = 4 := by omega
    rcases h5 with h | h | h | h | h
    · exact Or.inr (Or.inl (sw_eq h rfl))
    · exact Or.inr (Or.inr (Or.inl (sw_eq h rfl)))
    · exact Or.inr (Or.inr (Or.inr (Or.inl (sw_eq h rfl))))
    · exact Or.inr (Or.inr (Or.inr (Or.inr (Or.inl (sw_eq h rfl)))))
    · exact Or.inr (Or.inr (Or.inr (Or.inr (Or.inr (sw_eq h rfl)))))
theorem wE_ad {a : Nat → Nat} {cI cZ : ClassId} {g : St} {k : Nat} {x : Nat × va_E} (h : (wE a cI cZ g)[k]? = some x) : x.1 = a k ∧ k < 20 := by
  match k, h with
  | 0, h => cases h; exact ⟨rfl, by omega⟩
  | 1, h => cases h; exact ⟨rfl, by omega⟩
  | 2, h => cases h; exact ⟨rfl, by omega⟩
  | 3, h => cases h; exact ⟨rfl, by omega⟩
  | 4, h => cases h; exact ⟨rfl, by omega⟩
  | 5, h => cases h; exact ⟨rfl, by omega⟩
  | 6, h => cases h; exact ⟨rfl, by omega⟩
  | 7, h => cases h; exact ⟨rfl, by omega⟩
  | 8, h => cases h; exact ⟨rfl, by omega⟩
  | 9, h => cases h; exact ⟨rfl, by omega⟩
  | 10, h => cases h; exact ⟨rfl, by omega⟩
  | 11, h => cases h; exact ⟨rfl, by omega⟩
  | 12, h => cases h; exact ⟨rfl, by omega⟩
  | 13, h => cases h; exact ⟨rfl, by omega⟩
  | 14, h => cases h; exact ⟨rfl, by omega⟩
  | 15, h => cases h; exact ⟨rfl, by omega⟩
  | 16, h => cases h; exact ⟨rfl, by omega⟩
  | 17, h => cases h; exact ⟨rfl, by omega⟩
  | 18, h => cases h; exact ⟨rfl, by omega⟩
  | 19, h => cases h; exact ⟨rfl, by omega⟩
  | k + 20, h => cases h
theorem wM_ad {a : Nat → Nat} {cI cZ : ClassId} {g : St} {k : Nat} {x : Nat × va_E} (h : (wM a cI cZ g)[k]? = some x) : x.1 = a k ∧ k < 12 := by
  match k, h with
  | 0, h => cases h; exact ⟨rfl, by omega⟩
  | 1, h => cases h; exact ⟨rfl, by omega⟩
  | 2, h => cases h; exact ⟨rfl, by omega⟩
  | 3, h => cases h; exact ⟨rfl, by omega⟩
  | 4, h => cases h; exact ⟨rfl, by omega⟩
  | 5, h => cases h; exact ⟨rfl, by omega⟩
  | 6, h => cases h; exact ⟨rfl, by omega⟩
  | 7, h => cases h; exact ⟨rfl, by omega⟩
  | 8, h => cases h; exact ⟨rfl, by omega⟩
  | 9, h => cases h; exact ⟨rfl, by omega⟩
  | 10, h => cases h; exact ⟨rfl, by omega⟩
  | 11, h => cases h; exact ⟨rfl, by omega⟩
  | k + 12, h => cases h
theorem apME {a b2 : Nat → Nat} {cI cZ : ClassId} {g h : St} (hab : ∀ i j : Nat, i < 20 → j < 12 → a i ≠ b2 j) : ∀ (k j : Nat) (x y : Nat × va_E), (wM b2 cI cZ h)[k]? = some x → (wE a cI cZ g)[j]? = some y → x.1 ≠ y.1 := by
  intro k j x y hx hy e
  have h1 := wM_ad hx
  have h2 := wE_ad hy
  exact hab j k h2.2 h1.2 (by rw [← h1.1, ← h2.1, e])
theorem apEM {a b2 : Nat → Nat} {cI cZ : ClassId} {g h : St} (hab : ∀ i j : Nat, i < 20 → j < 12 → a i ≠ b2 j) : ∀ (k j : Nat) (x y : Nat × va_E), (wE a cI cZ g)[k]? = some x → (wM b2 cI cZ h)[j]? = some y → x.1 ≠ y.1 := by
  intro k j x y hx hy e
  have h1 := wE_ad hx
  have h2 := wM_ad hy
  exact hab k j h1.2 h2.2 (by rw [← h1.1, ← h2.1, e])
theorem sw_17 (x : Int32) : (x.toInt < 0 ∨ 16 < x.toInt) ∨ x = 0 ∨ x = 1 ∨ x = 2 ∨ x = 3 ∨ x = 4 ∨ x = 5 ∨ x = 6 ∨ x = 7 ∨ x = 8 ∨ x = 9 ∨ x = 10 ∨ x = 11 ∨ x = 12 ∨ x = 13 ∨ x = 14 ∨ x = 15 ∨ x = 16 := by
  by_cases h : x.toInt < 0 ∨ 16 < x.toInt
  · exact Or.inl h
  · have h5 : x.toInt = 0 ∨ x.toInt = 1 ∨ x.toInt = 2 ∨ x.toInt = 3 ∨ x.toInt = 4 ∨ x.toInt = 5 ∨ x.toInt = 6 ∨ x.toInt = 7 ∨ x.toInt = 8 ∨ x.toInt = 9 ∨ x.toInt = 10 ∨ x.toInt = 11 ∨ x.toInt = 12 ∨ x.toInt = 13 ∨ x.toInt = 14 ∨ x.toInt = 15 ∨ x.toInt = 16 := by omega
    rcases h5 with h | h | h | h | h | h | h | h | h | h | h | h | h | h | h | h | h
    · exact Or.inr (Or.inl (sw_eq h rfl))
    · exact Or.inr (Or.inr (Or.inl (sw_eq h rfl)))
    · exact Or.inr (Or.inr (Or.inr (Or.inl (sw_eq h rfl))))
    · exact Or.inr (Or.inr (Or.inr (Or.inr (Or.inl (sw_eq h rfl)))))
    · exact Or.inr (Or.inr (Or.inr (Or.inr (Or.inr (Or.inl (sw_eq h rfl))))))
    · exact Or.inr (Or.inr (Or.inr (Or.inr (Or.inr (Or.inr (Or.inl (sw_eq h rfl)))))))
    · exact Or.inr (Or.inr (Or.inr (Or.inr (Or.inr (Or.inr (Or.inr (Or.inl (sw_eq h rfl))))))))
    · exact Or.inr (Or.inr (Or.inr (Or.inr (Or.inr (Or.inr (Or.inr (Or.inr (Or.inl (sw_eq h rfl)))))))))
    · exact Or.inr (Or.inr (Or.inr (Or.inr (Or.inr (Or.inr (Or.inr (Or.inr (Or.inr (Or.inl (sw_eq h rfl))))))))))
    · exact Or.inr (Or.inr (Or.inr (Or.inr (Or.inr (Or.inr (Or.inr (Or.inr (Or.inr (Or.inr (Or.inl (sw_eq h rfl)))))))))))
    · exact Or.inr (Or.inr (Or.inr (Or.inr (Or.inr (Or.inr (Or.inr (Or.inr (Or.inr (Or.inr (Or.inr (Or.inl (sw_eq h rfl))))))))))))
    · exact Or.inr (Or.inr (Or.inr (Or.inr (Or.inr (Or.inr (Or.inr (Or.inr (Or.inr (Or.inr (Or.inr (Or.inr (Or.inl (sw_eq h rfl)))))))))))))
    · exact Or.inr (Or.inr (Or.inr (Or.inr (Or.inr (Or.inr (Or.inr (Or.inr (Or.inr (Or.inr (Or.inr (Or.inr (Or.inr (Or.inl (sw_eq h rfl))))))))))))))
    · exact Or.inr (Or.inr (Or.inr (Or.inr (Or.inr (Or.inr (Or.inr (Or.inr (Or.inr (Or.inr (Or.inr (Or.inr (Or.inr (Or.inr (Or.inl (sw_eq h rfl)))))))))))))))
    · exact Or.inr (Or.inr (Or.inr (Or.inr (Or.inr (Or.inr (Or.inr (Or.inr (Or.inr (Or.inr (Or.inr (Or.inr (Or.inr (Or.inr (Or.inr (Or.inl (sw_eq h rfl))))))))))))))))
    · exact Or.inr (Or.inr (Or.inr (Or.inr (Or.inr (Or.inr (Or.inr (Or.inr (Or.inr (Or.inr (Or.inr (Or.inr (Or.inr (Or.inr (Or.inr (Or.inr (Or.inl (sw_eq h rfl)))))))))))))))))
    · exact Or.inr (Or.inr (Or.inr (Or.inr (Or.inr (Or.inr (Or.inr (Or.inr (Or.inr (Or.inr (Or.inr (Or.inr (Or.inr (Or.inr (Or.inr (Or.inr (Or.inr (sw_eq h rfl)))))))))))))))))
-- two arrays of one kind have one component
theorem arr_eqI {D : va_G} {tys : List (ClassId × FieldType)} {s : State} (hK : va_K D cls_ tys s) (i j : Nat) {c1 c2 : ClassId} (h1 : tys[i]? = some (c1, .int)) (h2 : tys[j]? = some (c2, .int)) : c1 = c2 :=
  Option.some.inj (((hK.2 i _ h1).2 : s.vm.findClass _ = some c1).symm.trans ((hK.2 j _ h2).2 : s.vm.findClass _ = some c2))
theorem arr_eqZ {D : va_G} {tys : List (ClassId × FieldType)} {s : State} (hK : va_K D cls_ tys s) (i j : Nat) {c1 c2 : ClassId} (h1 : tys[i]? = some (c1, .boolean)) (h2 : tys[j]? = some (c2, .boolean)) : c1 = c2 :=
  Option.some.inj (((hK.2 i _ h1).2 : s.vm.findClass _ = some c1).symm.trans ((hK.2 j _ h2).2 : s.vm.findClass _ = some c2))
-- a constructor's start
theorem preI {s : State} {H : Heap} {A : Nat → Prop} {D : va_G} {ws : va_W} {b : Nat} (hP : va_P D cls_ ws H) (hD : va_D A ws) (hK : va_K D cls_ [] s) (hN : NW s) : PreS s H (va_Pc [.ref b] (fun U => U.heap.size = H.size ∧ va_P D cls_ ws U.heap ∧ va_K D cls_ [] U ∧ va_D (fun _ => True) ws ∧ NW U)) [.ref b] :=
  ⟨fun a U gg mk q => by obtain ⟨q0, q1, qP, qK, qD, qN⟩ := q; exact ⟨q0, q1, qP, va_K.moved (u := U) (U := U.calling gg mk a) (Vm.Alike.refl U.vm) qK, qD, NW_same (u := U) (U := U.calling gg mk a) rfl qN⟩, fun U hU hW => ⟨rfl, by rw [hU], by rw [hU]; exact hP, va_K.moved hW.alike hK, hD.weaken (fun _ _ _ _ => trivial), NW_warm hW hN⟩⟩
-- the law: a call beside cells that stay
theorem aft2_i {p : Program} {l : Launch} {e : Env} {R : Room} {s : State} {m : MethodId} {args : Array Value} {below : List Frame} {meth : Method} {c : Code} {H : Heap} {locs : List Loc} {cells slots : Nat} {Q : State → Prop} {pc : Nat} {ls : Array Slot} {rest st0 : List Value} {av : Array Value} {A : Nat → Prop} {D : va_G} {tys : List (ClassId × FieldType)} {ww : St → va_W} {g : St} {vv : va_W} {post : Int32 → St → Prop}
    (hr : va_Run p l e R s m args below meth c H locs cells slots 0 0 (F0 m pc ls st0) rest (va_Qi post (CB ww D tys (va_A (ww g) H.size)) (va_A (ww g) H.size) av) (va_A (ww g) H.size)) (hD : va_D A (ww g)) (hS : va_S A s.heap H locs) (hA : ∀ q : Nat, s.heap.size ≤ q → A q) (hV : va_P D cls_ vv H) (hap : ∀ (k j : Nat) (x y : Nat × va_E), vv[k]? = some x → (ww g)[j]? = some y → x.1 ≠ y.1)
    (kk : ∀ (r : Int32) (u : St) (H1 : Heap) (locs1 : List Loc), post r u → va_P D cls_ (ww u) H1 → va_D A (ww u) → va_P D cls_ vv H1 → va_S A s.heap H1 locs1 → W p l e R s m args below meth c H1 locs1 cells slots Q (F0 m (pc + 3) ls (.int r :: rest))) : W p l e R s m args below meth c H locs cells slots Q (F0 m pc ls st0) := by
  have hF : ∀ q, va_A (ww g) H.size q → A q := by
    intro q hq
    rcases hq with ⟨k, e, h⟩ | h
    · exact hD.2 k (q, e) h
    · exact hA q (Nat.le_trans hS.1 h)
  refine va_calli hr hS (fun q _ h => hF q h) hF (fun r u t H1 locs1 ht hvm hpost hB hz hk hS1 => ?_)
  obtain ⟨hP1, hK1, hD1⟩ := hB
  rw [ht] at hP1
  refine kk r u H1 locs1 hpost hP1 (hD1.weaken (fun _ q _ h => hF q.1 h)) (hV.kept (fun k x hx => hk x.1 (hV k x hx).lt ?_)) hS1
  intro h
  rcases h with ⟨j, e, h⟩ | h
  · exact hap k j x (x.1, e) hx h rfl
  · exact absurd (hV k x hx).lt (Nat.not_lt.mpr h)
-- the law's own numbers
theorem law_fit {L k : Nat} (hL : L ≤ 2048) (hk : k ≤ 512) (hc : ¬ Int32.ofNat L - 4 < nI (4 * k)) : 4 * k + 4 ≤ L := by
  have h1 : (Int32.ofNat L - 4 : Int32) = nI L - nI 4 := rfl
  rw [h1, Int32.lt_iff_toInt_lt, pk_sub_toInt (by omega) (by omega), nI_toInt (by omega)] at hc
  omega
theorem law_in {L k : Nat} (j : Nat) (h : 4 * k + j < L) (hL : L < 2 ^ 31) {x : Int32} (hx : x = nI (4 * k + j) := by first | rfl | (rw [← nI_add]; rfl)) : vp_in x L := by
  rw [hx]
  exact vp_in_nI h hL
theorem law_inc (k : Nat) : nI (4 * k) + Int32.ofInt 4 = nI (4 * (k + 1)) := by
  have h : nI (4 * (k + 1)) = nI (4 * k) + nI 4 := by rw [nI_add]; rfl
  rw [h]
  rfl
end
section
def wp_B_mayGoOn (g : St) (Q : Int32 → St → Prop) : Prop := (((g.2.1 3) ≤ 0 → Q 0 g) ∧ (¬ (g.2.1 3) ≤ 0 → ((4 ≤ (g.2.1 3) → Q 0 g) ∧ (¬ 4 ≤ (g.2.1 3) → Q 1 g))))
def wb_B_begin_43 (Q : St → Prop) (g : St) : Prop := Q (sI (sI g 2 1) 4 0)
def wb_B_begin_21 (Q : St → Prop) (g : St) (x2 : Int32) : Prop := ((x2 = 0 → Q (sI g 2 0)) ∧ (¬ x2 = 0 → Q (sI (sI g 2 0) 4 (((sI g 2 0).2.1 4) + 1))))
def wp_B_begin (g : St) (x1 : Int32) (x2 : Int32) (Q : St → Prop) : Prop := ((x1 = 0 → wb_B_begin_43 Q (sI g 3 1)) ∧ (¬ x1 = 0 → ((x2 = 0 → wb_B_begin_21 Q (sI g 3 1) x2) ∧ (¬ x2 = 0 → ((2 ≤ ((sI g 3 1).2.1 4) → wb_B_begin_43 Q (sI g 3 1)) ∧ (¬ 2 ≤ ((sI g 3 1).2.1 4) → wb_B_begin_21 Q (sI g 3 1) x2))))))
def wp_C_clear (g : St) (Q : St → Prop) : Prop := Q (sL (sL g 0 ((0 : Int64))) 1 ((0 : Int64)))
def wp_C_add (g : St) (x1 : Int32) (x2 : Int64) (Q : St → Prop) : Prop := ((¬ x1 = 1 → Q (sL g 0 ((g.2.2 0) ||| x2))) ∧ (x1 = 1 → Q (sL g 1 ((g.2.2 1) ||| x2))))
def wb_C_conflictWith_21 (Q : Int32 → St → Prop) (g : St) (x2 : Int64) (z0 : Int64) : Prop := (((lg_cmp (z0 &&& x2) ((0 : Int64))) = 0 → Q 0 g) ∧ (¬ (lg_cmp (z0 &&& x2) ((0 : Int64))) = 0 → Q 1 g))
def wp_C_conflictWith (g : St) (x1 : Int32) (x2 : Int64) (Q : Int32 → St → Prop) : Prop := ((¬ x1 = 1 → wb_C_conflictWith_21 Q g x2 (g.2.2 1)) ∧ (x1 = 1 → wb_C_conflictWith_21 Q g x2 ((g.2.2 0) ||| (g.2.2 1))))
def wp_P_has (g : St) (x1 : Int32) (Q : Int32 → St → Prop) : Prop := ((x1 < 0 → Q 0 g) ∧ (¬ x1 < 0 → (((g.2.1 0) ≤ x1 → Q 0 g) ∧ (¬ (g.2.1 0) ≤ x1 → Q 1 g))))
def wp_P_isWaiting (g : St) (x1 : Int32) (Q : Int32 → St → Prop) : Prop := wp_P_has g x1 (fun r2 u2 => ((r2 = 0 → Q 0 u2) ∧ (¬ r2 = 0 → (vp_in x1 200 ∧ ((¬ (u2.1 5 x1.toNatClampNeg) = 0 → Q 0 u2) ∧ ((u2.1 5 x1.toNatClampNeg) = 0 → Q 1 u2))))))
def wp_E_sectorsFrom (g : St) (x0 : Int32) (x1 : Int32) (Q : Int64 → St → Prop) : Prop := Q (((((1 : Int64)) <<< (x1.toInt64 &&& 63)) - ((1 : Int64))) <<< (x0.toInt64 &&& 63)) g
def wp_P_sectors (g : St) (x1 : Int32) (Q : Int64 → St → Prop) : Prop := (vp_in x1 200 ∧ (vp_in x1 200 ∧ wp_E_sectorsFrom g (g.1 2 x1.toNatClampNeg) (g.1 3 x1.toNatClampNeg) (fun r12 u12 => Q r12 u12)))
def wl_P_add_33 (Q : Int32 → St → Prop) : Nat → St → Int32 → Int32 → Int32 → Int32 → Prop
  | 0, _, _, _, _, _ => False
  | n + 1, g, x3, x4, x5, x6 => ((x3 ≤ x6 → Q x5 (sI g 0 ((g.2.1 0) + 1))) ∧ (¬ x3 ≤ x6 → (vp_in ((x5 * 8) + x6) 1600 ∧ (wl_P_add_33 Q n) (sA g 6 ((x5 * 8) + x6).toNatClampNeg (x4 + x6)) x3 x4 x5 (x6 + 1))))
def wp_P_add (g : St) (x1 : Int32) (x2 : Int32) (x3 : Int32) (x4 : Int32) (Q : Int32 → St → Prop) : Prop := (vp_in (g.2.1 0) 200 ∧ (vp_in (g.2.1 0) 200 ∧ (vp_in (g.2.1 0) 200 ∧ ∃ j_33 : Nat, wl_P_add_33 Q j_33 (sA (sA (sA g 1 (g.2.1 0).toNatClampNeg x1) 2 (g.2.1 0).toNatClampNeg x2) 3 (g.2.1 0).toNatClampNeg x3) x3 x4 (g.2.1 0) 0)))
def wb_P_carryOut_60 (Q : St → Prop) (g : St) (x1 : Int32) : Prop := (vp_in x1 200 ∧ Q (sA g 5 x1.toNatClampNeg (vp_nar .boolean 1)))
def wp_P_carryOut (g : St) (x1 : Int32) (Q : St → Prop) : Prop := (vp_in x1 200 ∧ ((¬ (g.1 1 x1.toNatClampNeg) = 1 → (vp_in x1 200 ∧ (vp_in x1 200 ∧ (¬ (g.1 2 x1.toNatClampNeg) < 0 ∧ ¬ (x1 * 8) < 0 ∧ ¬ (g.1 3 x1.toNatClampNeg) < 0 ∧ (g.1 2 x1.toNatClampNeg).toNatClampNeg + (g.1 3 x1.toNatClampNeg).toNatClampNeg ≤ 64 ∧ (x1 * 8).toNatClampNeg + (g.1 3 x1.toNatClampNeg).toNatClampNeg ≤ 1600 ∧ wb_P_carryOut_60 Q (sC g 6 (va_cpy (g.1 0) (g.1 6) (g.1 2 x1.toNatClampNeg).toNatClampNeg (x1 * 8).toNatClampNeg (g.1 3 x1.toNatClampNeg).toNatClampNeg)) x1)))) ∧ ((g.1 1 x1.toNatClampNeg) = 1 → (vp_in x1 200 ∧ (vp_in x1 200 ∧ (¬ (x1 * 8) < 0 ∧ ¬ (g.1 2 x1.toNatClampNeg) < 0 ∧ ¬ (g.1 3 x1.toNatClampNeg) < 0 ∧ (x1 * 8).toNatClampNeg + (g.1 3 x1.toNatClampNeg).toNatClampNeg ≤ 1600 ∧ (g.1 2 x1.toNatClampNeg).toNatClampNeg + (g.1 3 x1.toNatClampNeg).toNatClampNeg ≤ 64 ∧ wb_P_carryOut_60 Q (sC g 0 (va_cpy (g.1 6) (g.1 0) (x1 * 8).toNatClampNeg (g.1 2 x1.toNatClampNeg).toNatClampNeg (g.1 3 x1.toNatClampNeg).toNatClampNeg)) x1))))))
def wp_R_end (g : St) (x1 : Int32) (Q : Int32 → St → Prop) : Prop := (vp_in x1 200 ∧ (vp_in x1 200 ∧ Q ((g.1 8 x1.toNatClampNeg) + (g.1 9 x1.toNatClampNeg)) g))
def wp_R_isReady (g : St) (x1 : Int32) (x2 : Int32) (Q : Int32 → St → Prop) : Prop := (vp_in x1 200 ∧ (((g.1 13 x1.toNatClampNeg) = 0 → Q 0 g) ∧ (¬ (g.1 13 x1.toNatClampNeg) = 0 → (vp_in x1 200 ∧ ((¬ (g.1 7 x1.toNatClampNeg) = x2 → Q 0 g) ∧ ((g.1 7 x1.toNatClampNeg) = x2 → Q 1 g))))))
def wp_R_open (g : St) (x1 : Int32) (x2 : Int32) (x3 : Int32) (x4 : Int32) (x5 : Int32) (x6 : Int32) (Q : St → Prop) : Prop := (vp_in x1 200 ∧ (vp_in x1 200 ∧ (vp_in x1 200 ∧ (vp_in x1 200 ∧ (vp_in x1 200 ∧ (vp_in x1 200 ∧ (vp_in ((sA (sA (sA (sA (sA (sA g 7 x1.toNatClampNeg x2) 8 x1.toNatClampNeg x3) 9 x1.toNatClampNeg x4) 10 x1.toNatClampNeg 1) 11 x1.toNatClampNeg x5) 12 x1.toNatClampNeg x6).2.1 1) 24 ∧ Q (sI (sA (sA (sA (sA (sA (sA (sA g 7 x1.toNatClampNeg x2) 8 x1.toNatClampNeg x3) 9 x1.toNatClampNeg x4) 10 x1.toNatClampNeg 1) 11 x1.toNatClampNeg x5) 12 x1.toNatClampNeg x6) 14 ((sA (sA (sA (sA (sA (sA g 7 x1.toNatClampNeg x2) 8 x1.toNatClampNeg x3) 9 x1.toNatClampNeg x4) 10 x1.toNatClampNeg 1) 11 x1.toNatClampNeg x5) 12 x1.toNatClampNeg x6).2.1 1).toNatClampNeg x1) 1 (((sA (sA (sA (sA (sA (sA (sA g 7 x1.toNatClampNeg x2) 8 x1.toNatClampNeg x3) 9 x1.toNatClampNeg x4) 10 x1.toNatClampNeg 1) 11 x1.toNatClampNeg x5) 12 x1.toNatClampNeg x6) 14 ((sA (sA (sA (sA (sA (sA g 7 x1.toNatClampNeg x2) 8 x1.toNatClampNeg x3) 9 x1.toNatClampNeg x4) 10 x1.toNatClampNeg 1) 11 x1.toNatClampNeg x5) 12 x1.toNatClampNeg x6).2.1 1).toNatClampNeg x1).2.1 1) + 1)))))))))
def wp_R_extend (g : St) (x1 : Int32) (x2 : Int32) (x3 : Int32) (Q : St → Prop) : Prop := (vp_in x1 200 ∧ (vp_in x1 200 ∧ (vp_in x1 200 ∧ (vp_in x1 200 ∧ (vp_in x1 200 ∧ (vp_in x1 200 ∧ Q (sA (sA (sA g 8 x1.toNatClampNeg (if x2 < g.1 8 x1.toNatClampNeg then x2 else g.1 8 x1.toNatClampNeg)) 9 x1.toNatClampNeg (((sA g 8 x1.toNatClampNeg (if x2 < g.1 8 x1.toNatClampNeg then x2 else g.1 8 x1.toNatClampNeg)).1 9 x1.toNatClampNeg) + x3)) 10 x1.toNatClampNeg (((sA (sA g 8 x1.toNatClampNeg (if x2 < g.1 8 x1.toNatClampNeg then x2 else g.1 8 x1.toNatClampNeg)) 9 x1.toNatClampNeg (((sA g 8 x1.toNatClampNeg (if x2 < g.1 8 x1.toNatClampNeg then x2 else g.1 8 x1.toNatClampNeg)).1 9 x1.toNatClampNeg) + x3)).1 10 x1.toNatClampNeg) + 1))))))))
def wl_R_remove_4 (Q : St → Prop) : Nat → St → Int32 → Int32 → Int32 → Prop
  | 0, _, _, _, _ => False
  | n + 1, g, x1, x2, x3 => (((g.2.1 1) ≤ x3 → Q (sI g 1 x2)) ∧ (¬ (g.2.1 1) ≤ x3 → (vp_in x3 24 ∧ (((g.1 14 x3.toNatClampNeg) = x1 → (wl_R_remove_4 Q n) g x1 x2 (x3 + 1)) ∧ (¬ (g.1 14 x3.toNatClampNeg) = x1 → (vp_in x3 24 ∧ (vp_in x2 24 ∧ (wl_R_remove_4 Q n) (sA g 14 x2.toNatClampNeg (g.1 14 x3.toNatClampNeg)) x1 (x2 + 1) (x3 + 1))))))))
def wp_R_remove (g : St) (x1 : Int32) (Q : St → Prop) : Prop := ∃ j_4 : Nat, wl_R_remove_4 Q j_4 g x1 0 0
def wp_R_hasRoom (g : St) (x1 : Int32) (x2 : Int32) (Q : Int32 → St → Prop) : Prop := (vp_in x1 200 ∧ ((4 ≤ (g.1 10 x1.toNatClampNeg) → Q 0 g) ∧ (¬ 4 ≤ (g.1 10 x1.toNatClampNeg) → (vp_in x1 200 ∧ ((16 < ((g.1 9 x1.toNatClampNeg) + x2) → Q 0 g) ∧ (¬ 16 < ((g.1 9 x1.toNatClampNeg) + x2) → Q 1 g))))))
def wl_R_neighbourOf_6 (Q : Int32 → St → Prop) : Nat → St → Int32 → Int32 → Int32 → Int32 → Int32 → Int32 → Prop
  | 0, _, _, _, _, _, _, _ => False
  | n + 1, g, x1, x2, x3, x4, x5, x6 => (((g.2.1 1) ≤ x6 → Q x5 g) ∧ (¬ (g.2.1 1) ≤ x6 → (vp_in x6 24 ∧ (vp_in (g.1 14 x6.toNatClampNeg) 200 ∧ ((¬ (g.1 7 (g.1 14 x6.toNatClampNeg).toNatClampNeg) = x1 → (wl_R_neighbourOf_6 Q n) g x1 x2 x3 x4 x5 (x6 + 1)) ∧ ((g.1 7 (g.1 14 x6.toNatClampNeg).toNatClampNeg) = x1 → (vp_in (g.1 14 x6.toNatClampNeg) 200 ∧ ((¬ (g.1 12 (g.1 14 x6.toNatClampNeg).toNatClampNeg) = x4 → (wl_R_neighbourOf_6 Q n) g x1 x2 x3 x4 x5 (x6 + 1)) ∧ ((g.1 12 (g.1 14 x6.toNatClampNeg).toNatClampNeg) = x4 → wp_R_hasRoom g (g.1 14 x6.toNatClampNeg) x3 (fun r51 u51 => ((r51 = 0 → (wl_R_neighbourOf_6 Q n) u51 x1 x2 x3 x4 x5 (x6 + 1)) ∧ (¬ r51 = 0 → wp_R_end u51 (g.1 14 x6.toNatClampNeg) (fun r60 u60 => ((¬ r60 = x2 → ((¬ x5 = (-1) → (wl_R_neighbourOf_6 Q n) u60 x1 x2 x3 x4 x5 (x6 + 1)) ∧ (x5 = (-1) → (vp_in (g.1 14 x6.toNatClampNeg) 200 ∧ ((¬ (u60.1 8 (g.1 14 x6.toNatClampNeg).toNatClampNeg) = (x2 + x3) → (wl_R_neighbourOf_6 Q n) u60 x1 x2 x3 x4 x5 (x6 + 1)) ∧ ((u60.1 8 (g.1 14 x6.toNatClampNeg).toNatClampNeg) = (x2 + x3) → (wl_R_neighbourOf_6 Q n) u60 x1 x2 x3 x4 (g.1 14 x6.toNatClampNeg) (x6 + 1))))))) ∧ (r60 = x2 → Q (g.1 14 x6.toNatClampNeg) u60)))))))))))))))
def wp_R_neighbourOf (g : St) (x1 : Int32) (x2 : Int32) (x3 : Int32) (x4 : Int32) (Q : Int32 → St → Prop) : Prop := ∃ j_6 : Nat, wl_R_neighbourOf_6 Q j_6 g x1 x2 x3 x4 (-1) 0
def wl_R_markLeastGroup_2 (Q : St → Prop) : Nat → St → Int32 → Prop
  | 0, _, _ => False
  | n + 1, g, x1 => (((g.2.1 1) ≤ x1 → Q g) ∧ (¬ (g.2.1 1) ≤ x1 → (vp_in x1 24 ∧ (vp_in x1 24 ∧ (vp_in (g.1 14 x1.toNatClampNeg) 200 ∧ (vp_in 0 24 ∧ (vp_in (g.1 14 (0 : Int32).toNatClampNeg) 200 ∧ ((¬ (g.1 12 (g.1 14 x1.toNatClampNeg).toNatClampNeg) = (g.1 12 (g.1 14 (0 : Int32).toNatClampNeg).toNatClampNeg) → (vp_in (g.1 14 x1.toNatClampNeg) 200 ∧ (wl_R_markLeastGroup_2 Q n) (sA g 13 (g.1 14 x1.toNatClampNeg).toNatClampNeg (vp_nar .boolean 0)) (x1 + 1))) ∧ ((g.1 12 (g.1 14 x1.toNatClampNeg).toNatClampNeg) = (g.1 12 (g.1 14 (0 : Int32).toNatClampNeg).toNatClampNeg) → (vp_in (g.1 14 x1.toNatClampNeg) 200 ∧ (wl_R_markLeastGroup_2 Q n) (sA g 13 (g.1 14 x1.toNatClampNeg).toNatClampNeg (vp_nar .boolean 1)) (x1 + 1)))))))))))
def wp_R_markLeastGroup (g : St) (Q : St → Prop) : Prop := ∃ j_2 : Nat, wl_R_markLeastGroup_2 Q j_2 g 0
def wl_R_leastStart_5 (Q : Int32 → St → Prop) : Nat → St → Int32 → Int32 → Int32 → Int32 → Prop
  | 0, _, _, _, _, _ => False
  | n + 1, g, x1, x2, x3, x4 => (((g.2.1 1) ≤ x4 → Q x3 g) ∧ (¬ (g.2.1 1) ≤ x4 → (vp_in x4 24 ∧ wp_R_isReady g (g.1 14 x4.toNatClampNeg) x1 (fun r27 u27 => ((r27 = 0 → (wl_R_leastStart_5 Q n) u27 x1 x2 x3 (x4 + 1)) ∧ (¬ r27 = 0 → (vp_in (g.1 14 x4.toNatClampNeg) 200 ∧ (((u27.1 8 (g.1 14 x4.toNatClampNeg).toNatClampNeg) < x2 → (wl_R_leastStart_5 Q n) u27 x1 x2 x3 (x4 + 1)) ∧ (¬ (u27.1 8 (g.1 14 x4.toNatClampNeg).toNatClampNeg) < x2 → ((x3 = (-1) → (wl_R_leastStart_5 Q n) u27 x1 x2 (g.1 14 x4.toNatClampNeg) (x4 + 1)) ∧ (¬ x3 = (-1) → (vp_in (g.1 14 x4.toNatClampNeg) 200 ∧ (vp_in x3 200 ∧ (((u27.1 8 x3.toNatClampNeg) ≤ (u27.1 8 (g.1 14 x4.toNatClampNeg).toNatClampNeg) → (wl_R_leastStart_5 Q n) u27 x1 x2 x3 (x4 + 1)) ∧ (¬ (u27.1 8 x3.toNatClampNeg) ≤ (u27.1 8 (g.1 14 x4.toNatClampNeg).toNatClampNeg) → (wl_R_leastStart_5 Q n) u27 x1 x2 (g.1 14 x4.toNatClampNeg) (x4 + 1))))))))))))))))
def wp_R_leastStart (g : St) (x1 : Int32) (x2 : Int32) (Q : Int32 → St → Prop) : Prop := ∃ j_5 : Nat, wl_R_leastStart_5 Q j_5 g x1 x2 (-1) 0
def wp_R_hasReady (g : St) (x1 : Int32) (Q : Int32 → St → Prop) : Prop := wp_R_leastStart g x1 0 (fun r3 u3 => ((r3 = (-1) → Q 0 u3) ∧ (¬ r3 = (-1) → Q 1 u3)))
def wl_R_leastExpired_5 (Q : Int32 → St → Prop) : Nat → St → Int32 → Int32 → Int32 → Int32 → Prop
  | 0, _, _, _, _, _ => False
  | n + 1, g, x1, x2, x3, x4 => (((g.2.1 1) ≤ x4 → Q x3 g) ∧ (¬ (g.2.1 1) ≤ x4 → (vp_in x4 24 ∧ wp_R_isReady g (g.1 14 x4.toNatClampNeg) x1 (fun r27 u27 => ((r27 = 0 → (wl_R_leastExpired_5 Q n) u27 x1 x2 x3 (x4 + 1)) ∧ (¬ r27 = 0 → (vp_in (g.1 14 x4.toNatClampNeg) 200 ∧ ((x2 < (u27.1 11 (g.1 14 x4.toNatClampNeg).toNatClampNeg) → (wl_R_leastExpired_5 Q n) u27 x1 x2 x3 (x4 + 1)) ∧ (¬ x2 < (u27.1 11 (g.1 14 x4.toNatClampNeg).toNatClampNeg) → ((x3 = (-1) → (wl_R_leastExpired_5 Q n) u27 x1 x2 (g.1 14 x4.toNatClampNeg) (x4 + 1)) ∧ (¬ x3 = (-1) → (vp_in (g.1 14 x4.toNatClampNeg) 200 ∧ (vp_in x3 200 ∧ (((u27.1 11 x3.toNatClampNeg) ≤ (u27.1 11 (g.1 14 x4.toNatClampNeg).toNatClampNeg) → (wl_R_leastExpired_5 Q n) u27 x1 x2 x3 (x4 + 1)) ∧ (¬ (u27.1 11 x3.toNatClampNeg) ≤ (u27.1 11 (g.1 14 x4.toNatClampNeg).toNatClampNeg) → (wl_R_leastExpired_5 Q n) u27 x1 x2 (g.1 14 x4.toNatClampNeg) (x4 + 1))))))))))))))))
def wp_R_leastExpired (g : St) (x1 : Int32) (x2 : Int32) (Q : Int32 → St → Prop) : Prop := ∃ j_5 : Nat, wl_R_leastExpired_5 Q j_5 g x1 x2 (-1) 0
def wp_E_isOnDisk (g : St) (x0 : Int32) (x1 : Int32) (Q : Int32 → St → Prop) : Prop := ((x1 < 1 → Q 0 g) ∧ (¬ x1 < 1 → ((8 < x1 → Q 0 g) ∧ (¬ 8 < x1 → ((x0 < 0 → Q 0 g) ∧ (¬ x0 < 0 → (((64 - x1) < x0 → Q 0 g) ∧ (¬ (64 - x1) < x0 → Q 1 g))))))))
def wl_E_claimAllWaiting_9 (Q : St → Prop) : Nat → St → Int32 → Prop
  | 0, _, _ => False
  | n + 1, g, x1 => (((g.2.1 0) ≤ x1 → Q g) ∧ (¬ (g.2.1 0) ≤ x1 → (vp_in x1 200 ∧ ((¬ (g.1 5 x1.toNatClampNeg) = 0 → (wl_E_claimAllWaiting_9 Q n) g (x1 + 1)) ∧ ((g.1 5 x1.toNatClampNeg) = 0 → (vp_in x1 200 ∧ wp_P_sectors g x1 (fun r50 u50 => wp_C_add u50 (g.1 1 x1.toNatClampNeg) r50 (fun u53 => (wl_E_claimAllWaiting_9 Q n) u53 (x1 + 1)))))))))
def wp_E_claimAllWaiting (g : St) (Q : St → Prop) : Prop := wp_C_clear g (fun u4 => ∃ j_9 : Nat, wl_E_claimAllWaiting_9 Q j_9 u4 0)
def wp_E_hostFor (g : St) (x1 : Int32) (x2 : Int32) (x3 : Int32) (Q : Int32 → St → Prop) : Prop := wp_E_claimAllWaiting g (fun u1 => wp_E_sectorsFrom u1 x2 x3 (fun r11 u11 => wp_C_conflictWith u11 x1 r11 (fun r14 u14 => ((r14 = 0 → wp_R_neighbourOf u14 x1 x2 x3 (u14.2.1 7) (fun r33 u33 => Q r33 u33)) ∧ (¬ r14 = 0 → Q (-1) u14)))))
def wb_E_take_94 (Q : Int32 → St → Prop) (g : St) (x1 : Int32) (x2 : Int32) (x3 : Int32) (x6 : Int32) (z0 : Int32) : Prop := wp_R_open g x6 x1 x2 x3 ((g.2.1 8) + z0) (g.2.1 7) (fun u116 => Q x6 u116)
def wp_E_take (g : St) (x1 : Int32) (x2 : Int32) (x3 : Int32) (x4 : Int32) (Q : Int32 → St → Prop) : Prop := wp_E_isOnDisk g x2 x3 (fun r2 u2 => ((¬ r2 = 0 → (((u2.2.1 0) = 200 → Q (-2) u2) ∧ (¬ (u2.2.1 0) = 200 → ((¬ (u2.2.1 1) = 24 → wp_E_hostFor u2 x1 x2 x3 (fun r42 u42 => wp_P_add u42 x1 x2 x3 x4 (fun r56 u56 => ((¬ r42 = (-1) → (vp_in r56 200 ∧ wp_R_extend (sA u56 4 r56.toNatClampNeg r42) r42 x2 x3 (fun u142 => Q r56 u142))) ∧ (r42 = (-1) → (vp_in r56 200 ∧ ((¬ x1 = 0 → wb_E_take_94 Q (sA u56 4 r56.toNatClampNeg r56) x1 x2 x3 r56 ((sA u56 4 r56.toNatClampNeg r56).2.1 6)) ∧ (x1 = 0 → wb_E_take_94 Q (sA u56 4 r56.toNatClampNeg r56) x1 x2 x3 r56 ((sA u56 4 r56.toNatClampNeg r56).2.1 5))))))))) ∧ ((u2.2.1 1) = 24 → Q (-2) u2))))) ∧ (r2 = 0 → Q (-1) u2)))
def wp_E_read (g : St) (x1 : Int32) (x2 : Int32) (Q : Int32 → St → Prop) : Prop := wp_E_take g 0 x1 x2 0 (fun r5 u5 => Q r5 u5)
def wp_E_write (g : St) (x1 : Int32) (x2 : Int32) (x3 : Int32) (Q : Int32 → St → Prop) : Prop := wp_E_take g 1 x1 x2 x3 (fun r5 u5 => Q r5 u5)
def wp_E_barrier (g : St) (Q : Int32 → St → Prop) : Prop := Q ((sI g 7 ((g.2.1 7) + 1)).2.1 7) (sI g 7 ((g.2.1 7) + 1))
def wp_E_isWithin (g : St) (x0 : Int32) (x1 : Int32) (Q : Int32 → St → Prop) : Prop := ((x0 < 0 → Q 0 g) ∧ (¬ x0 < 0 → ((x1 < x0 → Q 0 g) ∧ (¬ x1 < x0 → Q 1 g))))
def wb_E_expire_25 (Q : Int32 → St → Prop) (g : St) (x1 : Int32) (x2 : Int32) (z0 : Int32) : Prop := ((0 < (g.2.1 1) → Q 0 g) ∧ (¬ 0 < (g.2.1 1) → ((¬ z0 = 0 → Q 1 (sI (sI g 5 x1) 6 x2)) ∧ (z0 = 0 → Q 0 g))))
def wp_E_expire (g : St) (x1 : Int32) (x2 : Int32) (Q : Int32 → St → Prop) : Prop := wp_E_isWithin g x1 10000 (fun r4 u4 => ((r4 = 0 → wb_E_expire_25 Q u4 x1 x2 0) ∧ (¬ r4 = 0 → wp_E_isWithin u4 x2 10000 (fun r14 u14 => ((r14 = 0 → wb_E_expire_25 Q u14 x1 x2 0) ∧ (¬ r14 = 0 → wb_E_expire_25 Q u14 x1 x2 1))))))
def wp_E_tick (g : St) (x1 : Int32) (Q : Int32 → St → Prop) : Prop := wp_E_isWithin g x1 100000 (fun r3 u3 => ((¬ r3 = 0 → Q 1 (sI u3 8 ((u3.2.1 8) + x1))) ∧ (r3 = 0 → Q 0 u3)))
def wb_E_markReady_86 (K_16 : St → Int32 → Prop) (Q : St → Prop) (g : St) (x1 : Int32) (x2 : Int64) : Prop := (vp_in x1 200 ∧ wp_C_add g (g.1 1 x1.toNatClampNeg) x2 (fun u100 => K_16 u100 (x1 + 1)))
def wl_E_markReady_16 (Q : St → Prop) : Nat → St → Int32 → Prop
  | 0, _, _ => False
  | n + 1, g, x1 => (((g.2.1 0) ≤ x1 → Q g) ∧ (¬ (g.2.1 0) ≤ x1 → (vp_in x1 200 ∧ ((¬ (g.1 5 x1.toNatClampNeg) = 0 → (wl_E_markReady_16 Q n) g (x1 + 1)) ∧ ((g.1 5 x1.toNatClampNeg) = 0 → wp_P_sectors g x1 (fun r44 u44 => (vp_in x1 200 ∧ wp_C_conflictWith u44 (u44.1 1 x1.toNatClampNeg) r44 (fun r62 u62 => ((r62 = 0 → wb_E_markReady_86 (wl_E_markReady_16 Q n) Q u62 x1 r44) ∧ (¬ r62 = 0 → (vp_in x1 200 ∧ (vp_in (u62.1 4 x1.toNatClampNeg) 200 ∧ wb_E_markReady_86 (wl_E_markReady_16 Q n) Q (sA u62 13 (u62.1 4 x1.toNatClampNeg).toNatClampNeg (vp_nar .boolean 0)) x1 r44))))))))))))
def wp_E_markReady (g : St) (Q : St → Prop) : Prop := wp_R_markLeastGroup g (fun u4 => wp_C_clear u4 (fun u11 => ∃ j_16 : Nat, wl_E_markReady_16 Q j_16 u11 0))
def wp_E_firstOfBatch (g : St) (x1 : Int32) (Q : Int32 → St → Prop) : Prop := wp_R_leastExpired g x1 (g.2.1 8) (fun r9 u9 => ((r9 = (-1) → wp_R_leastStart u9 x1 (u9.2.1 9) (fun r29 u29 => ((r29 = (-1) → wp_R_leastStart u29 x1 0 (fun r48 u48 => Q r48 u48)) ∧ (¬ r29 = (-1) → Q r29 u29)))) ∧ (¬ r9 = (-1) → Q r9 u9)))
def wb_E_pick_77 (Q : Int32 → St → Prop) (g : St) (x1 : Int32) (x2 : Int32) : Prop := wp_B_begin g x1 x2 (fun u83 => wp_E_firstOfBatch u83 (u83.2.1 2) (fun r94 u94 => Q r94 u94))
def wb_E_pick_49 (Q : Int32 → St → Prop) (g : St) : Prop := wp_R_hasReady g 0 (fun r54 u54 => wp_R_hasReady u54 1 (fun r63 u63 => ((¬ r54 = 0 → wb_E_pick_77 Q u63 r54 r63) ∧ (r54 = 0 → ((¬ r63 = 0 → wb_E_pick_77 Q u63 r54 r63) ∧ (r63 = 0 → Q (-1) u63))))))
def wp_E_pick (g : St) (Q : Int32 → St → Prop) : Prop := wp_B_mayGoOn g (fun r4 u4 => ((r4 = 0 → wb_E_pick_49 Q u4) ∧ (¬ r4 = 0 → wp_R_leastStart u4 (u4.2.1 2) (u4.2.1 9) (fun r25 u25 => ((r25 = (-1) → wb_E_pick_49 Q u25) ∧ (¬ r25 = (-1) → Q r25 (sI u25 3 ((u25.2.1 3) + 1))))))))
def wl_E_carryOut_2 (Q : St → Prop) : Nat → St → Int32 → Int32 → Prop
  | 0, _, _, _ => False
  | n + 1, g, x1, x2 => (((g.2.1 0) ≤ x2 → wp_R_remove g x1 (fun u49 => wp_R_end u49 x1 (fun r58 u58 => Q (sI (sI u58 9 r58) 10 x1)))) ∧ (¬ (g.2.1 0) ≤ x2 → (vp_in x2 200 ∧ ((¬ (g.1 4 x2.toNatClampNeg) = x1 → (wl_E_carryOut_2 Q n) g x1 (x2 + 1)) ∧ ((g.1 4 x2.toNatClampNeg) = x1 → wp_P_carryOut g x2 (fun u35 => (wl_E_carryOut_2 Q n) u35 x1 (x2 + 1)))))))
def wp_E_carryOut (g : St) (x1 : Int32) (Q : St → Prop) : Prop := ∃ j_2 : Nat, wl_E_carryOut_2 Q j_2 g x1 x1
def wp_E_dispatch (g : St) (Q : Int32 → St → Prop) : Prop := wp_E_markReady g (fun u1 => wp_E_pick u1 (fun r5 u5 => ((¬ r5 = (-1) → wp_E_carryOut u5 r5 (fun u18 => (vp_in r5 200 ∧ Q (u18.1 10 r5.toNatClampNeg) u18))) ∧ (r5 = (-1) → Q 0 u5))))
def wp_E_state (g : St) (x1 : Int32) (Q : Int32 → St → Prop) : Prop := wp_P_has g x1 (fun r5 u5 => ((¬ r5 = 0 → (vp_in x1 200 ∧ (((u5.1 5 x1.toNatClampNeg) = 0 → Q 1 u5) ∧ (¬ (u5.1 5 x1.toNatClampNeg) = 0 → Q 2 u5)))) ∧ (r5 = 0 → Q 0 u5)))
def wp_E_value (g : St) (x1 : Int32) (x2 : Int32) (Q : Int32 → St → Prop) : Prop := wp_P_has g x1 (fun r5 u5 => ((r5 = 0 → Q 0 u5) ∧ (¬ r5 = 0 → (vp_in x1 200 ∧ (((u5.1 5 x1.toNatClampNeg) = 0 → Q 0 u5) ∧ (¬ (u5.1 5 x1.toNatClampNeg) = 0 → (vp_in x1 200 ∧ (((u5.1 1 x1.toNatClampNeg) = 0 → ((x2 < 0 → Q 0 u5) ∧ (¬ x2 < 0 → (vp_in x1 200 ∧ ((x2 < (u5.1 3 x1.toNatClampNeg) → (vp_in ((x1 * 8) + x2) 1600 ∧ Q (u5.1 6 ((x1 * 8) + x2).toNatClampNeg) u5)) ∧ (¬ x2 < (u5.1 3 x1.toNatClampNeg) → Q 0 u5)))))) ∧ (¬ (u5.1 1 x1.toNatClampNeg) = 0 → Q 0 u5)))))))))
def wp_E_sector (g : St) (x1 : Int32) (Q : Int32 → St → Prop) : Prop := wp_E_isWithin g x1 63 (fun r3 u3 => ((r3 = 0 → Q 0 u3) ∧ (¬ r3 = 0 → (vp_in x1 64 ∧ Q (u3.1 0 x1.toNatClampNeg) u3))))
def wl_E_waiting_14 (Q : Int32 → St → Prop) : Nat → St → Int32 → Int32 → Int32 → Prop
  | 0, _, _, _, _ => False
  | n + 1, g, x1, x2, x3 => (((g.2.1 1) ≤ x3 → Q x2 g) ∧ (¬ (g.2.1 1) ≤ x3 → (vp_in x3 24 ∧ (vp_in (g.1 14 x3.toNatClampNeg) 200 ∧ ((¬ (g.1 7 (g.1 14 x3.toNatClampNeg).toNatClampNeg) = x1 → (wl_E_waiting_14 Q n) g x1 x2 (x3 + 1)) ∧ ((g.1 7 (g.1 14 x3.toNatClampNeg).toNatClampNeg) = x1 → (wl_E_waiting_14 Q n) g x1 (x2 + 1) (x3 + 1)))))))
def wp_E_waiting (g : St) (x1 : Int32) (Q : Int32 → St → Prop) : Prop := wp_E_isWithin g x1 1 (fun r2 u2 => ((¬ r2 = 0 → ∃ j_14 : Nat, wl_E_waiting_14 Q j_14 u2 x1 0 0) ∧ (r2 = 0 → Q (-1) u2)))
def wl_E_ready_18 (Q : Int32 → St → Prop) : Nat → St → Int32 → Int32 → Int32 → Prop
  | 0, _, _, _, _ => False
  | n + 1, g, x1, x2, x3 => (((g.2.1 1) ≤ x3 → Q x2 g) ∧ (¬ (g.2.1 1) ≤ x3 → (vp_in x3 24 ∧ wp_R_isReady g (g.1 14 x3.toNatClampNeg) x1 (fun r43 u43 => ((r43 = 0 → (wl_E_ready_18 Q n) u43 x1 x2 (x3 + 1)) ∧ (¬ r43 = 0 → (wl_E_ready_18 Q n) u43 x1 (x2 + 1) (x3 + 1)))))))
def wp_E_ready (g : St) (x1 : Int32) (Q : Int32 → St → Prop) : Prop := wp_E_isWithin g x1 1 (fun r2 u2 => ((¬ r2 = 0 → wp_E_markReady u2 (fun u11 => ∃ j_18 : Nat, wl_E_ready_18 Q j_18 u11 x1 0 0)) ∧ (r2 = 0 → Q (-1) u2)))
def wp_E_requestOf (g : St) (x1 : Int32) (Q : Int32 → St → Prop) : Prop := wp_P_isWaiting g x1 (fun r5 u5 => ((r5 = 0 → Q (-1) u5) ∧ (¬ r5 = 0 → (vp_in x1 200 ∧ Q (u5.1 4 x1.toNatClampNeg) u5))))
def wp_E_about (g : St) (x1 : Int32) (x2 : Int32) (Q : Int32 → St → Prop) : Prop := wp_P_isWaiting g x1 (fun r5 u5 => ((¬ r5 = 0 → (vp_in x1 200 ∧ (((x2.toInt < 0 ∨ 4 < x2.toInt) → Q (-1) u5) ∧ (x2 = 0 → (vp_in (u5.1 4 x1.toNatClampNeg) 200 ∧ Q (u5.1 8 (u5.1 4 x1.toNatClampNeg).toNatClampNeg) u5)) ∧ (x2 = 1 → (vp_in (u5.1 4 x1.toNatClampNeg) 200 ∧ Q (u5.1 9 (u5.1 4 x1.toNatClampNeg).toNatClampNeg) u5)) ∧ (x2 = 2 → (vp_in (u5.1 4 x1.toNatClampNeg) 200 ∧ Q (u5.1 11 (u5.1 4 x1.toNatClampNeg).toNatClampNeg) u5)) ∧ (x2 = 3 → (vp_in (u5.1 4 x1.toNatClampNeg) 200 ∧ Q (u5.1 12 (u5.1 4 x1.toNatClampNeg).toNatClampNeg) u5)) ∧ (x2 = 4 → (vp_in (u5.1 4 x1.toNatClampNeg) 200 ∧ Q (u5.1 7 (u5.1 4 x1.toNatClampNeg).toNatClampNeg) u5))))) ∧ (r5 = 0 → Q (-1) u5)))
def wp_E_latest (g : St) (Q : Int32 → St → Prop) : Prop := Q (g.2.1 10) g
def wp_E_head (g : St) (Q : Int32 → St → Prop) : Prop := Q (g.2.1 9) g
def wp_E_now (g : St) (Q : Int32 → St → Prop) : Prop := Q (g.2.1 8) g
def wp_E_batch (g : St) (Q : Int32 → St → Prop) : Prop := Q (((10 * (g.2.1 4)) + (5 * (g.2.1 2))) + (g.2.1 3)) g
end
section
set_option maxHeartbeats 4000000 in
set_option maxRecDepth 100000 in
theorem c_B_mayGoOn (l : Launch) (D : va_G) (a : Nat → Nat) (cI cZ : ClassId) (sz : Nat) (g : St) (Q : Int32 → St → Prop) (hw : wp_B_mayGoOn g Q) : MT_z l y_B_mayGoOn b_B_mayGoOn 1 rm_B_mayGoOn (wE a cI cZ) D (ty_ cI cZ) sz g [.ref (a 19)] Q := by
  refine MTz_of (by decide +kernel) (Nat.le_of_ble_eq_true rfl) ?_
  intro p e s m args below meth c A Qt ls hx hb hml hts hown hN hK hP hD hA hl hret
  have hS : va_S A s.heap s.heap [] := va_S.rf
  have hl : lv_has ls 1 [(0, .ref (a 19))] := hl
  unfold wp_B_mayGoOn at hw
  refine lv_aload_n hx hb d_B_mayGoOn_0 rfl (lv_at hl 0 rfl) ?_
  refine va_get (D := D) (ci := 0) (C := R_B) (T := F_B) (N := 3) hx hb hts in_B hown hK hP 19 rfl rfl 1 (by decide) (hts _ tb_117) (fun _ h9 => h9) rfl d_B_mayGoOn_1 ?_
  refine lv_if_le (tgt := 19) hx hb d_B_mayGoOn_4 (by decide) (fun hc => ?_) (fun hc => ?_)
  · replace hw := hw.1 hc
    refine lv_iconst (v := 0) hx hb d_B_mayGoOn_19 (by decide) ?_
    exact hret _ _ _ _ _ _ rfl hw hP hD hS d_B_mayGoOn_20
  · replace hw := hw.2 hc
    refine lv_aload_n hx hb d_B_mayGoOn_7 rfl (lv_at hl 0 rfl) ?_
    refine va_get (D := D) (ci := 0) (C := R_B) (T := F_B) (N := 3) hx hb hts in_B hown hK hP 19 rfl rfl 1 (by decide) (hts _ tb_117) (fun _ h9 => h9) rfl d_B_mayGoOn_8 ?_
    refine lv_iconst (v := 4) hx hb d_B_mayGoOn_11 (by decide) ?_
    refine lv_icmp_ge (tgt := 19) hx hb d_B_mayGoOn_12 (by decide) (fun hc => ?_) (fun hc => ?_)
    · replace hw := hw.1 hc
      refine lv_iconst (v := 0) hx hb d_B_mayGoOn_19 (by decide) ?_
      exact hret _ _ _ _ _ _ rfl hw hP hD hS d_B_mayGoOn_20
    · replace hw := hw.2 hc
      refine lv_iconst (v := 1) hx hb d_B_mayGoOn_15 (by decide) ?_
      refine lv_goto (tgt := 20) hx hb d_B_mayGoOn_16 (by decide) ?_
      exact hret _ _ _ _ _ _ rfl hw hP hD hS d_B_mayGoOn_20
set_option maxHeartbeats 4000000 in
set_option maxRecDepth 100000 in
theorem c_B_begin (l : Launch) (D : va_G) (a : Nat → Nat) (cI cZ : ClassId) (sz : Nat) (g : St) (x1 : Int32) (x2 : Int32) (Q : St → Prop) (hw : wp_B_begin g x1 x2 Q) : MT_v l y_B_begin b_B_begin 3 rm_B_begin (wE a cI cZ) D (ty_ cI cZ) sz g [.ref (a 19), .int x1, .int x2] Q := by
  refine MTv_of (by decide +kernel) (Nat.le_of_ble_eq_true rfl) ?_
  intro p e s m args below meth c A Qt ls hx hb hml hts hown hN hK hP hD hA hl hret
  have hS : va_S A s.heap s.heap [] := va_S.rf
  have hl : lv_has ls 3 [(0, .ref (a 19)), (1, .int x1), (2, .int x2)] := hl
  have k_43 : ∀ (g : St) (H : Heap) (locs : List Loc) (ls : Array Slot), va_P D cls_ (wE a cI cZ g) H → va_D A (wE a cI cZ g) → va_S A s.heap H locs → lv_has ls 3 [(0, .ref (a 19))] → wb_B_begin_43 Q g → W p l e rm_B_begin s m args below meth c H locs 0 0 Qt (F0 m 43 ls []) := by
    intro g H locs ls hP hD hS hl hw
    unfold wb_B_begin_43 at hw
    refine lv_aload_n hx hb d_B_begin_43 rfl (lv_at hl 0 rfl) ?_
    refine lv_iconst (v := 1) hx hb d_B_begin_44 (by decide) ?_
    refine va_put (v := .int 1) (ty := .int) (D := D) (ci := 0) (C := R_B) (T := F_B) (N := 3) hx hb hts in_B t_B t_B_ok n_B hown hK hP hD hS 19 rfl rfl 0 (by decide) (hts _ tb_115) (fun _ h9 => h9) rfl (by decide +kernel) rfl rfl (Nat.le_of_ble_eq_true rfl) d_B_begin_45 (fun H locs hP hD hS => ?_)
    have hP : va_P D cls_ (wE a cI cZ (sI g 2 1)) H := pI_E_2 (g := g) (v := 1) hP
    have hD : va_D A (wE a cI cZ (sI g 2 1)) := dI_E_2 (g := g) (v := 1) hD
    generalize sI g 2 1 = g_45 at hw hP hD
    refine lv_aload_n hx hb d_B_begin_48 rfl (lv_at hl 0 rfl) ?_
    refine lv_iconst (v := 0) hx hb d_B_begin_49 (by decide) ?_
    refine va_put (v := .int 0) (ty := .int) (D := D) (ci := 0) (C := R_B) (T := F_B) (N := 3) hx hb hts in_B t_B t_B_ok n_B hown hK hP hD hS 19 rfl rfl 2 (by decide) (hts _ tb_119) (fun _ h9 => h9) rfl (by decide +kernel) rfl rfl (Nat.le_of_ble_eq_true rfl) d_B_begin_50 (fun H locs hP hD hS => ?_)
    have hP : va_P D cls_ (wE a cI cZ (sI g_45 4 0)) H := pI_E_4 (g := g_45) (v := 0) hP
    have hD : va_D A (wE a cI cZ (sI g_45 4 0)) := dI_E_4 (g := g_45) (v := 0) hD
    generalize sI g_45 4 0 = g_50 at hw hP hD
    exact hret _ _ _ _ _ hw hP hD hS d_B_begin_53
  have k_21 : ∀ (g : St) (x2 : Int32) (H : Heap) (locs : List Loc) (ls : Array Slot), va_P D cls_ (wE a cI cZ g) H → va_D A (wE a cI cZ g) → va_S A s.heap H locs → lv_has ls 3 [(0, .ref (a 19)), (2, .int x2)] → wb_B_begin_21 Q g x2 → W p l e rm_B_begin s m args below meth c H locs 0 0 Qt (F0 m 21 ls []) := by
    intro g x2 H locs ls hP hD hS hl hw
    unfold wb_B_begin_21 at hw
    refine lv_aload_n hx hb d_B_begin_21 rfl (lv_at hl 0 rfl) ?_
    refine lv_iconst (v := 0) hx hb d_B_begin_22 (by decide) ?_
    refine va_put (v := .int 0) (ty := .int) (D := D) (ci := 0) (C := R_B) (T := F_B) (N := 3) hx hb hts in_B t_B t_B_ok n_B hown hK hP hD hS 19 rfl rfl 0 (by decide) (hts _ tb_115) (fun _ h9 => h9) rfl (by decide +kernel) rfl rfl (Nat.le_of_ble_eq_true rfl) d_B_begin_23 (fun H locs hP hD hS => ?_)
    have hP : va_P D cls_ (wE a cI cZ (sI g 2 0)) H := pI_E_2 (g := g) (v := 0) hP
    have hD : va_D A (wE a cI cZ (sI g 2 0)) := dI_E_2 (g := g) (v := 0) hD
    generalize sI g 2 0 = g_23 at hw hP hD
    refine lv_iload_n hx hb d_B_begin_26 rfl (lv_at hl 1 rfl) ?_
    refine lv_if_eq (tgt := 53) hx hb d_B_begin_27 (by decide) (fun hc => ?_) (fun hc => ?_)
    · replace hw := hw.1 hc
      exact hret _ _ _ _ _ hw hP hD hS d_B_begin_53
    · replace hw := hw.2 hc
      refine lv_aload_n hx hb d_B_begin_30 rfl (lv_at hl 0 rfl) ?_
      refine lv_dup hx hb d_B_begin_31 rfl ?_
      refine va_get (D := D) (ci := 0) (C := R_B) (T := F_B) (N := 3) hx hb hts in_B hown hK hP 19 rfl rfl 2 (by decide) (hts _ tb_119) (fun _ h9 => h9) rfl d_B_begin_32 ?_
      refine lv_iconst (v := 1) hx hb d_B_begin_35 (by decide) ?_
      refine lv_iadd hx hb d_B_begin_36 ?_
      refine va_put (v := .int ((g_23.2.1 4) + 1)) (ty := .int) (D := D) (ci := 0) (C := R_B) (T := F_B) (N := 3) hx hb hts in_B t_B t_B_ok n_B hown hK hP hD hS 19 rfl rfl 2 (by decide) (hts _ tb_119) (fun _ h9 => h9) rfl (by decide +kernel) rfl rfl (Nat.le_of_ble_eq_true rfl) d_B_begin_37 (fun H locs hP hD hS => ?_)
      have hP : va_P D cls_ (wE a cI cZ (sI g_23 4 ((g_23.2.1 4) + 1))) H := pI_E_4 (g := g_23) (v := (g_23.2.1 4) + 1) hP
      have hD : va_D A (wE a cI cZ (sI g_23 4 ((g_23.2.1 4) + 1))) := dI_E_4 (g := g_23) (v := (g_23.2.1 4) + 1) hD
      generalize sI g_23 4 ((g_23.2.1 4) + 1) = g_37 at hw hP hD
      refine lv_goto (tgt := 53) hx hb d_B_begin_40 (by decide) ?_
      exact hret _ _ _ _ _ hw hP hD hS d_B_begin_53
  unfold wp_B_begin at hw
  refine lv_aload_n hx hb d_B_begin_0 rfl (lv_at hl 0 rfl) ?_
  refine lv_iconst (v := 1) hx hb d_B_begin_1 (by decide) ?_
  refine va_put (v := .int 1) (ty := .int) (D := D) (ci := 0) (C := R_B) (T := F_B) (N := 3) hx hb hts in_B t_B t_B_ok n_B hown hK hP hD hS 19 rfl rfl 1 (by decide) (hts _ tb_117) (fun _ h9 => h9) rfl (by decide +kernel) rfl rfl (Nat.le_of_ble_eq_true rfl) d_B_begin_2 (fun H locs hP hD hS => ?_)
  have hP : va_P D cls_ (wE a cI cZ (sI g 3 1)) H := pI_E_3 (g := g) (v := 1) hP
  have hD : va_D A (wE a cI cZ (sI g 3 1)) := dI_E_3 (g := g) (v := 1) hD
  generalize sI g 3 1 = g_2 at hw hP hD
  refine lv_iload_n hx hb d_B_begin_5 rfl (lv_at hl 1 rfl) ?_
  refine lv_if_eq (tgt := 43) hx hb d_B_begin_6 (by decide) (fun hc => ?_) (fun hc => ?_)
  · replace hw := hw.1 hc
    exact k_43 g_2 _ _ _ hP hD hS (lv_sub hl [0] rfl) hw
  · replace hw := hw.2 hc
    refine lv_iload_n hx hb d_B_begin_9 rfl (lv_at hl 2 rfl) ?_
    refine lv_if_eq (tgt := 21) hx hb d_B_begin_10 (by decide) (fun hc => ?_) (fun hc => ?_)
    · replace hw := hw.1 hc
      exact k_21 g_2 x2 _ _ _ hP hD hS (lv_sub hl [0, 2] rfl) hw
    · replace hw := hw.2 hc
      refine lv_aload_n hx hb d_B_begin_13 rfl (lv_at hl 0 rfl) ?_
      refine va_get (D := D) (ci := 0) (C := R_B) (T := F_B) (N := 3) hx hb hts in_B hown hK hP 19 rfl rfl 2 (by decide) (hts _ tb_119) (fun _ h9 => h9) rfl d_B_begin_14 ?_
      refine lv_iconst (v := 2) hx hb d_B_begin_17 (by decide) ?_
      refine lv_icmp_ge (tgt := 43) hx hb d_B_begin_18 (by decide) (fun hc => ?_) (fun hc => ?_)
      · replace hw := hw.1 hc
        exact k_43 g_2 _ _ _ hP hD hS (lv_sub hl [0] rfl) hw
      · replace hw := hw.2 hc
        exact k_21 g_2 x2 _ _ _ hP hD hS (lv_sub hl [0, 2] rfl) hw
set_option maxHeartbeats 4000000 in
set_option maxRecDepth 100000 in
theorem c_C_clear (l : Launch) (D : va_G) (a : Nat → Nat) (cI cZ : ClassId) (sz : Nat) (g : St) (Q : St → Prop) (hw : wp_C_clear g Q) : MT_v l y_C_clear b_C_clear 1 rm_C_clear (wE a cI cZ) D (ty_ cI cZ) sz g [.ref (a 18)] Q := by
  refine MTv_of (by decide +kernel) (Nat.le_of_ble_eq_true rfl) ?_
  intro p e s m args below meth c A Qt ls hx hb hml hts hown hN hK hP hD hA hl hret
  have hS : va_S A s.heap s.heap [] := va_S.rf
  have hl : lv_has ls 1 [(0, .ref (a 18))] := hl
  unfold wp_C_clear at hw
  refine lv_aload_n hx hb d_C_clear_0 rfl (lv_at hl 0 rfl) ?_
  refine lv_lconst (v := 0) hx hb d_C_clear_1 (by decide) ?_
  refine va_put (v := .long ((0 : Int64))) (ty := .long) (D := D) (ci := 1) (C := R_C) (T := F_C) (N := 2) hx hb hts in_C t_C t_C_ok n_C hown hK hP hD hS 18 rfl rfl 0 (by decide) (hts _ tb_102) (fun _ h9 => h9) rfl (by decide +kernel) rfl rfl (Nat.le_of_ble_eq_true rfl) d_C_clear_2 (fun H locs hP hD hS => ?_)
  have hP : va_P D cls_ (wE a cI cZ (sL g 0 ((0 : Int64)))) H := pL_E_0 (g := g) (v := (0 : Int64)) hP
  have hD : va_D A (wE a cI cZ (sL g 0 ((0 : Int64)))) := dL_E_0 (g := g) (v := (0 : Int64)) hD
  generalize sL g 0 ((0 : Int64)) = g_2 at hw hP hD
  refine lv_aload_n hx hb d_C_clear_5 rfl (lv_at hl 0 rfl) ?_
  refine lv_lconst (v := 0) hx hb d_C_clear_6 (by decide) ?_
  refine va_put (v := .long ((0 : Int64))) (ty := .long) (D := D) (ci := 1) (C := R_C) (T := F_C) (N := 2) hx hb hts in_C t_C t_C_ok n_C hown hK hP hD hS 18 rfl rfl 1 (by decide) (hts _ tb_103) (fun _ h9 => h9) rfl (by decide +kernel) rfl rfl (Nat.le_of_ble_eq_true rfl) d_C_clear_7 (fun H locs hP hD hS => ?_)
  have hP : va_P D cls_ (wE a cI cZ (sL g_2 1 ((0 : Int64)))) H := pL_E_1 (g := g_2) (v := (0 : Int64)) hP
  have hD : va_D A (wE a cI cZ (sL g_2 1 ((0 : Int64)))) := dL_E_1 (g := g_2) (v := (0 : Int64)) hD
  generalize sL g_2 1 ((0 : Int64)) = g_7 at hw hP hD
  exact hret _ _ _ _ _ hw hP hD hS d_C_clear_10
set_option maxHeartbeats 4000000 in
set_option maxRecDepth 100000 in
theorem c_C_add (l : Launch) (D : va_G) (a : Nat → Nat) (cI cZ : ClassId) (sz : Nat) (g : St) (x1 : Int32) (x2 : Int64) (Q : St → Prop) (hw : wp_C_add g x1 x2 Q) : MT_v l y_C_add b_C_add 4 rm_C_add (wE a cI cZ) D (ty_ cI cZ) sz g [.ref (a 18), .int x1, .long x2] Q := by
  refine MTv_of (by decide +kernel) (Nat.le_of_ble_eq_true rfl) ?_
  intro p e s m args below meth c A Qt ls hx hb hml hts hown hN hK hP hD hA hl hret
  have hS : va_S A s.heap s.heap [] := va_S.rf
  have hl : lv_has ls 4 [(0, .ref (a 18)), (1, .int x1), (2, .long x2)] := hl
  unfold wp_C_add at hw
  refine lv_iload_n hx hb d_C_add_0 rfl (lv_at hl 1 rfl) ?_
  refine lv_iconst (v := 1) hx hb d_C_add_1 (by decide) ?_
  refine lv_icmp_ne (tgt := 18) hx hb d_C_add_2 (by decide) (fun hc => ?_) (fun hc => ?_)
  · replace hw := hw.1 hc
    refine lv_aload_n hx hb d_C_add_18 rfl (lv_at hl 0 rfl) ?_
    refine lv_dup hx hb d_C_add_19 rfl ?_
    refine va_get (D := D) (ci := 1) (C := R_C) (T := F_C) (N := 2) hx hb hts in_C hown hK hP 18 rfl rfl 0 (by decide) (hts _ tb_102) (fun _ h9 => h9) rfl d_C_add_20 ?_
    refine lv_lload_n hx hb d_C_add_23 rfl (lv_at hl 2 rfl) ?_
    refine lv_lor hx hb d_C_add_24 ?_
    refine va_put (v := .long ((g.2.2 0) ||| x2)) (ty := .long) (D := D) (ci := 1) (C := R_C) (T := F_C) (N := 2) hx hb hts in_C t_C t_C_ok n_C hown hK hP hD hS 18 rfl rfl 0 (by decide) (hts _ tb_102) (fun _ h9 => h9) rfl (by decide +kernel) rfl rfl (Nat.le_of_ble_eq_true rfl) d_C_add_25 (fun H locs hP hD hS => ?_)
    have hP : va_P D cls_ (wE a cI cZ (sL g 0 ((g.2.2 0) ||| x2))) H := pL_E_0 (g := g) (v := (g.2.2 0) ||| x2) hP
    have hD : va_D A (wE a cI cZ (sL g 0 ((g.2.2 0) ||| x2))) := dL_E_0 (g := g) (v := (g.2.2 0) ||| x2) hD
    generalize sL g 0 ((g.2.2 0) ||| x2) = g_25 at hw hP hD
    exact hret _ _ _ _ _ hw hP hD hS d_C_add_28
  · replace hw := hw.2 hc
    refine lv_aload_n hx hb d_C_add_5 rfl (lv_at hl 0 rfl) ?_
    refine lv_dup hx hb d_C_add_6 rfl ?_
    refine va_get (D := D) (ci := 1) (C := R_C) (T := F_C) (N := 2) hx hb hts in_C hown hK hP 18 rfl rfl 1 (by decide) (hts _ tb_103) (fun _ h9 => h9) rfl d_C_add_7 ?_
    refine lv_lload_n hx hb d_C_add_10 rfl (lv_at hl 2 rfl) ?_
    refine lv_lor hx hb d_C_add_11 ?_
    refine va_put (v := .long ((g.2.2 1) ||| x2)) (ty := .long) (D := D) (ci := 1) (C := R_C) (T := F_C) (N := 2) hx hb hts in_C t_C t_C_ok n_C hown hK hP hD hS 18 rfl rfl 1 (by decide) (hts _ tb_103) (fun _ h9 => h9) rfl (by decide +kernel) rfl rfl (Nat.le_of_ble_eq_true rfl) d_C_add_12 (fun H locs hP hD hS => ?_)
    have hP : va_P D cls_ (wE a cI cZ (sL g 1 ((g.2.2 1) ||| x2))) H := pL_E_1 (g := g) (v := (g.2.2 1) ||| x2) hP
    have hD : va_D A (wE a cI cZ (sL g 1 ((g.2.2 1) ||| x2))) := dL_E_1 (g := g) (v := (g.2.2 1) ||| x2) hD
    generalize sL g 1 ((g.2.2 1) ||| x2) = g_12 at hw hP hD
    refine lv_goto (tgt := 28) hx hb d_C_add_15 (by decide) ?_
    exact hret _ _ _ _ _ hw hP hD hS d_C_add_28
set_option maxHeartbeats 4000000 in
set_option maxRecDepth 100000 in
theorem c_C_conflictWith (l : Launch) (D : va_G) (a : Nat → Nat) (cI cZ : ClassId) (sz : Nat) (g : St) (x1 : Int32) (x2 : Int64) (Q : Int32 → St → Prop) (hw : wp_C_conflictWith g x1 x2 Q) : MT_z l y_C_conflictWith b_C_conflictWith 6 rm_C_conflictWith (wE a cI cZ) D (ty_ cI cZ) sz g [.ref (a 18), .int x1, .long x2] Q := by
  refine MTz_of (by decide +kernel) (Nat.le_of_ble_eq_true rfl) ?_
  intro p e s m args below meth c A Qt ls hx hb hml hts hown hN hK hP hD hA hl hret
  have hS : va_S A s.heap s.heap [] := va_S.rf
  have hl : lv_has ls 6 [(0, .ref (a 18)), (1, .int x1), (2, .long x2)] := hl
  have k_21 : ∀ (g : St) (x2 : Int64) (z0 : Int64) (H : Heap) (locs : List Loc) (ls : Array Slot), va_P D cls_ (wE a cI cZ g) H → va_D A (wE a cI cZ g) → va_S A s.heap H locs → lv_has ls 6 [(2, .long x2)] → wb_C_conflictWith_21 Q g x2 z0 → W p l e rm_C_conflictWith s m args below meth c H locs 0 0 Qt (F0 m 21 ls [.long z0]) := by
    intro g x2 z0 H locs ls hP hD hS hl hw
    unfold wb_C_conflictWith_21 at hw
    refine lv_lstore (lv' := [(4, .long z0), (2, .long x2)]) hx hb d_C_conflictWith_21 hl (by decide) rfl (fun ls hl => ?_)
    refine lv_lload hx hb d_C_conflictWith_23 (lv_at hl 0 rfl) ?_
    refine lv_lload_n hx hb d_C_conflictWith_25 rfl (lv_at hl 1 rfl) ?_
    refine lv_land hx hb d_C_conflictWith_26 ?_
    refine lv_lconst (v := 0) hx hb d_C_conflictWith_27 (by decide) ?_
    refine W.lcmp hx hb d_C_conflictWith_28 ?_
    refine lv_if_eq (tgt := 36) hx hb d_C_conflictWith_29 (by decide) (fun hc => ?_) (fun hc => ?_)
    · replace hw := hw.1 hc
      refine lv_iconst (v := 0) hx hb d_C_conflictWith_36 (by decide) ?_
      exact hret _ _ _ _ _ _ rfl hw hP hD hS d_C_conflictWith_37
    · replace hw := hw.2 hc
      refine lv_iconst (v := 1) hx hb d_C_conflictWith_32 (by decide) ?_
      refine lv_goto (tgt := 37) hx hb d_C_conflictWith_33 (by decide) ?_
      exact hret _ _ _ _ _ _ rfl hw hP hD hS d_C_conflictWith_37
  unfold wp_C_conflictWith at hw
  refine lv_iload_n hx hb d_C_conflictWith_0 rfl (lv_at hl 1 rfl) ?_
  refine lv_iconst (v := 1) hx hb d_C_conflictWith_1 (by decide) ?_
  refine lv_icmp_ne (tgt := 17) hx hb d_C_conflictWith_2 (by decide) (fun hc => ?_) (fun hc => ?_)
  · replace hw := hw.1 hc
    refine lv_aload_n hx hb d_C_conflictWith_17 rfl (lv_at hl 0 rfl) ?_
    refine va_get (D := D) (ci := 1) (C := R_C) (T := F_C) (N := 2) hx hb hts in_C hown hK hP 18 rfl rfl 1 (by decide) (hts _ tb_103) (fun _ h9 => h9) rfl d_C_conflictWith_18 ?_
    exact k_21 g x2 (g.2.2 1) _ _ _ hP hD hS (lv_sub hl [2] rfl) hw
  · replace hw := hw.2 hc
    refine lv_aload_n hx hb d_C_conflictWith_5 rfl (lv_at hl 0 rfl) ?_
    refine va_get (D := D) (ci := 1) (C := R_C) (T := F_C) (N := 2) hx hb hts in_C hown hK hP 18 rfl rfl 0 (by decide) (hts _ tb_102) (fun _ h9 => h9) rfl d_C_conflictWith_6 ?_
    refine lv_aload_n hx hb d_C_conflictWith_9 rfl (lv_at hl 0 rfl) ?_
    refine va_get (D := D) (ci := 1) (C := R_C) (T := F_C) (N := 2) hx hb hts in_C hown hK hP 18 rfl rfl 1 (by decide) (hts _ tb_103) (fun _ h9 => h9) rfl d_C_conflictWith_10 ?_
    refine lv_lor hx hb d_C_conflictWith_13 ?_
    refine lv_goto (tgt := 21) hx hb d_C_conflictWith_14 (by decide) ?_
    exact k_21 g x2 ((g.2.2 0) ||| (g.2.2 1)) _ _ _ hP hD hS (lv_sub hl [2] rfl) hw
set_option maxHeartbeats 4000000 in
set_option maxRecDepth 100000 in
theorem c_P_has (l : Launch) (D : va_G) (a : Nat → Nat) (cI cZ : ClassId) (sz : Nat) (g : St) (x1 : Int32) (Q : Int32 → St → Prop) (hw : wp_P_has g x1 Q) : MT_z l y_P_has b_P_has 2 rm_P_has (wE a cI cZ) D (ty_ cI cZ) sz g [.ref (a 2), .int x1] Q := by
  refine MTz_of (by decide +kernel) (Nat.le_of_ble_eq_true rfl) ?_
  intro p e s m args below meth c A Qt ls hx hb hml hts hown hN hK hP hD hA hl hret
  have hS : va_S A s.heap s.heap [] := va_S.rf
  have hl : lv_has ls 2 [(0, .ref (a 2)), (1, .int x1)] := hl
  unfold wp_P_has at hw
  refine lv_iload_n hx hb d_P_has_0 rfl (lv_at hl 1 rfl) ?_
  refine lv_if_lt (tgt := 16) hx hb d_P_has_1 (by decide) (fun hc => ?_) (fun hc => ?_)
  · replace hw := hw.1 hc
    refine lv_iconst (v := 0) hx hb d_P_has_16 (by decide) ?_
    exact hret _ _ _ _ _ _ rfl hw hP hD hS d_P_has_17
  · replace hw := hw.2 hc
    refine lv_iload_n hx hb d_P_has_4 rfl (lv_at hl 1 rfl) ?_
    refine lv_aload_n hx hb d_P_has_5 rfl (lv_at hl 0 rfl) ?_
    refine va_get (D := D) (ci := 2) (C := R_P) (T := F_P) (N := 7) hx hb hts in_P hown hK hP 2 rfl rfl 6 (by decide) (hts _ tb_34) (fun _ h9 => h9) rfl d_P_has_6 ?_
    refine lv_icmp_ge (tgt := 16) hx hb d_P_has_9 (by decide) (fun hc => ?_) (fun hc => ?_)
    · replace hw := hw.1 hc
      refine lv_iconst (v := 0) hx hb d_P_has_16 (by decide) ?_
      exact hret _ _ _ _ _ _ rfl hw hP hD hS d_P_has_17
    · replace hw := hw.2 hc
      refine lv_iconst (v := 1) hx hb d_P_has_12 (by decide) ?_
      refine lv_goto (tgt := 17) hx hb d_P_has_13 (by decide) ?_
      exact hret _ _ _ _ _ _ rfl hw hP hD hS d_P_has_17
set_option maxHeartbeats 4000000 in
set_option maxRecDepth 100000 in
theorem c_P_isWaiting (l : Launch) (D : va_G) (a : Nat → Nat) (cI cZ : ClassId) (sz : Nat) (g : St) (x1 : Int32) (Q : Int32 → St → Prop) (hw : wp_P_isWaiting g x1 Q) : MT_z l y_P_isWaiting b_P_isWaiting 2 rm_P_isWaiting (wE a cI cZ) D (ty_ cI cZ) sz g [.ref (a 2), .int x1] Q := by
  refine MTz_of (by decide +kernel) (Nat.le_of_ble_eq_true rfl) ?_
  intro p e s m args below meth c A Qt ls hx hb hml hts hown hN hK hP hD hA hl hret
  have hS : va_S A s.heap s.heap [] := va_S.rf
  have hl : lv_has ls 2 [(0, .ref (a 2)), (1, .int x1)] := hl
  unfold wp_P_isWaiting at hw
  refine lv_aload_n hx hb d_P_isWaiting_0 rfl (lv_at hl 0 rfl) ?_
  refine lv_iload_n hx hb d_P_isWaiting_1 rfl (lv_at hl 1 rfl) ?_
  refine aft_i (va_runV (As := [.int x1]) (rest := []) ⟨hx, hb, hml, hown, hts⟩ (c_P_has l D a cI cZ _ g x1 _ hw) ⟨(callB_of 1 hts good_P_has rfl rfl rfl (hts _ tb_2) (hts _ tb_342) hd_P_has ⟨Nat.le_of_ble_eq_true rfl, Nat.le_of_ble_eq_true rfl⟩), hts _ tb_315, hts _ ts_26⟩ (preV 2 2 hP hD hK hN rfl rfl) rfl rfl hl.1 rfl (lv_room (Nat.le_of_ble_eq_true rfl)) d_P_isWaiting_2 ⟨Nat.zero_le _, Nat.zero_le _⟩) hD hS hA hK (fun r2 u2 H locs hw hP hD hS => ?_)
  refine lv_if_eq (tgt := 21) hx hb d_P_isWaiting_5 (by decide) (fun hc => ?_) (fun hc => ?_)
  · replace hw := hw.1 hc
    refine lv_iconst (v := 0) hx hb d_P_isWaiting_21 (by decide) ?_
    exact hret _ _ _ _ _ _ rfl hw hP hD hS d_P_isWaiting_22
  · replace hw := hw.2 hc
    refine lv_aload_n hx hb d_P_isWaiting_8 rfl (lv_at hl 0 rfl) ?_
    refine va_get (D := D) (ci := 2) (C := R_P) (T := F_P) (N := 7) hx hb hts in_P hown hK hP 2 rfl rfl 4 (by decide) (hts _ tb_30) (fun _ h9 => h9) rfl d_P_isWaiting_9 ?_
    refine lv_iload_n hx hb d_P_isWaiting_12 rfl (lv_at hl 1 rfl) ?_
    refine va_zald hx hb hK hP 7 1 rfl rfl hw.1 d_P_isWaiting_13 ?_
    replace hw := hw.2
    refine lv_if_ne (tgt := 21) hx hb d_P_isWaiting_14 (by decide) (fun hc => ?_) (fun hc => ?_)
    · replace hw := hw.1 hc
      refine lv_iconst (v := 0) hx hb d_P_isWaiting_21 (by decide) ?_
      exact hret _ _ _ _ _ _ rfl hw hP hD hS d_P_isWaiting_22
    · replace hw := hw.2 hc
      refine lv_iconst (v := 1) hx hb d_P_isWaiting_17 (by decide) ?_
      refine lv_goto (tgt := 22) hx hb d_P_isWaiting_18 (by decide) ?_
      exact hret _ _ _ _ _ _ rfl hw hP hD hS d_P_isWaiting_22
set_option maxHeartbeats 4000000 in
set_option maxRecDepth 100000 in
theorem c_E_sectorsFrom (l : Launch) (D : va_G) (a : Nat → Nat) (cI cZ : ClassId) (sz : Nat) (g : St) (x0 : Int32) (x1 : Int32) (Q : Int64 → St → Prop) (hw : wp_E_sectorsFrom g x0 x1 Q) : MT_l l y_E_sectorsFrom b_E_sectorsFrom 2 rm_E_sectorsFrom (wE a cI cZ) D (ty_ cI cZ) sz g [.int x0, .int x1] Q := by
  refine MTl_of (by decide +kernel) (Nat.le_of_ble_eq_true rfl) ?_
  intro p e s m args below meth c A Qt ls hx hb hml hts hown hN hK hP hD hA hl hret
  have hS : va_S A s.heap s.heap [] := va_S.rf
  have hl : lv_has ls 2 [(0, .int x0), (1, .int x1)] := hl
  unfold wp_E_sectorsFrom at hw
  refine lv_lconst (v := 1) hx hb d_E_sectorsFrom_0 (by decide) ?_
  refine lv_iload_n hx hb d_E_sectorsFrom_1 rfl (lv_at hl 1 rfl) ?_
  refine lv_lshl (v := ((1 : Int64)) <<< (x1.toInt64 &&& 63)) hx hb d_E_sectorsFrom_2 rfl ?_
  refine lv_lconst (v := 1) hx hb d_E_sectorsFrom_3 (by decide) ?_
  refine lv_lsub hx hb d_E_sectorsFrom_4 ?_
  refine lv_iload_n hx hb d_E_sectorsFrom_5 rfl (lv_at hl 0 rfl) ?_
  refine lv_lshl (v := ((((1 : Int64)) <<< (x1.toInt64 &&& 63)) - ((1 : Int64))) <<< (x0.toInt64 &&& 63)) hx hb d_E_sectorsFrom_6 rfl ?_
  exact hret _ _ _ _ _ _ hw hP hD hS d_E_sectorsFrom_7
set_option maxHeartbeats 4000000 in
set_option maxRecDepth 100000 in
theorem c_P_sectors (l : Launch) (D : va_G) (a : Nat → Nat) (cI cZ : ClassId) (sz : Nat) (g : St) (x1 : Int32) (Q : Int64 → St → Prop) (hw : wp_P_sectors g x1 Q) : MT_l l y_P_sectors b_P_sectors 2 rm_P_sectors (wE a cI cZ) D (ty_ cI cZ) sz g [.ref (a 2), .int x1] Q := by
  refine MTl_of (by decide +kernel) (Nat.le_of_ble_eq_true rfl) ?_
  intro p e s m args below meth c A Qt ls hx hb hml hts hown hN hK hP hD hA hl hret
  have hS : va_S A s.heap s.heap [] := va_S.rf
  have hl : lv_has ls 2 [(0, .ref (a 2)), (1, .int x1)] := hl
  unfold wp_P_sectors at hw
  refine lv_aload_n hx hb d_P_sectors_0 rfl (lv_at hl 0 rfl) ?_
  refine va_get (D := D) (ci := 2) (C := R_P) (T := F_P) (N := 7) hx hb hts in_P hown hK hP 2 rfl rfl 1 (by decide) (hts _ tb_25) (fun _ h9 => h9) rfl d_P_sectors_1 ?_
  refine lv_iload_n hx hb d_P_sectors_4 rfl (lv_at hl 1 rfl) ?_
  refine va_iald hx hb hK hP 4 0 rfl rfl hw.1 d_P_sectors_5 ?_
  replace hw := hw.2
  refine lv_aload_n hx hb d_P_sectors_6 rfl (lv_at hl 0 rfl) ?_
  refine va_get (D := D) (ci := 2) (C := R_P) (T := F_P) (N := 7) hx hb hts in_P hown hK hP 2 rfl rfl 2 (by decide) (hts _ tb_26) (fun _ h9 => h9) rfl d_P_sectors_7 ?_
  refine lv_iload_n hx hb d_P_sectors_10 rfl (lv_at hl 1 rfl) ?_
  refine va_iald hx hb hK hP 5 0 rfl rfl hw.1 d_P_sectors_11 ?_
  replace hw := hw.2
  refine aft_l (va_runSN (As := [.int (g.1 2 x1.toNatClampNeg), .int (g.1 3 x1.toNatClampNeg)]) (rest := []) ⟨hx, hb, hml, hown, hts⟩ (c_E_sectorsFrom l D a cI cZ _ g (g.1 2 x1.toNatClampNeg) (g.1 3 x1.toNatClampNeg) _ hw) ⟨(va_cnB 2 hts good_E_sectorsFrom rfl rfl rfl (hN _ tn_189) (hts _ tb_1) hd_E_sectorsFrom ⟨Nat.le_of_ble_eq_true rfl, Nat.le_of_ble_eq_true rfl⟩), (hts _ tb_190), trivial⟩ (preS hP hD hK hN) rfl rfl hl.1 rfl (lv_room (Nat.le_of_ble_eq_true rfl)) d_P_sectors_12 ⟨Nat.zero_le _, Nat.zero_le _⟩) hD hS hA hK (fun r12 u12 H locs hw hP hD hS => ?_)
  exact hret _ _ _ _ _ _ hw hP hD hS d_P_sectors_15
set_option maxHeartbeats 4000000 in
set_option maxRecDepth 100000 in
theorem c_P_add (l : Launch) (D : va_G) (a : Nat → Nat) (cI cZ : ClassId) (sz : Nat) (g : St) (x1 : Int32) (x2 : Int32) (x3 : Int32) (x4 : Int32) (Q : Int32 → St → Prop) (hw : wp_P_add g x1 x2 x3 x4 Q) : MT_i l y_P_add b_P_add 7 rm_P_add (wE a cI cZ) D (ty_ cI cZ) sz g [.ref (a 2), .int x1, .int x2, .int x3, .int x4] Q := by
  refine MTi_of (by decide +kernel) (Nat.le_of_ble_eq_true rfl) ?_
  intro p e s m args below meth c A Qt ls hx hb hml hts hown hN hK hP hD hA hl hret
  have hS : va_S A s.heap s.heap [] := va_S.rf
  have hl : lv_has ls 7 [(0, .ref (a 2)), (1, .int x1), (2, .int x2), (3, .int x3), (4, .int x4)] := hl
  have k_33 : ∀ (n : Nat) (g : St) (x3 : Int32) (x4 : Int32) (x5 : Int32) (x6 : Int32) (H : Heap) (locs : List Loc) (ls : Array Slot), va_P D cls_ (wE a cI cZ g) H → va_D A (wE a cI cZ g) → va_S A s.heap H locs → lv_has ls 7 [(0, .ref (a 2)), (3, .int x3), (4, .int x4), (5, .int x5), (6, .int x6)] → wl_P_add_33 Q n g x3 x4 x5 x6 → W p l e rm_P_add s m args below meth c H locs 0 0 Qt (F0 m 33 ls []) := by
    intro n
    induction n with
    | zero => intro g x3 x4 x5 x6 H locs ls hP hD hS hl hw; exact False.elim hw
    | succ n_33 ih_33 =>
      intro g x3 x4 x5 x6 H locs ls hP hD hS hl hw
      unfold wl_P_add_33 at hw
      refine lv_iload hx hb d_P_add_33 (lv_at hl 4 rfl) ?_
      refine lv_iload_n hx hb d_P_add_35 rfl (lv_at hl 1 rfl) ?_
      refine lv_icmp_ge (tgt := 63) hx hb d_P_add_36 (by decide) (fun hc => ?_) (fun hc => ?_)
      · replace hw := hw.1 hc
        refine lv_aload_n hx hb d_P_add_63 rfl (lv_at hl 0 rfl) ?_
        refine lv_dup hx hb d_P_add_64 rfl ?_
        refine va_get (D := D) (ci := 2) (C := R_P) (T := F_P) (N := 7) hx hb hts in_P hown hK hP 2 rfl rfl 6 (by decide) (hts _ tb_34) (fun _ h9 => h9) rfl d_P_add_65 ?_
        refine lv_iconst (v := 1) hx hb d_P_add_68 (by decide) ?_
        refine lv_iadd hx hb d_P_add_69 ?_
        refine va_put (v := .int ((g.2.1 0) + 1)) (ty := .int) (D := D) (ci := 2) (C := R_P) (T := F_P) (N := 7) hx hb hts in_P t_P t_P_ok n_P hown hK hP hD hS 2 rfl rfl 6 (by decide) (hts _ tb_34) (fun _ h9 => h9) rfl (by decide +kernel) rfl rfl (Nat.le_of_ble_eq_true rfl) d_P_add_70 (fun H locs hP hD hS => ?_)
        have hP : va_P D cls_ (wE a cI cZ (sI g 0 ((g.2.1 0) + 1))) H := pI_E_0 (g := g) (v := (g.2.1 0) + 1) hP
        have hD : va_D A (wE a cI cZ (sI g 0 ((g.2.1 0) + 1))) := dI_E_0 (g := g) (v := (g.2.1 0) + 1) hD
        generalize sI g 0 ((g.2.1 0) + 1) = g_70 at hw hP hD
        refine lv_iload hx hb d_P_add_73 (lv_at hl 3 rfl) ?_
        exact hret _ _ _ _ _ _ hw hP hD hS d_P_add_75
      · replace hw := hw.2 hc
        refine lv_aload_n hx hb d_P_add_39 rfl (lv_at hl 0 rfl) ?_
        refine va_get (D := D) (ci := 2) (C := R_P) (T := F_P) (N := 7) hx hb hts in_P hown hK hP 2 rfl rfl 5 (by decide) (hts _ tb_32) (fun _ h9 => h9) rfl d_P_add_40 ?_
        refine lv_iload hx hb d_P_add_43 (lv_at hl 3 rfl) ?_
        refine lv_bipush (v := 8) hx hb d_P_add_45 (by decide) ?_
        refine lv_imul hx hb d_P_add_47 ?_
        refine lv_iload hx hb d_P_add_48 (lv_at hl 4 rfl) ?_
        refine lv_iadd hx hb d_P_add_50 ?_
        refine lv_iload hx hb d_P_add_51 (lv_at hl 2 rfl) ?_
        refine lv_iload hx hb d_P_add_53 (lv_at hl 4 rfl) ?_
        refine lv_iadd hx hb d_P_add_55 ?_
        refine va_iast hx hb hK hP hD hS 8 0 rfl rfl hw.1 d_P_add_56 (fun H locs hP hD hS => ?_)
        replace hw := hw.2
        have hP : va_P D cls_ (wE a cI cZ (sA g 6 ((x5 * 8) + x6).toNatClampNeg (x4 + x6))) H := pA_E_6 (g := g) (j := ((x5 * 8) + x6).toNatClampNeg) (x := (x4 + x6)) hP
        have hD : va_D A (wE a cI cZ (sA g 6 ((x5 * 8) + x6).toNatClampNeg (x4 + x6))) := dA_E_6 (g := g) (j := ((x5 * 8) + x6).toNatClampNeg) (x := (x4 + x6)) hD
        generalize sA g 6 ((x5 * 8) + x6).toNatClampNeg (x4 + x6) = g_56 at hw hP hD
        refine lv_iinc (k := 4) (v := x6 + 1) (lv' := [(6, .int (x6 + 1)), (0, .ref (a 2)), (3, .int x3), (4, .int x4), (5, .int x5)]) hx hb d_P_add_57 hl rfl rfl (by decide) rfl (fun ls hl => ?_)
        refine lv_goto (tgt := 33) hx hb d_P_add_60 (by decide) ?_
        exact ih_33 g_56 x3 x4 x5 (x6 + 1) _ _ _ hP hD hS (lv_sub hl [1, 2, 3, 4, 0] rfl) hw
  unfold wp_P_add at hw
  refine lv_aload_n hx hb d_P_add_0 rfl (lv_at hl 0 rfl) ?_
  refine va_get (D := D) (ci := 2) (C := R_P) (T := F_P) (N := 7) hx hb hts in_P hown hK hP 2 rfl rfl 6 (by decide) (hts _ tb_34) (fun _ h9 => h9) rfl d_P_add_1 ?_
  refine lv_istore (lv' := [(5, .int (g.2.1 0)), (0, .ref (a 2)), (1, .int x1), (2, .int x2), (3, .int x3), (4, .int x4)]) hx hb d_P_add_4 hl (by decide) rfl (fun ls hl => ?_)
  refine lv_aload_n hx hb d_P_add_6 rfl (lv_at hl 1 rfl) ?_
  refine va_get (D := D) (ci := 2) (C := R_P) (T := F_P) (N := 7) hx hb hts in_P hown hK hP 2 rfl rfl 0 (by decide) (hts _ tb_23) (fun _ h9 => h9) rfl d_P_add_7 ?_
  refine lv_iload hx hb d_P_add_10 (lv_at hl 0 rfl) ?_
  refine lv_iload_n hx hb d_P_add_12 rfl (lv_at hl 2 rfl) ?_
  refine va_iast hx hb hK hP hD hS 3 0 rfl rfl hw.1 d_P_add_13 (fun H locs hP hD hS => ?_)
  replace hw := hw.2
  have hP : va_P D cls_ (wE a cI cZ (sA g 1 (g.2.1 0).toNatClampNeg x1)) H := pA_E_1 (g := g) (j := (g.2.1 0).toNatClampNeg) (x := x1) hP
  have hD : va_D A (wE a cI cZ (sA g 1 (g.2.1 0).toNatClampNeg x1)) := dA_E_1 (g := g) (j := (g.2.1 0).toNatClampNeg) (x := x1) hD
  generalize sA g 1 (g.2.1 0).toNatClampNeg x1 = g_13 at hw hP hD
  refine lv_aload_n hx hb d_P_add_14 rfl (lv_at hl 1 rfl) ?_
  refine va_get (D := D) (ci := 2) (C := R_P) (T := F_P) (N := 7) hx hb hts in_P hown hK hP 2 rfl rfl 1 (by decide) (hts _ tb_25) (fun _ h9 => h9) rfl d_P_add_15 ?_
  refine lv_iload hx hb d_P_add_18 (lv_at hl 0 rfl) ?_
  refine lv_iload_n hx hb d_P_add_20 rfl (lv_at hl 3 rfl) ?_
  refine va_iast hx hb hK hP hD hS 4 0 rfl rfl hw.1 d_P_add_21 (fun H locs hP hD hS => ?_)
  replace hw := hw.2
  have hP : va_P D cls_ (wE a cI cZ (sA g_13 2 (g.2.1 0).toNatClampNeg x2)) H := pA_E_2 (g := g_13) (j := (g.2.1 0).toNatClampNeg) (x := x2) hP
  have hD : va_D A (wE a cI cZ (sA g_13 2 (g.2.1 0).toNatClampNeg x2)) := dA_E_2 (g := g_13) (j := (g.2.1 0).toNatClampNeg) (x := x2) hD
  generalize sA g_13 2 (g.2.1 0).toNatClampNeg x2 = g_21 at hw hP hD
  refine lv_aload_n hx hb d_P_add_22 rfl (lv_at hl 1 rfl) ?_
  refine va_get (D := D) (ci := 2) (C := R_P) (T := F_P) (N := 7) hx hb hts in_P hown hK hP 2 rfl rfl 2 (by decide) (hts _ tb_26) (fun _ h9 => h9) rfl d_P_add_23 ?_
  refine lv_iload hx hb d_P_add_26 (lv_at hl 0 rfl) ?_
  refine lv_iload_n hx hb d_P_add_28 rfl (lv_at hl 4 rfl) ?_
  refine va_iast hx hb hK hP hD hS 5 0 rfl rfl hw.1 d_P_add_29 (fun H locs hP hD hS => ?_)
  replace hw := hw.2
  have hP : va_P D cls_ (wE a cI cZ (sA g_21 3 (g.2.1 0).toNatClampNeg x3)) H := pA_E_3 (g := g_21) (j := (g.2.1 0).toNatClampNeg) (x := x3) hP
  have hD : va_D A (wE a cI cZ (sA g_21 3 (g.2.1 0).toNatClampNeg x3)) := dA_E_3 (g := g_21) (j := (g.2.1 0).toNatClampNeg) (x := x3) hD
  generalize sA g_21 3 (g.2.1 0).toNatClampNeg x3 = g_29 at hw hP hD
  refine lv_iconst (v := 0) hx hb d_P_add_30 (by decide) ?_
  refine lv_istore (lv' := [(6, .int 0), (5, .int (g.2.1 0)), (0, .ref (a 2)), (1, .int x1), (2, .int x2), (3, .int x3), (4, .int x4)]) hx hb d_P_add_31 hl (by decide) rfl (fun ls hl => ?_)
  obtain ⟨n, hw⟩ := hw
  exact k_33 n g_29 x3 x4 (g.2.1 0) 0 _ _ _ hP hD hS (lv_sub hl [2, 5, 6, 1, 0] rfl) hw
set_option maxHeartbeats 4000000 in
set_option maxRecDepth 100000 in
theorem c_P_carryOut (l : Launch) (D : va_G) (a : Nat → Nat) (cI cZ : ClassId) (sz : Nat) (g : St) (x1 : Int32) (Q : St → Prop) (hw : wp_P_carryOut g x1 Q) : MT_v l y_P_carryOut b_P_carryOut 4 rm_P_carryOut (wE a cI cZ) D (ty_ cI cZ) sz g [.ref (a 2), .int x1, .ref (a 1)] Q := by
  refine MTv_of (by decide +kernel) (Nat.le_of_ble_eq_true rfl) ?_
  intro p e s m args below meth c A Qt ls hx hb hml hts hown hN hK hP hD hA hl hret
  have hS : va_S A s.heap s.heap [] := va_S.rf
  have hl : lv_has ls 4 [(0, .ref (a 2)), (1, .int x1), (2, .ref (a 1))] := hl
  have k_60 : ∀ (g : St) (x1 : Int32) (H : Heap) (locs : List Loc) (ls : Array Slot), va_P D cls_ (wE a cI cZ g) H → va_D A (wE a cI cZ g) → va_S A s.heap H locs → lv_has ls 4 [(0, .ref (a 2)), (1, .int x1)] → wb_P_carryOut_60 Q g x1 → W p l e rm_P_carryOut s m args below meth c H locs 0 0 Qt (F0 m 60 ls []) := by
    intro g x1 H locs ls hP hD hS hl hw
    unfold wb_P_carryOut_60 at hw
    refine lv_aload_n hx hb d_P_carryOut_60 rfl (lv_at hl 0 rfl) ?_
    refine va_get (D := D) (ci := 2) (C := R_P) (T := F_P) (N := 7) hx hb hts in_P hown hK hP 2 rfl rfl 4 (by decide) (hts _ tb_30) (fun _ h9 => h9) rfl d_P_carryOut_61 ?_
    refine lv_iload_n hx hb d_P_carryOut_64 rfl (lv_at hl 1 rfl) ?_
    refine lv_iconst (v := 1) hx hb d_P_carryOut_65 (by decide) ?_
    refine va_zast hx hb hK hP hD hS 7 1 rfl rfl hw.1 d_P_carryOut_66 (fun H locs hP hD hS => ?_)
    replace hw := hw.2
    have hP : va_P D cls_ (wE a cI cZ (sA g 5 x1.toNatClampNeg (vp_nar .boolean 1))) H := pA_E_5 (g := g) (j := x1.toNatClampNeg) (x := (vp_nar .boolean 1)) hP
    have hD : va_D A (wE a cI cZ (sA g 5 x1.toNatClampNeg (vp_nar .boolean 1))) := dA_E_5 (g := g) (j := x1.toNatClampNeg) (x := (vp_nar .boolean 1)) hD
    generalize sA g 5 x1.toNatClampNeg (vp_nar .boolean 1) = g_66 at hw hP hD
    exact hret _ _ _ _ _ hw hP hD hS d_P_carryOut_67
  unfold wp_P_carryOut at hw
  refine lv_iload_n hx hb d_P_carryOut_0 rfl (lv_at hl 1 rfl) ?_
  refine lv_bipush (v := 8) hx hb d_P_carryOut_1 (by decide) ?_
  refine lv_imul hx hb d_P_carryOut_3 ?_
  refine lv_istore_n (lv' := [(3, .int (x1 * 8)), (0, .ref (a 2)), (1, .int x1), (2, .ref (a 1))]) hx hb d_P_carryOut_4 rfl hl (by decide) rfl (fun ls hl => ?_)
  refine lv_aload_n hx hb d_P_carryOut_5 rfl (lv_at hl 1 rfl) ?_
  refine va_get (D := D) (ci := 2) (C := R_P) (T := F_P) (N := 7) hx hb hts in_P hown hK hP 2 rfl rfl 0 (by decide) (hts _ tb_23) (fun _ h9 => h9) rfl d_P_carryOut_6 ?_
  refine lv_iload_n hx hb d_P_carryOut_9 rfl (lv_at hl 2 rfl) ?_
  refine va_iald hx hb hK hP 3 0 rfl rfl hw.1 d_P_carryOut_10 ?_
  replace hw := hw.2
  refine lv_iconst (v := 1) hx hb d_P_carryOut_11 (by decide) ?_
  refine lv_icmp_ne (tgt := 39) hx hb d_P_carryOut_12 (by decide) (fun hc => ?_) (fun hc => ?_)
  · replace hw := hw.1 hc
    refine lv_aload_n hx hb d_P_carryOut_39 rfl (lv_at hl 3 rfl) ?_
    refine lv_aload_n hx hb d_P_carryOut_40 rfl (lv_at hl 1 rfl) ?_
    refine va_get (D := D) (ci := 2) (C := R_P) (T := F_P) (N := 7) hx hb hts in_P hown hK hP 2 rfl rfl 1 (by decide) (hts _ tb_25) (fun _ h9 => h9) rfl d_P_carryOut_41 ?_
    refine lv_iload_n hx hb d_P_carryOut_44 rfl (lv_at hl 2 rfl) ?_
    refine va_iald hx hb hK hP 4 0 rfl rfl hw.1 d_P_carryOut_45 ?_
    replace hw := hw.2
    refine lv_aload_n hx hb d_P_carryOut_46 rfl (lv_at hl 1 rfl) ?_
    refine va_get (D := D) (ci := 2) (C := R_P) (T := F_P) (N := 7) hx hb hts in_P hown hK hP 2 rfl rfl 5 (by decide) (hts _ tb_32) (fun _ h9 => h9) rfl d_P_carryOut_47 ?_
    refine lv_iload_n hx hb d_P_carryOut_50 rfl (lv_at hl 0 rfl) ?_
    refine lv_aload_n hx hb d_P_carryOut_51 rfl (lv_at hl 1 rfl) ?_
    refine va_get (D := D) (ci := 2) (C := R_P) (T := F_P) (N := 7) hx hb hts in_P hown hK hP 2 rfl rfl 2 (by decide) (hts _ tb_26) (fun _ h9 => h9) rfl d_P_carryOut_52 ?_
    refine lv_iload_n hx hb d_P_carryOut_55 rfl (lv_at hl 2 rfl) ?_
    refine va_iald hx hb hK hP 5 0 rfl rfl hw.1 d_P_carryOut_56 ?_
    replace hw := hw.2
    obtain ⟨h1, h2, h3, h4, h5, hw⟩ := hw
    refine va_copyi hx hb (by rw [hml]; exact hl.1.symm) hown (hts _ tb_301) (hts _ tb_303) (hts _ tb_302) (hts _ tb_8) hK hP hD hS 1 8 0 0 rfl rfl rfl rfl rfl h1 h2 h3 h4 h5 (fun _ _ => rfl) (Nat.le_of_ble_eq_true rfl) (Nat.le_of_ble_eq_true rfl) d_P_carryOut_57 (fun H locs hP hD hS => ?_)
    have hP : va_P D cls_ (wE a cI cZ (sC g 6 (va_cpy (g.1 0) (g.1 6) (g.1 2 x1.toNatClampNeg).toNatClampNeg (x1 * 8).toNatClampNeg (g.1 3 x1.toNatClampNeg).toNatClampNeg))) H := pC_E_6 (g := g) (f := va_cpy (g.1 0) (g.1 6) (g.1 2 x1.toNatClampNeg).toNatClampNeg (x1 * 8).toNatClampNeg (g.1 3 x1.toNatClampNeg).toNatClampNeg) hP
    have hD : va_D A (wE a cI cZ (sC g 6 (va_cpy (g.1 0) (g.1 6) (g.1 2 x1.toNatClampNeg).toNatClampNeg (x1 * 8).toNatClampNeg (g.1 3 x1.toNatClampNeg).toNatClampNeg))) := dC_E_6 (g := g) (f := va_cpy (g.1 0) (g.1 6) (g.1 2 x1.toNatClampNeg).toNatClampNeg (x1 * 8).toNatClampNeg (g.1 3 x1.toNatClampNeg).toNatClampNeg) hD
    generalize sC g 6 (va_cpy (g.1 0) (g.1 6) (g.1 2 x1.toNatClampNeg).toNatClampNeg (x1 * 8).toNatClampNeg (g.1 3 x1.toNatClampNeg).toNatClampNeg) = g_57 at hw hP hD
    exact k_60 g_57 x1 _ _ _ hP hD hS (lv_sub hl [1, 2] rfl) hw
  · replace hw := hw.2 hc
    refine lv_aload_n hx hb d_P_carryOut_15 rfl (lv_at hl 1 rfl) ?_
    refine va_get (D := D) (ci := 2) (C := R_P) (T := F_P) (N := 7) hx hb hts in_P hown hK hP 2 rfl rfl 5 (by decide) (hts _ tb_32) (fun _ h9 => h9) rfl d_P_carryOut_16 ?_
    refine lv_iload_n hx hb d_P_carryOut_19 rfl (lv_at hl 0 rfl) ?_
    refine lv_aload_n hx hb d_P_carryOut_20 rfl (lv_at hl 3 rfl) ?_
    refine lv_aload_n hx hb d_P_carryOut_21 rfl (lv_at hl 1 rfl) ?_
    refine va_get (D := D) (ci := 2) (C := R_P) (T := F_P) (N := 7) hx hb hts in_P hown hK hP 2 rfl rfl 1 (by decide) (hts _ tb_25) (fun _ h9 => h9) rfl d_P_carryOut_22 ?_
    refine lv_iload_n hx hb d_P_carryOut_25 rfl (lv_at hl 2 rfl) ?_
    refine va_iald hx hb hK hP 4 0 rfl rfl hw.1 d_P_carryOut_26 ?_
    replace hw := hw.2
    refine lv_aload_n hx hb d_P_carryOut_27 rfl (lv_at hl 1 rfl) ?_
    refine va_get (D := D) (ci := 2) (C := R_P) (T := F_P) (N := 7) hx hb hts in_P hown hK hP 2 rfl rfl 2 (by decide) (hts _ tb_26) (fun _ h9 => h9) rfl d_P_carryOut_28 ?_
    refine lv_iload_n hx hb d_P_carryOut_31 rfl (lv_at hl 2 rfl) ?_
    refine va_iald hx hb hK hP 5 0 rfl rfl hw.1 d_P_carryOut_32 ?_
    replace hw := hw.2
    obtain ⟨h1, h2, h3, h4, h5, hw⟩ := hw
    refine va_copyi hx hb (by rw [hml]; exact hl.1.symm) hown (hts _ tb_301) (hts _ tb_303) (hts _ tb_302) (hts _ tb_8) hK hP hD hS 8 1 0 0 rfl rfl rfl rfl rfl h1 h2 h3 h4 h5 (fun _ _ => rfl) (Nat.le_of_ble_eq_true rfl) (Nat.le_of_ble_eq_true rfl) d_P_carryOut_33 (fun H locs hP hD hS => ?_)
    have hP : va_P D cls_ (wE a cI cZ (sC g 0 (va_cpy (g.1 6) (g.1 0) (x1 * 8).toNatClampNeg (g.1 2 x1.toNatClampNeg).toNatClampNeg (g.1 3 x1.toNatClampNeg).toNatClampNeg))) H := pC_E_0 (g := g) (f := va_cpy (g.1 6) (g.1 0) (x1 * 8).toNatClampNeg (g.1 2 x1.toNatClampNeg).toNatClampNeg (g.1 3 x1.toNatClampNeg).toNatClampNeg) hP
    have hD : va_D A (wE a cI cZ (sC g 0 (va_cpy (g.1 6) (g.1 0) (x1 * 8).toNatClampNeg (g.1 2 x1.toNatClampNeg).toNatClampNeg (g.1 3 x1.toNatClampNeg).toNatClampNeg))) := dC_E_0 (g := g) (f := va_cpy (g.1 6) (g.1 0) (x1 * 8).toNatClampNeg (g.1 2 x1.toNatClampNeg).toNatClampNeg (g.1 3 x1.toNatClampNeg).toNatClampNeg) hD
    generalize sC g 0 (va_cpy (g.1 6) (g.1 0) (x1 * 8).toNatClampNeg (g.1 2 x1.toNatClampNeg).toNatClampNeg (g.1 3 x1.toNatClampNeg).toNatClampNeg) = g_33 at hw hP hD
    refine lv_goto (tgt := 60) hx hb d_P_carryOut_36 (by decide) ?_
    exact k_60 g_33 x1 _ _ _ hP hD hS (lv_sub hl [1, 2] rfl) hw
end
section
set_option maxHeartbeats 4000000 in
set_option maxRecDepth 100000 in
theorem c_R_end (l : Launch) (D : va_G) (a : Nat → Nat) (cI cZ : ClassId) (sz : Nat) (g : St) (x1 : Int32) (Q : Int32 → St → Prop) (hw : wp_R_end g x1 Q) : MT_i l y_R_end b_R_end 2 rm_R_end (wE a cI cZ) D (ty_ cI cZ) sz g [.ref (a 9), .int x1] Q := by
  refine MTi_of (by decide +kernel) (Nat.le_of_ble_eq_true rfl) ?_
  intro p e s m args below meth c A Qt ls hx hb hml hts hown hN hK hP hD hA hl hret
  have hS : va_S A s.heap s.heap [] := va_S.rf
  have hl : lv_has ls 2 [(0, .ref (a 9)), (1, .int x1)] := hl
  unfold wp_R_end at hw
  refine lv_aload_n hx hb d_R_end_0 rfl (lv_at hl 0 rfl) ?_
  refine va_get (D := D) (ci := 3) (C := R_R) (T := F_R) (N := 9) hx hb hts in_R hown hK hP 9 rfl rfl 1 (by decide) (hts _ tb_61) (fun _ h9 => h9) rfl d_R_end_1 ?_
  refine lv_iload_n hx hb d_R_end_4 rfl (lv_at hl 1 rfl) ?_
  refine va_iald hx hb hK hP 11 0 rfl rfl hw.1 d_R_end_5 ?_
  replace hw := hw.2
  refine lv_aload_n hx hb d_R_end_6 rfl (lv_at hl 0 rfl) ?_
  refine va_get (D := D) (ci := 3) (C := R_R) (T := F_R) (N := 9) hx hb hts in_R hown hK hP 9 rfl rfl 2 (by decide) (hts _ tb_63) (fun _ h9 => h9) rfl d_R_end_7 ?_
  refine lv_iload_n hx hb d_R_end_10 rfl (lv_at hl 1 rfl) ?_
  refine va_iald hx hb hK hP 12 0 rfl rfl hw.1 d_R_end_11 ?_
  replace hw := hw.2
  refine lv_iadd hx hb d_R_end_12 ?_
  exact hret _ _ _ _ _ _ hw hP hD hS d_R_end_13
set_option maxHeartbeats 4000000 in
set_option maxRecDepth 100000 in
theorem c_R_isReady (l : Launch) (D : va_G) (a : Nat → Nat) (cI cZ : ClassId) (sz : Nat) (g : St) (x1 : Int32) (x2 : Int32) (Q : Int32 → St → Prop) (hw : wp_R_isReady g x1 x2 Q) : MT_z l y_R_isReady b_R_isReady 3 rm_R_isReady (wE a cI cZ) D (ty_ cI cZ) sz g [.ref (a 9), .int x1, .int x2] Q := by
  refine MTz_of (by decide +kernel) (Nat.le_of_ble_eq_true rfl) ?_
  intro p e s m args below meth c A Qt ls hx hb hml hts hown hN hK hP hD hA hl hret
  have hS : va_S A s.heap s.heap [] := va_S.rf
  have hl : lv_has ls 3 [(0, .ref (a 9)), (1, .int x1), (2, .int x2)] := hl
  unfold wp_R_isReady at hw
  refine lv_aload_n hx hb d_R_isReady_0 rfl (lv_at hl 0 rfl) ?_
  refine va_get (D := D) (ci := 3) (C := R_R) (T := F_R) (N := 9) hx hb hts in_R hown hK hP 9 rfl rfl 6 (by decide) (hts _ tb_71) (fun _ h9 => h9) rfl d_R_isReady_1 ?_
  refine lv_iload_n hx hb d_R_isReady_4 rfl (lv_at hl 1 rfl) ?_
  refine va_zald hx hb hK hP 16 1 rfl rfl hw.1 d_R_isReady_5 ?_
  replace hw := hw.2
  refine lv_if_eq (tgt := 23) hx hb d_R_isReady_6 (by decide) (fun hc => ?_) (fun hc => ?_)
  · replace hw := hw.1 hc
    refine lv_iconst (v := 0) hx hb d_R_isReady_23 (by decide) ?_
    exact hret _ _ _ _ _ _ rfl hw hP hD hS d_R_isReady_24
  · replace hw := hw.2 hc
    refine lv_aload_n hx hb d_R_isReady_9 rfl (lv_at hl 0 rfl) ?_
    refine va_get (D := D) (ci := 3) (C := R_R) (T := F_R) (N := 9) hx hb hts in_R hown hK hP 9 rfl rfl 0 (by decide) (hts _ tb_59) (fun _ h9 => h9) rfl d_R_isReady_10 ?_
    refine lv_iload_n hx hb d_R_isReady_13 rfl (lv_at hl 1 rfl) ?_
    refine va_iald hx hb hK hP 10 0 rfl rfl hw.1 d_R_isReady_14 ?_
    replace hw := hw.2
    refine lv_iload_n hx hb d_R_isReady_15 rfl (lv_at hl 2 rfl) ?_
    refine lv_icmp_ne (tgt := 23) hx hb d_R_isReady_16 (by decide) (fun hc => ?_) (fun hc => ?_)
    · replace hw := hw.1 hc
      refine lv_iconst (v := 0) hx hb d_R_isReady_23 (by decide) ?_
      exact hret _ _ _ _ _ _ rfl hw hP hD hS d_R_isReady_24
    · replace hw := hw.2 hc
      refine lv_iconst (v := 1) hx hb d_R_isReady_19 (by decide) ?_
      refine lv_goto (tgt := 24) hx hb d_R_isReady_20 (by decide) ?_
      exact hret _ _ _ _ _ _ rfl hw hP hD hS d_R_isReady_24
set_option maxHeartbeats 4000000 in
set_option maxRecDepth 100000 in
theorem c_R_open (l : Launch) (D : va_G) (a : Nat → Nat) (cI cZ : ClassId) (sz : Nat) (g : St) (x1 : Int32) (x2 : Int32) (x3 : Int32) (x4 : Int32) (x5 : Int32) (x6 : Int32) (Q : St → Prop) (hw : wp_R_open g x1 x2 x3 x4 x5 x6 Q) : MT_v l y_R_open b_R_open 7 rm_R_open (wE a cI cZ) D (ty_ cI cZ) sz g [.ref (a 9), .int x1, .int x2, .int x3, .int x4, .int x5, .int x6] Q := by
  refine MTv_of (by decide +kernel) (Nat.le_of_ble_eq_true rfl) ?_
  intro p e s m args below meth c A Qt ls hx hb hml hts hown hN hK hP hD hA hl hret
  have hS : va_S A s.heap s.heap [] := va_S.rf
  have hl : lv_has ls 7 [(0, .ref (a 9)), (1, .int x1), (2, .int x2), (3, .int x3), (4, .int x4), (5, .int x5), (6, .int x6)] := hl
  unfold wp_R_open at hw
  refine lv_aload_n hx hb d_R_open_0 rfl (lv_at hl 0 rfl) ?_
  refine va_get (D := D) (ci := 3) (C := R_R) (T := F_R) (N := 9) hx hb hts in_R hown hK hP 9 rfl rfl 0 (by decide) (hts _ tb_59) (fun _ h9 => h9) rfl d_R_open_1 ?_
  refine lv_iload_n hx hb d_R_open_4 rfl (lv_at hl 1 rfl) ?_
  refine lv_iload_n hx hb d_R_open_5 rfl (lv_at hl 2 rfl) ?_
  refine va_iast hx hb hK hP hD hS 10 0 rfl rfl hw.1 d_R_open_6 (fun H locs hP hD hS => ?_)
  replace hw := hw.2
  have hP : va_P D cls_ (wE a cI cZ (sA g 7 x1.toNatClampNeg x2)) H := pA_E_7 (g := g) (j := x1.toNatClampNeg) (x := x2) hP
  have hD : va_D A (wE a cI cZ (sA g 7 x1.toNatClampNeg x2)) := dA_E_7 (g := g) (j := x1.toNatClampNeg) (x := x2) hD
  generalize sA g 7 x1.toNatClampNeg x2 = g_6 at hw hP hD
  refine lv_aload_n hx hb d_R_open_7 rfl (lv_at hl 0 rfl) ?_
  refine va_get (D := D) (ci := 3) (C := R_R) (T := F_R) (N := 9) hx hb hts in_R hown hK hP 9 rfl rfl 1 (by decide) (hts _ tb_61) (fun _ h9 => h9) rfl d_R_open_8 ?_
  refine lv_iload_n hx hb d_R_open_11 rfl (lv_at hl 1 rfl) ?_
  refine lv_iload_n hx hb d_R_open_12 rfl (lv_at hl 3 rfl) ?_
  refine va_iast hx hb hK hP hD hS 11 0 rfl rfl hw.1 d_R_open_13 (fun H locs hP hD hS => ?_)
  replace hw := hw.2
  have hP : va_P D cls_ (wE a cI cZ (sA g_6 8 x1.toNatClampNeg x3)) H := pA_E_8 (g := g_6) (j := x1.toNatClampNeg) (x := x3) hP
  have hD : va_D A (wE a cI cZ (sA g_6 8 x1.toNatClampNeg x3)) := dA_E_8 (g := g_6) (j := x1.toNatClampNeg) (x := x3) hD
  generalize sA g_6 8 x1.toNatClampNeg x3 = g_13 at hw hP hD
  refine lv_aload_n hx hb d_R_open_14 rfl (lv_at hl 0 rfl) ?_
  refine va_get (D := D) (ci := 3) (C := R_R) (T := F_R) (N := 9) hx hb hts in_R hown hK hP 9 rfl rfl 2 (by decide) (hts _ tb_63) (fun _ h9 => h9) rfl d_R_open_15 ?_
  refine lv_iload_n hx hb d_R_open_18 rfl (lv_at hl 1 rfl) ?_
  refine lv_iload hx hb d_R_open_19 (lv_at hl 4 rfl) ?_
  refine va_iast hx hb hK hP hD hS 12 0 rfl rfl hw.1 d_R_open_21 (fun H locs hP hD hS => ?_)
  replace hw := hw.2
  have hP : va_P D cls_ (wE a cI cZ (sA g_13 9 x1.toNatClampNeg x4)) H := pA_E_9 (g := g_13) (j := x1.toNatClampNeg) (x := x4) hP
  have hD : va_D A (wE a cI cZ (sA g_13 9 x1.toNatClampNeg x4)) := dA_E_9 (g := g_13) (j := x1.toNatClampNeg) (x := x4) hD
  generalize sA g_13 9 x1.toNatClampNeg x4 = g_21 at hw hP hD
  refine lv_aload_n hx hb d_R_open_22 rfl (lv_at hl 0 rfl) ?_
  refine va_get (D := D) (ci := 3) (C := R_R) (T := F_R) (N := 9) hx hb hts in_R hown hK hP 9 rfl rfl 3 (by decide) (hts _ tb_65) (fun _ h9 => h9) rfl d_R_open_23 ?_
  refine lv_iload_n hx hb d_R_open_26 rfl (lv_at hl 1 rfl) ?_
  refine lv_iconst (v := 1) hx hb d_R_open_27 (by decide) ?_
  refine va_iast hx hb hK hP hD hS 13 0 rfl rfl hw.1 d_R_open_28 (fun H locs hP hD hS => ?_)
  replace hw := hw.2
  have hP : va_P D cls_ (wE a cI cZ (sA g_21 10 x1.toNatClampNeg 1)) H := pA_E_10 (g := g_21) (j := x1.toNatClampNeg) (x := 1) hP
  have hD : va_D A (wE a cI cZ (sA g_21 10 x1.toNatClampNeg 1)) := dA_E_10 (g := g_21) (j := x1.toNatClampNeg) (x := 1) hD
  generalize sA g_21 10 x1.toNatClampNeg 1 = g_28 at hw hP hD
  refine lv_aload_n hx hb d_R_open_29 rfl (lv_at hl 0 rfl) ?_
  refine va_get (D := D) (ci := 3) (C := R_R) (T := F_R) (N := 9) hx hb hts in_R hown hK hP 9 rfl rfl 4 (by decide) (hts _ tb_67) (fun _ h9 => h9) rfl d_R_open_30 ?_
  refine lv_iload_n hx hb d_R_open_33 rfl (lv_at hl 1 rfl) ?_
  refine lv_iload hx hb d_R_open_34 (lv_at hl 5 rfl) ?_
  refine va_iast hx hb hK hP hD hS 14 0 rfl rfl hw.1 d_R_open_36 (fun H locs hP hD hS => ?_)
  replace hw := hw.2
  have hP : va_P D cls_ (wE a cI cZ (sA g_28 11 x1.toNatClampNeg x5)) H := pA_E_11 (g := g_28) (j := x1.toNatClampNeg) (x := x5) hP
  have hD : va_D A (wE a cI cZ (sA g_28 11 x1.toNatClampNeg x5)) := dA_E_11 (g := g_28) (j := x1.toNatClampNeg) (x := x5) hD
  generalize sA g_28 11 x1.toNatClampNeg x5 = g_36 at hw hP hD
  refine lv_aload_n hx hb d_R_open_37 rfl (lv_at hl 0 rfl) ?_
  refine va_get (D := D) (ci := 3) (C := R_R) (T := F_R) (N := 9) hx hb hts in_R hown hK hP 9 rfl rfl 5 (by decide) (hts _ tb_69) (fun _ h9 => h9) rfl d_R_open_38 ?_
  refine lv_iload_n hx hb d_R_open_41 rfl (lv_at hl 1 rfl) ?_
  refine lv_iload hx hb d_R_open_42 (lv_at hl 6 rfl) ?_
  refine va_iast hx hb hK hP hD hS 15 0 rfl rfl hw.1 d_R_open_44 (fun H locs hP hD hS => ?_)
  replace hw := hw.2
  have hP : va_P D cls_ (wE a cI cZ (sA g_36 12 x1.toNatClampNeg x6)) H := pA_E_12 (g := g_36) (j := x1.toNatClampNeg) (x := x6) hP
  have hD : va_D A (wE a cI cZ (sA g_36 12 x1.toNatClampNeg x6)) := dA_E_12 (g := g_36) (j := x1.toNatClampNeg) (x := x6) hD
  generalize sA g_36 12 x1.toNatClampNeg x6 = g_44 at hw hP hD
  refine lv_aload_n hx hb d_R_open_45 rfl (lv_at hl 0 rfl) ?_
  refine va_get (D := D) (ci := 3) (C := R_R) (T := F_R) (N := 9) hx hb hts in_R hown hK hP 9 rfl rfl 7 (by decide) (hts _ tb_73) (fun _ h9 => h9) rfl d_R_open_46 ?_
  refine lv_aload_n hx hb d_R_open_49 rfl (lv_at hl 0 rfl) ?_
  refine va_get (D := D) (ci := 3) (C := R_R) (T := F_R) (N := 9) hx hb hts in_R hown hK hP 9 rfl rfl 8 (by decide) (hts _ tb_75) (fun _ h9 => h9) rfl d_R_open_50 ?_
  refine lv_iload_n hx hb d_R_open_53 rfl (lv_at hl 1 rfl) ?_
  refine va_iast hx hb hK hP hD hS 17 0 rfl rfl hw.1 d_R_open_54 (fun H locs hP hD hS => ?_)
  replace hw := hw.2
  have hP : va_P D cls_ (wE a cI cZ (sA g_44 14 (g_44.2.1 1).toNatClampNeg x1)) H := pA_E_14 (g := g_44) (j := (g_44.2.1 1).toNatClampNeg) (x := x1) hP
  have hD : va_D A (wE a cI cZ (sA g_44 14 (g_44.2.1 1).toNatClampNeg x1)) := dA_E_14 (g := g_44) (j := (g_44.2.1 1).toNatClampNeg) (x := x1) hD
  generalize sA g_44 14 (g_44.2.1 1).toNatClampNeg x1 = g_54 at hw hP hD
  refine lv_aload_n hx hb d_R_open_55 rfl (lv_at hl 0 rfl) ?_
  refine lv_dup hx hb d_R_open_56 rfl ?_
  refine va_get (D := D) (ci := 3) (C := R_R) (T := F_R) (N := 9) hx hb hts in_R hown hK hP 9 rfl rfl 8 (by decide) (hts _ tb_75) (fun _ h9 => h9) rfl d_R_open_57 ?_
  refine lv_iconst (v := 1) hx hb d_R_open_60 (by decide) ?_
  refine lv_iadd hx hb d_R_open_61 ?_
  refine va_put (v := .int ((g_54.2.1 1) + 1)) (ty := .int) (D := D) (ci := 3) (C := R_R) (T := F_R) (N := 9) hx hb hts in_R t_R t_R_ok n_R hown hK hP hD hS 9 rfl rfl 8 (by decide) (hts _ tb_75) (fun _ h9 => h9) rfl (by decide +kernel) rfl rfl (Nat.le_of_ble_eq_true rfl) d_R_open_62 (fun H locs hP hD hS => ?_)
  have hP : va_P D cls_ (wE a cI cZ (sI g_54 1 ((g_54.2.1 1) + 1))) H := pI_E_1 (g := g_54) (v := (g_54.2.1 1) + 1) hP
  have hD : va_D A (wE a cI cZ (sI g_54 1 ((g_54.2.1 1) + 1))) := dI_E_1 (g := g_54) (v := (g_54.2.1 1) + 1) hD
  generalize sI g_54 1 ((g_54.2.1 1) + 1) = g_62 at hw hP hD
  exact hret _ _ _ _ _ hw hP hD hS d_R_open_65
set_option maxHeartbeats 4000000 in
set_option maxRecDepth 100000 in
theorem c_R_extend (l : Launch) (D : va_G) (a : Nat → Nat) (cI cZ : ClassId) (sz : Nat) (g : St) (x1 : Int32) (x2 : Int32) (x3 : Int32) (Q : St → Prop) (hw : wp_R_extend g x1 x2 x3 Q) : MT_v l y_R_extend b_R_extend 4 rm_R_extend (wE a cI cZ) D (ty_ cI cZ) sz g [.ref (a 9), .int x1, .int x2, .int x3] Q := by
  refine MTv_of (by decide +kernel) (Nat.le_of_ble_eq_true rfl) ?_
  intro p e s m args below meth c A Qt ls hx hb hml hts hown hN hK hP hD hA hl hret
  have hS : va_S A s.heap s.heap [] := va_S.rf
  have hl : lv_has ls 4 [(0, .ref (a 9)), (1, .int x1), (2, .int x2), (3, .int x3)] := hl
  unfold wp_R_extend at hw
  refine lv_aload_n hx hb d_R_extend_0 rfl (lv_at hl 0 rfl) ?_
  refine va_get (D := D) (ci := 3) (C := R_R) (T := F_R) (N := 9) hx hb hts in_R hown hK hP 9 rfl rfl 1 (by decide) (hts _ tb_61) (fun _ h9 => h9) rfl d_R_extend_1 ?_
  refine lv_iload_n hx hb d_R_extend_4 rfl (lv_at hl 1 rfl) ?_
  refine lv_aload_n hx hb d_R_extend_5 rfl (lv_at hl 0 rfl) ?_
  refine va_get (D := D) (ci := 3) (C := R_R) (T := F_R) (N := 9) hx hb hts in_R hown hK hP 9 rfl rfl 1 (by decide) (hts _ tb_61) (fun _ h9 => h9) rfl d_R_extend_6 ?_
  refine lv_iload_n hx hb d_R_extend_9 rfl (lv_at hl 1 rfl) ?_
  refine va_iald hx hb hK hP 11 0 rfl rfl hw.1 d_R_extend_10 ?_
  replace hw := hw.2
  refine lv_iload_n hx hb d_R_extend_11 rfl (lv_at hl 2 rfl) ?_
  refine va_mmin hx hb (by rw [hml]; exact hl.1.symm) hown (hts _ tb_225) (hts _ tb_226) (hts _ tb_7) (hts _ tb_227) (Nat.le_of_ble_eq_true rfl) (Nat.le_of_ble_eq_true rfl) (Nat.zero_le _) (Nat.zero_le _) d_R_extend_12 ?_
  refine va_iast hx hb hK hP hD hS 11 0 rfl rfl hw.1 d_R_extend_15 (fun H locs hP hD hS => ?_)
  replace hw := hw.2
  have hP : va_P D cls_ (wE a cI cZ (sA g 8 x1.toNatClampNeg (if x2 < g.1 8 x1.toNatClampNeg then x2 else g.1 8 x1.toNatClampNeg))) H := pA_E_8 (g := g) (j := x1.toNatClampNeg) (x := (if x2 < g.1 8 x1.toNatClampNeg then x2 else g.1 8 x1.toNatClampNeg)) hP
  have hD : va_D A (wE a cI cZ (sA g 8 x1.toNatClampNeg (if x2 < g.1 8 x1.toNatClampNeg then x2 else g.1 8 x1.toNatClampNeg))) := dA_E_8 (g := g) (j := x1.toNatClampNeg) (x := (if x2 < g.1 8 x1.toNatClampNeg then x2 else g.1 8 x1.toNatClampNeg)) hD
  generalize sA g 8 x1.toNatClampNeg (if x2 < g.1 8 x1.toNatClampNeg then x2 else g.1 8 x1.toNatClampNeg) = g_15 at hw hP hD
  refine lv_aload_n hx hb d_R_extend_16 rfl (lv_at hl 0 rfl) ?_
  refine va_get (D := D) (ci := 3) (C := R_R) (T := F_R) (N := 9) hx hb hts in_R hown hK hP 9 rfl rfl 2 (by decide) (hts _ tb_63) (fun _ h9 => h9) rfl d_R_extend_17 ?_
  refine lv_iload_n hx hb d_R_extend_20 rfl (lv_at hl 1 rfl) ?_
  refine lv_dup2_11 hx hb d_R_extend_21 rfl rfl ?_
  refine va_iald hx hb hK hP 12 0 rfl rfl hw.1 d_R_extend_22 ?_
  replace hw := hw.2
  refine lv_iload_n hx hb d_R_extend_23 rfl (lv_at hl 3 rfl) ?_
  refine lv_iadd hx hb d_R_extend_24 ?_
  refine va_iast hx hb hK hP hD hS 12 0 rfl rfl hw.1 d_R_extend_25 (fun H locs hP hD hS => ?_)
  replace hw := hw.2
  have hP : va_P D cls_ (wE a cI cZ (sA g_15 9 x1.toNatClampNeg ((g_15.1 9 x1.toNatClampNeg) + x3))) H := pA_E_9 (g := g_15) (j := x1.toNatClampNeg) (x := ((g_15.1 9 x1.toNatClampNeg) + x3)) hP
  have hD : va_D A (wE a cI cZ (sA g_15 9 x1.toNatClampNeg ((g_15.1 9 x1.toNatClampNeg) + x3))) := dA_E_9 (g := g_15) (j := x1.toNatClampNeg) (x := ((g_15.1 9 x1.toNatClampNeg) + x3)) hD
  generalize sA g_15 9 x1.toNatClampNeg ((g_15.1 9 x1.toNatClampNeg) + x3) = g_25 at hw hP hD
  refine lv_aload_n hx hb d_R_extend_26 rfl (lv_at hl 0 rfl) ?_
  refine va_get (D := D) (ci := 3) (C := R_R) (T := F_R) (N := 9) hx hb hts in_R hown hK hP 9 rfl rfl 3 (by decide) (hts _ tb_65) (fun _ h9 => h9) rfl d_R_extend_27 ?_
  refine lv_iload_n hx hb d_R_extend_30 rfl (lv_at hl 1 rfl) ?_
  refine lv_dup2_11 hx hb d_R_extend_31 rfl rfl ?_
  refine va_iald hx hb hK hP 13 0 rfl rfl hw.1 d_R_extend_32 ?_
  replace hw := hw.2
  refine lv_iconst (v := 1) hx hb d_R_extend_33 (by decide) ?_
  refine lv_iadd hx hb d_R_extend_34 ?_
  refine va_iast hx hb hK hP hD hS 13 0 rfl rfl hw.1 d_R_extend_35 (fun H locs hP hD hS => ?_)
  replace hw := hw.2
  have hP : va_P D cls_ (wE a cI cZ (sA g_25 10 x1.toNatClampNeg ((g_25.1 10 x1.toNatClampNeg) + 1))) H := pA_E_10 (g := g_25) (j := x1.toNatClampNeg) (x := ((g_25.1 10 x1.toNatClampNeg) + 1)) hP
  have hD : va_D A (wE a cI cZ (sA g_25 10 x1.toNatClampNeg ((g_25.1 10 x1.toNatClampNeg) + 1))) := dA_E_10 (g := g_25) (j := x1.toNatClampNeg) (x := ((g_25.1 10 x1.toNatClampNeg) + 1)) hD
  generalize sA g_25 10 x1.toNatClampNeg ((g_25.1 10 x1.toNatClampNeg) + 1) = g_35 at hw hP hD
  exact hret _ _ _ _ _ hw hP hD hS d_R_extend_36
set_option maxHeartbeats 4000000 in
set_option maxRecDepth 100000 in
theorem c_R_remove (l : Launch) (D : va_G) (a : Nat → Nat) (cI cZ : ClassId) (sz : Nat) (g : St) (x1 : Int32) (Q : St → Prop) (hw : wp_R_remove g x1 Q) : MT_v l y_R_remove b_R_remove 4 rm_R_remove (wE a cI cZ) D (ty_ cI cZ) sz g [.ref (a 9), .int x1] Q := by
  refine MTv_of (by decide +kernel) (Nat.le_of_ble_eq_true rfl) ?_
  intro p e s m args below meth c A Qt ls hx hb hml hts hown hN hK hP hD hA hl hret
  have hS : va_S A s.heap s.heap [] := va_S.rf
  have hl : lv_has ls 4 [(0, .ref (a 9)), (1, .int x1)] := hl
  have k_4 : ∀ (n : Nat) (g : St) (x1 : Int32) (x2 : Int32) (x3 : Int32) (H : Heap) (locs : List Loc) (ls : Array Slot), va_P D cls_ (wE a cI cZ g) H → va_D A (wE a cI cZ g) → va_S A s.heap H locs → lv_has ls 4 [(0, .ref (a 9)), (1, .int x1), (2, .int x2), (3, .int x3)] → wl_R_remove_4 Q n g x1 x2 x3 → W p l e rm_R_remove s m args below meth c H locs 0 0 Qt (F0 m 4 ls []) := by
    intro n
    induction n with
    | zero => intro g x1 x2 x3 H locs ls hP hD hS hl hw; exact False.elim hw
    | succ n_4 ih_4 =>
      intro g x1 x2 x3 H locs ls hP hD hS hl hw
      unfold wl_R_remove_4 at hw
      refine lv_iload_n hx hb d_R_remove_4 rfl (lv_at hl 3 rfl) ?_
      refine lv_aload_n hx hb d_R_remove_5 rfl (lv_at hl 0 rfl) ?_
      refine va_get (D := D) (ci := 3) (C := R_R) (T := F_R) (N := 9) hx hb hts in_R hown hK hP 9 rfl rfl 8 (by decide) (hts _ tb_75) (fun _ h9 => h9) rfl d_R_remove_6 ?_
      refine lv_icmp_ge (tgt := 43) hx hb d_R_remove_9 (by decide) (fun hc => ?_) (fun hc => ?_)
      · replace hw := hw.1 hc
        refine lv_aload_n hx hb d_R_remove_43 rfl (lv_at hl 0 rfl) ?_
        refine lv_iload_n hx hb d_R_remove_44 rfl (lv_at hl 2 rfl) ?_
        refine va_put (v := .int x2) (ty := .int) (D := D) (ci := 3) (C := R_R) (T := F_R) (N := 9) hx hb hts in_R t_R t_R_ok n_R hown hK hP hD hS 9 rfl rfl 8 (by decide) (hts _ tb_75) (fun _ h9 => h9) rfl (by decide +kernel) rfl rfl (Nat.le_of_ble_eq_true rfl) d_R_remove_45 (fun H locs hP hD hS => ?_)
        have hP : va_P D cls_ (wE a cI cZ (sI g 1 x2)) H := pI_E_1 (g := g) (v := x2) hP
        have hD : va_D A (wE a cI cZ (sI g 1 x2)) := dI_E_1 (g := g) (v := x2) hD
        generalize sI g 1 x2 = g_45 at hw hP hD
        exact hret _ _ _ _ _ hw hP hD hS d_R_remove_48
      · replace hw := hw.2 hc
        refine lv_aload_n hx hb d_R_remove_12 rfl (lv_at hl 0 rfl) ?_
        refine va_get (D := D) (ci := 3) (C := R_R) (T := F_R) (N := 9) hx hb hts in_R hown hK hP 9 rfl rfl 7 (by decide) (hts _ tb_73) (fun _ h9 => h9) rfl d_R_remove_13 ?_
        refine lv_iload_n hx hb d_R_remove_16 rfl (lv_at hl 3 rfl) ?_
        refine va_iald hx hb hK hP 17 0 rfl rfl hw.1 d_R_remove_17 ?_
        replace hw := hw.2
        refine lv_iload_n hx hb d_R_remove_18 rfl (lv_at hl 1 rfl) ?_
        refine lv_icmp_eq (tgt := 37) hx hb d_R_remove_19 (by decide) (fun hc => ?_) (fun hc => ?_)
        · replace hw := hw.1 hc
          refine lv_iinc (k := 3) (v := x3 + 1) (lv' := [(3, .int (x3 + 1)), (0, .ref (a 9)), (1, .int x1), (2, .int x2)]) hx hb d_R_remove_37 hl rfl rfl (by decide) rfl (fun ls hl => ?_)
          refine lv_goto (tgt := 4) hx hb d_R_remove_40 (by decide) ?_
          exact ih_4 g x1 x2 (x3 + 1) _ _ _ hP hD hS (lv_sub hl [1, 2, 3, 0] rfl) hw
        · replace hw := hw.2 hc
          refine lv_aload_n hx hb d_R_remove_22 rfl (lv_at hl 0 rfl) ?_
          refine va_get (D := D) (ci := 3) (C := R_R) (T := F_R) (N := 9) hx hb hts in_R hown hK hP 9 rfl rfl 7 (by decide) (hts _ tb_73) (fun _ h9 => h9) rfl d_R_remove_23 ?_
          refine lv_iload_n hx hb d_R_remove_26 rfl (lv_at hl 2 rfl) ?_
          refine lv_aload_n hx hb d_R_remove_27 rfl (lv_at hl 0 rfl) ?_
          refine va_get (D := D) (ci := 3) (C := R_R) (T := F_R) (N := 9) hx hb hts in_R hown hK hP 9 rfl rfl 7 (by decide) (hts _ tb_73) (fun _ h9 => h9) rfl d_R_remove_28 ?_
          refine lv_iload_n hx hb d_R_remove_31 rfl (lv_at hl 3 rfl) ?_
          refine va_iald hx hb hK hP 17 0 rfl rfl hw.1 d_R_remove_32 ?_
          replace hw := hw.2
          refine va_iast hx hb hK hP hD hS 17 0 rfl rfl hw.1 d_R_remove_33 (fun H locs hP hD hS => ?_)
          replace hw := hw.2
          have hP : va_P D cls_ (wE a cI cZ (sA g 14 x2.toNatClampNeg (g.1 14 x3.toNatClampNeg))) H := pA_E_14 (g := g) (j := x2.toNatClampNeg) (x := (g.1 14 x3.toNatClampNeg)) hP
          have hD : va_D A (wE a cI cZ (sA g 14 x2.toNatClampNeg (g.1 14 x3.toNatClampNeg))) := dA_E_14 (g := g) (j := x2.toNatClampNeg) (x := (g.1 14 x3.toNatClampNeg)) hD
          generalize sA g 14 x2.toNatClampNeg (g.1 14 x3.toNatClampNeg) = g_33 at hw hP hD
          refine lv_iinc (k := 2) (v := x2 + 1) (lv' := [(2, .int (x2 + 1)), (0, .ref (a 9)), (1, .int x1), (3, .int x3)]) hx hb d_R_remove_34 hl rfl rfl (by decide) rfl (fun ls hl => ?_)
          refine lv_iinc (k := 3) (v := x3 + 1) (lv' := [(3, .int (x3 + 1)), (2, .int (x2 + 1)), (0, .ref (a 9)), (1, .int x1)]) hx hb d_R_remove_37 hl rfl rfl (by decide) rfl (fun ls hl => ?_)
          refine lv_goto (tgt := 4) hx hb d_R_remove_40 (by decide) ?_
          exact ih_4 g_33 x1 (x2 + 1) (x3 + 1) _ _ _ hP hD hS (lv_sub hl [2, 3, 1, 0] rfl) hw
  unfold wp_R_remove at hw
  refine lv_iconst (v := 0) hx hb d_R_remove_0 (by decide) ?_
  refine lv_istore_n (lv' := [(2, .int 0), (0, .ref (a 9)), (1, .int x1)]) hx hb d_R_remove_1 rfl hl (by decide) rfl (fun ls hl => ?_)
  refine lv_iconst (v := 0) hx hb d_R_remove_2 (by decide) ?_
  refine lv_istore_n (lv' := [(3, .int 0), (2, .int 0), (0, .ref (a 9)), (1, .int x1)]) hx hb d_R_remove_3 rfl hl (by decide) rfl (fun ls hl => ?_)
  obtain ⟨n, hw⟩ := hw
  exact k_4 n g x1 0 0 _ _ _ hP hD hS (lv_sub hl [2, 3, 1, 0] rfl) hw
set_option maxHeartbeats 4000000 in
set_option maxRecDepth 100000 in
theorem c_R_hasRoom (l : Launch) (D : va_G) (a : Nat → Nat) (cI cZ : ClassId) (sz : Nat) (g : St) (x1 : Int32) (x2 : Int32) (Q : Int32 → St → Prop) (hw : wp_R_hasRoom g x1 x2 Q) : MT_z l y_R_hasRoom b_R_hasRoom 3 rm_R_hasRoom (wE a cI cZ) D (ty_ cI cZ) sz g [.ref (a 9), .int x1, .int x2] Q := by
  refine MTz_of (by decide +kernel) (Nat.le_of_ble_eq_true rfl) ?_
  intro p e s m args below meth c A Qt ls hx hb hml hts hown hN hK hP hD hA hl hret
  have hS : va_S A s.heap s.heap [] := va_S.rf
  have hl : lv_has ls 3 [(0, .ref (a 9)), (1, .int x1), (2, .int x2)] := hl
  unfold wp_R_hasRoom at hw
  refine lv_aload_n hx hb d_R_hasRoom_0 rfl (lv_at hl 0 rfl) ?_
  refine va_get (D := D) (ci := 3) (C := R_R) (T := F_R) (N := 9) hx hb hts in_R hown hK hP 9 rfl rfl 3 (by decide) (hts _ tb_65) (fun _ h9 => h9) rfl d_R_hasRoom_1 ?_
  refine lv_iload_n hx hb d_R_hasRoom_4 rfl (lv_at hl 1 rfl) ?_
  refine va_iald hx hb hK hP 13 0 rfl rfl hw.1 d_R_hasRoom_5 ?_
  replace hw := hw.2
  refine lv_iconst (v := 4) hx hb d_R_hasRoom_6 (by decide) ?_
  refine lv_icmp_ge (tgt := 27) hx hb d_R_hasRoom_7 (by decide) (fun hc => ?_) (fun hc => ?_)
  · replace hw := hw.1 hc
    refine lv_iconst (v := 0) hx hb d_R_hasRoom_27 (by decide) ?_
    exact hret _ _ _ _ _ _ rfl hw hP hD hS d_R_hasRoom_28
  · replace hw := hw.2 hc
    refine lv_aload_n hx hb d_R_hasRoom_10 rfl (lv_at hl 0 rfl) ?_
    refine va_get (D := D) (ci := 3) (C := R_R) (T := F_R) (N := 9) hx hb hts in_R hown hK hP 9 rfl rfl 2 (by decide) (hts _ tb_63) (fun _ h9 => h9) rfl d_R_hasRoom_11 ?_
    refine lv_iload_n hx hb d_R_hasRoom_14 rfl (lv_at hl 1 rfl) ?_
    refine va_iald hx hb hK hP 12 0 rfl rfl hw.1 d_R_hasRoom_15 ?_
    replace hw := hw.2
    refine lv_iload_n hx hb d_R_hasRoom_16 rfl (lv_at hl 2 rfl) ?_
    refine lv_iadd hx hb d_R_hasRoom_17 ?_
    refine lv_bipush (v := 16) hx hb d_R_hasRoom_18 (by decide) ?_
    refine lv_icmp_gt (tgt := 27) hx hb d_R_hasRoom_20 (by decide) (fun hc => ?_) (fun hc => ?_)
    · replace hw := hw.1 hc
      refine lv_iconst (v := 0) hx hb d_R_hasRoom_27 (by decide) ?_
      exact hret _ _ _ _ _ _ rfl hw hP hD hS d_R_hasRoom_28
    · replace hw := hw.2 hc
      refine lv_iconst (v := 1) hx hb d_R_hasRoom_23 (by decide) ?_
      refine lv_goto (tgt := 28) hx hb d_R_hasRoom_24 (by decide) ?_
      exact hret _ _ _ _ _ _ rfl hw hP hD hS d_R_hasRoom_28
set_option maxHeartbeats 4000000 in
set_option maxRecDepth 100000 in
theorem c_R_neighbourOf (l : Launch) (D : va_G) (a : Nat → Nat) (cI cZ : ClassId) (sz : Nat) (g : St) (x1 : Int32) (x2 : Int32) (x3 : Int32) (x4 : Int32) (Q : Int32 → St → Prop) (hw : wp_R_neighbourOf g x1 x2 x3 x4 Q) : MT_i l y_R_neighbourOf b_R_neighbourOf 8 rm_R_neighbourOf (wE a cI cZ) D (ty_ cI cZ) sz g [.ref (a 9), .int x1, .int x2, .int x3, .int x4] Q := by
  refine MTi_of (by decide +kernel) (Nat.le_of_ble_eq_true rfl) ?_
  intro p e s m args below meth c A Qt ls hx hb hml hts hown hN hK hP hD hA hl hret
  have hS : va_S A s.heap s.heap [] := va_S.rf
  have hl : lv_has ls 8 [(0, .ref (a 9)), (1, .int x1), (2, .int x2), (3, .int x3), (4, .int x4)] := hl
  have k_6 : ∀ (n : Nat) (g : St) (x1 : Int32) (x2 : Int32) (x3 : Int32) (x4 : Int32) (x5 : Int32) (x6 : Int32) (H : Heap) (locs : List Loc) (ls : Array Slot), va_P D cls_ (wE a cI cZ g) H → va_D A (wE a cI cZ g) → va_S A s.heap H locs → lv_has ls 8 [(0, .ref (a 9)), (1, .int x1), (2, .int x2), (3, .int x3), (4, .int x4), (5, .int x5), (6, .int x6)] → wl_R_neighbourOf_6 Q n g x1 x2 x3 x4 x5 x6 → W p l e rm_R_neighbourOf s m args below meth c H locs 0 0 Qt (F0 m 6 ls []) := by
    intro n
    induction n with
    | zero => intro g x1 x2 x3 x4 x5 x6 H locs ls hP hD hS hl hw; exact False.elim hw
    | succ n_6 ih_6 =>
      intro g x1 x2 x3 x4 x5 x6 H locs ls hP hD hS hl hw
      unfold wl_R_neighbourOf_6 at hw
      refine lv_iload hx hb d_R_neighbourOf_6 (lv_at hl 6 rfl) ?_
      refine lv_aload_n hx hb d_R_neighbourOf_8 rfl (lv_at hl 0 rfl) ?_
      refine va_get (D := D) (ci := 3) (C := R_R) (T := F_R) (N := 9) hx hb hts in_R hown hK hP 9 rfl rfl 8 (by decide) (hts _ tb_75) (fun _ h9 => h9) rfl d_R_neighbourOf_9 ?_
      refine lv_icmp_ge (tgt := 99) hx hb d_R_neighbourOf_12 (by decide) (fun hc => ?_) (fun hc => ?_)
      · replace hw := hw.1 hc
        refine lv_iload hx hb d_R_neighbourOf_99 (lv_at hl 5 rfl) ?_
        exact hret _ _ _ _ _ _ hw hP hD hS d_R_neighbourOf_101
      · replace hw := hw.2 hc
        refine lv_aload_n hx hb d_R_neighbourOf_15 rfl (lv_at hl 0 rfl) ?_
        refine va_get (D := D) (ci := 3) (C := R_R) (T := F_R) (N := 9) hx hb hts in_R hown hK hP 9 rfl rfl 7 (by decide) (hts _ tb_73) (fun _ h9 => h9) rfl d_R_neighbourOf_16 ?_
        refine lv_iload hx hb d_R_neighbourOf_19 (lv_at hl 6 rfl) ?_
        refine va_iald hx hb hK hP 17 0 rfl rfl hw.1 d_R_neighbourOf_21 ?_
        replace hw := hw.2
        refine lv_istore (lv' := [(7, .int (g.1 14 x6.toNatClampNeg)), (0, .ref (a 9)), (1, .int x1), (2, .int x2), (3, .int x3), (4, .int x4), (5, .int x5), (6, .int x6)]) hx hb d_R_neighbourOf_22 hl (by decide) rfl (fun ls hl => ?_)
        refine lv_aload_n hx hb d_R_neighbourOf_24 rfl (lv_at hl 1 rfl) ?_
        refine va_get (D := D) (ci := 3) (C := R_R) (T := F_R) (N := 9) hx hb hts in_R hown hK hP 9 rfl rfl 0 (by decide) (hts _ tb_59) (fun _ h9 => h9) rfl d_R_neighbourOf_25 ?_
        refine lv_iload hx hb d_R_neighbourOf_28 (lv_at hl 0 rfl) ?_
        refine va_iald hx hb hK hP 10 0 rfl rfl hw.1 d_R_neighbourOf_30 ?_
        replace hw := hw.2
        refine lv_iload_n hx hb d_R_neighbourOf_31 rfl (lv_at hl 2 rfl) ?_
        refine lv_icmp_ne (tgt := 93) hx hb d_R_neighbourOf_32 (by decide) (fun hc => ?_) (fun hc => ?_)
        · replace hw := hw.1 hc
          refine lv_iinc (k := 7) (v := x6 + 1) (lv' := [(6, .int (x6 + 1)), (7, .int (g.1 14 x6.toNatClampNeg)), (0, .ref (a 9)), (1, .int x1), (2, .int x2), (3, .int x3), (4, .int x4), (5, .int x5)]) hx hb d_R_neighbourOf_93 hl rfl rfl (by decide) rfl (fun ls hl => ?_)
          refine lv_goto (tgt := 6) hx hb d_R_neighbourOf_96 (by decide) ?_
          exact ih_6 g x1 x2 x3 x4 x5 (x6 + 1) _ _ _ hP hD hS (lv_sub hl [2, 3, 4, 5, 6, 7, 0] rfl) hw
        · replace hw := hw.2 hc
          refine lv_aload_n hx hb d_R_neighbourOf_35 rfl (lv_at hl 1 rfl) ?_
          refine va_get (D := D) (ci := 3) (C := R_R) (T := F_R) (N := 9) hx hb hts in_R hown hK hP 9 rfl rfl 5 (by decide) (hts _ tb_69) (fun _ h9 => h9) rfl d_R_neighbourOf_36 ?_
          refine lv_iload hx hb d_R_neighbourOf_39 (lv_at hl 0 rfl) ?_
          refine va_iald hx hb hK hP 15 0 rfl rfl hw.1 d_R_neighbourOf_41 ?_
          replace hw := hw.2
          refine lv_iload hx hb d_R_neighbourOf_42 (lv_at hl 5 rfl) ?_
          refine lv_icmp_ne (tgt := 93) hx hb d_R_neighbourOf_44 (by decide) (fun hc => ?_) (fun hc => ?_)
          · replace hw := hw.1 hc
            refine lv_iinc (k := 7) (v := x6 + 1) (lv' := [(6, .int (x6 + 1)), (7, .int (g.1 14 x6.toNatClampNeg)), (0, .ref (a 9)), (1, .int x1), (2, .int x2), (3, .int x3), (4, .int x4), (5, .int x5)]) hx hb d_R_neighbourOf_93 hl rfl rfl (by decide) rfl (fun ls hl => ?_)
            refine lv_goto (tgt := 6) hx hb d_R_neighbourOf_96 (by decide) ?_
            exact ih_6 g x1 x2 x3 x4 x5 (x6 + 1) _ _ _ hP hD hS (lv_sub hl [2, 3, 4, 5, 6, 7, 0] rfl) hw
          · replace hw := hw.2 hc
            refine lv_aload_n hx hb d_R_neighbourOf_47 rfl (lv_at hl 1 rfl) ?_
            refine lv_iload hx hb d_R_neighbourOf_48 (lv_at hl 0 rfl) ?_
            refine lv_iload_n hx hb d_R_neighbourOf_50 rfl (lv_at hl 4 rfl) ?_
            refine aft_i (va_runV (As := [.int (g.1 14 x6.toNatClampNeg), .int x3]) (rest := []) ⟨hx, hb, hml, hown, hts⟩ (c_R_hasRoom l D a cI cZ _ g (g.1 14 x6.toNatClampNeg) x3 _ hw) ⟨(callB_of 2 hts good_R_hasRoom rfl rfl rfl (hts _ tb_3) (hts _ tb_205) hd_R_hasRoom ⟨Nat.le_of_ble_eq_true rfl, Nat.le_of_ble_eq_true rfl⟩), hts _ tb_207, hts _ ts_8⟩ (preV 9 3 hP hD hK hN rfl rfl) rfl rfl hl.1 rfl (lv_room (Nat.le_of_ble_eq_true rfl)) d_R_neighbourOf_51 ⟨Nat.zero_le _, Nat.zero_le _⟩) hD hS hA hK (fun r51 u51 H locs hw hP hD hS => ?_)
            refine lv_if_eq (tgt := 93) hx hb d_R_neighbourOf_54 (by decide) (fun hc => ?_) (fun hc => ?_)
            · replace hw := hw.1 hc
              refine lv_iinc (k := 7) (v := x6 + 1) (lv' := [(6, .int (x6 + 1)), (7, .int (g.1 14 x6.toNatClampNeg)), (0, .ref (a 9)), (1, .int x1), (2, .int x2), (3, .int x3), (4, .int x4), (5, .int x5)]) hx hb d_R_neighbourOf_93 hl rfl rfl (by decide) rfl (fun ls hl => ?_)
              refine lv_goto (tgt := 6) hx hb d_R_neighbourOf_96 (by decide) ?_
              exact ih_6 u51 x1 x2 x3 x4 x5 (x6 + 1) _ _ _ hP hD hS (lv_sub hl [2, 3, 4, 5, 6, 7, 0] rfl) hw
            · replace hw := hw.2 hc
              refine lv_aload_n hx hb d_R_neighbourOf_57 rfl (lv_at hl 1 rfl) ?_
              refine lv_iload hx hb d_R_neighbourOf_58 (lv_at hl 0 rfl) ?_
              refine aft_i (va_runV (As := [.int (g.1 14 x6.toNatClampNeg)]) (rest := []) ⟨hx, hb, hml, hown, hts⟩ (c_R_end l D a cI cZ _ u51 (g.1 14 x6.toNatClampNeg) _ hw) ⟨(callB_of 1 hts good_R_end rfl rfl rfl (hts _ tb_3) (hts _ tb_209) hd_R_end ⟨Nat.le_of_ble_eq_true rfl, Nat.le_of_ble_eq_true rfl⟩), hts _ tb_211, hts _ ts_9⟩ (preV 9 3 hP hD hK hN rfl rfl) rfl rfl hl.1 rfl (lv_room (Nat.le_of_ble_eq_true rfl)) d_R_neighbourOf_60 ⟨Nat.zero_le _, Nat.zero_le _⟩) hD hS hA hK (fun r60 u60 H locs hw hP hD hS => ?_)
              refine lv_iload_n hx hb d_R_neighbourOf_63 rfl (lv_at hl 3 rfl) ?_
              refine lv_icmp_ne (tgt := 70) hx hb d_R_neighbourOf_64 (by decide) (fun hc => ?_) (fun hc => ?_)
              · replace hw := hw.1 hc
                refine lv_iload hx hb d_R_neighbourOf_70 (lv_at hl 6 rfl) ?_
                refine lv_iconst (v := (-1)) hx hb d_R_neighbourOf_72 (by decide) ?_
                refine lv_icmp_ne (tgt := 93) hx hb d_R_neighbourOf_73 (by decide) (fun hc => ?_) (fun hc => ?_)
                · replace hw := hw.1 hc
                  refine lv_iinc (k := 7) (v := x6 + 1) (lv' := [(6, .int (x6 + 1)), (7, .int (g.1 14 x6.toNatClampNeg)), (0, .ref (a 9)), (1, .int x1), (2, .int x2), (3, .int x3), (4, .int x4), (5, .int x5)]) hx hb d_R_neighbourOf_93 hl rfl rfl (by decide) rfl (fun ls hl => ?_)
                  refine lv_goto (tgt := 6) hx hb d_R_neighbourOf_96 (by decide) ?_
                  exact ih_6 u60 x1 x2 x3 x4 x5 (x6 + 1) _ _ _ hP hD hS (lv_sub hl [2, 3, 4, 5, 6, 7, 0] rfl) hw
                · replace hw := hw.2 hc
                  refine lv_aload_n hx hb d_R_neighbourOf_76 rfl (lv_at hl 1 rfl) ?_
                  refine va_get (D := D) (ci := 3) (C := R_R) (T := F_R) (N := 9) hx hb hts in_R hown hK hP 9 rfl rfl 1 (by decide) (hts _ tb_61) (fun _ h9 => h9) rfl d_R_neighbourOf_77 ?_
                  refine lv_iload hx hb d_R_neighbourOf_80 (lv_at hl 0 rfl) ?_
                  refine va_iald hx hb hK hP 11 0 rfl rfl hw.1 d_R_neighbourOf_82 ?_
                  replace hw := hw.2
                  refine lv_iload_n hx hb d_R_neighbourOf_83 rfl (lv_at hl 3 rfl) ?_
                  refine lv_iload_n hx hb d_R_neighbourOf_84 rfl (lv_at hl 4 rfl) ?_
                  refine lv_iadd hx hb d_R_neighbourOf_85 ?_
                  refine lv_icmp_ne (tgt := 93) hx hb d_R_neighbourOf_86 (by decide) (fun hc => ?_) (fun hc => ?_)
                  · replace hw := hw.1 hc
                    refine lv_iinc (k := 7) (v := x6 + 1) (lv' := [(6, .int (x6 + 1)), (7, .int (g.1 14 x6.toNatClampNeg)), (0, .ref (a 9)), (1, .int x1), (2, .int x2), (3, .int x3), (4, .int x4), (5, .int x5)]) hx hb d_R_neighbourOf_93 hl rfl rfl (by decide) rfl (fun ls hl => ?_)
                    refine lv_goto (tgt := 6) hx hb d_R_neighbourOf_96 (by decide) ?_
                    exact ih_6 u60 x1 x2 x3 x4 x5 (x6 + 1) _ _ _ hP hD hS (lv_sub hl [2, 3, 4, 5, 6, 7, 0] rfl) hw
                  · replace hw := hw.2 hc
                    refine lv_iload hx hb d_R_neighbourOf_89 (lv_at hl 0 rfl) ?_
                    refine lv_istore (lv' := [(5, .int (g.1 14 x6.toNatClampNeg)), (7, .int (g.1 14 x6.toNatClampNeg)), (0, .ref (a 9)), (1, .int x1), (2, .int x2), (3, .int x3), (4, .int x4), (6, .int x6)]) hx hb d_R_neighbourOf_91 hl (by decide) rfl (fun ls hl => ?_)
                    refine lv_iinc (k := 7) (v := x6 + 1) (lv' := [(6, .int (x6 + 1)), (5, .int (g.1 14 x6.toNatClampNeg)), (7, .int (g.1 14 x6.toNatClampNeg)), (0, .ref (a 9)), (1, .int x1), (2, .int x2), (3, .int x3), (4, .int x4)]) hx hb d_R_neighbourOf_93 hl rfl rfl (by decide) rfl (fun ls hl => ?_)
                    refine lv_goto (tgt := 6) hx hb d_R_neighbourOf_96 (by decide) ?_
                    exact ih_6 u60 x1 x2 x3 x4 (g.1 14 x6.toNatClampNeg) (x6 + 1) _ _ _ hP hD hS (lv_sub hl [3, 4, 5, 6, 7, 1, 0] rfl) hw
              · replace hw := hw.2 hc
                refine lv_iload hx hb d_R_neighbourOf_67 (lv_at hl 0 rfl) ?_
                exact hret _ _ _ _ _ _ hw hP hD hS d_R_neighbourOf_69
  unfold wp_R_neighbourOf at hw
  refine lv_iconst (v := (-1)) hx hb d_R_neighbourOf_0 (by decide) ?_
  refine lv_istore (lv' := [(5, .int (-1)), (0, .ref (a 9)), (1, .int x1), (2, .int x2), (3, .int x3), (4, .int x4)]) hx hb d_R_neighbourOf_1 hl (by decide) rfl (fun ls hl => ?_)
  refine lv_iconst (v := 0) hx hb d_R_neighbourOf_3 (by decide) ?_
  refine lv_istore (lv' := [(6, .int 0), (5, .int (-1)), (0, .ref (a 9)), (1, .int x1), (2, .int x2), (3, .int x3), (4, .int x4)]) hx hb d_R_neighbourOf_4 hl (by decide) rfl (fun ls hl => ?_)
  obtain ⟨n, hw⟩ := hw
  exact k_6 n g x1 x2 x3 x4 (-1) 0 _ _ _ hP hD hS (lv_sub hl [2, 3, 4, 5, 6, 1, 0] rfl) hw
end
section
set_option maxHeartbeats 4000000 in
set_option maxRecDepth 100000 in
theorem c_R_markLeastGroup (l : Launch) (D : va_G) (a : Nat → Nat) (cI cZ : ClassId) (sz : Nat) (g : St) (Q : St → Prop) (hw : wp_R_markLeastGroup g Q) : MT_v l y_R_markLeastGroup b_R_markLeastGroup 2 rm_R_markLeastGroup (wE a cI cZ) D (ty_ cI cZ) sz g [.ref (a 9)] Q := by
  refine MTv_of (by decide +kernel) (Nat.le_of_ble_eq_true rfl) ?_
  intro p e s m args below meth c A Qt ls hx hb hml hts hown hN hK hP hD hA hl hret
  have hS : va_S A s.heap s.heap [] := va_S.rf
  have hl : lv_has ls 2 [(0, .ref (a 9))] := hl
  have k_2 : ∀ (n : Nat) (g : St) (x1 : Int32) (H : Heap) (locs : List Loc) (ls : Array Slot), va_P D cls_ (wE a cI cZ g) H → va_D A (wE a cI cZ g) → va_S A s.heap H locs → lv_has ls 2 [(0, .ref (a 9)), (1, .int x1)] → wl_R_markLeastGroup_2 Q n g x1 → W p l e rm_R_markLeastGroup s m args below meth c H locs 0 0 Qt (F0 m 2 ls []) := by
    intro n
    induction n with
    | zero => intro g x1 H locs ls hP hD hS hl hw; exact False.elim hw
    | succ n_2 ih_2 =>
      intro g x1 H locs ls hP hD hS hl hw
      unfold wl_R_markLeastGroup_2 at hw
      refine lv_iload_n hx hb d_R_markLeastGroup_2 rfl (lv_at hl 1 rfl) ?_
      refine lv_aload_n hx hb d_R_markLeastGroup_3 rfl (lv_at hl 0 rfl) ?_
      refine va_get (D := D) (ci := 3) (C := R_R) (T := F_R) (N := 9) hx hb hts in_R hown hK hP 9 rfl rfl 8 (by decide) (hts _ tb_75) (fun _ h9 => h9) rfl d_R_markLeastGroup_4 ?_
      refine lv_icmp_ge (tgt := 57) hx hb d_R_markLeastGroup_7 (by decide) (fun hc => ?_) (fun hc => ?_)
      · replace hw := hw.1 hc
        exact hret _ _ _ _ _ hw hP hD hS d_R_markLeastGroup_57
      · replace hw := hw.2 hc
        refine lv_aload_n hx hb d_R_markLeastGroup_10 rfl (lv_at hl 0 rfl) ?_
        refine va_get (D := D) (ci := 3) (C := R_R) (T := F_R) (N := 9) hx hb hts in_R hown hK hP 9 rfl rfl 6 (by decide) (hts _ tb_71) (fun _ h9 => h9) rfl d_R_markLeastGroup_11 ?_
        refine lv_aload_n hx hb d_R_markLeastGroup_14 rfl (lv_at hl 0 rfl) ?_
        refine va_get (D := D) (ci := 3) (C := R_R) (T := F_R) (N := 9) hx hb hts in_R hown hK hP 9 rfl rfl 7 (by decide) (hts _ tb_73) (fun _ h9 => h9) rfl d_R_markLeastGroup_15 ?_
        refine lv_iload_n hx hb d_R_markLeastGroup_18 rfl (lv_at hl 1 rfl) ?_
        refine va_iald hx hb hK hP 17 0 rfl rfl hw.1 d_R_markLeastGroup_19 ?_
        replace hw := hw.2
        refine lv_aload_n hx hb d_R_markLeastGroup_20 rfl (lv_at hl 0 rfl) ?_
        refine va_get (D := D) (ci := 3) (C := R_R) (T := F_R) (N := 9) hx hb hts in_R hown hK hP 9 rfl rfl 5 (by decide) (hts _ tb_69) (fun _ h9 => h9) rfl d_R_markLeastGroup_21 ?_
        refine lv_aload_n hx hb d_R_markLeastGroup_24 rfl (lv_at hl 0 rfl) ?_
        refine va_get (D := D) (ci := 3) (C := R_R) (T := F_R) (N := 9) hx hb hts in_R hown hK hP 9 rfl rfl 7 (by decide) (hts _ tb_73) (fun _ h9 => h9) rfl d_R_markLeastGroup_25 ?_
        refine lv_iload_n hx hb d_R_markLeastGroup_28 rfl (lv_at hl 1 rfl) ?_
        refine va_iald hx hb hK hP 17 0 rfl rfl hw.1 d_R_markLeastGroup_29 ?_
        replace hw := hw.2
        refine va_iald hx hb hK hP 15 0 rfl rfl hw.1 d_R_markLeastGroup_30 ?_
        replace hw := hw.2
        refine lv_aload_n hx hb d_R_markLeastGroup_31 rfl (lv_at hl 0 rfl) ?_
        refine va_get (D := D) (ci := 3) (C := R_R) (T := F_R) (N := 9) hx hb hts in_R hown hK hP 9 rfl rfl 5 (by decide) (hts _ tb_69) (fun _ h9 => h9) rfl d_R_markLeastGroup_32 ?_
        refine lv_aload_n hx hb d_R_markLeastGroup_35 rfl (lv_at hl 0 rfl) ?_
        refine va_get (D := D) (ci := 3) (C := R_R) (T := F_R) (N := 9) hx hb hts in_R hown hK hP 9 rfl rfl 7 (by decide) (hts _ tb_73) (fun _ h9 => h9) rfl d_R_markLeastGroup_36 ?_
        refine lv_iconst (v := 0) hx hb d_R_markLeastGroup_39 (by decide) ?_
        refine va_iald hx hb hK hP 17 0 rfl rfl hw.1 d_R_markLeastGroup_40 ?_
        replace hw := hw.2
        refine va_iald hx hb hK hP 15 0 rfl rfl hw.1 d_R_markLeastGroup_41 ?_
        replace hw := hw.2
        refine lv_icmp_ne (tgt := 49) hx hb d_R_markLeastGroup_42 (by decide) (fun hc => ?_) (fun hc => ?_)
        · replace hw := hw.1 hc
          refine lv_iconst (v := 0) hx hb d_R_markLeastGroup_49 (by decide) ?_
          refine va_zast hx hb hK hP hD hS 16 1 rfl rfl hw.1 d_R_markLeastGroup_50 (fun H locs hP hD hS => ?_)
          replace hw := hw.2
          have hP : va_P D cls_ (wE a cI cZ (sA g 13 (g.1 14 x1.toNatClampNeg).toNatClampNeg (vp_nar .boolean 0))) H := pA_E_13 (g := g) (j := (g.1 14 x1.toNatClampNeg).toNatClampNeg) (x := (vp_nar .boolean 0)) hP
          have hD : va_D A (wE a cI cZ (sA g 13 (g.1 14 x1.toNatClampNeg).toNatClampNeg (vp_nar .boolean 0))) := dA_E_13 (g := g) (j := (g.1 14 x1.toNatClampNeg).toNatClampNeg) (x := (vp_nar .boolean 0)) hD
          generalize sA g 13 (g.1 14 x1.toNatClampNeg).toNatClampNeg (vp_nar .boolean 0) = g_50 at hw hP hD
          refine lv_iinc (k := 1) (v := x1 + 1) (lv' := [(1, .int (x1 + 1)), (0, .ref (a 9))]) hx hb d_R_markLeastGroup_51 hl rfl rfl (by decide) rfl (fun ls hl => ?_)
          refine lv_goto (tgt := 2) hx hb d_R_markLeastGroup_54 (by decide) ?_
          exact ih_2 g_50 (x1 + 1) _ _ _ hP hD hS (lv_sub hl [1, 0] rfl) hw
        · replace hw := hw.2 hc
          refine lv_iconst (v := 1) hx hb d_R_markLeastGroup_45 (by decide) ?_
          refine lv_goto (tgt := 50) hx hb d_R_markLeastGroup_46 (by decide) ?_
          refine va_zast hx hb hK hP hD hS 16 1 rfl rfl hw.1 d_R_markLeastGroup_50 (fun H locs hP hD hS => ?_)
          replace hw := hw.2
          have hP : va_P D cls_ (wE a cI cZ (sA g 13 (g.1 14 x1.toNatClampNeg).toNatClampNeg (vp_nar .boolean 1))) H := pA_E_13 (g := g) (j := (g.1 14 x1.toNatClampNeg).toNatClampNeg) (x := (vp_nar .boolean 1)) hP
          have hD : va_D A (wE a cI cZ (sA g 13 (g.1 14 x1.toNatClampNeg).toNatClampNeg (vp_nar .boolean 1))) := dA_E_13 (g := g) (j := (g.1 14 x1.toNatClampNeg).toNatClampNeg) (x := (vp_nar .boolean 1)) hD
          generalize sA g 13 (g.1 14 x1.toNatClampNeg).toNatClampNeg (vp_nar .boolean 1) = g_50 at hw hP hD
          refine lv_iinc (k := 1) (v := x1 + 1) (lv' := [(1, .int (x1 + 1)), (0, .ref (a 9))]) hx hb d_R_markLeastGroup_51 hl rfl rfl (by decide) rfl (fun ls hl => ?_)
          refine lv_goto (tgt := 2) hx hb d_R_markLeastGroup_54 (by decide) ?_
          exact ih_2 g_50 (x1 + 1) _ _ _ hP hD hS (lv_sub hl [1, 0] rfl) hw
  unfold wp_R_markLeastGroup at hw
  refine lv_iconst (v := 0) hx hb d_R_markLeastGroup_0 (by decide) ?_
  refine lv_istore_n (lv' := [(1, .int 0), (0, .ref (a 9))]) hx hb d_R_markLeastGroup_1 rfl hl (by decide) rfl (fun ls hl => ?_)
  obtain ⟨n, hw⟩ := hw
  exact k_2 n g 0 _ _ _ hP hD hS (lv_sub hl [1, 0] rfl) hw
set_option maxHeartbeats 4000000 in
set_option maxRecDepth 100000 in
theorem c_R_leastStart (l : Launch) (D : va_G) (a : Nat → Nat) (cI cZ : ClassId) (sz : Nat) (g : St) (x1 : Int32) (x2 : Int32) (Q : Int32 → St → Prop) (hw : wp_R_leastStart g x1 x2 Q) : MT_i l y_R_leastStart b_R_leastStart 6 rm_R_leastStart (wE a cI cZ) D (ty_ cI cZ) sz g [.ref (a 9), .int x1, .int x2] Q := by
  refine MTi_of (by decide +kernel) (Nat.le_of_ble_eq_true rfl) ?_
  intro p e s m args below meth c A Qt ls hx hb hml hts hown hN hK hP hD hA hl hret
  have hS : va_S A s.heap s.heap [] := va_S.rf
  have hl : lv_has ls 6 [(0, .ref (a 9)), (1, .int x1), (2, .int x2)] := hl
  have k_5 : ∀ (n : Nat) (g : St) (x1 : Int32) (x2 : Int32) (x3 : Int32) (x4 : Int32) (H : Heap) (locs : List Loc) (ls : Array Slot), va_P D cls_ (wE a cI cZ g) H → va_D A (wE a cI cZ g) → va_S A s.heap H locs → lv_has ls 6 [(0, .ref (a 9)), (1, .int x1), (2, .int x2), (3, .int x3), (4, .int x4)] → wl_R_leastStart_5 Q n g x1 x2 x3 x4 → W p l e rm_R_leastStart s m args below meth c H locs 0 0 Qt (F0 m 5 ls []) := by
    intro n
    induction n with
    | zero => intro g x1 x2 x3 x4 H locs ls hP hD hS hl hw; exact False.elim hw
    | succ n_5 ih_5 =>
      intro g x1 x2 x3 x4 H locs ls hP hD hS hl hw
      unfold wl_R_leastStart_5 at hw
      refine lv_iload hx hb d_R_leastStart_5 (lv_at hl 4 rfl) ?_
      refine lv_aload_n hx hb d_R_leastStart_7 rfl (lv_at hl 0 rfl) ?_
      refine va_get (D := D) (ci := 3) (C := R_R) (T := F_R) (N := 9) hx hb hts in_R hown hK hP 9 rfl rfl 8 (by decide) (hts _ tb_75) (fun _ h9 => h9) rfl d_R_leastStart_8 ?_
      refine lv_icmp_ge (tgt := 74) hx hb d_R_leastStart_11 (by decide) (fun hc => ?_) (fun hc => ?_)
      · replace hw := hw.1 hc
        refine lv_iload_n hx hb d_R_leastStart_74 rfl (lv_at hl 3 rfl) ?_
        exact hret _ _ _ _ _ _ hw hP hD hS d_R_leastStart_75
      · replace hw := hw.2 hc
        refine lv_aload_n hx hb d_R_leastStart_14 rfl (lv_at hl 0 rfl) ?_
        refine va_get (D := D) (ci := 3) (C := R_R) (T := F_R) (N := 9) hx hb hts in_R hown hK hP 9 rfl rfl 7 (by decide) (hts _ tb_73) (fun _ h9 => h9) rfl d_R_leastStart_15 ?_
        refine lv_iload hx hb d_R_leastStart_18 (lv_at hl 4 rfl) ?_
        refine va_iald hx hb hK hP 17 0 rfl rfl hw.1 d_R_leastStart_20 ?_
        replace hw := hw.2
        refine lv_istore (lv' := [(5, .int (g.1 14 x4.toNatClampNeg)), (0, .ref (a 9)), (1, .int x1), (2, .int x2), (3, .int x3), (4, .int x4)]) hx hb d_R_leastStart_21 hl (by decide) rfl (fun ls hl => ?_)
        refine lv_aload_n hx hb d_R_leastStart_23 rfl (lv_at hl 1 rfl) ?_
        refine lv_iload hx hb d_R_leastStart_24 (lv_at hl 0 rfl) ?_
        refine lv_iload_n hx hb d_R_leastStart_26 rfl (lv_at hl 2 rfl) ?_
        refine aft_i (va_runV (As := [.int (g.1 14 x4.toNatClampNeg), .int x1]) (rest := []) ⟨hx, hb, hml, hown, hts⟩ (c_R_isReady l D a cI cZ _ g (g.1 14 x4.toNatClampNeg) x1 _ hw) ⟨(callB_of 2 hts good_R_isReady rfl rfl rfl (hts _ tb_3) (hts _ tb_272) hd_R_isReady ⟨Nat.le_of_ble_eq_true rfl, Nat.le_of_ble_eq_true rfl⟩), hts _ tb_274, hts _ ts_18⟩ (preV 9 3 hP hD hK hN rfl rfl) rfl rfl hl.1 rfl (lv_room (Nat.le_of_ble_eq_true rfl)) d_R_leastStart_27 ⟨Nat.zero_le _, Nat.zero_le _⟩) hD hS hA hK (fun r27 u27 H locs hw hP hD hS => ?_)
        refine lv_if_eq (tgt := 68) hx hb d_R_leastStart_30 (by decide) (fun hc => ?_) (fun hc => ?_)
        · replace hw := hw.1 hc
          refine lv_iinc (k := 5) (v := x4 + 1) (lv' := [(4, .int (x4 + 1)), (5, .int (g.1 14 x4.toNatClampNeg)), (0, .ref (a 9)), (1, .int x1), (2, .int x2), (3, .int x3)]) hx hb d_R_leastStart_68 hl rfl rfl (by decide) rfl (fun ls hl => ?_)
          refine lv_goto (tgt := 5) hx hb d_R_leastStart_71 (by decide) ?_
          exact ih_5 u27 x1 x2 x3 (x4 + 1) _ _ _ hP hD hS (lv_sub hl [2, 3, 4, 5, 0] rfl) hw
        · replace hw := hw.2 hc
          refine lv_aload_n hx hb d_R_leastStart_33 rfl (lv_at hl 1 rfl) ?_
          refine va_get (D := D) (ci := 3) (C := R_R) (T := F_R) (N := 9) hx hb hts in_R hown hK hP 9 rfl rfl 1 (by decide) (hts _ tb_61) (fun _ h9 => h9) rfl d_R_leastStart_34 ?_
          refine lv_iload hx hb d_R_leastStart_37 (lv_at hl 0 rfl) ?_
          refine va_iald hx hb hK hP 11 0 rfl rfl hw.1 d_R_leastStart_39 ?_
          replace hw := hw.2
          refine lv_iload_n hx hb d_R_leastStart_40 rfl (lv_at hl 3 rfl) ?_
          refine lv_icmp_lt (tgt := 68) hx hb d_R_leastStart_41 (by decide) (fun hc => ?_) (fun hc => ?_)
          · replace hw := hw.1 hc
            refine lv_iinc (k := 5) (v := x4 + 1) (lv' := [(4, .int (x4 + 1)), (5, .int (g.1 14 x4.toNatClampNeg)), (0, .ref (a 9)), (1, .int x1), (2, .int x2), (3, .int x3)]) hx hb d_R_leastStart_68 hl rfl rfl (by decide) rfl (fun ls hl => ?_)
            refine lv_goto (tgt := 5) hx hb d_R_leastStart_71 (by decide) ?_
            exact ih_5 u27 x1 x2 x3 (x4 + 1) _ _ _ hP hD hS (lv_sub hl [2, 3, 4, 5, 0] rfl) hw
          · replace hw := hw.2 hc
            refine lv_iload_n hx hb d_R_leastStart_44 rfl (lv_at hl 4 rfl) ?_
            refine lv_iconst (v := (-1)) hx hb d_R_leastStart_45 (by decide) ?_
            refine lv_icmp_eq (tgt := 65) hx hb d_R_leastStart_46 (by decide) (fun hc => ?_) (fun hc => ?_)
            · replace hw := hw.1 hc
              refine lv_iload hx hb d_R_leastStart_65 (lv_at hl 0 rfl) ?_
              refine lv_istore_n (lv' := [(3, .int (g.1 14 x4.toNatClampNeg)), (5, .int (g.1 14 x4.toNatClampNeg)), (0, .ref (a 9)), (1, .int x1), (2, .int x2), (4, .int x4)]) hx hb d_R_leastStart_67 rfl hl (by decide) rfl (fun ls hl => ?_)
              refine lv_iinc (k := 5) (v := x4 + 1) (lv' := [(4, .int (x4 + 1)), (3, .int (g.1 14 x4.toNatClampNeg)), (5, .int (g.1 14 x4.toNatClampNeg)), (0, .ref (a 9)), (1, .int x1), (2, .int x2)]) hx hb d_R_leastStart_68 hl rfl rfl (by decide) rfl (fun ls hl => ?_)
              refine lv_goto (tgt := 5) hx hb d_R_leastStart_71 (by decide) ?_
              exact ih_5 u27 x1 x2 (g.1 14 x4.toNatClampNeg) (x4 + 1) _ _ _ hP hD hS (lv_sub hl [3, 4, 5, 1, 0] rfl) hw
            · replace hw := hw.2 hc
              refine lv_aload_n hx hb d_R_leastStart_49 rfl (lv_at hl 1 rfl) ?_
              refine va_get (D := D) (ci := 3) (C := R_R) (T := F_R) (N := 9) hx hb hts in_R hown hK hP 9 rfl rfl 1 (by decide) (hts _ tb_61) (fun _ h9 => h9) rfl d_R_leastStart_50 ?_
              refine lv_iload hx hb d_R_leastStart_53 (lv_at hl 0 rfl) ?_
              refine va_iald hx hb hK hP 11 0 rfl rfl hw.1 d_R_leastStart_55 ?_
              replace hw := hw.2
              refine lv_aload_n hx hb d_R_leastStart_56 rfl (lv_at hl 1 rfl) ?_
              refine va_get (D := D) (ci := 3) (C := R_R) (T := F_R) (N := 9) hx hb hts in_R hown hK hP 9 rfl rfl 1 (by decide) (hts _ tb_61) (fun _ h9 => h9) rfl d_R_leastStart_57 ?_
              refine lv_iload_n hx hb d_R_leastStart_60 rfl (lv_at hl 4 rfl) ?_
              refine va_iald hx hb hK hP 11 0 rfl rfl hw.1 d_R_leastStart_61 ?_
              replace hw := hw.2
              refine lv_icmp_ge (tgt := 68) hx hb d_R_leastStart_62 (by decide) (fun hc => ?_) (fun hc => ?_)
              · replace hw := hw.1 hc
                refine lv_iinc (k := 5) (v := x4 + 1) (lv' := [(4, .int (x4 + 1)), (5, .int (g.1 14 x4.toNatClampNeg)), (0, .ref (a 9)), (1, .int x1), (2, .int x2), (3, .int x3)]) hx hb d_R_leastStart_68 hl rfl rfl (by decide) rfl (fun ls hl => ?_)
                refine lv_goto (tgt := 5) hx hb d_R_leastStart_71 (by decide) ?_
                exact ih_5 u27 x1 x2 x3 (x4 + 1) _ _ _ hP hD hS (lv_sub hl [2, 3, 4, 5, 0] rfl) hw
              · replace hw := hw.2 hc
                refine lv_iload hx hb d_R_leastStart_65 (lv_at hl 0 rfl) ?_
                refine lv_istore_n (lv' := [(3, .int (g.1 14 x4.toNatClampNeg)), (5, .int (g.1 14 x4.toNatClampNeg)), (0, .ref (a 9)), (1, .int x1), (2, .int x2), (4, .int x4)]) hx hb d_R_leastStart_67 rfl hl (by decide) rfl (fun ls hl => ?_)
                refine lv_iinc (k := 5) (v := x4 + 1) (lv' := [(4, .int (x4 + 1)), (3, .int (g.1 14 x4.toNatClampNeg)), (5, .int (g.1 14 x4.toNatClampNeg)), (0, .ref (a 9)), (1, .int x1), (2, .int x2)]) hx hb d_R_leastStart_68 hl rfl rfl (by decide) rfl (fun ls hl => ?_)
                refine lv_goto (tgt := 5) hx hb d_R_leastStart_71 (by decide) ?_
                exact ih_5 u27 x1 x2 (g.1 14 x4.toNatClampNeg) (x4 + 1) _ _ _ hP hD hS (lv_sub hl [3, 4, 5, 1, 0] rfl) hw
  unfold wp_R_leastStart at hw
  refine lv_iconst (v := (-1)) hx hb d_R_leastStart_0 (by decide) ?_
  refine lv_istore_n (lv' := [(3, .int (-1)), (0, .ref (a 9)), (1, .int x1), (2, .int x2)]) hx hb d_R_leastStart_1 rfl hl (by decide) rfl (fun ls hl => ?_)
  refine lv_iconst (v := 0) hx hb d_R_leastStart_2 (by decide) ?_
  refine lv_istore (lv' := [(4, .int 0), (3, .int (-1)), (0, .ref (a 9)), (1, .int x1), (2, .int x2)]) hx hb d_R_leastStart_3 hl (by decide) rfl (fun ls hl => ?_)
  obtain ⟨n, hw⟩ := hw
  exact k_5 n g x1 x2 (-1) 0 _ _ _ hP hD hS (lv_sub hl [2, 3, 4, 1, 0] rfl) hw
set_option maxHeartbeats 4000000 in
set_option maxRecDepth 100000 in
theorem c_R_hasReady (l : Launch) (D : va_G) (a : Nat → Nat) (cI cZ : ClassId) (sz : Nat) (g : St) (x1 : Int32) (Q : Int32 → St → Prop) (hw : wp_R_hasReady g x1 Q) : MT_z l y_R_hasReady b_R_hasReady 2 rm_R_hasReady (wE a cI cZ) D (ty_ cI cZ) sz g [.ref (a 9), .int x1] Q := by
  refine MTz_of (by decide +kernel) (Nat.le_of_ble_eq_true rfl) ?_
  intro p e s m args below meth c A Qt ls hx hb hml hts hown hN hK hP hD hA hl hret
  have hS : va_S A s.heap s.heap [] := va_S.rf
  have hl : lv_has ls 2 [(0, .ref (a 9)), (1, .int x1)] := hl
  unfold wp_R_hasReady at hw
  refine lv_aload_n hx hb d_R_hasReady_0 rfl (lv_at hl 0 rfl) ?_
  refine lv_iload_n hx hb d_R_hasReady_1 rfl (lv_at hl 1 rfl) ?_
  refine lv_iconst (v := 0) hx hb d_R_hasReady_2 (by decide) ?_
  refine aft_i (va_runV (As := [.int x1, .int 0]) (rest := []) ⟨hx, hb, hml, hown, hts⟩ (c_R_leastStart l D a cI cZ _ g x1 0 _ hw) ⟨(callB_of 2 hts good_R_leastStart rfl rfl rfl (hts _ tb_3) (hts _ tb_280) hd_R_leastStart ⟨Nat.le_of_ble_eq_true rfl, Nat.le_of_ble_eq_true rfl⟩), hts _ tb_270, hts _ ts_17⟩ (preV 9 3 hP hD hK hN rfl rfl) rfl rfl hl.1 rfl (lv_room (Nat.le_of_ble_eq_true rfl)) d_R_hasReady_3 ⟨Nat.zero_le _, Nat.zero_le _⟩) hD hS hA hK (fun r3 u3 H locs hw hP hD hS => ?_)
  refine lv_iconst (v := (-1)) hx hb d_R_hasReady_6 (by decide) ?_
  refine lv_icmp_eq (tgt := 14) hx hb d_R_hasReady_7 (by decide) (fun hc => ?_) (fun hc => ?_)
  · replace hw := hw.1 hc
    refine lv_iconst (v := 0) hx hb d_R_hasReady_14 (by decide) ?_
    exact hret _ _ _ _ _ _ rfl hw hP hD hS d_R_hasReady_15
  · replace hw := hw.2 hc
    refine lv_iconst (v := 1) hx hb d_R_hasReady_10 (by decide) ?_
    refine lv_goto (tgt := 15) hx hb d_R_hasReady_11 (by decide) ?_
    exact hret _ _ _ _ _ _ rfl hw hP hD hS d_R_hasReady_15
set_option maxHeartbeats 4000000 in
set_option maxRecDepth 100000 in
theorem c_R_leastExpired (l : Launch) (D : va_G) (a : Nat → Nat) (cI cZ : ClassId) (sz : Nat) (g : St) (x1 : Int32) (x2 : Int32) (Q : Int32 → St → Prop) (hw : wp_R_leastExpired g x1 x2 Q) : MT_i l y_R_leastExpired b_R_leastExpired 6 rm_R_leastExpired (wE a cI cZ) D (ty_ cI cZ) sz g [.ref (a 9), .int x1, .int x2] Q := by
  refine MTi_of (by decide +kernel) (Nat.le_of_ble_eq_true rfl) ?_
  intro p e s m args below meth c A Qt ls hx hb hml hts hown hN hK hP hD hA hl hret
  have hS : va_S A s.heap s.heap [] := va_S.rf
  have hl : lv_has ls 6 [(0, .ref (a 9)), (1, .int x1), (2, .int x2)] := hl
  have k_5 : ∀ (n : Nat) (g : St) (x1 : Int32) (x2 : Int32) (x3 : Int32) (x4 : Int32) (H : Heap) (locs : List Loc) (ls : Array Slot), va_P D cls_ (wE a cI cZ g) H → va_D A (wE a cI cZ g) → va_S A s.heap H locs → lv_has ls 6 [(0, .ref (a 9)), (1, .int x1), (2, .int x2), (3, .int x3), (4, .int x4)] → wl_R_leastExpired_5 Q n g x1 x2 x3 x4 → W p l e rm_R_leastExpired s m args below meth c H locs 0 0 Qt (F0 m 5 ls []) := by
    intro n
    induction n with
    | zero => intro g x1 x2 x3 x4 H locs ls hP hD hS hl hw; exact False.elim hw
    | succ n_5 ih_5 =>
      intro g x1 x2 x3 x4 H locs ls hP hD hS hl hw
      unfold wl_R_leastExpired_5 at hw
      refine lv_iload hx hb d_R_leastExpired_5 (lv_at hl 4 rfl) ?_
      refine lv_aload_n hx hb d_R_leastExpired_7 rfl (lv_at hl 0 rfl) ?_
      refine va_get (D := D) (ci := 3) (C := R_R) (T := F_R) (N := 9) hx hb hts in_R hown hK hP 9 rfl rfl 8 (by decide) (hts _ tb_75) (fun _ h9 => h9) rfl d_R_leastExpired_8 ?_
      refine lv_icmp_ge (tgt := 74) hx hb d_R_leastExpired_11 (by decide) (fun hc => ?_) (fun hc => ?_)
      · replace hw := hw.1 hc
        refine lv_iload_n hx hb d_R_leastExpired_74 rfl (lv_at hl 3 rfl) ?_
        exact hret _ _ _ _ _ _ hw hP hD hS d_R_leastExpired_75
      · replace hw := hw.2 hc
        refine lv_aload_n hx hb d_R_leastExpired_14 rfl (lv_at hl 0 rfl) ?_
        refine va_get (D := D) (ci := 3) (C := R_R) (T := F_R) (N := 9) hx hb hts in_R hown hK hP 9 rfl rfl 7 (by decide) (hts _ tb_73) (fun _ h9 => h9) rfl d_R_leastExpired_15 ?_
        refine lv_iload hx hb d_R_leastExpired_18 (lv_at hl 4 rfl) ?_
        refine va_iald hx hb hK hP 17 0 rfl rfl hw.1 d_R_leastExpired_20 ?_
        replace hw := hw.2
        refine lv_istore (lv' := [(5, .int (g.1 14 x4.toNatClampNeg)), (0, .ref (a 9)), (1, .int x1), (2, .int x2), (3, .int x3), (4, .int x4)]) hx hb d_R_leastExpired_21 hl (by decide) rfl (fun ls hl => ?_)
        refine lv_aload_n hx hb d_R_leastExpired_23 rfl (lv_at hl 1 rfl) ?_
        refine lv_iload hx hb d_R_leastExpired_24 (lv_at hl 0 rfl) ?_
        refine lv_iload_n hx hb d_R_leastExpired_26 rfl (lv_at hl 2 rfl) ?_
        refine aft_i (va_runV (As := [.int (g.1 14 x4.toNatClampNeg), .int x1]) (rest := []) ⟨hx, hb, hml, hown, hts⟩ (c_R_isReady l D a cI cZ _ g (g.1 14 x4.toNatClampNeg) x1 _ hw) ⟨(callB_of 2 hts good_R_isReady rfl rfl rfl (hts _ tb_3) (hts _ tb_272) hd_R_isReady ⟨Nat.le_of_ble_eq_true rfl, Nat.le_of_ble_eq_true rfl⟩), hts _ tb_274, hts _ ts_18⟩ (preV 9 3 hP hD hK hN rfl rfl) rfl rfl hl.1 rfl (lv_room (Nat.le_of_ble_eq_true rfl)) d_R_leastExpired_27 ⟨Nat.zero_le _, Nat.zero_le _⟩) hD hS hA hK (fun r27 u27 H locs hw hP hD hS => ?_)
        refine lv_if_eq (tgt := 68) hx hb d_R_leastExpired_30 (by decide) (fun hc => ?_) (fun hc => ?_)
        · replace hw := hw.1 hc
          refine lv_iinc (k := 5) (v := x4 + 1) (lv' := [(4, .int (x4 + 1)), (5, .int (g.1 14 x4.toNatClampNeg)), (0, .ref (a 9)), (1, .int x1), (2, .int x2), (3, .int x3)]) hx hb d_R_leastExpired_68 hl rfl rfl (by decide) rfl (fun ls hl => ?_)
          refine lv_goto (tgt := 5) hx hb d_R_leastExpired_71 (by decide) ?_
          exact ih_5 u27 x1 x2 x3 (x4 + 1) _ _ _ hP hD hS (lv_sub hl [2, 3, 4, 5, 0] rfl) hw
        · replace hw := hw.2 hc
          refine lv_aload_n hx hb d_R_leastExpired_33 rfl (lv_at hl 1 rfl) ?_
          refine va_get (D := D) (ci := 3) (C := R_R) (T := F_R) (N := 9) hx hb hts in_R hown hK hP 9 rfl rfl 4 (by decide) (hts _ tb_67) (fun _ h9 => h9) rfl d_R_leastExpired_34 ?_
          refine lv_iload hx hb d_R_leastExpired_37 (lv_at hl 0 rfl) ?_
          refine va_iald hx hb hK hP 14 0 rfl rfl hw.1 d_R_leastExpired_39 ?_
          replace hw := hw.2
          refine lv_iload_n hx hb d_R_leastExpired_40 rfl (lv_at hl 3 rfl) ?_
          refine lv_icmp_gt (tgt := 68) hx hb d_R_leastExpired_41 (by decide) (fun hc => ?_) (fun hc => ?_)
          · replace hw := hw.1 hc
            refine lv_iinc (k := 5) (v := x4 + 1) (lv' := [(4, .int (x4 + 1)), (5, .int (g.1 14 x4.toNatClampNeg)), (0, .ref (a 9)), (1, .int x1), (2, .int x2), (3, .int x3)]) hx hb d_R_leastExpired_68 hl rfl rfl (by decide) rfl (fun ls hl => ?_)
            refine lv_goto (tgt := 5) hx hb d_R_leastExpired_71 (by decide) ?_
            exact ih_5 u27 x1 x2 x3 (x4 + 1) _ _ _ hP hD hS (lv_sub hl [2, 3, 4, 5, 0] rfl) hw
          · replace hw := hw.2 hc
            refine lv_iload_n hx hb d_R_leastExpired_44 rfl (lv_at hl 4 rfl) ?_
            refine lv_iconst (v := (-1)) hx hb d_R_leastExpired_45 (by decide) ?_
            refine lv_icmp_eq (tgt := 65) hx hb d_R_leastExpired_46 (by decide) (fun hc => ?_) (fun hc => ?_)
            · replace hw := hw.1 hc
              refine lv_iload hx hb d_R_leastExpired_65 (lv_at hl 0 rfl) ?_
              refine lv_istore_n (lv' := [(3, .int (g.1 14 x4.toNatClampNeg)), (5, .int (g.1 14 x4.toNatClampNeg)), (0, .ref (a 9)), (1, .int x1), (2, .int x2), (4, .int x4)]) hx hb d_R_leastExpired_67 rfl hl (by decide) rfl (fun ls hl => ?_)
              refine lv_iinc (k := 5) (v := x4 + 1) (lv' := [(4, .int (x4 + 1)), (3, .int (g.1 14 x4.toNatClampNeg)), (5, .int (g.1 14 x4.toNatClampNeg)), (0, .ref (a 9)), (1, .int x1), (2, .int x2)]) hx hb d_R_leastExpired_68 hl rfl rfl (by decide) rfl (fun ls hl => ?_)
              refine lv_goto (tgt := 5) hx hb d_R_leastExpired_71 (by decide) ?_
              exact ih_5 u27 x1 x2 (g.1 14 x4.toNatClampNeg) (x4 + 1) _ _ _ hP hD hS (lv_sub hl [3, 4, 5, 1, 0] rfl) hw
            · replace hw := hw.2 hc
              refine lv_aload_n hx hb d_R_leastExpired_49 rfl (lv_at hl 1 rfl) ?_
              refine va_get (D := D) (ci := 3) (C := R_R) (T := F_R) (N := 9) hx hb hts in_R hown hK hP 9 rfl rfl 4 (by decide) (hts _ tb_67) (fun _ h9 => h9) rfl d_R_leastExpired_50 ?_
              refine lv_iload hx hb d_R_leastExpired_53 (lv_at hl 0 rfl) ?_
              refine va_iald hx hb hK hP 14 0 rfl rfl hw.1 d_R_leastExpired_55 ?_
              replace hw := hw.2
              refine lv_aload_n hx hb d_R_leastExpired_56 rfl (lv_at hl 1 rfl) ?_
              refine va_get (D := D) (ci := 3) (C := R_R) (T := F_R) (N := 9) hx hb hts in_R hown hK hP 9 rfl rfl 4 (by decide) (hts _ tb_67) (fun _ h9 => h9) rfl d_R_leastExpired_57 ?_
              refine lv_iload_n hx hb d_R_leastExpired_60 rfl (lv_at hl 4 rfl) ?_
              refine va_iald hx hb hK hP 14 0 rfl rfl hw.1 d_R_leastExpired_61 ?_
              replace hw := hw.2
              refine lv_icmp_ge (tgt := 68) hx hb d_R_leastExpired_62 (by decide) (fun hc => ?_) (fun hc => ?_)
              · replace hw := hw.1 hc
                refine lv_iinc (k := 5) (v := x4 + 1) (lv' := [(4, .int (x4 + 1)), (5, .int (g.1 14 x4.toNatClampNeg)), (0, .ref (a 9)), (1, .int x1), (2, .int x2), (3, .int x3)]) hx hb d_R_leastExpired_68 hl rfl rfl (by decide) rfl (fun ls hl => ?_)
                refine lv_goto (tgt := 5) hx hb d_R_leastExpired_71 (by decide) ?_
                exact ih_5 u27 x1 x2 x3 (x4 + 1) _ _ _ hP hD hS (lv_sub hl [2, 3, 4, 5, 0] rfl) hw
              · replace hw := hw.2 hc
                refine lv_iload hx hb d_R_leastExpired_65 (lv_at hl 0 rfl) ?_
                refine lv_istore_n (lv' := [(3, .int (g.1 14 x4.toNatClampNeg)), (5, .int (g.1 14 x4.toNatClampNeg)), (0, .ref (a 9)), (1, .int x1), (2, .int x2), (4, .int x4)]) hx hb d_R_leastExpired_67 rfl hl (by decide) rfl (fun ls hl => ?_)
                refine lv_iinc (k := 5) (v := x4 + 1) (lv' := [(4, .int (x4 + 1)), (3, .int (g.1 14 x4.toNatClampNeg)), (5, .int (g.1 14 x4.toNatClampNeg)), (0, .ref (a 9)), (1, .int x1), (2, .int x2)]) hx hb d_R_leastExpired_68 hl rfl rfl (by decide) rfl (fun ls hl => ?_)
                refine lv_goto (tgt := 5) hx hb d_R_leastExpired_71 (by decide) ?_
                exact ih_5 u27 x1 x2 (g.1 14 x4.toNatClampNeg) (x4 + 1) _ _ _ hP hD hS (lv_sub hl [3, 4, 5, 1, 0] rfl) hw
  unfold wp_R_leastExpired at hw
  refine lv_iconst (v := (-1)) hx hb d_R_leastExpired_0 (by decide) ?_
  refine lv_istore_n (lv' := [(3, .int (-1)), (0, .ref (a 9)), (1, .int x1), (2, .int x2)]) hx hb d_R_leastExpired_1 rfl hl (by decide) rfl (fun ls hl => ?_)
  refine lv_iconst (v := 0) hx hb d_R_leastExpired_2 (by decide) ?_
  refine lv_istore (lv' := [(4, .int 0), (3, .int (-1)), (0, .ref (a 9)), (1, .int x1), (2, .int x2)]) hx hb d_R_leastExpired_3 hl (by decide) rfl (fun ls hl => ?_)
  obtain ⟨n, hw⟩ := hw
  exact k_5 n g x1 x2 (-1) 0 _ _ _ hP hD hS (lv_sub hl [2, 3, 4, 1, 0] rfl) hw
set_option maxHeartbeats 4000000 in
set_option maxRecDepth 100000 in
theorem c_E_isOnDisk (l : Launch) (D : va_G) (a : Nat → Nat) (cI cZ : ClassId) (sz : Nat) (g : St) (x0 : Int32) (x1 : Int32) (Q : Int32 → St → Prop) (hw : wp_E_isOnDisk g x0 x1 Q) : MT_z l y_E_isOnDisk b_E_isOnDisk 2 rm_E_isOnDisk (wE a cI cZ) D (ty_ cI cZ) sz g [.int x0, .int x1] Q := by
  refine MTz_of (by decide +kernel) (Nat.le_of_ble_eq_true rfl) ?_
  intro p e s m args below meth c A Qt ls hx hb hml hts hown hN hK hP hD hA hl hret
  have hS : va_S A s.heap s.heap [] := va_S.rf
  have hl : lv_has ls 2 [(0, .int x0), (1, .int x1)] := hl
  unfold wp_E_isOnDisk at hw
  refine lv_iload_n hx hb d_E_isOnDisk_0 rfl (lv_at hl 1 rfl) ?_
  refine lv_iconst (v := 1) hx hb d_E_isOnDisk_1 (by decide) ?_
  refine lv_icmp_lt (tgt := 27) hx hb d_E_isOnDisk_2 (by decide) (fun hc => ?_) (fun hc => ?_)
  · replace hw := hw.1 hc
    refine lv_iconst (v := 0) hx hb d_E_isOnDisk_27 (by decide) ?_
    exact hret _ _ _ _ _ _ rfl hw hP hD hS d_E_isOnDisk_28
  · replace hw := hw.2 hc
    refine lv_iload_n hx hb d_E_isOnDisk_5 rfl (lv_at hl 1 rfl) ?_
    refine lv_bipush (v := 8) hx hb d_E_isOnDisk_6 (by decide) ?_
    refine lv_icmp_gt (tgt := 27) hx hb d_E_isOnDisk_8 (by decide) (fun hc => ?_) (fun hc => ?_)
    · replace hw := hw.1 hc
      refine lv_iconst (v := 0) hx hb d_E_isOnDisk_27 (by decide) ?_
      exact hret _ _ _ _ _ _ rfl hw hP hD hS d_E_isOnDisk_28
    · replace hw := hw.2 hc
      refine lv_iload_n hx hb d_E_isOnDisk_11 rfl (lv_at hl 0 rfl) ?_
      refine lv_if_lt (tgt := 27) hx hb d_E_isOnDisk_12 (by decide) (fun hc => ?_) (fun hc => ?_)
      · replace hw := hw.1 hc
        refine lv_iconst (v := 0) hx hb d_E_isOnDisk_27 (by decide) ?_
        exact hret _ _ _ _ _ _ rfl hw hP hD hS d_E_isOnDisk_28
      · replace hw := hw.2 hc
        refine lv_iload_n hx hb d_E_isOnDisk_15 rfl (lv_at hl 0 rfl) ?_
        refine lv_bipush (v := 64) hx hb d_E_isOnDisk_16 (by decide) ?_
        refine lv_iload_n hx hb d_E_isOnDisk_18 rfl (lv_at hl 1 rfl) ?_
        refine lv_isub hx hb d_E_isOnDisk_19 ?_
        refine lv_icmp_gt (tgt := 27) hx hb d_E_isOnDisk_20 (by decide) (fun hc => ?_) (fun hc => ?_)
        · replace hw := hw.1 hc
          refine lv_iconst (v := 0) hx hb d_E_isOnDisk_27 (by decide) ?_
          exact hret _ _ _ _ _ _ rfl hw hP hD hS d_E_isOnDisk_28
        · replace hw := hw.2 hc
          refine lv_iconst (v := 1) hx hb d_E_isOnDisk_23 (by decide) ?_
          refine lv_goto (tgt := 28) hx hb d_E_isOnDisk_24 (by decide) ?_
          exact hret _ _ _ _ _ _ rfl hw hP hD hS d_E_isOnDisk_28
set_option maxHeartbeats 4000000 in
set_option maxRecDepth 100000 in
theorem c_E_claimAllWaiting (l : Launch) (D : va_G) (a : Nat → Nat) (cI cZ : ClassId) (sz : Nat) (g : St) (Q : St → Prop) (hw : wp_E_claimAllWaiting g Q) : MT_v l y_E_claimAllWaiting b_E_claimAllWaiting 2 rm_E_claimAllWaiting (wE a cI cZ) D (ty_ cI cZ) sz g [.ref (a 0)] Q := by
  refine MTv_of (by decide +kernel) (Nat.le_of_ble_eq_true rfl) ?_
  intro p e s m args below meth c A Qt ls hx hb hml hts hown hN hK hP hD hA hl hret
  have hS : va_S A s.heap s.heap [] := va_S.rf
  have hl : lv_has ls 2 [(0, .ref (a 0))] := hl
  have k_9 : ∀ (n : Nat) (g : St) (x1 : Int32) (H : Heap) (locs : List Loc) (ls : Array Slot), va_P D cls_ (wE a cI cZ g) H → va_D A (wE a cI cZ g) → va_S A s.heap H locs → lv_has ls 2 [(0, .ref (a 0)), (1, .int x1)] → wl_E_claimAllWaiting_9 Q n g x1 → W p l e rm_E_claimAllWaiting s m args below meth c H locs 0 0 Qt (F0 m 9 ls []) := by
    intro n
    induction n with
    | zero => intro g x1 H locs ls hP hD hS hl hw; exact False.elim hw
    | succ n_9 ih_9 =>
      intro g x1 H locs ls hP hD hS hl hw
      unfold wl_E_claimAllWaiting_9 at hw
      refine lv_iload_n hx hb d_E_claimAllWaiting_9 rfl (lv_at hl 1 rfl) ?_
      refine lv_aload_n hx hb d_E_claimAllWaiting_10 rfl (lv_at hl 0 rfl) ?_
      refine va_get (D := D) (ci := 4) (C := R_E) (T := F_E) (N := 11) hx hb hts in_E hown hK hP 0 rfl rfl 1 (by decide) (hts _ tb_129) (fun _ h9 => h9) rfl d_E_claimAllWaiting_11 ?_
      refine va_getN (D := D) (ci := 2) (C := R_P) (T := F_P) (N := 7) hx hb hts in_P hown hK hP 2 rfl rfl 6 (by decide) (va_Nw.use rfl (hN _ tn_35)) (fun _ h9 => h9) rfl d_E_claimAllWaiting_14 ?_
      refine lv_icmp_ge (tgt := 62) hx hb d_E_claimAllWaiting_17 (by decide) (fun hc => ?_) (fun hc => ?_)
      · replace hw := hw.1 hc
        exact hret _ _ _ _ _ hw hP hD hS d_E_claimAllWaiting_62
      · replace hw := hw.2 hc
        refine lv_aload_n hx hb d_E_claimAllWaiting_20 rfl (lv_at hl 0 rfl) ?_
        refine va_get (D := D) (ci := 4) (C := R_E) (T := F_E) (N := 11) hx hb hts in_E hown hK hP 0 rfl rfl 1 (by decide) (hts _ tb_129) (fun _ h9 => h9) rfl d_E_claimAllWaiting_21 ?_
        refine va_getN (D := D) (ci := 2) (C := R_P) (T := F_P) (N := 7) hx hb hts in_P hown hK hP 2 rfl rfl 4 (by decide) (va_Nw.use rfl (hN _ tn_31)) (fun _ h9 => h9) rfl d_E_claimAllWaiting_24 ?_
        refine lv_iload_n hx hb d_E_claimAllWaiting_27 rfl (lv_at hl 1 rfl) ?_
        refine va_zald hx hb hK hP 7 1 rfl rfl hw.1 d_E_claimAllWaiting_28 ?_
        replace hw := hw.2
        refine lv_if_ne (tgt := 56) hx hb d_E_claimAllWaiting_29 (by decide) (fun hc => ?_) (fun hc => ?_)
        · replace hw := hw.1 hc
          refine lv_iinc (k := 1) (v := x1 + 1) (lv' := [(1, .int (x1 + 1)), (0, .ref (a 0))]) hx hb d_E_claimAllWaiting_56 hl rfl rfl (by decide) rfl (fun ls hl => ?_)
          refine lv_goto (tgt := 9) hx hb d_E_claimAllWaiting_59 (by decide) ?_
          exact ih_9 g (x1 + 1) _ _ _ hP hD hS (lv_sub hl [1, 0] rfl) hw
        · replace hw := hw.2 hc
          refine lv_aload_n hx hb d_E_claimAllWaiting_32 rfl (lv_at hl 0 rfl) ?_
          refine va_get (D := D) (ci := 4) (C := R_E) (T := F_E) (N := 11) hx hb hts in_E hown hK hP 0 rfl rfl 3 (by decide) (hts _ tb_131) (fun _ h9 => h9) rfl d_E_claimAllWaiting_33 ?_
          refine lv_aload_n hx hb d_E_claimAllWaiting_36 rfl (lv_at hl 0 rfl) ?_
          refine va_get (D := D) (ci := 4) (C := R_E) (T := F_E) (N := 11) hx hb hts in_E hown hK hP 0 rfl rfl 1 (by decide) (hts _ tb_129) (fun _ h9 => h9) rfl d_E_claimAllWaiting_37 ?_
          refine va_getN (D := D) (ci := 2) (C := R_P) (T := F_P) (N := 7) hx hb hts in_P hown hK hP 2 rfl rfl 0 (by decide) (va_Nw.use rfl (hN _ tn_24)) (fun _ h9 => h9) rfl d_E_claimAllWaiting_40 ?_
          refine lv_iload_n hx hb d_E_claimAllWaiting_43 rfl (lv_at hl 1 rfl) ?_
          refine va_iald hx hb hK hP 3 0 rfl rfl hw.1 d_E_claimAllWaiting_44 ?_
          replace hw := hw.2
          refine lv_aload_n hx hb d_E_claimAllWaiting_45 rfl (lv_at hl 0 rfl) ?_
          refine va_get (D := D) (ci := 4) (C := R_E) (T := F_E) (N := 11) hx hb hts in_E hown hK hP 0 rfl rfl 1 (by decide) (hts _ tb_129) (fun _ h9 => h9) rfl d_E_claimAllWaiting_46 ?_
          refine lv_iload_n hx hb d_E_claimAllWaiting_49 rfl (lv_at hl 1 rfl) ?_
          refine aft_l (va_runVN (As := [.int x1]) (rest := [.int (g.1 1 x1.toNatClampNeg), .ref (a 18)]) ⟨hx, hb, hml, hown, hts⟩ (c_P_sectors l D a cI cZ _ g x1 _ hw) ⟨(va_cnB 1 hts good_P_sectors rfl rfl rfl (hN _ tn_185) (hts _ tb_2) hd_P_sectors ⟨Nat.le_of_ble_eq_true rfl, Nat.le_of_ble_eq_true rfl⟩), hts _ tb_187, hts _ ts_4⟩ (preV 2 2 hP hD hK hN rfl rfl) rfl rfl hl.1 rfl (lv_room (Nat.le_of_ble_eq_true rfl)) d_E_claimAllWaiting_50 ⟨Nat.zero_le _, Nat.zero_le _⟩) hD hS hA hK (fun r50 u50 H locs hw hP hD hS => ?_)
          refine aft_v (va_runVN (As := [.int (g.1 1 x1.toNatClampNeg), .long r50]) (rest := []) ⟨hx, hb, hml, hown, hts⟩ (c_C_add l D a cI cZ _ u50 (g.1 1 x1.toNatClampNeg) r50 _ hw) ⟨(va_cnB 2 hts good_C_add rfl rfl rfl (hN _ tn_192) (hts _ tb_4) hd_C_add ⟨Nat.le_of_ble_eq_true rfl, Nat.le_of_ble_eq_true rfl⟩), hts _ tb_194, hts _ ts_5⟩ (preV 18 1 hP hD hK hN rfl rfl) rfl rfl hl.1 rfl (lv_room (Nat.le_of_ble_eq_true rfl)) d_E_claimAllWaiting_53 ⟨Nat.zero_le _, Nat.zero_le _⟩) hD hS hA hK (fun u53 H locs hw hP hD hS => ?_)
          refine lv_iinc (k := 1) (v := x1 + 1) (lv' := [(1, .int (x1 + 1)), (0, .ref (a 0))]) hx hb d_E_claimAllWaiting_56 hl rfl rfl (by decide) rfl (fun ls hl => ?_)
          refine lv_goto (tgt := 9) hx hb d_E_claimAllWaiting_59 (by decide) ?_
          exact ih_9 u53 (x1 + 1) _ _ _ hP hD hS (lv_sub hl [1, 0] rfl) hw
  unfold wp_E_claimAllWaiting at hw
  refine lv_aload_n hx hb d_E_claimAllWaiting_0 rfl (lv_at hl 0 rfl) ?_
  refine va_get (D := D) (ci := 4) (C := R_E) (T := F_E) (N := 11) hx hb hts in_E hown hK hP 0 rfl rfl 3 (by decide) (hts _ tb_131) (fun _ h9 => h9) rfl d_E_claimAllWaiting_1 ?_
  refine aft_v (va_runVN (As := []) (rest := []) ⟨hx, hb, hml, hown, hts⟩ (c_C_clear l D a cI cZ _ g _ hw) ⟨(va_cnB 0 hts good_C_clear rfl rfl rfl (hN _ tn_181) (hts _ tb_4) hd_C_clear ⟨Nat.le_of_ble_eq_true rfl, Nat.le_of_ble_eq_true rfl⟩), hts _ tb_183, hts _ ts_3⟩ (preV 18 1 hP hD hK hN rfl rfl) rfl rfl hl.1 rfl (lv_room (Nat.le_of_ble_eq_true rfl)) d_E_claimAllWaiting_4 ⟨Nat.zero_le _, Nat.zero_le _⟩) hD hS hA hK (fun u4 H locs hw hP hD hS => ?_)
  refine lv_iconst (v := 0) hx hb d_E_claimAllWaiting_7 (by decide) ?_
  refine lv_istore_n (lv' := [(1, .int 0), (0, .ref (a 0))]) hx hb d_E_claimAllWaiting_8 rfl hl (by decide) rfl (fun ls hl => ?_)
  obtain ⟨n, hw⟩ := hw
  exact k_9 n u4 0 _ _ _ hP hD hS (lv_sub hl [1, 0] rfl) hw
set_option maxHeartbeats 4000000 in
set_option maxRecDepth 100000 in
theorem c_E_hostFor (l : Launch) (D : va_G) (a : Nat → Nat) (cI cZ : ClassId) (sz : Nat) (g : St) (x1 : Int32) (x2 : Int32) (x3 : Int32) (Q : Int32 → St → Prop) (hw : wp_E_hostFor g x1 x2 x3 Q) : MT_i l y_E_hostFor b_E_hostFor 4 rm_E_hostFor (wE a cI cZ) D (ty_ cI cZ) sz g [.ref (a 0), .int x1, .int x2, .int x3] Q := by
  refine MTi_of (by decide +kernel) (Nat.le_of_ble_eq_true rfl) ?_
  intro p e s m args below meth c A Qt ls hx hb hml hts hown hN hK hP hD hA hl hret
  have hS : va_S A s.heap s.heap [] := va_S.rf
  have hl : lv_has ls 4 [(0, .ref (a 0)), (1, .int x1), (2, .int x2), (3, .int x3)] := hl
  unfold wp_E_hostFor at hw
  refine lv_aload_n hx hb d_E_hostFor_0 rfl (lv_at hl 0 rfl) ?_
  refine aft_v (va_runV (As := []) (rest := []) ⟨hx, hb, hml, hown, hts⟩ (c_E_claimAllWaiting l D a cI cZ _ g _ hw) ⟨(callB_of 0 hts good_E_claimAllWaiting rfl rfl rfl (hts _ tb_1) (hts _ tb_177) hd_E_claimAllWaiting ⟨Nat.le_of_ble_eq_true rfl, Nat.le_of_ble_eq_true rfl⟩), hts _ tb_179, hts _ ts_2⟩ (preV 0 4 hP hD hK hN rfl rfl) rfl rfl hl.1 rfl (lv_room (Nat.le_of_ble_eq_true rfl)) d_E_hostFor_1 ⟨Nat.zero_le _, Nat.zero_le _⟩) hD hS hA hK (fun u1 H locs hw hP hD hS => ?_)
  refine lv_aload_n hx hb d_E_hostFor_4 rfl (lv_at hl 0 rfl) ?_
  refine va_get (D := D) (ci := 4) (C := R_E) (T := F_E) (N := 11) hx hb hts in_E hown hK hP 0 rfl rfl 3 (by decide) (hts _ tb_131) (fun _ h9 => h9) rfl d_E_hostFor_5 ?_
  refine lv_iload_n hx hb d_E_hostFor_8 rfl (lv_at hl 1 rfl) ?_
  refine lv_iload_n hx hb d_E_hostFor_9 rfl (lv_at hl 2 rfl) ?_
  refine lv_iload_n hx hb d_E_hostFor_10 rfl (lv_at hl 3 rfl) ?_
  refine aft_l (va_runS (As := [.int x2, .int x3]) (rest := [.int x1, .ref (a 18)]) ⟨hx, hb, hml, hown, hts⟩ (c_E_sectorsFrom l D a cI cZ _ u1 x2 x3 _ hw) ⟨(callB_of 2 hts good_E_sectorsFrom rfl rfl rfl (hts _ tb_1) (hts _ tb_196) hd_E_sectorsFrom ⟨Nat.le_of_ble_eq_true rfl, Nat.le_of_ble_eq_true rfl⟩), (hts _ tb_190)⟩ (preS hP hD hK hN) rfl rfl hl.1 rfl (lv_room (Nat.le_of_ble_eq_true rfl)) d_E_hostFor_11 ⟨Nat.zero_le _, Nat.zero_le _⟩) hD hS hA hK (fun r11 u11 H locs hw hP hD hS => ?_)
  refine aft_i (va_runVN (As := [.int x1, .long r11]) (rest := []) ⟨hx, hb, hml, hown, hts⟩ (c_C_conflictWith l D a cI cZ _ u11 x1 r11 _ hw) ⟨(va_cnB 2 hts good_C_conflictWith rfl rfl rfl (hN _ tn_197) (hts _ tb_4) hd_C_conflictWith ⟨Nat.le_of_ble_eq_true rfl, Nat.le_of_ble_eq_true rfl⟩), hts _ tb_199, hts _ ts_6⟩ (preV 18 1 hP hD hK hN rfl rfl) rfl rfl hl.1 rfl (lv_room (Nat.le_of_ble_eq_true rfl)) d_E_hostFor_14 ⟨Nat.zero_le _, Nat.zero_le _⟩) hD hS hA hK (fun r14 u14 H locs hw hP hD hS => ?_)
  refine lv_if_eq (tgt := 22) hx hb d_E_hostFor_17 (by decide) (fun hc => ?_) (fun hc => ?_)
  · replace hw := hw.1 hc
    refine lv_aload_n hx hb d_E_hostFor_22 rfl (lv_at hl 0 rfl) ?_
    refine va_get (D := D) (ci := 4) (C := R_E) (T := F_E) (N := 11) hx hb hts in_E hown hK hP 0 rfl rfl 2 (by decide) (hts _ tb_130) (fun _ h9 => h9) rfl d_E_hostFor_23 ?_
    refine lv_iload_n hx hb d_E_hostFor_26 rfl (lv_at hl 1 rfl) ?_
    refine lv_iload_n hx hb d_E_hostFor_27 rfl (lv_at hl 2 rfl) ?_
    refine lv_iload_n hx hb d_E_hostFor_28 rfl (lv_at hl 3 rfl) ?_
    refine lv_aload_n hx hb d_E_hostFor_29 rfl (lv_at hl 0 rfl) ?_
    refine va_get (D := D) (ci := 4) (C := R_E) (T := F_E) (N := 11) hx hb hts in_E hown hK hP 0 rfl rfl 7 (by decide) (hts _ tb_135) (fun _ h9 => h9) rfl d_E_hostFor_30 ?_
    refine aft_i (va_runVN (As := [.int x1, .int x2, .int x3, .int (u14.2.1 7)]) (rest := []) ⟨hx, hb, hml, hown, hts⟩ (c_R_neighbourOf l D a cI cZ _ u14 x1 x2 x3 (u14.2.1 7) _ hw) ⟨(va_cnB 4 hts good_R_neighbourOf rfl rfl rfl (hN _ tn_201) (hts _ tb_3) hd_R_neighbourOf ⟨Nat.le_of_ble_eq_true rfl, Nat.le_of_ble_eq_true rfl⟩), hts _ tb_203, hts _ ts_7⟩ (preV 9 3 hP hD hK hN rfl rfl) rfl rfl hl.1 rfl (lv_room (Nat.le_of_ble_eq_true rfl)) d_E_hostFor_33 ⟨Nat.zero_le _, Nat.zero_le _⟩) hD hS hA hK (fun r33 u33 H locs hw hP hD hS => ?_)
    exact hret _ _ _ _ _ _ hw hP hD hS d_E_hostFor_36
  · replace hw := hw.2 hc
    refine lv_iconst (v := (-1)) hx hb d_E_hostFor_20 (by decide) ?_
    exact hret _ _ _ _ _ _ hw hP hD hS d_E_hostFor_21
end
section
set_option maxHeartbeats 4000000 in
set_option maxRecDepth 100000 in
theorem c_E_take (l : Launch) (D : va_G) (a : Nat → Nat) (cI cZ : ClassId) (sz : Nat) (g : St) (x1 : Int32) (x2 : Int32) (x3 : Int32) (x4 : Int32) (Q : Int32 → St → Prop) (hw : wp_E_take g x1 x2 x3 x4 Q) : MT_i l y_E_take b_E_take 8 rm_E_take (wE a cI cZ) D (ty_ cI cZ) sz g [.ref (a 0), .int x1, .int x2, .int x3, .int x4] Q := by
  refine MTi_of (by decide +kernel) (Nat.le_of_ble_eq_true rfl) ?_
  intro p e s m args below meth c A Qt ls hx hb hml hts hown hN hK hP hD hA hl hret
  have hS : va_S A s.heap s.heap [] := va_S.rf
  have hl : lv_has ls 8 [(0, .ref (a 0)), (1, .int x1), (2, .int x2), (3, .int x3), (4, .int x4)] := hl
  have k_94 : ∀ (g : St) (x1 : Int32) (x2 : Int32) (x3 : Int32) (x6 : Int32) (z0 : Int32) (H : Heap) (locs : List Loc) (ls : Array Slot), va_P D cls_ (wE a cI cZ g) H → va_D A (wE a cI cZ g) → va_S A s.heap H locs → lv_has ls 8 [(0, .ref (a 0)), (1, .int x1), (2, .int x2), (3, .int x3), (6, .int x6)] → wb_E_take_94 Q g x1 x2 x3 x6 z0 → W p l e rm_E_take s m args below meth c H locs 0 0 Qt (F0 m 94 ls [.int z0]) := by
    intro g x1 x2 x3 x6 z0 H locs ls hP hD hS hl hw
    unfold wb_E_take_94 at hw
    refine lv_istore (lv' := [(7, .int z0), (0, .ref (a 0)), (1, .int x1), (2, .int x2), (3, .int x3), (6, .int x6)]) hx hb d_E_take_94 hl (by decide) rfl (fun ls hl => ?_)
    refine lv_aload_n hx hb d_E_take_96 rfl (lv_at hl 1 rfl) ?_
    refine va_get (D := D) (ci := 4) (C := R_E) (T := F_E) (N := 11) hx hb hts in_E hown hK hP 0 rfl rfl 2 (by decide) (hts _ tb_130) (fun _ h9 => h9) rfl d_E_take_97 ?_
    refine lv_iload hx hb d_E_take_100 (lv_at hl 5 rfl) ?_
    refine lv_iload_n hx hb d_E_take_102 rfl (lv_at hl 2 rfl) ?_
    refine lv_iload_n hx hb d_E_take_103 rfl (lv_at hl 3 rfl) ?_
    refine lv_iload_n hx hb d_E_take_104 rfl (lv_at hl 4 rfl) ?_
    refine lv_aload_n hx hb d_E_take_105 rfl (lv_at hl 1 rfl) ?_
    refine va_get (D := D) (ci := 4) (C := R_E) (T := F_E) (N := 11) hx hb hts in_E hown hK hP 0 rfl rfl 8 (by decide) (hts _ tb_136) (fun _ h9 => h9) rfl d_E_take_106 ?_
    refine lv_iload hx hb d_E_take_109 (lv_at hl 0 rfl) ?_
    refine lv_iadd hx hb d_E_take_111 ?_
    refine lv_aload_n hx hb d_E_take_112 rfl (lv_at hl 1 rfl) ?_
    refine va_get (D := D) (ci := 4) (C := R_E) (T := F_E) (N := 11) hx hb hts in_E hown hK hP 0 rfl rfl 7 (by decide) (hts _ tb_135) (fun _ h9 => h9) rfl d_E_take_113 ?_
    refine aft_v (va_runVN (As := [.int x6, .int x1, .int x2, .int x3, .int ((g.2.1 8) + z0), .int (g.2.1 7)]) (rest := []) ⟨hx, hb, hml, hown, hts⟩ (c_R_open l D a cI cZ _ g x6 x1 x2 x3 ((g.2.1 8) + z0) (g.2.1 7) _ hw) ⟨(va_cnB 6 hts good_R_open rfl rfl rfl (hN _ tn_217) (hts _ tb_3) hd_R_open ⟨Nat.le_of_ble_eq_true rfl, Nat.le_of_ble_eq_true rfl⟩), hts _ tb_219, hts _ ts_11⟩ (preV 9 3 hP hD hK hN rfl rfl) rfl rfl hl.1 rfl (lv_room (Nat.le_of_ble_eq_true rfl)) d_E_take_116 ⟨Nat.zero_le _, Nat.zero_le _⟩) hD hS hA hK (fun u116 H locs hw hP hD hS => ?_)
    refine lv_goto (tgt := 145) hx hb d_E_take_119 (by decide) ?_
    refine lv_iload hx hb d_E_take_145 (lv_at hl 5 rfl) ?_
    exact hret _ _ _ _ _ _ hw hP hD hS d_E_take_147
  unfold wp_E_take at hw
  refine lv_iload_n hx hb d_E_take_0 rfl (lv_at hl 2 rfl) ?_
  refine lv_iload_n hx hb d_E_take_1 rfl (lv_at hl 3 rfl) ?_
  refine aft_i (va_runS (As := [.int x2, .int x3]) (rest := []) ⟨hx, hb, hml, hown, hts⟩ (c_E_isOnDisk l D a cI cZ _ g x2 x3 _ hw) ⟨(callB_of 2 hts good_E_isOnDisk rfl rfl rfl (hts _ tb_1) (hts _ tb_170) hd_E_isOnDisk ⟨Nat.le_of_ble_eq_true rfl, Nat.le_of_ble_eq_true rfl⟩), (hts _ tb_171)⟩ (preS hP hD hK hN) rfl rfl hl.1 rfl (lv_room (Nat.le_of_ble_eq_true rfl)) d_E_take_2 ⟨Nat.zero_le _, Nat.zero_le _⟩) hD hS hA hK (fun r2 u2 H locs hw hP hD hS => ?_)
  refine lv_if_ne (tgt := 10) hx hb d_E_take_5 (by decide) (fun hc => ?_) (fun hc => ?_)
  · replace hw := hw.1 hc
    refine lv_aload_n hx hb d_E_take_10 rfl (lv_at hl 0 rfl) ?_
    refine va_get (D := D) (ci := 4) (C := R_E) (T := F_E) (N := 11) hx hb hts in_E hown hK hP 0 rfl rfl 1 (by decide) (hts _ tb_129) (fun _ h9 => h9) rfl d_E_take_11 ?_
    refine va_getN (D := D) (ci := 2) (C := R_P) (T := F_P) (N := 7) hx hb hts in_P hown hK hP 2 rfl rfl 6 (by decide) (va_Nw.use rfl (hN _ tn_35)) (fun _ h9 => h9) rfl d_E_take_14 ?_
    refine lv_sipush (v := 200) hx hb d_E_take_17 (by decide) ?_
    refine lv_icmp_eq (tgt := 35) hx hb d_E_take_20 (by decide) (fun hc => ?_) (fun hc => ?_)
    · replace hw := hw.1 hc
      refine lv_bipush (v := (-2)) hx hb d_E_take_35 (by decide) ?_
      exact hret _ _ _ _ _ _ hw hP hD hS d_E_take_37
    · replace hw := hw.2 hc
      refine lv_aload_n hx hb d_E_take_23 rfl (lv_at hl 0 rfl) ?_
      refine va_get (D := D) (ci := 4) (C := R_E) (T := F_E) (N := 11) hx hb hts in_E hown hK hP 0 rfl rfl 2 (by decide) (hts _ tb_130) (fun _ h9 => h9) rfl d_E_take_24 ?_
      refine va_getN (D := D) (ci := 3) (C := R_R) (T := F_R) (N := 9) hx hb hts in_R hown hK hP 9 rfl rfl 8 (by decide) (va_Nw.use rfl (hN _ tn_76)) (fun _ h9 => h9) rfl d_E_take_27 ?_
      refine lv_bipush (v := 24) hx hb d_E_take_30 (by decide) ?_
      refine lv_icmp_ne (tgt := 38) hx hb d_E_take_32 (by decide) (fun hc => ?_) (fun hc => ?_)
      · replace hw := hw.1 hc
        refine lv_aload_n hx hb d_E_take_38 rfl (lv_at hl 0 rfl) ?_
        refine lv_iload_n hx hb d_E_take_39 rfl (lv_at hl 1 rfl) ?_
        refine lv_iload_n hx hb d_E_take_40 rfl (lv_at hl 2 rfl) ?_
        refine lv_iload_n hx hb d_E_take_41 rfl (lv_at hl 3 rfl) ?_
        refine aft_i (va_runV (As := [.int x1, .int x2, .int x3]) (rest := []) ⟨hx, hb, hml, hown, hts⟩ (c_E_hostFor l D a cI cZ _ u2 x1 x2 x3 _ hw) ⟨(callB_of 3 hts good_E_hostFor rfl rfl rfl (hts _ tb_1) (hts _ tb_173) hd_E_hostFor ⟨Nat.le_of_ble_eq_true rfl, Nat.le_of_ble_eq_true rfl⟩), hts _ tb_175, hts _ ts_1⟩ (preV 0 4 hP hD hK hN rfl rfl) rfl rfl hl.1 rfl (lv_room (Nat.le_of_ble_eq_true rfl)) d_E_take_42 ⟨Nat.zero_le _, Nat.zero_le _⟩) hD hS hA hK (fun r42 u42 H locs hw hP hD hS => ?_)
        refine lv_istore (lv' := [(5, .int r42), (0, .ref (a 0)), (1, .int x1), (2, .int x2), (3, .int x3), (4, .int x4)]) hx hb d_E_take_45 hl (by decide) rfl (fun ls hl => ?_)
        refine lv_aload_n hx hb d_E_take_47 rfl (lv_at hl 1 rfl) ?_
        refine va_get (D := D) (ci := 4) (C := R_E) (T := F_E) (N := 11) hx hb hts in_E hown hK hP 0 rfl rfl 1 (by decide) (hts _ tb_129) (fun _ h9 => h9) rfl d_E_take_48 ?_
        refine lv_iload_n hx hb d_E_take_51 rfl (lv_at hl 2 rfl) ?_
        refine lv_iload_n hx hb d_E_take_52 rfl (lv_at hl 3 rfl) ?_
        refine lv_iload_n hx hb d_E_take_53 rfl (lv_at hl 4 rfl) ?_
        refine lv_iload hx hb d_E_take_54 (lv_at hl 5 rfl) ?_
        refine aft_i (va_runVN (As := [.int x1, .int x2, .int x3, .int x4]) (rest := []) ⟨hx, hb, hml, hown, hts⟩ (c_P_add l D a cI cZ _ u42 x1 x2 x3 x4 _ hw) ⟨(va_cnB 4 hts good_P_add rfl rfl rfl (hN _ tn_213) (hts _ tb_2) hd_P_add ⟨Nat.le_of_ble_eq_true rfl, Nat.le_of_ble_eq_true rfl⟩), hts _ tb_215, hts _ ts_10⟩ (preV 2 2 hP hD hK hN rfl rfl) rfl rfl hl.1 rfl (lv_room (Nat.le_of_ble_eq_true rfl)) d_E_take_56 ⟨Nat.zero_le _, Nat.zero_le _⟩) hD hS hA hK (fun r56 u56 H locs hw hP hD hS => ?_)
        refine lv_istore (lv' := [(6, .int r56), (5, .int r42), (0, .ref (a 0)), (1, .int x1), (2, .int x2), (3, .int x3), (4, .int x4)]) hx hb d_E_take_59 hl (by decide) rfl (fun ls hl => ?_)
        refine lv_iload hx hb d_E_take_61 (lv_at hl 1 rfl) ?_
        refine lv_iconst (v := (-1)) hx hb d_E_take_63 (by decide) ?_
        refine lv_icmp_ne (tgt := 122) hx hb d_E_take_64 (by decide) (fun hc => ?_) (fun hc => ?_)
        · replace hw := hw.1 hc
          refine lv_aload_n hx hb d_E_take_122 rfl (lv_at hl 2 rfl) ?_
          refine va_get (D := D) (ci := 4) (C := R_E) (T := F_E) (N := 11) hx hb hts in_E hown hK hP 0 rfl rfl 1 (by decide) (hts _ tb_129) (fun _ h9 => h9) rfl d_E_take_123 ?_
          refine va_getN (D := D) (ci := 2) (C := R_P) (T := F_P) (N := 7) hx hb hts in_P hown hK hP 2 rfl rfl 3 (by decide) (va_Nw.use rfl (hN _ tn_29)) (fun _ h9 => h9) rfl d_E_take_126 ?_
          refine lv_iload hx hb d_E_take_129 (lv_at hl 0 rfl) ?_
          refine lv_iload hx hb d_E_take_131 (lv_at hl 1 rfl) ?_
          refine va_iast hx hb hK hP hD hS 6 0 rfl rfl hw.1 d_E_take_133 (fun H locs hP hD hS => ?_)
          replace hw := hw.2
          have hP : va_P D cls_ (wE a cI cZ (sA u56 4 r56.toNatClampNeg r42)) H := pA_E_4 (g := u56) (j := r56.toNatClampNeg) (x := r42) hP
          have hD : va_D A (wE a cI cZ (sA u56 4 r56.toNatClampNeg r42)) := dA_E_4 (g := u56) (j := r56.toNatClampNeg) (x := r42) hD
          generalize sA u56 4 r56.toNatClampNeg r42 = g_133 at hw hP hD
          refine lv_aload_n hx hb d_E_take_134 rfl (lv_at hl 2 rfl) ?_
          refine va_get (D := D) (ci := 4) (C := R_E) (T := F_E) (N := 11) hx hb hts in_E hown hK hP 0 rfl rfl 2 (by decide) (hts _ tb_130) (fun _ h9 => h9) rfl d_E_take_135 ?_
          refine lv_iload hx hb d_E_take_138 (lv_at hl 1 rfl) ?_
          refine lv_iload_n hx hb d_E_take_140 rfl (lv_at hl 4 rfl) ?_
          refine lv_iload_n hx hb d_E_take_141 rfl (lv_at hl 5 rfl) ?_
          refine aft_v (va_runVN (As := [.int r42, .int x2, .int x3]) (rest := []) ⟨hx, hb, hml, hown, hts⟩ (c_R_extend l D a cI cZ _ g_133 r42 x2 x3 _ hw) ⟨(va_cnB 3 hts good_R_extend rfl rfl rfl (hN _ tn_221) (hts _ tb_3) hd_R_extend ⟨Nat.le_of_ble_eq_true rfl, Nat.le_of_ble_eq_true rfl⟩), hts _ tb_223, hts _ ts_12⟩ (preV 9 3 hP hD hK hN rfl rfl) rfl rfl hl.1 rfl (lv_room (Nat.le_of_ble_eq_true rfl)) d_E_take_142 ⟨Nat.zero_le _, Nat.zero_le _⟩) hD hS hA hK (fun u142 H locs hw hP hD hS => ?_)
          refine lv_iload hx hb d_E_take_145 (lv_at hl 0 rfl) ?_
          exact hret _ _ _ _ _ _ hw hP hD hS d_E_take_147
        · replace hw := hw.2 hc
          refine lv_aload_n hx hb d_E_take_67 rfl (lv_at hl 2 rfl) ?_
          refine va_get (D := D) (ci := 4) (C := R_E) (T := F_E) (N := 11) hx hb hts in_E hown hK hP 0 rfl rfl 1 (by decide) (hts _ tb_129) (fun _ h9 => h9) rfl d_E_take_68 ?_
          refine va_getN (D := D) (ci := 2) (C := R_P) (T := F_P) (N := 7) hx hb hts in_P hown hK hP 2 rfl rfl 3 (by decide) (va_Nw.use rfl (hN _ tn_29)) (fun _ h9 => h9) rfl d_E_take_71 ?_
          refine lv_iload hx hb d_E_take_74 (lv_at hl 0 rfl) ?_
          refine lv_iload hx hb d_E_take_76 (lv_at hl 0 rfl) ?_
          refine va_iast hx hb hK hP hD hS 6 0 rfl rfl hw.1 d_E_take_78 (fun H locs hP hD hS => ?_)
          replace hw := hw.2
          have hP : va_P D cls_ (wE a cI cZ (sA u56 4 r56.toNatClampNeg r56)) H := pA_E_4 (g := u56) (j := r56.toNatClampNeg) (x := r56) hP
          have hD : va_D A (wE a cI cZ (sA u56 4 r56.toNatClampNeg r56)) := dA_E_4 (g := u56) (j := r56.toNatClampNeg) (x := r56) hD
          generalize sA u56 4 r56.toNatClampNeg r56 = g_78 at hw hP hD
          refine lv_iload_n hx hb d_E_take_79 rfl (lv_at hl 3 rfl) ?_
          refine lv_if_ne (tgt := 90) hx hb d_E_take_80 (by decide) (fun hc => ?_) (fun hc => ?_)
          · replace hw := hw.1 hc
            refine lv_aload_n hx hb d_E_take_90 rfl (lv_at hl 2 rfl) ?_
            refine va_get (D := D) (ci := 4) (C := R_E) (T := F_E) (N := 11) hx hb hts in_E hown hK hP 0 rfl rfl 6 (by decide) (hts _ tb_134) (fun _ h9 => h9) rfl d_E_take_91 ?_
            exact k_94 g_78 x1 x2 x3 r56 (g_78.2.1 6) _ _ _ hP hD hS (lv_sub hl [2, 3, 4, 5, 0] rfl) hw
          · replace hw := hw.2 hc
            refine lv_aload_n hx hb d_E_take_83 rfl (lv_at hl 2 rfl) ?_
            refine va_get (D := D) (ci := 4) (C := R_E) (T := F_E) (N := 11) hx hb hts in_E hown hK hP 0 rfl rfl 5 (by decide) (hts _ tb_133) (fun _ h9 => h9) rfl d_E_take_84 ?_
            refine lv_goto (tgt := 94) hx hb d_E_take_87 (by decide) ?_
            exact k_94 g_78 x1 x2 x3 r56 (g_78.2.1 5) _ _ _ hP hD hS (lv_sub hl [2, 3, 4, 5, 0] rfl) hw
      · replace hw := hw.2 hc
        refine lv_bipush (v := (-2)) hx hb d_E_take_35 (by decide) ?_
        exact hret _ _ _ _ _ _ hw hP hD hS d_E_take_37
  · replace hw := hw.2 hc
    refine lv_iconst (v := (-1)) hx hb d_E_take_8 (by decide) ?_
    exact hret _ _ _ _ _ _ hw hP hD hS d_E_take_9
set_option maxHeartbeats 4000000 in
set_option maxRecDepth 100000 in
theorem c_E_read (l : Launch) (D : va_G) (a : Nat → Nat) (cI cZ : ClassId) (sz : Nat) (g : St) (x1 : Int32) (x2 : Int32) (Q : Int32 → St → Prop) (hw : wp_E_read g x1 x2 Q) : MT_i l y_E_read b_E_read 3 rm_E_read (wE a cI cZ) D (ty_ cI cZ) sz g [.ref (a 0), .int x1, .int x2] Q := by
  refine MTi_of (by decide +kernel) (Nat.le_of_ble_eq_true rfl) ?_
  intro p e s m args below meth c A Qt ls hx hb hml hts hown hN hK hP hD hA hl hret
  have hS : va_S A s.heap s.heap [] := va_S.rf
  have hl : lv_has ls 3 [(0, .ref (a 0)), (1, .int x1), (2, .int x2)] := hl
  unfold wp_E_read at hw
  refine lv_aload_n hx hb d_E_read_0 rfl (lv_at hl 0 rfl) ?_
  refine lv_iconst (v := 0) hx hb d_E_read_1 (by decide) ?_
  refine lv_iload_n hx hb d_E_read_2 rfl (lv_at hl 1 rfl) ?_
  refine lv_iload_n hx hb d_E_read_3 rfl (lv_at hl 2 rfl) ?_
  refine lv_iconst (v := 0) hx hb d_E_read_4 (by decide) ?_
  refine aft_i (va_runV (As := [.int 0, .int x1, .int x2, .int 0]) (rest := []) ⟨hx, hb, hml, hown, hts⟩ (c_E_take l D a cI cZ _ g 0 x1 x2 0 _ hw) ⟨(callB_of 4 hts good_E_take rfl rfl rfl (hts _ tb_1) (hts _ tb_166) hd_E_take ⟨Nat.le_of_ble_eq_true rfl, Nat.le_of_ble_eq_true rfl⟩), hts _ tb_168, hts _ ts_0⟩ (preV 0 4 hP hD hK hN rfl rfl) rfl rfl hl.1 rfl (lv_room (Nat.le_of_ble_eq_true rfl)) d_E_read_5 ⟨Nat.zero_le _, Nat.zero_le _⟩) hD hS hA hK (fun r5 u5 H locs hw hP hD hS => ?_)
  exact hret _ _ _ _ _ _ hw hP hD hS d_E_read_8
set_option maxHeartbeats 4000000 in
set_option maxRecDepth 100000 in
theorem c_E_write (l : Launch) (D : va_G) (a : Nat → Nat) (cI cZ : ClassId) (sz : Nat) (g : St) (x1 : Int32) (x2 : Int32) (x3 : Int32) (Q : Int32 → St → Prop) (hw : wp_E_write g x1 x2 x3 Q) : MT_i l y_E_write b_E_write 4 rm_E_write (wE a cI cZ) D (ty_ cI cZ) sz g [.ref (a 0), .int x1, .int x2, .int x3] Q := by
  refine MTi_of (by decide +kernel) (Nat.le_of_ble_eq_true rfl) ?_
  intro p e s m args below meth c A Qt ls hx hb hml hts hown hN hK hP hD hA hl hret
  have hS : va_S A s.heap s.heap [] := va_S.rf
  have hl : lv_has ls 4 [(0, .ref (a 0)), (1, .int x1), (2, .int x2), (3, .int x3)] := hl
  unfold wp_E_write at hw
  refine lv_aload_n hx hb d_E_write_0 rfl (lv_at hl 0 rfl) ?_
  refine lv_iconst (v := 1) hx hb d_E_write_1 (by decide) ?_
  refine lv_iload_n hx hb d_E_write_2 rfl (lv_at hl 1 rfl) ?_
  refine lv_iload_n hx hb d_E_write_3 rfl (lv_at hl 2 rfl) ?_
  refine lv_iload_n hx hb d_E_write_4 rfl (lv_at hl 3 rfl) ?_
  refine aft_i (va_runV (As := [.int 1, .int x1, .int x2, .int x3]) (rest := []) ⟨hx, hb, hml, hown, hts⟩ (c_E_take l D a cI cZ _ g 1 x1 x2 x3 _ hw) ⟨(callB_of 4 hts good_E_take rfl rfl rfl (hts _ tb_1) (hts _ tb_166) hd_E_take ⟨Nat.le_of_ble_eq_true rfl, Nat.le_of_ble_eq_true rfl⟩), hts _ tb_168, hts _ ts_0⟩ (preV 0 4 hP hD hK hN rfl rfl) rfl rfl hl.1 rfl (lv_room (Nat.le_of_ble_eq_true rfl)) d_E_write_5 ⟨Nat.zero_le _, Nat.zero_le _⟩) hD hS hA hK (fun r5 u5 H locs hw hP hD hS => ?_)
  exact hret _ _ _ _ _ _ hw hP hD hS d_E_write_8
set_option maxHeartbeats 4000000 in
set_option maxRecDepth 100000 in
theorem c_E_barrier (l : Launch) (D : va_G) (a : Nat → Nat) (cI cZ : ClassId) (sz : Nat) (g : St) (Q : Int32 → St → Prop) (hw : wp_E_barrier g Q) : MT_i l y_E_barrier b_E_barrier 1 rm_E_barrier (wE a cI cZ) D (ty_ cI cZ) sz g [.ref (a 0)] Q := by
  refine MTi_of (by decide +kernel) (Nat.le_of_ble_eq_true rfl) ?_
  intro p e s m args below meth c A Qt ls hx hb hml hts hown hN hK hP hD hA hl hret
  have hS : va_S A s.heap s.heap [] := va_S.rf
  have hl : lv_has ls 1 [(0, .ref (a 0))] := hl
  unfold wp_E_barrier at hw
  refine lv_aload_n hx hb d_E_barrier_0 rfl (lv_at hl 0 rfl) ?_
  refine lv_dup hx hb d_E_barrier_1 rfl ?_
  refine va_get (D := D) (ci := 4) (C := R_E) (T := F_E) (N := 11) hx hb hts in_E hown hK hP 0 rfl rfl 7 (by decide) (hts _ tb_135) (fun _ h9 => h9) rfl d_E_barrier_2 ?_
  refine lv_iconst (v := 1) hx hb d_E_barrier_5 (by decide) ?_
  refine lv_iadd hx hb d_E_barrier_6 ?_
  refine va_put (v := .int ((g.2.1 7) + 1)) (ty := .int) (D := D) (ci := 4) (C := R_E) (T := F_E) (N := 11) hx hb hts in_E t_E t_E_ok n_E hown hK hP hD hS 0 rfl rfl 7 (by decide) (hts _ tb_135) (fun _ h9 => h9) rfl (by decide +kernel) rfl rfl (Nat.le_of_ble_eq_true rfl) d_E_barrier_7 (fun H locs hP hD hS => ?_)
  have hP : va_P D cls_ (wE a cI cZ (sI g 7 ((g.2.1 7) + 1))) H := pI_E_7 (g := g) (v := (g.2.1 7) + 1) hP
  have hD : va_D A (wE a cI cZ (sI g 7 ((g.2.1 7) + 1))) := dI_E_7 (g := g) (v := (g.2.1 7) + 1) hD
  generalize sI g 7 ((g.2.1 7) + 1) = g_7 at hw hP hD
  refine lv_aload_n hx hb d_E_barrier_10 rfl (lv_at hl 0 rfl) ?_
  refine va_get (D := D) (ci := 4) (C := R_E) (T := F_E) (N := 11) hx hb hts in_E hown hK hP 0 rfl rfl 7 (by decide) (hts _ tb_135) (fun _ h9 => h9) rfl d_E_barrier_11 ?_
  exact hret _ _ _ _ _ _ hw hP hD hS d_E_barrier_14
set_option maxHeartbeats 4000000 in
set_option maxRecDepth 100000 in
theorem c_E_isWithin (l : Launch) (D : va_G) (a : Nat → Nat) (cI cZ : ClassId) (sz : Nat) (g : St) (x0 : Int32) (x1 : Int32) (Q : Int32 → St → Prop) (hw : wp_E_isWithin g x0 x1 Q) : MT_z l y_E_isWithin b_E_isWithin 2 rm_E_isWithin (wE a cI cZ) D (ty_ cI cZ) sz g [.int x0, .int x1] Q := by
  refine MTz_of (by decide +kernel) (Nat.le_of_ble_eq_true rfl) ?_
  intro p e s m args below meth c A Qt ls hx hb hml hts hown hN hK hP hD hA hl hret
  have hS : va_S A s.heap s.heap [] := va_S.rf
  have hl : lv_has ls 2 [(0, .int x0), (1, .int x1)] := hl
  unfold wp_E_isWithin at hw
  refine lv_iload_n hx hb d_E_isWithin_0 rfl (lv_at hl 0 rfl) ?_
  refine lv_if_lt (tgt := 13) hx hb d_E_isWithin_1 (by decide) (fun hc => ?_) (fun hc => ?_)
  · replace hw := hw.1 hc
    refine lv_iconst (v := 0) hx hb d_E_isWithin_13 (by decide) ?_
    exact hret _ _ _ _ _ _ rfl hw hP hD hS d_E_isWithin_14
  · replace hw := hw.2 hc
    refine lv_iload_n hx hb d_E_isWithin_4 rfl (lv_at hl 0 rfl) ?_
    refine lv_iload_n hx hb d_E_isWithin_5 rfl (lv_at hl 1 rfl) ?_
    refine lv_icmp_gt (tgt := 13) hx hb d_E_isWithin_6 (by decide) (fun hc => ?_) (fun hc => ?_)
    · replace hw := hw.1 hc
      refine lv_iconst (v := 0) hx hb d_E_isWithin_13 (by decide) ?_
      exact hret _ _ _ _ _ _ rfl hw hP hD hS d_E_isWithin_14
    · replace hw := hw.2 hc
      refine lv_iconst (v := 1) hx hb d_E_isWithin_9 (by decide) ?_
      refine lv_goto (tgt := 14) hx hb d_E_isWithin_10 (by decide) ?_
      exact hret _ _ _ _ _ _ rfl hw hP hD hS d_E_isWithin_14
set_option maxHeartbeats 4000000 in
set_option maxRecDepth 100000 in
theorem c_E_expire (l : Launch) (D : va_G) (a : Nat → Nat) (cI cZ : ClassId) (sz : Nat) (g : St) (x1 : Int32) (x2 : Int32) (Q : Int32 → St → Prop) (hw : wp_E_expire g x1 x2 Q) : MT_z l y_E_expire b_E_expire 4 rm_E_expire (wE a cI cZ) D (ty_ cI cZ) sz g [.ref (a 0), .int x1, .int x2] Q := by
  refine MTz_of (by decide +kernel) (Nat.le_of_ble_eq_true rfl) ?_
  intro p e s m args below meth c A Qt ls hx hb hml hts hown hN hK hP hD hA hl hret
  have hS : va_S A s.heap s.heap [] := va_S.rf
  have hl : lv_has ls 4 [(0, .ref (a 0)), (1, .int x1), (2, .int x2)] := hl
  have k_25 : ∀ (g : St) (x1 : Int32) (x2 : Int32) (z0 : Int32) (H : Heap) (locs : List Loc) (ls : Array Slot), va_P D cls_ (wE a cI cZ g) H → va_D A (wE a cI cZ g) → va_S A s.heap H locs → lv_has ls 4 [(0, .ref (a 0)), (1, .int x1), (2, .int x2)] → wb_E_expire_25 Q g x1 x2 z0 → W p l e rm_E_expire s m args below meth c H locs 0 0 Qt (F0 m 25 ls [.int z0]) := by
    intro g x1 x2 z0 H locs ls hP hD hS hl hw
    unfold wb_E_expire_25 at hw
    refine lv_istore_n (lv' := [(3, .int z0), (0, .ref (a 0)), (1, .int x1), (2, .int x2)]) hx hb d_E_expire_25 rfl hl (by decide) rfl (fun ls hl => ?_)
    refine lv_aload_n hx hb d_E_expire_26 rfl (lv_at hl 1 rfl) ?_
    refine va_get (D := D) (ci := 4) (C := R_E) (T := F_E) (N := 11) hx hb hts in_E hown hK hP 0 rfl rfl 2 (by decide) (hts _ tb_130) (fun _ h9 => h9) rfl d_E_expire_27 ?_
    refine va_getN (D := D) (ci := 3) (C := R_R) (T := F_R) (N := 9) hx hb hts in_R hown hK hP 9 rfl rfl 8 (by decide) (va_Nw.use rfl (hN _ tn_76)) (fun _ h9 => h9) rfl d_E_expire_30 ?_
    refine lv_if_gt (tgt := 40) hx hb d_E_expire_33 (by decide) (fun hc => ?_) (fun hc => ?_)
    · replace hw := hw.1 hc
      refine lv_iconst (v := 0) hx hb d_E_expire_40 (by decide) ?_
      exact hret _ _ _ _ _ _ rfl hw hP hD hS d_E_expire_41
    · replace hw := hw.2 hc
      refine lv_iload_n hx hb d_E_expire_36 rfl (lv_at hl 0 rfl) ?_
      refine lv_if_ne (tgt := 42) hx hb d_E_expire_37 (by decide) (fun hc => ?_) (fun hc => ?_)
      · replace hw := hw.1 hc
        refine lv_aload_n hx hb d_E_expire_42 rfl (lv_at hl 1 rfl) ?_
        refine lv_iload_n hx hb d_E_expire_43 rfl (lv_at hl 2 rfl) ?_
        refine va_put (v := .int x1) (ty := .int) (D := D) (ci := 4) (C := R_E) (T := F_E) (N := 11) hx hb hts in_E t_E t_E_ok n_E hown hK hP hD hS 0 rfl rfl 5 (by decide) (hts _ tb_133) (fun _ h9 => h9) rfl (by decide +kernel) rfl rfl (Nat.le_of_ble_eq_true rfl) d_E_expire_44 (fun H locs hP hD hS => ?_)
        have hP : va_P D cls_ (wE a cI cZ (sI g 5 x1)) H := pI_E_5 (g := g) (v := x1) hP
        have hD : va_D A (wE a cI cZ (sI g 5 x1)) := dI_E_5 (g := g) (v := x1) hD
        generalize sI g 5 x1 = g_44 at hw hP hD
        refine lv_aload_n hx hb d_E_expire_47 rfl (lv_at hl 1 rfl) ?_
        refine lv_iload_n hx hb d_E_expire_48 rfl (lv_at hl 3 rfl) ?_
        refine va_put (v := .int x2) (ty := .int) (D := D) (ci := 4) (C := R_E) (T := F_E) (N := 11) hx hb hts in_E t_E t_E_ok n_E hown hK hP hD hS 0 rfl rfl 6 (by decide) (hts _ tb_134) (fun _ h9 => h9) rfl (by decide +kernel) rfl rfl (Nat.le_of_ble_eq_true rfl) d_E_expire_49 (fun H locs hP hD hS => ?_)
        have hP : va_P D cls_ (wE a cI cZ (sI g_44 6 x2)) H := pI_E_6 (g := g_44) (v := x2) hP
        have hD : va_D A (wE a cI cZ (sI g_44 6 x2)) := dI_E_6 (g := g_44) (v := x2) hD
        generalize sI g_44 6 x2 = g_49 at hw hP hD
        refine lv_iconst (v := 1) hx hb d_E_expire_52 (by decide) ?_
        exact hret _ _ _ _ _ _ rfl hw hP hD hS d_E_expire_53
      · replace hw := hw.2 hc
        refine lv_iconst (v := 0) hx hb d_E_expire_40 (by decide) ?_
        exact hret _ _ _ _ _ _ rfl hw hP hD hS d_E_expire_41
  unfold wp_E_expire at hw
  refine lv_iload_n hx hb d_E_expire_0 rfl (lv_at hl 1 rfl) ?_
  refine lv_sipush (v := 10000) hx hb d_E_expire_1 (by decide) ?_
  refine aft_i (va_runS (As := [.int x1, .int 10000]) (rest := []) ⟨hx, hb, hml, hown, hts⟩ (c_E_isWithin l D a cI cZ _ g x1 10000 _ hw) ⟨(callB_of 2 hts good_E_isWithin rfl rfl rfl (hts _ tb_1) (hts _ tb_240) hd_E_isWithin ⟨Nat.le_of_ble_eq_true rfl, Nat.le_of_ble_eq_true rfl⟩), (hts _ tb_241)⟩ (preS hP hD hK hN) rfl rfl hl.1 rfl (lv_room (Nat.le_of_ble_eq_true rfl)) d_E_expire_4 ⟨Nat.zero_le _, Nat.zero_le _⟩) hD hS hA hK (fun r4 u4 H locs hw hP hD hS => ?_)
  refine lv_if_eq (tgt := 24) hx hb d_E_expire_7 (by decide) (fun hc => ?_) (fun hc => ?_)
  · replace hw := hw.1 hc
    refine lv_iconst (v := 0) hx hb d_E_expire_24 (by decide) ?_
    exact k_25 u4 x1 x2 0 _ _ _ hP hD hS (lv_sub hl [0, 1, 2] rfl) hw
  · replace hw := hw.2 hc
    refine lv_iload_n hx hb d_E_expire_10 rfl (lv_at hl 2 rfl) ?_
    refine lv_sipush (v := 10000) hx hb d_E_expire_11 (by decide) ?_
    refine aft_i (va_runS (As := [.int x2, .int 10000]) (rest := []) ⟨hx, hb, hml, hown, hts⟩ (c_E_isWithin l D a cI cZ _ u4 x2 10000 _ hw) ⟨(callB_of 2 hts good_E_isWithin rfl rfl rfl (hts _ tb_1) (hts _ tb_240) hd_E_isWithin ⟨Nat.le_of_ble_eq_true rfl, Nat.le_of_ble_eq_true rfl⟩), (hts _ tb_241)⟩ (preS hP hD hK hN) rfl rfl hl.1 rfl (lv_room (Nat.le_of_ble_eq_true rfl)) d_E_expire_14 ⟨Nat.zero_le _, Nat.zero_le _⟩) hD hS hA hK (fun r14 u14 H locs hw hP hD hS => ?_)
    refine lv_if_eq (tgt := 24) hx hb d_E_expire_17 (by decide) (fun hc => ?_) (fun hc => ?_)
    · replace hw := hw.1 hc
      refine lv_iconst (v := 0) hx hb d_E_expire_24 (by decide) ?_
      exact k_25 u14 x1 x2 0 _ _ _ hP hD hS (lv_sub hl [0, 1, 2] rfl) hw
    · replace hw := hw.2 hc
      refine lv_iconst (v := 1) hx hb d_E_expire_20 (by decide) ?_
      refine lv_goto (tgt := 25) hx hb d_E_expire_21 (by decide) ?_
      exact k_25 u14 x1 x2 1 _ _ _ hP hD hS (lv_sub hl [0, 1, 2] rfl) hw
set_option maxHeartbeats 4000000 in
set_option maxRecDepth 100000 in
theorem c_E_tick (l : Launch) (D : va_G) (a : Nat → Nat) (cI cZ : ClassId) (sz : Nat) (g : St) (x1 : Int32) (Q : Int32 → St → Prop) (hw : wp_E_tick g x1 Q) : MT_z l y_E_tick b_E_tick 2 rm_E_tick (wE a cI cZ) D (ty_ cI cZ) sz g [.ref (a 0), .int x1] Q := by
  refine MTz_of (by decide +kernel) (Nat.le_of_ble_eq_true rfl) ?_
  intro p e s m args below meth c A Qt ls hx hb hml hts hown hN hK hP hD hA hl hret
  have hS : va_S A s.heap s.heap [] := va_S.rf
  have hl : lv_has ls 2 [(0, .ref (a 0)), (1, .int x1)] := hl
  unfold wp_E_tick at hw
  refine lv_iload_n hx hb d_E_tick_0 rfl (lv_at hl 1 rfl) ?_
  refine lv_ldc hx hb hown (hts _ tb_247) d_E_tick_1 ?_
  refine aft_i (va_runS (As := [.int x1, .int 100000]) (rest := []) ⟨hx, hb, hml, hown, hts⟩ (c_E_isWithin l D a cI cZ _ g x1 100000 _ hw) ⟨(callB_of 2 hts good_E_isWithin rfl rfl rfl (hts _ tb_1) (hts _ tb_240) hd_E_isWithin ⟨Nat.le_of_ble_eq_true rfl, Nat.le_of_ble_eq_true rfl⟩), (hts _ tb_241)⟩ (preS hP hD hK hN) rfl rfl hl.1 rfl (lv_room (Nat.le_of_ble_eq_true rfl)) d_E_tick_3 ⟨Nat.zero_le _, Nat.zero_le _⟩) hD hS hA hK (fun r3 u3 H locs hw hP hD hS => ?_)
  refine lv_if_ne (tgt := 11) hx hb d_E_tick_6 (by decide) (fun hc => ?_) (fun hc => ?_)
  · replace hw := hw.1 hc
    refine lv_aload_n hx hb d_E_tick_11 rfl (lv_at hl 0 rfl) ?_
    refine lv_dup hx hb d_E_tick_12 rfl ?_
    refine va_get (D := D) (ci := 4) (C := R_E) (T := F_E) (N := 11) hx hb hts in_E hown hK hP 0 rfl rfl 8 (by decide) (hts _ tb_136) (fun _ h9 => h9) rfl d_E_tick_13 ?_
    refine lv_iload_n hx hb d_E_tick_16 rfl (lv_at hl 1 rfl) ?_
    refine lv_iadd hx hb d_E_tick_17 ?_
    refine va_put (v := .int ((u3.2.1 8) + x1)) (ty := .int) (D := D) (ci := 4) (C := R_E) (T := F_E) (N := 11) hx hb hts in_E t_E t_E_ok n_E hown hK hP hD hS 0 rfl rfl 8 (by decide) (hts _ tb_136) (fun _ h9 => h9) rfl (by decide +kernel) rfl rfl (Nat.le_of_ble_eq_true rfl) d_E_tick_18 (fun H locs hP hD hS => ?_)
    have hP : va_P D cls_ (wE a cI cZ (sI u3 8 ((u3.2.1 8) + x1))) H := pI_E_8 (g := u3) (v := (u3.2.1 8) + x1) hP
    have hD : va_D A (wE a cI cZ (sI u3 8 ((u3.2.1 8) + x1))) := dI_E_8 (g := u3) (v := (u3.2.1 8) + x1) hD
    generalize sI u3 8 ((u3.2.1 8) + x1) = g_18 at hw hP hD
    refine lv_iconst (v := 1) hx hb d_E_tick_21 (by decide) ?_
    exact hret _ _ _ _ _ _ rfl hw hP hD hS d_E_tick_22
  · replace hw := hw.2 hc
    refine lv_iconst (v := 0) hx hb d_E_tick_9 (by decide) ?_
    exact hret _ _ _ _ _ _ rfl hw hP hD hS d_E_tick_10
set_option maxHeartbeats 4000000 in
set_option maxRecDepth 100000 in
theorem c_E_markReady (l : Launch) (D : va_G) (a : Nat → Nat) (cI cZ : ClassId) (sz : Nat) (g : St) (Q : St → Prop) (hw : wp_E_markReady g Q) : MT_v l y_E_markReady b_E_markReady 4 rm_E_markReady (wE a cI cZ) D (ty_ cI cZ) sz g [.ref (a 0)] Q := by
  refine MTv_of (by decide +kernel) (Nat.le_of_ble_eq_true rfl) ?_
  intro p e s m args below meth c A Qt ls hx hb hml hts hown hN hK hP hD hA hl hret
  have hS : va_S A s.heap s.heap [] := va_S.rf
  have hl : lv_has ls 4 [(0, .ref (a 0))] := hl
  have k_16 : ∀ (n : Nat) (g : St) (x1 : Int32) (H : Heap) (locs : List Loc) (ls : Array Slot), va_P D cls_ (wE a cI cZ g) H → va_D A (wE a cI cZ g) → va_S A s.heap H locs → lv_has ls 4 [(0, .ref (a 0)), (1, .int x1)] → wl_E_markReady_16 Q n g x1 → W p l e rm_E_markReady s m args below meth c H locs 0 0 Qt (F0 m 16 ls []) := by
    intro n
    induction n with
    | zero => intro g x1 H locs ls hP hD hS hl hw; exact False.elim hw
    | succ n_16 ih_16 =>
      have k_86 : ∀ (g : St) (x1 : Int32) (x2 : Int64) (H : Heap) (locs : List Loc) (ls : Array Slot), va_P D cls_ (wE a cI cZ g) H → va_D A (wE a cI cZ g) → va_S A s.heap H locs → lv_has ls 4 [(0, .ref (a 0)), (1, .int x1), (2, .long x2)] → wb_E_markReady_86 (wl_E_markReady_16 Q n_16) Q g x1 x2 → W p l e rm_E_markReady s m args below meth c H locs 0 0 Qt (F0 m 86 ls []) := by
        intro g x1 x2 H locs ls hP hD hS hl hw
        unfold wb_E_markReady_86 at hw
        refine lv_aload_n hx hb d_E_markReady_86 rfl (lv_at hl 0 rfl) ?_
        refine va_get (D := D) (ci := 4) (C := R_E) (T := F_E) (N := 11) hx hb hts in_E hown hK hP 0 rfl rfl 3 (by decide) (hts _ tb_131) (fun _ h9 => h9) rfl d_E_markReady_87 ?_
        refine lv_aload_n hx hb d_E_markReady_90 rfl (lv_at hl 0 rfl) ?_
        refine va_get (D := D) (ci := 4) (C := R_E) (T := F_E) (N := 11) hx hb hts in_E hown hK hP 0 rfl rfl 1 (by decide) (hts _ tb_129) (fun _ h9 => h9) rfl d_E_markReady_91 ?_
        refine va_getN (D := D) (ci := 2) (C := R_P) (T := F_P) (N := 7) hx hb hts in_P hown hK hP 2 rfl rfl 0 (by decide) (va_Nw.use rfl (hN _ tn_24)) (fun _ h9 => h9) rfl d_E_markReady_94 ?_
        refine lv_iload_n hx hb d_E_markReady_97 rfl (lv_at hl 1 rfl) ?_
        refine va_iald hx hb hK hP 3 0 rfl rfl hw.1 d_E_markReady_98 ?_
        replace hw := hw.2
        refine lv_lload_n hx hb d_E_markReady_99 rfl (lv_at hl 2 rfl) ?_
        refine aft_v (va_runVN (As := [.int (g.1 1 x1.toNatClampNeg), .long x2]) (rest := []) ⟨hx, hb, hml, hown, hts⟩ (c_C_add l D a cI cZ _ g (g.1 1 x1.toNatClampNeg) x2 _ hw) ⟨(va_cnB 2 hts good_C_add rfl rfl rfl (hN _ tn_192) (hts _ tb_4) hd_C_add ⟨Nat.le_of_ble_eq_true rfl, Nat.le_of_ble_eq_true rfl⟩), hts _ tb_194, hts _ ts_5⟩ (preV 18 1 hP hD hK hN rfl rfl) rfl rfl hl.1 rfl (lv_room (Nat.le_of_ble_eq_true rfl)) d_E_markReady_100 ⟨Nat.zero_le _, Nat.zero_le _⟩) hD hS hA hK (fun u100 H locs hw hP hD hS => ?_)
        refine lv_iinc (k := 1) (v := x1 + 1) (lv' := [(1, .int (x1 + 1)), (0, .ref (a 0)), (2, .long x2)]) hx hb d_E_markReady_103 hl rfl rfl (by decide) rfl (fun ls hl => ?_)
        refine lv_goto (tgt := 16) hx hb d_E_markReady_106 (by decide) ?_
        exact ih_16 u100 (x1 + 1) _ _ _ hP hD hS (lv_sub hl [1, 0] rfl) hw
      intro g x1 H locs ls hP hD hS hl hw
      unfold wl_E_markReady_16 at hw
      refine lv_iload_n hx hb d_E_markReady_16 rfl (lv_at hl 1 rfl) ?_
      refine lv_aload_n hx hb d_E_markReady_17 rfl (lv_at hl 0 rfl) ?_
      refine va_get (D := D) (ci := 4) (C := R_E) (T := F_E) (N := 11) hx hb hts in_E hown hK hP 0 rfl rfl 1 (by decide) (hts _ tb_129) (fun _ h9 => h9) rfl d_E_markReady_18 ?_
      refine va_getN (D := D) (ci := 2) (C := R_P) (T := F_P) (N := 7) hx hb hts in_P hown hK hP 2 rfl rfl 6 (by decide) (va_Nw.use rfl (hN _ tn_35)) (fun _ h9 => h9) rfl d_E_markReady_21 ?_
      refine lv_icmp_ge (tgt := 109) hx hb d_E_markReady_24 (by decide) (fun hc => ?_) (fun hc => ?_)
      · replace hw := hw.1 hc
        exact hret _ _ _ _ _ hw hP hD hS d_E_markReady_109
      · replace hw := hw.2 hc
        refine lv_aload_n hx hb d_E_markReady_27 rfl (lv_at hl 0 rfl) ?_
        refine va_get (D := D) (ci := 4) (C := R_E) (T := F_E) (N := 11) hx hb hts in_E hown hK hP 0 rfl rfl 1 (by decide) (hts _ tb_129) (fun _ h9 => h9) rfl d_E_markReady_28 ?_
        refine va_getN (D := D) (ci := 2) (C := R_P) (T := F_P) (N := 7) hx hb hts in_P hown hK hP 2 rfl rfl 4 (by decide) (va_Nw.use rfl (hN _ tn_31)) (fun _ h9 => h9) rfl d_E_markReady_31 ?_
        refine lv_iload_n hx hb d_E_markReady_34 rfl (lv_at hl 1 rfl) ?_
        refine va_zald hx hb hK hP 7 1 rfl rfl hw.1 d_E_markReady_35 ?_
        replace hw := hw.2
        refine lv_if_ne (tgt := 103) hx hb d_E_markReady_36 (by decide) (fun hc => ?_) (fun hc => ?_)
        · replace hw := hw.1 hc
          refine lv_iinc (k := 1) (v := x1 + 1) (lv' := [(1, .int (x1 + 1)), (0, .ref (a 0))]) hx hb d_E_markReady_103 hl rfl rfl (by decide) rfl (fun ls hl => ?_)
          refine lv_goto (tgt := 16) hx hb d_E_markReady_106 (by decide) ?_
          exact ih_16 g (x1 + 1) _ _ _ hP hD hS (lv_sub hl [1, 0] rfl) hw
        · replace hw := hw.2 hc
          refine lv_aload_n hx hb d_E_markReady_39 rfl (lv_at hl 0 rfl) ?_
          refine va_get (D := D) (ci := 4) (C := R_E) (T := F_E) (N := 11) hx hb hts in_E hown hK hP 0 rfl rfl 1 (by decide) (hts _ tb_129) (fun _ h9 => h9) rfl d_E_markReady_40 ?_
          refine lv_iload_n hx hb d_E_markReady_43 rfl (lv_at hl 1 rfl) ?_
          refine aft_l (va_runVN (As := [.int x1]) (rest := []) ⟨hx, hb, hml, hown, hts⟩ (c_P_sectors l D a cI cZ _ g x1 _ hw) ⟨(va_cnB 1 hts good_P_sectors rfl rfl rfl (hN _ tn_185) (hts _ tb_2) hd_P_sectors ⟨Nat.le_of_ble_eq_true rfl, Nat.le_of_ble_eq_true rfl⟩), hts _ tb_187, hts _ ts_4⟩ (preV 2 2 hP hD hK hN rfl rfl) rfl rfl hl.1 rfl (lv_room (Nat.le_of_ble_eq_true rfl)) d_E_markReady_44 ⟨Nat.zero_le _, Nat.zero_le _⟩) hD hS hA hK (fun r44 u44 H locs hw hP hD hS => ?_)
          refine lv_lstore_n (lv' := [(2, .long r44), (0, .ref (a 0)), (1, .int x1)]) hx hb d_E_markReady_47 rfl hl (by decide) rfl (fun ls hl => ?_)
          refine lv_aload_n hx hb d_E_markReady_48 rfl (lv_at hl 1 rfl) ?_
          refine va_get (D := D) (ci := 4) (C := R_E) (T := F_E) (N := 11) hx hb hts in_E hown hK hP 0 rfl rfl 3 (by decide) (hts _ tb_131) (fun _ h9 => h9) rfl d_E_markReady_49 ?_
          refine lv_aload_n hx hb d_E_markReady_52 rfl (lv_at hl 1 rfl) ?_
          refine va_get (D := D) (ci := 4) (C := R_E) (T := F_E) (N := 11) hx hb hts in_E hown hK hP 0 rfl rfl 1 (by decide) (hts _ tb_129) (fun _ h9 => h9) rfl d_E_markReady_53 ?_
          refine va_getN (D := D) (ci := 2) (C := R_P) (T := F_P) (N := 7) hx hb hts in_P hown hK hP 2 rfl rfl 0 (by decide) (va_Nw.use rfl (hN _ tn_24)) (fun _ h9 => h9) rfl d_E_markReady_56 ?_
          refine lv_iload_n hx hb d_E_markReady_59 rfl (lv_at hl 2 rfl) ?_
          refine va_iald hx hb hK hP 3 0 rfl rfl hw.1 d_E_markReady_60 ?_
          replace hw := hw.2
          refine lv_lload_n hx hb d_E_markReady_61 rfl (lv_at hl 0 rfl) ?_
          refine aft_i (va_runVN (As := [.int (u44.1 1 x1.toNatClampNeg), .long r44]) (rest := []) ⟨hx, hb, hml, hown, hts⟩ (c_C_conflictWith l D a cI cZ _ u44 (u44.1 1 x1.toNatClampNeg) r44 _ hw) ⟨(va_cnB 2 hts good_C_conflictWith rfl rfl rfl (hN _ tn_197) (hts _ tb_4) hd_C_conflictWith ⟨Nat.le_of_ble_eq_true rfl, Nat.le_of_ble_eq_true rfl⟩), hts _ tb_199, hts _ ts_6⟩ (preV 18 1 hP hD hK hN rfl rfl) rfl rfl hl.1 rfl (lv_room (Nat.le_of_ble_eq_true rfl)) d_E_markReady_62 ⟨Nat.zero_le _, Nat.zero_le _⟩) hD hS hA hK (fun r62 u62 H locs hw hP hD hS => ?_)
          refine lv_if_eq (tgt := 86) hx hb d_E_markReady_65 (by decide) (fun hc => ?_) (fun hc => ?_)
          · replace hw := hw.1 hc
            exact k_86 u62 x1 r44 _ _ _ hP hD hS (lv_sub hl [1, 2, 0] rfl) hw
          · replace hw := hw.2 hc
            refine lv_aload_n hx hb d_E_markReady_68 rfl (lv_at hl 1 rfl) ?_
            refine va_get (D := D) (ci := 4) (C := R_E) (T := F_E) (N := 11) hx hb hts in_E hown hK hP 0 rfl rfl 2 (by decide) (hts _ tb_130) (fun _ h9 => h9) rfl d_E_markReady_69 ?_
            refine va_getN (D := D) (ci := 3) (C := R_R) (T := F_R) (N := 9) hx hb hts in_R hown hK hP 9 rfl rfl 6 (by decide) (va_Nw.use rfl (hN _ tn_72)) (fun _ h9 => h9) rfl d_E_markReady_72 ?_
            refine lv_aload_n hx hb d_E_markReady_75 rfl (lv_at hl 1 rfl) ?_
            refine va_get (D := D) (ci := 4) (C := R_E) (T := F_E) (N := 11) hx hb hts in_E hown hK hP 0 rfl rfl 1 (by decide) (hts _ tb_129) (fun _ h9 => h9) rfl d_E_markReady_76 ?_
            refine va_getN (D := D) (ci := 2) (C := R_P) (T := F_P) (N := 7) hx hb hts in_P hown hK hP 2 rfl rfl 3 (by decide) (va_Nw.use rfl (hN _ tn_29)) (fun _ h9 => h9) rfl d_E_markReady_79 ?_
            refine lv_iload_n hx hb d_E_markReady_82 rfl (lv_at hl 2 rfl) ?_
            refine va_iald hx hb hK hP 6 0 rfl rfl hw.1 d_E_markReady_83 ?_
            replace hw := hw.2
            refine lv_iconst (v := 0) hx hb d_E_markReady_84 (by decide) ?_
            refine va_zast hx hb hK hP hD hS 16 1 rfl rfl hw.1 d_E_markReady_85 (fun H locs hP hD hS => ?_)
            replace hw := hw.2
            have hP : va_P D cls_ (wE a cI cZ (sA u62 13 (u62.1 4 x1.toNatClampNeg).toNatClampNeg (vp_nar .boolean 0))) H := pA_E_13 (g := u62) (j := (u62.1 4 x1.toNatClampNeg).toNatClampNeg) (x := (vp_nar .boolean 0)) hP
            have hD : va_D A (wE a cI cZ (sA u62 13 (u62.1 4 x1.toNatClampNeg).toNatClampNeg (vp_nar .boolean 0))) := dA_E_13 (g := u62) (j := (u62.1 4 x1.toNatClampNeg).toNatClampNeg) (x := (vp_nar .boolean 0)) hD
            generalize sA u62 13 (u62.1 4 x1.toNatClampNeg).toNatClampNeg (vp_nar .boolean 0) = g_85 at hw hP hD
            exact k_86 g_85 x1 r44 _ _ _ hP hD hS (lv_sub hl [1, 2, 0] rfl) hw
  unfold wp_E_markReady at hw
  refine lv_aload_n hx hb d_E_markReady_0 rfl (lv_at hl 0 rfl) ?_
  refine va_get (D := D) (ci := 4) (C := R_E) (T := F_E) (N := 11) hx hb hts in_E hown hK hP 0 rfl rfl 2 (by decide) (hts _ tb_130) (fun _ h9 => h9) rfl d_E_markReady_1 ?_
  refine aft_v (va_runVN (As := []) (rest := []) ⟨hx, hb, hml, hown, hts⟩ (c_R_markLeastGroup l D a cI cZ _ g _ hw) ⟨(va_cnB 0 hts good_R_markLeastGroup rfl rfl rfl (hN _ tn_256) (hts _ tb_3) hd_R_markLeastGroup ⟨Nat.le_of_ble_eq_true rfl, Nat.le_of_ble_eq_true rfl⟩), hts _ tb_258, hts _ ts_14⟩ (preV 9 3 hP hD hK hN rfl rfl) rfl rfl hl.1 rfl (lv_room (Nat.le_of_ble_eq_true rfl)) d_E_markReady_4 ⟨Nat.zero_le _, Nat.zero_le _⟩) hD hS hA hK (fun u4 H locs hw hP hD hS => ?_)
  refine lv_aload_n hx hb d_E_markReady_7 rfl (lv_at hl 0 rfl) ?_
  refine va_get (D := D) (ci := 4) (C := R_E) (T := F_E) (N := 11) hx hb hts in_E hown hK hP 0 rfl rfl 3 (by decide) (hts _ tb_131) (fun _ h9 => h9) rfl d_E_markReady_8 ?_
  refine aft_v (va_runVN (As := []) (rest := []) ⟨hx, hb, hml, hown, hts⟩ (c_C_clear l D a cI cZ _ u4 _ hw) ⟨(va_cnB 0 hts good_C_clear rfl rfl rfl (hN _ tn_181) (hts _ tb_4) hd_C_clear ⟨Nat.le_of_ble_eq_true rfl, Nat.le_of_ble_eq_true rfl⟩), hts _ tb_183, hts _ ts_3⟩ (preV 18 1 hP hD hK hN rfl rfl) rfl rfl hl.1 rfl (lv_room (Nat.le_of_ble_eq_true rfl)) d_E_markReady_11 ⟨Nat.zero_le _, Nat.zero_le _⟩) hD hS hA hK (fun u11 H locs hw hP hD hS => ?_)
  refine lv_iconst (v := 0) hx hb d_E_markReady_14 (by decide) ?_
  refine lv_istore_n (lv' := [(1, .int 0), (0, .ref (a 0))]) hx hb d_E_markReady_15 rfl hl (by decide) rfl (fun ls hl => ?_)
  obtain ⟨n, hw⟩ := hw
  exact k_16 n u11 0 _ _ _ hP hD hS (lv_sub hl [1, 0] rfl) hw
set_option maxHeartbeats 4000000 in
set_option maxRecDepth 100000 in
theorem c_E_firstOfBatch (l : Launch) (D : va_G) (a : Nat → Nat) (cI cZ : ClassId) (sz : Nat) (g : St) (x1 : Int32) (Q : Int32 → St → Prop) (hw : wp_E_firstOfBatch g x1 Q) : MT_i l y_E_firstOfBatch b_E_firstOfBatch 4 rm_E_firstOfBatch (wE a cI cZ) D (ty_ cI cZ) sz g [.ref (a 0), .int x1] Q := by
  refine MTi_of (by decide +kernel) (Nat.le_of_ble_eq_true rfl) ?_
  intro p e s m args below meth c A Qt ls hx hb hml hts hown hN hK hP hD hA hl hret
  have hS : va_S A s.heap s.heap [] := va_S.rf
  have hl : lv_has ls 4 [(0, .ref (a 0)), (1, .int x1)] := hl
  unfold wp_E_firstOfBatch at hw
  refine lv_aload_n hx hb d_E_firstOfBatch_0 rfl (lv_at hl 0 rfl) ?_
  refine va_get (D := D) (ci := 4) (C := R_E) (T := F_E) (N := 11) hx hb hts in_E hown hK hP 0 rfl rfl 2 (by decide) (hts _ tb_130) (fun _ h9 => h9) rfl d_E_firstOfBatch_1 ?_
  refine lv_iload_n hx hb d_E_firstOfBatch_4 rfl (lv_at hl 1 rfl) ?_
  refine lv_aload_n hx hb d_E_firstOfBatch_5 rfl (lv_at hl 0 rfl) ?_
  refine va_get (D := D) (ci := 4) (C := R_E) (T := F_E) (N := 11) hx hb hts in_E hown hK hP 0 rfl rfl 8 (by decide) (hts _ tb_136) (fun _ h9 => h9) rfl d_E_firstOfBatch_6 ?_
  refine aft_i (va_runVN (As := [.int x1, .int (g.2.1 8)]) (rest := []) ⟨hx, hb, hml, hown, hts⟩ (c_R_leastExpired l D a cI cZ _ g x1 (g.2.1 8) _ hw) ⟨(va_cnB 2 hts good_R_leastExpired rfl rfl rfl (hN _ tn_289) (hts _ tb_3) hd_R_leastExpired ⟨Nat.le_of_ble_eq_true rfl, Nat.le_of_ble_eq_true rfl⟩), hts _ tb_291, hts _ ts_22⟩ (preV 9 3 hP hD hK hN rfl rfl) rfl rfl hl.1 rfl (lv_room (Nat.le_of_ble_eq_true rfl)) d_E_firstOfBatch_9 ⟨Nat.zero_le _, Nat.zero_le _⟩) hD hS hA hK (fun r9 u9 H locs hw hP hD hS => ?_)
  refine lv_istore_n (lv' := [(2, .int r9), (0, .ref (a 0)), (1, .int x1)]) hx hb d_E_firstOfBatch_12 rfl hl (by decide) rfl (fun ls hl => ?_)
  refine lv_iload_n hx hb d_E_firstOfBatch_13 rfl (lv_at hl 0 rfl) ?_
  refine lv_iconst (v := (-1)) hx hb d_E_firstOfBatch_14 (by decide) ?_
  refine lv_icmp_eq (tgt := 20) hx hb d_E_firstOfBatch_15 (by decide) (fun hc => ?_) (fun hc => ?_)
  · replace hw := hw.1 hc
    refine lv_aload_n hx hb d_E_firstOfBatch_20 rfl (lv_at hl 1 rfl) ?_
    refine va_get (D := D) (ci := 4) (C := R_E) (T := F_E) (N := 11) hx hb hts in_E hown hK hP 0 rfl rfl 2 (by decide) (hts _ tb_130) (fun _ h9 => h9) rfl d_E_firstOfBatch_21 ?_
    refine lv_iload_n hx hb d_E_firstOfBatch_24 rfl (lv_at hl 2 rfl) ?_
    refine lv_aload_n hx hb d_E_firstOfBatch_25 rfl (lv_at hl 1 rfl) ?_
    refine va_get (D := D) (ci := 4) (C := R_E) (T := F_E) (N := 11) hx hb hts in_E hown hK hP 0 rfl rfl 9 (by decide) (hts _ tb_137) (fun _ h9 => h9) rfl d_E_firstOfBatch_26 ?_
    refine aft_i (va_runVN (As := [.int x1, .int (u9.2.1 9)]) (rest := []) ⟨hx, hb, hml, hown, hts⟩ (c_R_leastStart l D a cI cZ _ u9 x1 (u9.2.1 9) _ hw) ⟨(va_cnB 2 hts good_R_leastStart rfl rfl rfl (hN _ tn_268) (hts _ tb_3) hd_R_leastStart ⟨Nat.le_of_ble_eq_true rfl, Nat.le_of_ble_eq_true rfl⟩), hts _ tb_270, hts _ ts_17⟩ (preV 9 3 hP hD hK hN rfl rfl) rfl rfl hl.1 rfl (lv_room (Nat.le_of_ble_eq_true rfl)) d_E_firstOfBatch_29 ⟨Nat.zero_le _, Nat.zero_le _⟩) hD hS hA hK (fun r29 u29 H locs hw hP hD hS => ?_)
    refine lv_istore_n (lv' := [(3, .int r29), (2, .int r9), (0, .ref (a 0)), (1, .int x1)]) hx hb d_E_firstOfBatch_32 rfl hl (by decide) rfl (fun ls hl => ?_)
    refine lv_iload_n hx hb d_E_firstOfBatch_33 rfl (lv_at hl 0 rfl) ?_
    refine lv_iconst (v := (-1)) hx hb d_E_firstOfBatch_34 (by decide) ?_
    refine lv_icmp_eq (tgt := 42) hx hb d_E_firstOfBatch_35 (by decide) (fun hc => ?_) (fun hc => ?_)
    · replace hw := hw.1 hc
      refine lv_aload_n hx hb d_E_firstOfBatch_42 rfl (lv_at hl 2 rfl) ?_
      refine va_get (D := D) (ci := 4) (C := R_E) (T := F_E) (N := 11) hx hb hts in_E hown hK hP 0 rfl rfl 2 (by decide) (hts _ tb_130) (fun _ h9 => h9) rfl d_E_firstOfBatch_43 ?_
      refine lv_iload_n hx hb d_E_firstOfBatch_46 rfl (lv_at hl 3 rfl) ?_
      refine lv_iconst (v := 0) hx hb d_E_firstOfBatch_47 (by decide) ?_
      refine aft_i (va_runVN (As := [.int x1, .int 0]) (rest := []) ⟨hx, hb, hml, hown, hts⟩ (c_R_leastStart l D a cI cZ _ u29 x1 0 _ hw) ⟨(va_cnB 2 hts good_R_leastStart rfl rfl rfl (hN _ tn_268) (hts _ tb_3) hd_R_leastStart ⟨Nat.le_of_ble_eq_true rfl, Nat.le_of_ble_eq_true rfl⟩), hts _ tb_270, hts _ ts_17⟩ (preV 9 3 hP hD hK hN rfl rfl) rfl rfl hl.1 rfl (lv_room (Nat.le_of_ble_eq_true rfl)) d_E_firstOfBatch_48 ⟨Nat.zero_le _, Nat.zero_le _⟩) hD hS hA hK (fun r48 u48 H locs hw hP hD hS => ?_)
      exact hret _ _ _ _ _ _ hw hP hD hS d_E_firstOfBatch_51
    · replace hw := hw.2 hc
      refine lv_iload_n hx hb d_E_firstOfBatch_38 rfl (lv_at hl 0 rfl) ?_
      refine lv_goto (tgt := 51) hx hb d_E_firstOfBatch_39 (by decide) ?_
      exact hret _ _ _ _ _ _ hw hP hD hS d_E_firstOfBatch_51
  · replace hw := hw.2 hc
    refine lv_iload_n hx hb d_E_firstOfBatch_18 rfl (lv_at hl 0 rfl) ?_
    exact hret _ _ _ _ _ _ hw hP hD hS d_E_firstOfBatch_19
end
section
set_option maxHeartbeats 4000000 in
set_option maxRecDepth 100000 in
theorem c_E_pick (l : Launch) (D : va_G) (a : Nat → Nat) (cI cZ : ClassId) (sz : Nat) (g : St) (Q : Int32 → St → Prop) (hw : wp_E_pick g Q) : MT_i l y_E_pick b_E_pick 3 rm_E_pick (wE a cI cZ) D (ty_ cI cZ) sz g [.ref (a 0)] Q := by
  refine MTi_of (by decide +kernel) (Nat.le_of_ble_eq_true rfl) ?_
  intro p e s m args below meth c A Qt ls hx hb hml hts hown hN hK hP hD hA hl hret
  have hS : va_S A s.heap s.heap [] := va_S.rf
  have hl : lv_has ls 3 [(0, .ref (a 0))] := hl
  have k_77 : ∀ (g : St) (x1 : Int32) (x2 : Int32) (H : Heap) (locs : List Loc) (ls : Array Slot), va_P D cls_ (wE a cI cZ g) H → va_D A (wE a cI cZ g) → va_S A s.heap H locs → lv_has ls 3 [(0, .ref (a 0)), (1, .int x1), (2, .int x2)] → wb_E_pick_77 Q g x1 x2 → W p l e rm_E_pick s m args below meth c H locs 0 0 Qt (F0 m 77 ls []) := by
    intro g x1 x2 H locs ls hP hD hS hl hw
    unfold wb_E_pick_77 at hw
    refine lv_aload_n hx hb d_E_pick_77 rfl (lv_at hl 0 rfl) ?_
    refine va_get (D := D) (ci := 4) (C := R_E) (T := F_E) (N := 11) hx hb hts in_E hown hK hP 0 rfl rfl 4 (by decide) (hts _ tb_132) (fun _ h9 => h9) rfl d_E_pick_78 ?_
    refine lv_iload_n hx hb d_E_pick_81 rfl (lv_at hl 1 rfl) ?_
    refine lv_iload_n hx hb d_E_pick_82 rfl (lv_at hl 2 rfl) ?_
    refine aft_v (va_runVN (As := [.int x1, .int x2]) (rest := []) ⟨hx, hb, hml, hown, hts⟩ (c_B_begin l D a cI cZ _ g x1 x2 _ hw) ⟨(va_cnB 2 hts good_B_begin rfl rfl rfl (hN _ tn_281) (hts _ tb_5) hd_B_begin ⟨Nat.le_of_ble_eq_true rfl, Nat.le_of_ble_eq_true rfl⟩), hts _ tb_283, hts _ ts_20⟩ (preV 19 0 hP hD hK hN rfl rfl) rfl rfl hl.1 rfl (lv_room (Nat.le_of_ble_eq_true rfl)) d_E_pick_83 ⟨Nat.zero_le _, Nat.zero_le _⟩) hD hS hA hK (fun u83 H locs hw hP hD hS => ?_)
    refine lv_aload_n hx hb d_E_pick_86 rfl (lv_at hl 0 rfl) ?_
    refine lv_aload_n hx hb d_E_pick_87 rfl (lv_at hl 0 rfl) ?_
    refine va_get (D := D) (ci := 4) (C := R_E) (T := F_E) (N := 11) hx hb hts in_E hown hK hP 0 rfl rfl 4 (by decide) (hts _ tb_132) (fun _ h9 => h9) rfl d_E_pick_88 ?_
    refine va_getN (D := D) (ci := 0) (C := R_B) (T := F_B) (N := 3) hx hb hts in_B hown hK hP 19 rfl rfl 0 (by decide) (va_Nw.use rfl (hN _ tn_116)) (fun _ h9 => h9) rfl d_E_pick_91 ?_
    refine aft_i (va_runV (As := [.int (u83.2.1 2)]) (rest := []) ⟨hx, hb, hml, hown, hts⟩ (c_E_firstOfBatch l D a cI cZ _ u83 (u83.2.1 2) _ hw) ⟨(callB_of 1 hts good_E_firstOfBatch rfl rfl rfl (hts _ tb_1) (hts _ tb_285) hd_E_firstOfBatch ⟨Nat.le_of_ble_eq_true rfl, Nat.le_of_ble_eq_true rfl⟩), hts _ tb_287, hts _ ts_21⟩ (preV 0 4 hP hD hK hN rfl rfl) rfl rfl hl.1 rfl (lv_room (Nat.le_of_ble_eq_true rfl)) d_E_pick_94 ⟨Nat.zero_le _, Nat.zero_le _⟩) hD hS hA hK (fun r94 u94 H locs hw hP hD hS => ?_)
    exact hret _ _ _ _ _ _ hw hP hD hS d_E_pick_97
  have k_49 : ∀ (g : St) (H : Heap) (locs : List Loc) (ls : Array Slot), va_P D cls_ (wE a cI cZ g) H → va_D A (wE a cI cZ g) → va_S A s.heap H locs → lv_has ls 3 [(0, .ref (a 0))] → wb_E_pick_49 Q g → W p l e rm_E_pick s m args below meth c H locs 0 0 Qt (F0 m 49 ls []) := by
    intro g H locs ls hP hD hS hl hw
    unfold wb_E_pick_49 at hw
    refine lv_aload_n hx hb d_E_pick_49 rfl (lv_at hl 0 rfl) ?_
    refine va_get (D := D) (ci := 4) (C := R_E) (T := F_E) (N := 11) hx hb hts in_E hown hK hP 0 rfl rfl 2 (by decide) (hts _ tb_130) (fun _ h9 => h9) rfl d_E_pick_50 ?_
    refine lv_iconst (v := 0) hx hb d_E_pick_53 (by decide) ?_
    refine aft_i (va_runVN (As := [.int 0]) (rest := []) ⟨hx, hb, hml, hown, hts⟩ (c_R_hasReady l D a cI cZ _ g 0 _ hw) ⟨(va_cnB 1 hts good_R_hasReady rfl rfl rfl (hN _ tn_276) (hts _ tb_3) hd_R_hasReady ⟨Nat.le_of_ble_eq_true rfl, Nat.le_of_ble_eq_true rfl⟩), hts _ tb_278, hts _ ts_19⟩ (preV 9 3 hP hD hK hN rfl rfl) rfl rfl hl.1 rfl (lv_room (Nat.le_of_ble_eq_true rfl)) d_E_pick_54 ⟨Nat.zero_le _, Nat.zero_le _⟩) hD hS hA hK (fun r54 u54 H locs hw hP hD hS => ?_)
    refine lv_istore_n (lv' := [(1, .int r54), (0, .ref (a 0))]) hx hb d_E_pick_57 rfl hl (by decide) rfl (fun ls hl => ?_)
    refine lv_aload_n hx hb d_E_pick_58 rfl (lv_at hl 1 rfl) ?_
    refine va_get (D := D) (ci := 4) (C := R_E) (T := F_E) (N := 11) hx hb hts in_E hown hK hP 0 rfl rfl 2 (by decide) (hts _ tb_130) (fun _ h9 => h9) rfl d_E_pick_59 ?_
    refine lv_iconst (v := 1) hx hb d_E_pick_62 (by decide) ?_
    refine aft_i (va_runVN (As := [.int 1]) (rest := []) ⟨hx, hb, hml, hown, hts⟩ (c_R_hasReady l D a cI cZ _ u54 1 _ hw) ⟨(va_cnB 1 hts good_R_hasReady rfl rfl rfl (hN _ tn_276) (hts _ tb_3) hd_R_hasReady ⟨Nat.le_of_ble_eq_true rfl, Nat.le_of_ble_eq_true rfl⟩), hts _ tb_278, hts _ ts_19⟩ (preV 9 3 hP hD hK hN rfl rfl) rfl rfl hl.1 rfl (lv_room (Nat.le_of_ble_eq_true rfl)) d_E_pick_63 ⟨Nat.zero_le _, Nat.zero_le _⟩) hD hS hA hK (fun r63 u63 H locs hw hP hD hS => ?_)
    refine lv_istore_n (lv' := [(2, .int r63), (1, .int r54), (0, .ref (a 0))]) hx hb d_E_pick_66 rfl hl (by decide) rfl (fun ls hl => ?_)
    refine lv_iload_n hx hb d_E_pick_67 rfl (lv_at hl 1 rfl) ?_
    refine lv_if_ne (tgt := 77) hx hb d_E_pick_68 (by decide) (fun hc => ?_) (fun hc => ?_)
    · replace hw := hw.1 hc
      exact k_77 u63 r54 r63 _ _ _ hP hD hS (lv_sub hl [2, 1, 0] rfl) hw
    · replace hw := hw.2 hc
      refine lv_iload_n hx hb d_E_pick_71 rfl (lv_at hl 0 rfl) ?_
      refine lv_if_ne (tgt := 77) hx hb d_E_pick_72 (by decide) (fun hc => ?_) (fun hc => ?_)
      · replace hw := hw.1 hc
        exact k_77 u63 r54 r63 _ _ _ hP hD hS (lv_sub hl [2, 1, 0] rfl) hw
      · replace hw := hw.2 hc
        refine lv_iconst (v := (-1)) hx hb d_E_pick_75 (by decide) ?_
        exact hret _ _ _ _ _ _ hw hP hD hS d_E_pick_76
  unfold wp_E_pick at hw
  refine lv_aload_n hx hb d_E_pick_0 rfl (lv_at hl 0 rfl) ?_
  refine va_get (D := D) (ci := 4) (C := R_E) (T := F_E) (N := 11) hx hb hts in_E hown hK hP 0 rfl rfl 4 (by decide) (hts _ tb_132) (fun _ h9 => h9) rfl d_E_pick_1 ?_
  refine aft_i (va_runVN (As := []) (rest := []) ⟨hx, hb, hml, hown, hts⟩ (c_B_mayGoOn l D a cI cZ _ g _ hw) ⟨(va_cnB 0 hts good_B_mayGoOn rfl rfl rfl (hN _ tn_264) (hts _ tb_5) hd_B_mayGoOn ⟨Nat.le_of_ble_eq_true rfl, Nat.le_of_ble_eq_true rfl⟩), hts _ tb_266, hts _ ts_16⟩ (preV 19 0 hP hD hK hN rfl rfl) rfl rfl hl.1 rfl (lv_room (Nat.le_of_ble_eq_true rfl)) d_E_pick_4 ⟨Nat.zero_le _, Nat.zero_le _⟩) hD hS hA hK (fun r4 u4 H locs hw hP hD hS => ?_)
  refine lv_if_eq (tgt := 49) hx hb d_E_pick_7 (by decide) (fun hc => ?_) (fun hc => ?_)
  · replace hw := hw.1 hc
    exact k_49 u4 _ _ _ hP hD hS (lv_sub hl [0] rfl) hw
  · replace hw := hw.2 hc
    refine lv_aload_n hx hb d_E_pick_10 rfl (lv_at hl 0 rfl) ?_
    refine va_get (D := D) (ci := 4) (C := R_E) (T := F_E) (N := 11) hx hb hts in_E hown hK hP 0 rfl rfl 2 (by decide) (hts _ tb_130) (fun _ h9 => h9) rfl d_E_pick_11 ?_
    refine lv_aload_n hx hb d_E_pick_14 rfl (lv_at hl 0 rfl) ?_
    refine va_get (D := D) (ci := 4) (C := R_E) (T := F_E) (N := 11) hx hb hts in_E hown hK hP 0 rfl rfl 4 (by decide) (hts _ tb_132) (fun _ h9 => h9) rfl d_E_pick_15 ?_
    refine va_getN (D := D) (ci := 0) (C := R_B) (T := F_B) (N := 3) hx hb hts in_B hown hK hP 19 rfl rfl 0 (by decide) (va_Nw.use rfl (hN _ tn_116)) (fun _ h9 => h9) rfl d_E_pick_18 ?_
    refine lv_aload_n hx hb d_E_pick_21 rfl (lv_at hl 0 rfl) ?_
    refine va_get (D := D) (ci := 4) (C := R_E) (T := F_E) (N := 11) hx hb hts in_E hown hK hP 0 rfl rfl 9 (by decide) (hts _ tb_137) (fun _ h9 => h9) rfl d_E_pick_22 ?_
    refine aft_i (va_runVN (As := [.int (u4.2.1 2), .int (u4.2.1 9)]) (rest := []) ⟨hx, hb, hml, hown, hts⟩ (c_R_leastStart l D a cI cZ _ u4 (u4.2.1 2) (u4.2.1 9) _ hw) ⟨(va_cnB 2 hts good_R_leastStart rfl rfl rfl (hN _ tn_268) (hts _ tb_3) hd_R_leastStart ⟨Nat.le_of_ble_eq_true rfl, Nat.le_of_ble_eq_true rfl⟩), hts _ tb_270, hts _ ts_17⟩ (preV 9 3 hP hD hK hN rfl rfl) rfl rfl hl.1 rfl (lv_room (Nat.le_of_ble_eq_true rfl)) d_E_pick_25 ⟨Nat.zero_le _, Nat.zero_le _⟩) hD hS hA hK (fun r25 u25 H locs hw hP hD hS => ?_)
    refine lv_istore_n (lv' := [(1, .int r25), (0, .ref (a 0))]) hx hb d_E_pick_28 rfl hl (by decide) rfl (fun ls hl => ?_)
    refine lv_iload_n hx hb d_E_pick_29 rfl (lv_at hl 0 rfl) ?_
    refine lv_iconst (v := (-1)) hx hb d_E_pick_30 (by decide) ?_
    refine lv_icmp_eq (tgt := 49) hx hb d_E_pick_31 (by decide) (fun hc => ?_) (fun hc => ?_)
    · replace hw := hw.1 hc
      exact k_49 u25 _ _ _ hP hD hS (lv_sub hl [1] rfl) hw
    · replace hw := hw.2 hc
      refine lv_aload_n hx hb d_E_pick_34 rfl (lv_at hl 1 rfl) ?_
      refine va_get (D := D) (ci := 4) (C := R_E) (T := F_E) (N := 11) hx hb hts in_E hown hK hP 0 rfl rfl 4 (by decide) (hts _ tb_132) (fun _ h9 => h9) rfl d_E_pick_35 ?_
      refine lv_dup hx hb d_E_pick_38 rfl ?_
      refine va_getN (D := D) (ci := 0) (C := R_B) (T := F_B) (N := 3) hx hb hts in_B hown hK hP 19 rfl rfl 1 (by decide) (va_Nw.use rfl (hN _ tn_118)) (fun _ h9 => h9) rfl d_E_pick_39 ?_
      refine lv_iconst (v := 1) hx hb d_E_pick_42 (by decide) ?_
      refine lv_iadd hx hb d_E_pick_43 ?_
      refine va_putN (v := .int ((u25.2.1 3) + 1)) (ty := .int) (D := D) (ci := 0) (C := R_B) (T := F_B) (N := 3) hx hb hts in_B t_B t_B_ok n_B hown hK hP hD hS 19 rfl rfl 1 (by decide) (va_Nw.use rfl (hN _ tn_118)) (fun _ h9 => h9) rfl (by decide +kernel) rfl rfl (Nat.le_of_ble_eq_true rfl) d_E_pick_44 (fun H locs hP hD hS => ?_)
      have hP : va_P D cls_ (wE a cI cZ (sI u25 3 ((u25.2.1 3) + 1))) H := pI_E_3 (g := u25) (v := (u25.2.1 3) + 1) hP
      have hD : va_D A (wE a cI cZ (sI u25 3 ((u25.2.1 3) + 1))) := dI_E_3 (g := u25) (v := (u25.2.1 3) + 1) hD
      generalize sI u25 3 ((u25.2.1 3) + 1) = g_44 at hw hP hD
      refine lv_iload_n hx hb d_E_pick_47 rfl (lv_at hl 0 rfl) ?_
      exact hret _ _ _ _ _ _ hw hP hD hS d_E_pick_48
set_option maxHeartbeats 4000000 in
set_option maxRecDepth 100000 in
theorem c_E_carryOut (l : Launch) (D : va_G) (a : Nat → Nat) (cI cZ : ClassId) (sz : Nat) (g : St) (x1 : Int32) (Q : St → Prop) (hw : wp_E_carryOut g x1 Q) : MT_v l y_E_carryOut b_E_carryOut 3 rm_E_carryOut (wE a cI cZ) D (ty_ cI cZ) sz g [.ref (a 0), .int x1] Q := by
  refine MTv_of (by decide +kernel) (Nat.le_of_ble_eq_true rfl) ?_
  intro p e s m args below meth c A Qt ls hx hb hml hts hown hN hK hP hD hA hl hret
  have hS : va_S A s.heap s.heap [] := va_S.rf
  have hl : lv_has ls 3 [(0, .ref (a 0)), (1, .int x1)] := hl
  have k_2 : ∀ (n : Nat) (g : St) (x1 : Int32) (x2 : Int32) (H : Heap) (locs : List Loc) (ls : Array Slot), va_P D cls_ (wE a cI cZ g) H → va_D A (wE a cI cZ g) → va_S A s.heap H locs → lv_has ls 3 [(0, .ref (a 0)), (1, .int x1), (2, .int x2)] → wl_E_carryOut_2 Q n g x1 x2 → W p l e rm_E_carryOut s m args below meth c H locs 0 0 Qt (F0 m 2 ls []) := by
    intro n
    induction n with
    | zero => intro g x1 x2 H locs ls hP hD hS hl hw; exact False.elim hw
    | succ n_2 ih_2 =>
      intro g x1 x2 H locs ls hP hD hS hl hw
      unfold wl_E_carryOut_2 at hw
      refine lv_iload_n hx hb d_E_carryOut_2 rfl (lv_at hl 2 rfl) ?_
      refine lv_aload_n hx hb d_E_carryOut_3 rfl (lv_at hl 0 rfl) ?_
      refine va_get (D := D) (ci := 4) (C := R_E) (T := F_E) (N := 11) hx hb hts in_E hown hK hP 0 rfl rfl 1 (by decide) (hts _ tb_129) (fun _ h9 => h9) rfl d_E_carryOut_4 ?_
      refine va_getN (D := D) (ci := 2) (C := R_P) (T := F_P) (N := 7) hx hb hts in_P hown hK hP 2 rfl rfl 6 (by decide) (va_Nw.use rfl (hN _ tn_35)) (fun _ h9 => h9) rfl d_E_carryOut_7 ?_
      refine lv_icmp_ge (tgt := 44) hx hb d_E_carryOut_10 (by decide) (fun hc => ?_) (fun hc => ?_)
      · replace hw := hw.1 hc
        refine lv_aload_n hx hb d_E_carryOut_44 rfl (lv_at hl 0 rfl) ?_
        refine va_get (D := D) (ci := 4) (C := R_E) (T := F_E) (N := 11) hx hb hts in_E hown hK hP 0 rfl rfl 2 (by decide) (hts _ tb_130) (fun _ h9 => h9) rfl d_E_carryOut_45 ?_
        refine lv_iload_n hx hb d_E_carryOut_48 rfl (lv_at hl 1 rfl) ?_
        refine aft_v (va_runVN (As := [.int x1]) (rest := []) ⟨hx, hb, hml, hown, hts⟩ (c_R_remove l D a cI cZ _ g x1 _ hw) ⟨(va_cnB 1 hts good_R_remove rfl rfl rfl (hN _ tn_304) (hts _ tb_3) hd_R_remove ⟨Nat.le_of_ble_eq_true rfl, Nat.le_of_ble_eq_true rfl⟩), hts _ tb_306, hts _ ts_25⟩ (preV 9 3 hP hD hK hN rfl rfl) rfl rfl hl.1 rfl (lv_room (Nat.le_of_ble_eq_true rfl)) d_E_carryOut_49 ⟨Nat.zero_le _, Nat.zero_le _⟩) hD hS hA hK (fun u49 H locs hw hP hD hS => ?_)
        refine lv_aload_n hx hb d_E_carryOut_52 rfl (lv_at hl 0 rfl) ?_
        refine lv_aload_n hx hb d_E_carryOut_53 rfl (lv_at hl 0 rfl) ?_
        refine va_get (D := D) (ci := 4) (C := R_E) (T := F_E) (N := 11) hx hb hts in_E hown hK hP 0 rfl rfl 2 (by decide) (hts _ tb_130) (fun _ h9 => h9) rfl d_E_carryOut_54 ?_
        refine lv_iload_n hx hb d_E_carryOut_57 rfl (lv_at hl 1 rfl) ?_
        refine aft_i (va_runVN (As := [.int x1]) (rest := [.ref (a 0)]) ⟨hx, hb, hml, hown, hts⟩ (c_R_end l D a cI cZ _ u49 x1 _ hw) ⟨(va_cnB 1 hts good_R_end rfl rfl rfl (hN _ tn_308) (hts _ tb_3) hd_R_end ⟨Nat.le_of_ble_eq_true rfl, Nat.le_of_ble_eq_true rfl⟩), hts _ tb_211, hts _ ts_9⟩ (preV 9 3 hP hD hK hN rfl rfl) rfl rfl hl.1 rfl (lv_room (Nat.le_of_ble_eq_true rfl)) d_E_carryOut_58 ⟨Nat.zero_le _, Nat.zero_le _⟩) hD hS hA hK (fun r58 u58 H locs hw hP hD hS => ?_)
        refine va_put (v := .int r58) (ty := .int) (D := D) (ci := 4) (C := R_E) (T := F_E) (N := 11) hx hb hts in_E t_E t_E_ok n_E hown hK hP hD hS 0 rfl rfl 9 (by decide) (hts _ tb_137) (fun _ h9 => h9) rfl (by decide +kernel) rfl rfl (Nat.le_of_ble_eq_true rfl) d_E_carryOut_61 (fun H locs hP hD hS => ?_)
        have hP : va_P D cls_ (wE a cI cZ (sI u58 9 r58)) H := pI_E_9 (g := u58) (v := r58) hP
        have hD : va_D A (wE a cI cZ (sI u58 9 r58)) := dI_E_9 (g := u58) (v := r58) hD
        generalize sI u58 9 r58 = g_61 at hw hP hD
        refine lv_aload_n hx hb d_E_carryOut_64 rfl (lv_at hl 0 rfl) ?_
        refine lv_iload_n hx hb d_E_carryOut_65 rfl (lv_at hl 1 rfl) ?_
        refine va_put (v := .int x1) (ty := .int) (D := D) (ci := 4) (C := R_E) (T := F_E) (N := 11) hx hb hts in_E t_E t_E_ok n_E hown hK hP hD hS 0 rfl rfl 10 (by decide) (hts _ tb_138) (fun _ h9 => h9) rfl (by decide +kernel) rfl rfl (Nat.le_of_ble_eq_true rfl) d_E_carryOut_66 (fun H locs hP hD hS => ?_)
        have hP : va_P D cls_ (wE a cI cZ (sI g_61 10 x1)) H := pI_E_10 (g := g_61) (v := x1) hP
        have hD : va_D A (wE a cI cZ (sI g_61 10 x1)) := dI_E_10 (g := g_61) (v := x1) hD
        generalize sI g_61 10 x1 = g_66 at hw hP hD
        exact hret _ _ _ _ _ hw hP hD hS d_E_carryOut_69
      · replace hw := hw.2 hc
        refine lv_aload_n hx hb d_E_carryOut_13 rfl (lv_at hl 0 rfl) ?_
        refine va_get (D := D) (ci := 4) (C := R_E) (T := F_E) (N := 11) hx hb hts in_E hown hK hP 0 rfl rfl 1 (by decide) (hts _ tb_129) (fun _ h9 => h9) rfl d_E_carryOut_14 ?_
        refine va_getN (D := D) (ci := 2) (C := R_P) (T := F_P) (N := 7) hx hb hts in_P hown hK hP 2 rfl rfl 3 (by decide) (va_Nw.use rfl (hN _ tn_29)) (fun _ h9 => h9) rfl d_E_carryOut_17 ?_
        refine lv_iload_n hx hb d_E_carryOut_20 rfl (lv_at hl 2 rfl) ?_
        refine va_iald hx hb hK hP 6 0 rfl rfl hw.1 d_E_carryOut_21 ?_
        replace hw := hw.2
        refine lv_iload_n hx hb d_E_carryOut_22 rfl (lv_at hl 1 rfl) ?_
        refine lv_icmp_ne (tgt := 38) hx hb d_E_carryOut_23 (by decide) (fun hc => ?_) (fun hc => ?_)
        · replace hw := hw.1 hc
          refine lv_iinc (k := 2) (v := x2 + 1) (lv' := [(2, .int (x2 + 1)), (0, .ref (a 0)), (1, .int x1)]) hx hb d_E_carryOut_38 hl rfl rfl (by decide) rfl (fun ls hl => ?_)
          refine lv_goto (tgt := 2) hx hb d_E_carryOut_41 (by decide) ?_
          exact ih_2 g x1 (x2 + 1) _ _ _ hP hD hS (lv_sub hl [1, 2, 0] rfl) hw
        · replace hw := hw.2 hc
          refine lv_aload_n hx hb d_E_carryOut_26 rfl (lv_at hl 0 rfl) ?_
          refine va_get (D := D) (ci := 4) (C := R_E) (T := F_E) (N := 11) hx hb hts in_E hown hK hP 0 rfl rfl 1 (by decide) (hts _ tb_129) (fun _ h9 => h9) rfl d_E_carryOut_27 ?_
          refine lv_iload_n hx hb d_E_carryOut_30 rfl (lv_at hl 2 rfl) ?_
          refine lv_aload_n hx hb d_E_carryOut_31 rfl (lv_at hl 0 rfl) ?_
          refine va_get (D := D) (ci := 4) (C := R_E) (T := F_E) (N := 11) hx hb hts in_E hown hK hP 0 rfl rfl 0 (by decide) (hts _ tb_128) (fun _ h9 => h9) rfl d_E_carryOut_32 ?_
          refine aft_v (va_runVN (As := [.int x2, .ref (a 1)]) (rest := []) ⟨hx, hb, hml, hown, hts⟩ (c_P_carryOut l D a cI cZ _ g x2 _ hw) ⟨(va_cnB 2 hts good_P_carryOut rfl rfl rfl (hN _ tn_297) (hts _ tb_2) hd_P_carryOut ⟨Nat.le_of_ble_eq_true rfl, Nat.le_of_ble_eq_true rfl⟩), hts _ tb_299, hts _ ts_24⟩ (preV 2 2 hP hD hK hN rfl rfl) rfl rfl hl.1 rfl (lv_room (Nat.le_of_ble_eq_true rfl)) d_E_carryOut_35 ⟨Nat.zero_le _, Nat.zero_le _⟩) hD hS hA hK (fun u35 H locs hw hP hD hS => ?_)
          refine lv_iinc (k := 2) (v := x2 + 1) (lv' := [(2, .int (x2 + 1)), (0, .ref (a 0)), (1, .int x1)]) hx hb d_E_carryOut_38 hl rfl rfl (by decide) rfl (fun ls hl => ?_)
          refine lv_goto (tgt := 2) hx hb d_E_carryOut_41 (by decide) ?_
          exact ih_2 u35 x1 (x2 + 1) _ _ _ hP hD hS (lv_sub hl [1, 2, 0] rfl) hw
  unfold wp_E_carryOut at hw
  refine lv_iload_n hx hb d_E_carryOut_0 rfl (lv_at hl 1 rfl) ?_
  refine lv_istore_n (lv' := [(2, .int x1), (0, .ref (a 0)), (1, .int x1)]) hx hb d_E_carryOut_1 rfl hl (by decide) rfl (fun ls hl => ?_)
  obtain ⟨n, hw⟩ := hw
  exact k_2 n g x1 x1 _ _ _ hP hD hS (lv_sub hl [1, 2, 0] rfl) hw
set_option maxHeartbeats 4000000 in
set_option maxRecDepth 100000 in
theorem c_E_dispatch (l : Launch) (D : va_G) (a : Nat → Nat) (cI cZ : ClassId) (sz : Nat) (g : St) (Q : Int32 → St → Prop) (hw : wp_E_dispatch g Q) : MT_i l y_E_dispatch b_E_dispatch 2 rm_E_dispatch (wE a cI cZ) D (ty_ cI cZ) sz g [.ref (a 0)] Q := by
  refine MTi_of (by decide +kernel) (Nat.le_of_ble_eq_true rfl) ?_
  intro p e s m args below meth c A Qt ls hx hb hml hts hown hN hK hP hD hA hl hret
  have hS : va_S A s.heap s.heap [] := va_S.rf
  have hl : lv_has ls 2 [(0, .ref (a 0))] := hl
  unfold wp_E_dispatch at hw
  refine lv_aload_n hx hb d_E_dispatch_0 rfl (lv_at hl 0 rfl) ?_
  refine aft_v (va_runV (As := []) (rest := []) ⟨hx, hb, hml, hown, hts⟩ (c_E_markReady l D a cI cZ _ g _ hw) ⟨(callB_of 0 hts good_E_markReady rfl rfl rfl (hts _ tb_1) (hts _ tb_252) hd_E_markReady ⟨Nat.le_of_ble_eq_true rfl, Nat.le_of_ble_eq_true rfl⟩), hts _ tb_254, hts _ ts_13⟩ (preV 0 4 hP hD hK hN rfl rfl) rfl rfl hl.1 rfl (lv_room (Nat.le_of_ble_eq_true rfl)) d_E_dispatch_1 ⟨Nat.zero_le _, Nat.zero_le _⟩) hD hS hA hK (fun u1 H locs hw hP hD hS => ?_)
  refine lv_aload_n hx hb d_E_dispatch_4 rfl (lv_at hl 0 rfl) ?_
  refine aft_i (va_runV (As := []) (rest := []) ⟨hx, hb, hml, hown, hts⟩ (c_E_pick l D a cI cZ _ u1 _ hw) ⟨(callB_of 0 hts good_E_pick rfl rfl rfl (hts _ tb_1) (hts _ tb_260) hd_E_pick ⟨Nat.le_of_ble_eq_true rfl, Nat.le_of_ble_eq_true rfl⟩), hts _ tb_262, hts _ ts_15⟩ (preV 0 4 hP hD hK hN rfl rfl) rfl rfl hl.1 rfl (lv_room (Nat.le_of_ble_eq_true rfl)) d_E_dispatch_5 ⟨Nat.zero_le _, Nat.zero_le _⟩) hD hS hA hK (fun r5 u5 H locs hw hP hD hS => ?_)
  refine lv_istore_n (lv' := [(1, .int r5), (0, .ref (a 0))]) hx hb d_E_dispatch_8 rfl hl (by decide) rfl (fun ls hl => ?_)
  refine lv_iload_n hx hb d_E_dispatch_9 rfl (lv_at hl 0 rfl) ?_
  refine lv_iconst (v := (-1)) hx hb d_E_dispatch_10 (by decide) ?_
  refine lv_icmp_ne (tgt := 16) hx hb d_E_dispatch_11 (by decide) (fun hc => ?_) (fun hc => ?_)
  · replace hw := hw.1 hc
    refine lv_aload_n hx hb d_E_dispatch_16 rfl (lv_at hl 1 rfl) ?_
    refine lv_iload_n hx hb d_E_dispatch_17 rfl (lv_at hl 0 rfl) ?_
    refine aft_v (va_runV (As := [.int r5]) (rest := []) ⟨hx, hb, hml, hown, hts⟩ (c_E_carryOut l D a cI cZ _ u5 r5 _ hw) ⟨(callB_of 1 hts good_E_carryOut rfl rfl rfl (hts _ tb_1) (hts _ tb_293) hd_E_carryOut ⟨Nat.le_of_ble_eq_true rfl, Nat.le_of_ble_eq_true rfl⟩), hts _ tb_295, hts _ ts_23⟩ (preV 0 4 hP hD hK hN rfl rfl) rfl rfl hl.1 rfl (lv_room (Nat.le_of_ble_eq_true rfl)) d_E_dispatch_18 ⟨Nat.zero_le _, Nat.zero_le _⟩) hD hS hA hK (fun u18 H locs hw hP hD hS => ?_)
    refine lv_aload_n hx hb d_E_dispatch_21 rfl (lv_at hl 1 rfl) ?_
    refine va_get (D := D) (ci := 4) (C := R_E) (T := F_E) (N := 11) hx hb hts in_E hown hK hP 0 rfl rfl 2 (by decide) (hts _ tb_130) (fun _ h9 => h9) rfl d_E_dispatch_22 ?_
    refine va_getN (D := D) (ci := 3) (C := R_R) (T := F_R) (N := 9) hx hb hts in_R hown hK hP 9 rfl rfl 3 (by decide) (va_Nw.use rfl (hN _ tn_66)) (fun _ h9 => h9) rfl d_E_dispatch_25 ?_
    refine lv_iload_n hx hb d_E_dispatch_28 rfl (lv_at hl 0 rfl) ?_
    refine va_iald hx hb hK hP 13 0 rfl rfl hw.1 d_E_dispatch_29 ?_
    replace hw := hw.2
    exact hret _ _ _ _ _ _ hw hP hD hS d_E_dispatch_30
  · replace hw := hw.2 hc
    refine lv_iconst (v := 0) hx hb d_E_dispatch_14 (by decide) ?_
    exact hret _ _ _ _ _ _ hw hP hD hS d_E_dispatch_15
set_option maxHeartbeats 4000000 in
set_option maxRecDepth 100000 in
theorem c_E_state (l : Launch) (D : va_G) (a : Nat → Nat) (cI cZ : ClassId) (sz : Nat) (g : St) (x1 : Int32) (Q : Int32 → St → Prop) (hw : wp_E_state g x1 Q) : MT_i l y_E_state b_E_state 2 rm_E_state (wE a cI cZ) D (ty_ cI cZ) sz g [.ref (a 0), .int x1] Q := by
  refine MTi_of (by decide +kernel) (Nat.le_of_ble_eq_true rfl) ?_
  intro p e s m args below meth c A Qt ls hx hb hml hts hown hN hK hP hD hA hl hret
  have hS : va_S A s.heap s.heap [] := va_S.rf
  have hl : lv_has ls 2 [(0, .ref (a 0)), (1, .int x1)] := hl
  unfold wp_E_state at hw
  refine lv_aload_n hx hb d_E_state_0 rfl (lv_at hl 0 rfl) ?_
  refine va_get (D := D) (ci := 4) (C := R_E) (T := F_E) (N := 11) hx hb hts in_E hown hK hP 0 rfl rfl 1 (by decide) (hts _ tb_129) (fun _ h9 => h9) rfl d_E_state_1 ?_
  refine lv_iload_n hx hb d_E_state_4 rfl (lv_at hl 1 rfl) ?_
  refine aft_i (va_runVN (As := [.int x1]) (rest := []) ⟨hx, hb, hml, hown, hts⟩ (c_P_has l D a cI cZ _ g x1 _ hw) ⟨(va_cnB 1 hts good_P_has rfl rfl rfl (hN _ tn_313) (hts _ tb_2) hd_P_has ⟨Nat.le_of_ble_eq_true rfl, Nat.le_of_ble_eq_true rfl⟩), hts _ tb_315, hts _ ts_26⟩ (preV 2 2 hP hD hK hN rfl rfl) rfl rfl hl.1 rfl (lv_room (Nat.le_of_ble_eq_true rfl)) d_E_state_5 ⟨Nat.zero_le _, Nat.zero_le _⟩) hD hS hA hK (fun r5 u5 H locs hw hP hD hS => ?_)
  refine lv_if_ne (tgt := 13) hx hb d_E_state_8 (by decide) (fun hc => ?_) (fun hc => ?_)
  · replace hw := hw.1 hc
    refine lv_aload_n hx hb d_E_state_13 rfl (lv_at hl 0 rfl) ?_
    refine va_get (D := D) (ci := 4) (C := R_E) (T := F_E) (N := 11) hx hb hts in_E hown hK hP 0 rfl rfl 1 (by decide) (hts _ tb_129) (fun _ h9 => h9) rfl d_E_state_14 ?_
    refine va_getN (D := D) (ci := 2) (C := R_P) (T := F_P) (N := 7) hx hb hts in_P hown hK hP 2 rfl rfl 4 (by decide) (va_Nw.use rfl (hN _ tn_31)) (fun _ h9 => h9) rfl d_E_state_17 ?_
    refine lv_iload_n hx hb d_E_state_20 rfl (lv_at hl 1 rfl) ?_
    refine va_zald hx hb hK hP 7 1 rfl rfl hw.1 d_E_state_21 ?_
    replace hw := hw.2
    refine lv_if_eq (tgt := 29) hx hb d_E_state_22 (by decide) (fun hc => ?_) (fun hc => ?_)
    · replace hw := hw.1 hc
      refine lv_iconst (v := 1) hx hb d_E_state_29 (by decide) ?_
      exact hret _ _ _ _ _ _ hw hP hD hS d_E_state_30
    · replace hw := hw.2 hc
      refine lv_iconst (v := 2) hx hb d_E_state_25 (by decide) ?_
      refine lv_goto (tgt := 30) hx hb d_E_state_26 (by decide) ?_
      exact hret _ _ _ _ _ _ hw hP hD hS d_E_state_30
  · replace hw := hw.2 hc
    refine lv_iconst (v := 0) hx hb d_E_state_11 (by decide) ?_
    exact hret _ _ _ _ _ _ hw hP hD hS d_E_state_12
set_option maxHeartbeats 4000000 in
set_option maxRecDepth 100000 in
theorem c_E_value (l : Launch) (D : va_G) (a : Nat → Nat) (cI cZ : ClassId) (sz : Nat) (g : St) (x1 : Int32) (x2 : Int32) (Q : Int32 → St → Prop) (hw : wp_E_value g x1 x2 Q) : MT_i l y_E_value b_E_value 3 rm_E_value (wE a cI cZ) D (ty_ cI cZ) sz g [.ref (a 0), .int x1, .int x2] Q := by
  refine MTi_of (by decide +kernel) (Nat.le_of_ble_eq_true rfl) ?_
  intro p e s m args below meth c A Qt ls hx hb hml hts hown hN hK hP hD hA hl hret
  have hS : va_S A s.heap s.heap [] := va_S.rf
  have hl : lv_has ls 3 [(0, .ref (a 0)), (1, .int x1), (2, .int x2)] := hl
  unfold wp_E_value at hw
  refine lv_aload_n hx hb d_E_value_0 rfl (lv_at hl 0 rfl) ?_
  refine va_get (D := D) (ci := 4) (C := R_E) (T := F_E) (N := 11) hx hb hts in_E hown hK hP 0 rfl rfl 1 (by decide) (hts _ tb_129) (fun _ h9 => h9) rfl d_E_value_1 ?_
  refine lv_iload_n hx hb d_E_value_4 rfl (lv_at hl 1 rfl) ?_
  refine aft_i (va_runVN (As := [.int x1]) (rest := []) ⟨hx, hb, hml, hown, hts⟩ (c_P_has l D a cI cZ _ g x1 _ hw) ⟨(va_cnB 1 hts good_P_has rfl rfl rfl (hN _ tn_313) (hts _ tb_2) hd_P_has ⟨Nat.le_of_ble_eq_true rfl, Nat.le_of_ble_eq_true rfl⟩), hts _ tb_315, hts _ ts_26⟩ (preV 2 2 hP hD hK hN rfl rfl) rfl rfl hl.1 rfl (lv_room (Nat.le_of_ble_eq_true rfl)) d_E_value_5 ⟨Nat.zero_le _, Nat.zero_le _⟩) hD hS hA hK (fun r5 u5 H locs hw hP hD hS => ?_)
  refine lv_if_eq (tgt := 35) hx hb d_E_value_8 (by decide) (fun hc => ?_) (fun hc => ?_)
  · replace hw := hw.1 hc
    refine lv_iconst (v := 0) hx hb d_E_value_35 (by decide) ?_
    exact hret _ _ _ _ _ _ hw hP hD hS d_E_value_36
  · replace hw := hw.2 hc
    refine lv_aload_n hx hb d_E_value_11 rfl (lv_at hl 0 rfl) ?_
    refine va_get (D := D) (ci := 4) (C := R_E) (T := F_E) (N := 11) hx hb hts in_E hown hK hP 0 rfl rfl 1 (by decide) (hts _ tb_129) (fun _ h9 => h9) rfl d_E_value_12 ?_
    refine va_getN (D := D) (ci := 2) (C := R_P) (T := F_P) (N := 7) hx hb hts in_P hown hK hP 2 rfl rfl 4 (by decide) (va_Nw.use rfl (hN _ tn_31)) (fun _ h9 => h9) rfl d_E_value_15 ?_
    refine lv_iload_n hx hb d_E_value_18 rfl (lv_at hl 1 rfl) ?_
    refine va_zald hx hb hK hP 7 1 rfl rfl hw.1 d_E_value_19 ?_
    replace hw := hw.2
    refine lv_if_eq (tgt := 35) hx hb d_E_value_20 (by decide) (fun hc => ?_) (fun hc => ?_)
    · replace hw := hw.1 hc
      refine lv_iconst (v := 0) hx hb d_E_value_35 (by decide) ?_
      exact hret _ _ _ _ _ _ hw hP hD hS d_E_value_36
    · replace hw := hw.2 hc
      refine lv_aload_n hx hb d_E_value_23 rfl (lv_at hl 0 rfl) ?_
      refine va_get (D := D) (ci := 4) (C := R_E) (T := F_E) (N := 11) hx hb hts in_E hown hK hP 0 rfl rfl 1 (by decide) (hts _ tb_129) (fun _ h9 => h9) rfl d_E_value_24 ?_
      refine va_getN (D := D) (ci := 2) (C := R_P) (T := F_P) (N := 7) hx hb hts in_P hown hK hP 2 rfl rfl 0 (by decide) (va_Nw.use rfl (hN _ tn_24)) (fun _ h9 => h9) rfl d_E_value_27 ?_
      refine lv_iload_n hx hb d_E_value_30 rfl (lv_at hl 1 rfl) ?_
      refine va_iald hx hb hK hP 3 0 rfl rfl hw.1 d_E_value_31 ?_
      replace hw := hw.2
      refine lv_if_eq (tgt := 37) hx hb d_E_value_32 (by decide) (fun hc => ?_) (fun hc => ?_)
      · replace hw := hw.1 hc
        refine lv_iload_n hx hb d_E_value_37 rfl (lv_at hl 2 rfl) ?_
        refine lv_if_lt (tgt := 54) hx hb d_E_value_38 (by decide) (fun hc => ?_) (fun hc => ?_)
        · replace hw := hw.1 hc
          refine lv_iconst (v := 0) hx hb d_E_value_54 (by decide) ?_
          exact hret _ _ _ _ _ _ hw hP hD hS d_E_value_55
        · replace hw := hw.2 hc
          refine lv_iload_n hx hb d_E_value_41 rfl (lv_at hl 2 rfl) ?_
          refine lv_aload_n hx hb d_E_value_42 rfl (lv_at hl 0 rfl) ?_
          refine va_get (D := D) (ci := 4) (C := R_E) (T := F_E) (N := 11) hx hb hts in_E hown hK hP 0 rfl rfl 1 (by decide) (hts _ tb_129) (fun _ h9 => h9) rfl d_E_value_43 ?_
          refine va_getN (D := D) (ci := 2) (C := R_P) (T := F_P) (N := 7) hx hb hts in_P hown hK hP 2 rfl rfl 2 (by decide) (va_Nw.use rfl (hN _ tn_27)) (fun _ h9 => h9) rfl d_E_value_46 ?_
          refine lv_iload_n hx hb d_E_value_49 rfl (lv_at hl 1 rfl) ?_
          refine va_iald hx hb hK hP 5 0 rfl rfl hw.1 d_E_value_50 ?_
          replace hw := hw.2
          refine lv_icmp_lt (tgt := 56) hx hb d_E_value_51 (by decide) (fun hc => ?_) (fun hc => ?_)
          · replace hw := hw.1 hc
            refine lv_aload_n hx hb d_E_value_56 rfl (lv_at hl 0 rfl) ?_
            refine va_get (D := D) (ci := 4) (C := R_E) (T := F_E) (N := 11) hx hb hts in_E hown hK hP 0 rfl rfl 1 (by decide) (hts _ tb_129) (fun _ h9 => h9) rfl d_E_value_57 ?_
            refine va_getN (D := D) (ci := 2) (C := R_P) (T := F_P) (N := 7) hx hb hts in_P hown hK hP 2 rfl rfl 5 (by decide) (va_Nw.use rfl (hN _ tn_33)) (fun _ h9 => h9) rfl d_E_value_60 ?_
            refine lv_iload_n hx hb d_E_value_63 rfl (lv_at hl 1 rfl) ?_
            refine lv_bipush (v := 8) hx hb d_E_value_64 (by decide) ?_
            refine lv_imul hx hb d_E_value_66 ?_
            refine lv_iload_n hx hb d_E_value_67 rfl (lv_at hl 2 rfl) ?_
            refine lv_iadd hx hb d_E_value_68 ?_
            refine va_iald hx hb hK hP 8 0 rfl rfl hw.1 d_E_value_69 ?_
            replace hw := hw.2
            exact hret _ _ _ _ _ _ hw hP hD hS d_E_value_70
          · replace hw := hw.2 hc
            refine lv_iconst (v := 0) hx hb d_E_value_54 (by decide) ?_
            exact hret _ _ _ _ _ _ hw hP hD hS d_E_value_55
      · replace hw := hw.2 hc
        refine lv_iconst (v := 0) hx hb d_E_value_35 (by decide) ?_
        exact hret _ _ _ _ _ _ hw hP hD hS d_E_value_36
set_option maxHeartbeats 4000000 in
set_option maxRecDepth 100000 in
theorem c_E_sector (l : Launch) (D : va_G) (a : Nat → Nat) (cI cZ : ClassId) (sz : Nat) (g : St) (x1 : Int32) (Q : Int32 → St → Prop) (hw : wp_E_sector g x1 Q) : MT_i l y_E_sector b_E_sector 2 rm_E_sector (wE a cI cZ) D (ty_ cI cZ) sz g [.ref (a 0), .int x1] Q := by
  refine MTi_of (by decide +kernel) (Nat.le_of_ble_eq_true rfl) ?_
  intro p e s m args below meth c A Qt ls hx hb hml hts hown hN hK hP hD hA hl hret
  have hS : va_S A s.heap s.heap [] := va_S.rf
  have hl : lv_has ls 2 [(0, .ref (a 0)), (1, .int x1)] := hl
  unfold wp_E_sector at hw
  refine lv_iload_n hx hb d_E_sector_0 rfl (lv_at hl 1 rfl) ?_
  refine lv_bipush (v := 63) hx hb d_E_sector_1 (by decide) ?_
  refine aft_i (va_runS (As := [.int x1, .int 63]) (rest := []) ⟨hx, hb, hml, hown, hts⟩ (c_E_isWithin l D a cI cZ _ g x1 63 _ hw) ⟨(callB_of 2 hts good_E_isWithin rfl rfl rfl (hts _ tb_1) (hts _ tb_240) hd_E_isWithin ⟨Nat.le_of_ble_eq_true rfl, Nat.le_of_ble_eq_true rfl⟩), (hts _ tb_241)⟩ (preS hP hD hK hN) rfl rfl hl.1 rfl (lv_room (Nat.le_of_ble_eq_true rfl)) d_E_sector_3 ⟨Nat.zero_le _, Nat.zero_le _⟩) hD hS hA hK (fun r3 u3 H locs hw hP hD hS => ?_)
  refine lv_if_eq (tgt := 18) hx hb d_E_sector_6 (by decide) (fun hc => ?_) (fun hc => ?_)
  · replace hw := hw.1 hc
    refine lv_iconst (v := 0) hx hb d_E_sector_18 (by decide) ?_
    exact hret _ _ _ _ _ _ hw hP hD hS d_E_sector_19
  · replace hw := hw.2 hc
    refine lv_aload_n hx hb d_E_sector_9 rfl (lv_at hl 0 rfl) ?_
    refine va_get (D := D) (ci := 4) (C := R_E) (T := F_E) (N := 11) hx hb hts in_E hown hK hP 0 rfl rfl 0 (by decide) (hts _ tb_128) (fun _ h9 => h9) rfl d_E_sector_10 ?_
    refine lv_iload_n hx hb d_E_sector_13 rfl (lv_at hl 1 rfl) ?_
    refine va_iald hx hb hK hP 1 0 rfl rfl hw.1 d_E_sector_14 ?_
    replace hw := hw.2
    refine lv_goto (tgt := 19) hx hb d_E_sector_15 (by decide) ?_
    exact hret _ _ _ _ _ _ hw hP hD hS d_E_sector_19
set_option maxHeartbeats 4000000 in
set_option maxRecDepth 100000 in
theorem c_E_waiting (l : Launch) (D : va_G) (a : Nat → Nat) (cI cZ : ClassId) (sz : Nat) (g : St) (x1 : Int32) (Q : Int32 → St → Prop) (hw : wp_E_waiting g x1 Q) : MT_i l y_E_waiting b_E_waiting 4 rm_E_waiting (wE a cI cZ) D (ty_ cI cZ) sz g [.ref (a 0), .int x1] Q := by
  refine MTi_of (by decide +kernel) (Nat.le_of_ble_eq_true rfl) ?_
  intro p e s m args below meth c A Qt ls hx hb hml hts hown hN hK hP hD hA hl hret
  have hS : va_S A s.heap s.heap [] := va_S.rf
  have hl : lv_has ls 4 [(0, .ref (a 0)), (1, .int x1)] := hl
  have k_14 : ∀ (n : Nat) (g : St) (x1 : Int32) (x2 : Int32) (x3 : Int32) (H : Heap) (locs : List Loc) (ls : Array Slot), va_P D cls_ (wE a cI cZ g) H → va_D A (wE a cI cZ g) → va_S A s.heap H locs → lv_has ls 4 [(0, .ref (a 0)), (1, .int x1), (2, .int x2), (3, .int x3)] → wl_E_waiting_14 Q n g x1 x2 x3 → W p l e rm_E_waiting s m args below meth c H locs 0 0 Qt (F0 m 14 ls []) := by
    intro n
    induction n with
    | zero => intro g x1 x2 x3 H locs ls hP hD hS hl hw; exact False.elim hw
    | succ n_14 ih_14 =>
      intro g x1 x2 x3 H locs ls hP hD hS hl hw
      unfold wl_E_waiting_14 at hw
      refine lv_iload_n hx hb d_E_waiting_14 rfl (lv_at hl 3 rfl) ?_
      refine lv_aload_n hx hb d_E_waiting_15 rfl (lv_at hl 0 rfl) ?_
      refine va_get (D := D) (ci := 4) (C := R_E) (T := F_E) (N := 11) hx hb hts in_E hown hK hP 0 rfl rfl 2 (by decide) (hts _ tb_130) (fun _ h9 => h9) rfl d_E_waiting_16 ?_
      refine va_getN (D := D) (ci := 3) (C := R_R) (T := F_R) (N := 9) hx hb hts in_R hown hK hP 9 rfl rfl 8 (by decide) (va_Nw.use rfl (hN _ tn_76)) (fun _ h9 => h9) rfl d_E_waiting_19 ?_
      refine lv_icmp_ge (tgt := 55) hx hb d_E_waiting_22 (by decide) (fun hc => ?_) (fun hc => ?_)
      · replace hw := hw.1 hc
        refine lv_iload_n hx hb d_E_waiting_55 rfl (lv_at hl 2 rfl) ?_
        exact hret _ _ _ _ _ _ hw hP hD hS d_E_waiting_56
      · replace hw := hw.2 hc
        refine lv_aload_n hx hb d_E_waiting_25 rfl (lv_at hl 0 rfl) ?_
        refine va_get (D := D) (ci := 4) (C := R_E) (T := F_E) (N := 11) hx hb hts in_E hown hK hP 0 rfl rfl 2 (by decide) (hts _ tb_130) (fun _ h9 => h9) rfl d_E_waiting_26 ?_
        refine va_getN (D := D) (ci := 3) (C := R_R) (T := F_R) (N := 9) hx hb hts in_R hown hK hP 9 rfl rfl 0 (by decide) (va_Nw.use rfl (hN _ tn_60)) (fun _ h9 => h9) rfl d_E_waiting_29 ?_
        refine lv_aload_n hx hb d_E_waiting_32 rfl (lv_at hl 0 rfl) ?_
        refine va_get (D := D) (ci := 4) (C := R_E) (T := F_E) (N := 11) hx hb hts in_E hown hK hP 0 rfl rfl 2 (by decide) (hts _ tb_130) (fun _ h9 => h9) rfl d_E_waiting_33 ?_
        refine va_getN (D := D) (ci := 3) (C := R_R) (T := F_R) (N := 9) hx hb hts in_R hown hK hP 9 rfl rfl 7 (by decide) (va_Nw.use rfl (hN _ tn_74)) (fun _ h9 => h9) rfl d_E_waiting_36 ?_
        refine lv_iload_n hx hb d_E_waiting_39 rfl (lv_at hl 3 rfl) ?_
        refine va_iald hx hb hK hP 17 0 rfl rfl hw.1 d_E_waiting_40 ?_
        replace hw := hw.2
        refine va_iald hx hb hK hP 10 0 rfl rfl hw.1 d_E_waiting_41 ?_
        replace hw := hw.2
        refine lv_iload_n hx hb d_E_waiting_42 rfl (lv_at hl 1 rfl) ?_
        refine lv_icmp_ne (tgt := 49) hx hb d_E_waiting_43 (by decide) (fun hc => ?_) (fun hc => ?_)
        · replace hw := hw.1 hc
          refine lv_iinc (k := 3) (v := x3 + 1) (lv' := [(3, .int (x3 + 1)), (0, .ref (a 0)), (1, .int x1), (2, .int x2)]) hx hb d_E_waiting_49 hl rfl rfl (by decide) rfl (fun ls hl => ?_)
          refine lv_goto (tgt := 14) hx hb d_E_waiting_52 (by decide) ?_
          exact ih_14 g x1 x2 (x3 + 1) _ _ _ hP hD hS (lv_sub hl [1, 2, 3, 0] rfl) hw
        · replace hw := hw.2 hc
          refine lv_iinc (k := 2) (v := x2 + 1) (lv' := [(2, .int (x2 + 1)), (0, .ref (a 0)), (1, .int x1), (3, .int x3)]) hx hb d_E_waiting_46 hl rfl rfl (by decide) rfl (fun ls hl => ?_)
          refine lv_iinc (k := 3) (v := x3 + 1) (lv' := [(3, .int (x3 + 1)), (2, .int (x2 + 1)), (0, .ref (a 0)), (1, .int x1)]) hx hb d_E_waiting_49 hl rfl rfl (by decide) rfl (fun ls hl => ?_)
          refine lv_goto (tgt := 14) hx hb d_E_waiting_52 (by decide) ?_
          exact ih_14 g x1 (x2 + 1) (x3 + 1) _ _ _ hP hD hS (lv_sub hl [2, 3, 1, 0] rfl) hw
  unfold wp_E_waiting at hw
  refine lv_iload_n hx hb d_E_waiting_0 rfl (lv_at hl 1 rfl) ?_
  refine lv_iconst (v := 1) hx hb d_E_waiting_1 (by decide) ?_
  refine aft_i (va_runS (As := [.int x1, .int 1]) (rest := []) ⟨hx, hb, hml, hown, hts⟩ (c_E_isWithin l D a cI cZ _ g x1 1 _ hw) ⟨(callB_of 2 hts good_E_isWithin rfl rfl rfl (hts _ tb_1) (hts _ tb_240) hd_E_isWithin ⟨Nat.le_of_ble_eq_true rfl, Nat.le_of_ble_eq_true rfl⟩), (hts _ tb_241)⟩ (preS hP hD hK hN) rfl rfl hl.1 rfl (lv_room (Nat.le_of_ble_eq_true rfl)) d_E_waiting_2 ⟨Nat.zero_le _, Nat.zero_le _⟩) hD hS hA hK (fun r2 u2 H locs hw hP hD hS => ?_)
  refine lv_if_ne (tgt := 10) hx hb d_E_waiting_5 (by decide) (fun hc => ?_) (fun hc => ?_)
  · replace hw := hw.1 hc
    refine lv_iconst (v := 0) hx hb d_E_waiting_10 (by decide) ?_
    refine lv_istore_n (lv' := [(2, .int 0), (0, .ref (a 0)), (1, .int x1)]) hx hb d_E_waiting_11 rfl hl (by decide) rfl (fun ls hl => ?_)
    refine lv_iconst (v := 0) hx hb d_E_waiting_12 (by decide) ?_
    refine lv_istore_n (lv' := [(3, .int 0), (2, .int 0), (0, .ref (a 0)), (1, .int x1)]) hx hb d_E_waiting_13 rfl hl (by decide) rfl (fun ls hl => ?_)
    obtain ⟨n, hw⟩ := hw
    exact k_14 n u2 x1 0 0 _ _ _ hP hD hS (lv_sub hl [2, 3, 1, 0] rfl) hw
  · replace hw := hw.2 hc
    refine lv_iconst (v := (-1)) hx hb d_E_waiting_8 (by decide) ?_
    exact hret _ _ _ _ _ _ hw hP hD hS d_E_waiting_9
set_option maxHeartbeats 4000000 in
set_option maxRecDepth 100000 in
theorem c_E_ready (l : Launch) (D : va_G) (a : Nat → Nat) (cI cZ : ClassId) (sz : Nat) (g : St) (x1 : Int32) (Q : Int32 → St → Prop) (hw : wp_E_ready g x1 Q) : MT_i l y_E_ready b_E_ready 4 rm_E_ready (wE a cI cZ) D (ty_ cI cZ) sz g [.ref (a 0), .int x1] Q := by
  refine MTi_of (by decide +kernel) (Nat.le_of_ble_eq_true rfl) ?_
  intro p e s m args below meth c A Qt ls hx hb hml hts hown hN hK hP hD hA hl hret
  have hS : va_S A s.heap s.heap [] := va_S.rf
  have hl : lv_has ls 4 [(0, .ref (a 0)), (1, .int x1)] := hl
  have k_18 : ∀ (n : Nat) (g : St) (x1 : Int32) (x2 : Int32) (x3 : Int32) (H : Heap) (locs : List Loc) (ls : Array Slot), va_P D cls_ (wE a cI cZ g) H → va_D A (wE a cI cZ g) → va_S A s.heap H locs → lv_has ls 4 [(0, .ref (a 0)), (1, .int x1), (2, .int x2), (3, .int x3)] → wl_E_ready_18 Q n g x1 x2 x3 → W p l e rm_E_ready s m args below meth c H locs 0 0 Qt (F0 m 18 ls []) := by
    intro n
    induction n with
    | zero => intro g x1 x2 x3 H locs ls hP hD hS hl hw; exact False.elim hw
    | succ n_18 ih_18 =>
      intro g x1 x2 x3 H locs ls hP hD hS hl hw
      unfold wl_E_ready_18 at hw
      refine lv_iload_n hx hb d_E_ready_18 rfl (lv_at hl 3 rfl) ?_
      refine lv_aload_n hx hb d_E_ready_19 rfl (lv_at hl 0 rfl) ?_
      refine va_get (D := D) (ci := 4) (C := R_E) (T := F_E) (N := 11) hx hb hts in_E hown hK hP 0 rfl rfl 2 (by decide) (hts _ tb_130) (fun _ h9 => h9) rfl d_E_ready_20 ?_
      refine va_getN (D := D) (ci := 3) (C := R_R) (T := F_R) (N := 9) hx hb hts in_R hown hK hP 9 rfl rfl 8 (by decide) (va_Nw.use rfl (hN _ tn_76)) (fun _ h9 => h9) rfl d_E_ready_23 ?_
      refine lv_icmp_ge (tgt := 58) hx hb d_E_ready_26 (by decide) (fun hc => ?_) (fun hc => ?_)
      · replace hw := hw.1 hc
        refine lv_iload_n hx hb d_E_ready_58 rfl (lv_at hl 2 rfl) ?_
        exact hret _ _ _ _ _ _ hw hP hD hS d_E_ready_59
      · replace hw := hw.2 hc
        refine lv_aload_n hx hb d_E_ready_29 rfl (lv_at hl 0 rfl) ?_
        refine va_get (D := D) (ci := 4) (C := R_E) (T := F_E) (N := 11) hx hb hts in_E hown hK hP 0 rfl rfl 2 (by decide) (hts _ tb_130) (fun _ h9 => h9) rfl d_E_ready_30 ?_
        refine lv_aload_n hx hb d_E_ready_33 rfl (lv_at hl 0 rfl) ?_
        refine va_get (D := D) (ci := 4) (C := R_E) (T := F_E) (N := 11) hx hb hts in_E hown hK hP 0 rfl rfl 2 (by decide) (hts _ tb_130) (fun _ h9 => h9) rfl d_E_ready_34 ?_
        refine va_getN (D := D) (ci := 3) (C := R_R) (T := F_R) (N := 9) hx hb hts in_R hown hK hP 9 rfl rfl 7 (by decide) (va_Nw.use rfl (hN _ tn_74)) (fun _ h9 => h9) rfl d_E_ready_37 ?_
        refine lv_iload_n hx hb d_E_ready_40 rfl (lv_at hl 3 rfl) ?_
        refine va_iald hx hb hK hP 17 0 rfl rfl hw.1 d_E_ready_41 ?_
        replace hw := hw.2
        refine lv_iload_n hx hb d_E_ready_42 rfl (lv_at hl 1 rfl) ?_
        refine aft_i (va_runVN (As := [.int (g.1 14 x3.toNatClampNeg), .int x1]) (rest := []) ⟨hx, hb, hml, hown, hts⟩ (c_R_isReady l D a cI cZ _ g (g.1 14 x3.toNatClampNeg) x1 _ hw) ⟨(va_cnB 2 hts good_R_isReady rfl rfl rfl (hN _ tn_333) (hts _ tb_3) hd_R_isReady ⟨Nat.le_of_ble_eq_true rfl, Nat.le_of_ble_eq_true rfl⟩), hts _ tb_274, hts _ ts_18⟩ (preV 9 3 hP hD hK hN rfl rfl) rfl rfl hl.1 rfl (lv_room (Nat.le_of_ble_eq_true rfl)) d_E_ready_43 ⟨Nat.zero_le _, Nat.zero_le _⟩) hD hS hA hK (fun r43 u43 H locs hw hP hD hS => ?_)
        refine lv_if_eq (tgt := 52) hx hb d_E_ready_46 (by decide) (fun hc => ?_) (fun hc => ?_)
        · replace hw := hw.1 hc
          refine lv_iinc (k := 3) (v := x3 + 1) (lv' := [(3, .int (x3 + 1)), (0, .ref (a 0)), (1, .int x1), (2, .int x2)]) hx hb d_E_ready_52 hl rfl rfl (by decide) rfl (fun ls hl => ?_)
          refine lv_goto (tgt := 18) hx hb d_E_ready_55 (by decide) ?_
          exact ih_18 u43 x1 x2 (x3 + 1) _ _ _ hP hD hS (lv_sub hl [1, 2, 3, 0] rfl) hw
        · replace hw := hw.2 hc
          refine lv_iinc (k := 2) (v := x2 + 1) (lv' := [(2, .int (x2 + 1)), (0, .ref (a 0)), (1, .int x1), (3, .int x3)]) hx hb d_E_ready_49 hl rfl rfl (by decide) rfl (fun ls hl => ?_)
          refine lv_iinc (k := 3) (v := x3 + 1) (lv' := [(3, .int (x3 + 1)), (2, .int (x2 + 1)), (0, .ref (a 0)), (1, .int x1)]) hx hb d_E_ready_52 hl rfl rfl (by decide) rfl (fun ls hl => ?_)
          refine lv_goto (tgt := 18) hx hb d_E_ready_55 (by decide) ?_
          exact ih_18 u43 x1 (x2 + 1) (x3 + 1) _ _ _ hP hD hS (lv_sub hl [2, 3, 1, 0] rfl) hw
  unfold wp_E_ready at hw
  refine lv_iload_n hx hb d_E_ready_0 rfl (lv_at hl 1 rfl) ?_
  refine lv_iconst (v := 1) hx hb d_E_ready_1 (by decide) ?_
  refine aft_i (va_runS (As := [.int x1, .int 1]) (rest := []) ⟨hx, hb, hml, hown, hts⟩ (c_E_isWithin l D a cI cZ _ g x1 1 _ hw) ⟨(callB_of 2 hts good_E_isWithin rfl rfl rfl (hts _ tb_1) (hts _ tb_240) hd_E_isWithin ⟨Nat.le_of_ble_eq_true rfl, Nat.le_of_ble_eq_true rfl⟩), (hts _ tb_241)⟩ (preS hP hD hK hN) rfl rfl hl.1 rfl (lv_room (Nat.le_of_ble_eq_true rfl)) d_E_ready_2 ⟨Nat.zero_le _, Nat.zero_le _⟩) hD hS hA hK (fun r2 u2 H locs hw hP hD hS => ?_)
  refine lv_if_ne (tgt := 10) hx hb d_E_ready_5 (by decide) (fun hc => ?_) (fun hc => ?_)
  · replace hw := hw.1 hc
    refine lv_aload_n hx hb d_E_ready_10 rfl (lv_at hl 0 rfl) ?_
    refine aft_v (va_runV (As := []) (rest := []) ⟨hx, hb, hml, hown, hts⟩ (c_E_markReady l D a cI cZ _ u2 _ hw) ⟨(callB_of 0 hts good_E_markReady rfl rfl rfl (hts _ tb_1) (hts _ tb_252) hd_E_markReady ⟨Nat.le_of_ble_eq_true rfl, Nat.le_of_ble_eq_true rfl⟩), hts _ tb_254, hts _ ts_13⟩ (preV 0 4 hP hD hK hN rfl rfl) rfl rfl hl.1 rfl (lv_room (Nat.le_of_ble_eq_true rfl)) d_E_ready_11 ⟨Nat.zero_le _, Nat.zero_le _⟩) hD hS hA hK (fun u11 H locs hw hP hD hS => ?_)
    refine lv_iconst (v := 0) hx hb d_E_ready_14 (by decide) ?_
    refine lv_istore_n (lv' := [(2, .int 0), (0, .ref (a 0)), (1, .int x1)]) hx hb d_E_ready_15 rfl hl (by decide) rfl (fun ls hl => ?_)
    refine lv_iconst (v := 0) hx hb d_E_ready_16 (by decide) ?_
    refine lv_istore_n (lv' := [(3, .int 0), (2, .int 0), (0, .ref (a 0)), (1, .int x1)]) hx hb d_E_ready_17 rfl hl (by decide) rfl (fun ls hl => ?_)
    obtain ⟨n, hw⟩ := hw
    exact k_18 n u11 x1 0 0 _ _ _ hP hD hS (lv_sub hl [2, 3, 1, 0] rfl) hw
  · replace hw := hw.2 hc
    refine lv_iconst (v := (-1)) hx hb d_E_ready_8 (by decide) ?_
    exact hret _ _ _ _ _ _ hw hP hD hS d_E_ready_9
set_option maxHeartbeats 4000000 in
set_option maxRecDepth 100000 in
theorem c_E_requestOf (l : Launch) (D : va_G) (a : Nat → Nat) (cI cZ : ClassId) (sz : Nat) (g : St) (x1 : Int32) (Q : Int32 → St → Prop) (hw : wp_E_requestOf g x1 Q) : MT_i l y_E_requestOf b_E_requestOf 2 rm_E_requestOf (wE a cI cZ) D (ty_ cI cZ) sz g [.ref (a 0), .int x1] Q := by
  refine MTi_of (by decide +kernel) (Nat.le_of_ble_eq_true rfl) ?_
  intro p e s m args below meth c A Qt ls hx hb hml hts hown hN hK hP hD hA hl hret
  have hS : va_S A s.heap s.heap [] := va_S.rf
  have hl : lv_has ls 2 [(0, .ref (a 0)), (1, .int x1)] := hl
  unfold wp_E_requestOf at hw
  refine lv_aload_n hx hb d_E_requestOf_0 rfl (lv_at hl 0 rfl) ?_
  refine va_get (D := D) (ci := 4) (C := R_E) (T := F_E) (N := 11) hx hb hts in_E hown hK hP 0 rfl rfl 1 (by decide) (hts _ tb_129) (fun _ h9 => h9) rfl d_E_requestOf_1 ?_
  refine lv_iload_n hx hb d_E_requestOf_4 rfl (lv_at hl 1 rfl) ?_
  refine aft_i (va_runVN (As := [.int x1]) (rest := []) ⟨hx, hb, hml, hown, hts⟩ (c_P_isWaiting l D a cI cZ _ g x1 _ hw) ⟨(va_cnB 1 hts good_P_isWaiting rfl rfl rfl (hN _ tn_338) (hts _ tb_2) hd_P_isWaiting ⟨Nat.le_of_ble_eq_true rfl, Nat.le_of_ble_eq_true rfl⟩), hts _ tb_340, hts _ ts_27⟩ (preV 2 2 hP hD hK hN rfl rfl) rfl rfl hl.1 rfl (lv_room (Nat.le_of_ble_eq_true rfl)) d_E_requestOf_5 ⟨Nat.zero_le _, Nat.zero_le _⟩) hD hS hA hK (fun r5 u5 H locs hw hP hD hS => ?_)
  refine lv_if_eq (tgt := 23) hx hb d_E_requestOf_8 (by decide) (fun hc => ?_) (fun hc => ?_)
  · replace hw := hw.1 hc
    refine lv_iconst (v := (-1)) hx hb d_E_requestOf_23 (by decide) ?_
    exact hret _ _ _ _ _ _ hw hP hD hS d_E_requestOf_24
  · replace hw := hw.2 hc
    refine lv_aload_n hx hb d_E_requestOf_11 rfl (lv_at hl 0 rfl) ?_
    refine va_get (D := D) (ci := 4) (C := R_E) (T := F_E) (N := 11) hx hb hts in_E hown hK hP 0 rfl rfl 1 (by decide) (hts _ tb_129) (fun _ h9 => h9) rfl d_E_requestOf_12 ?_
    refine va_getN (D := D) (ci := 2) (C := R_P) (T := F_P) (N := 7) hx hb hts in_P hown hK hP 2 rfl rfl 3 (by decide) (va_Nw.use rfl (hN _ tn_29)) (fun _ h9 => h9) rfl d_E_requestOf_15 ?_
    refine lv_iload_n hx hb d_E_requestOf_18 rfl (lv_at hl 1 rfl) ?_
    refine va_iald hx hb hK hP 6 0 rfl rfl hw.1 d_E_requestOf_19 ?_
    replace hw := hw.2
    refine lv_goto (tgt := 24) hx hb d_E_requestOf_20 (by decide) ?_
    exact hret _ _ _ _ _ _ hw hP hD hS d_E_requestOf_24
end
section
set_option maxHeartbeats 4000000 in
set_option maxRecDepth 100000 in
theorem c_E_about (l : Launch) (D : va_G) (a : Nat → Nat) (cI cZ : ClassId) (sz : Nat) (g : St) (x1 : Int32) (x2 : Int32) (Q : Int32 → St → Prop) (hw : wp_E_about g x1 x2 Q) : MT_i l y_E_about b_E_about 4 rm_E_about (wE a cI cZ) D (ty_ cI cZ) sz g [.ref (a 0), .int x1, .int x2] Q := by
  refine MTi_of (by decide +kernel) (Nat.le_of_ble_eq_true rfl) ?_
  intro p e s m args below meth c A Qt ls hx hb hml hts hown hN hK hP hD hA hl hret
  have hS : va_S A s.heap s.heap [] := va_S.rf
  have hl : lv_has ls 4 [(0, .ref (a 0)), (1, .int x1), (2, .int x2)] := hl
  unfold wp_E_about at hw
  refine lv_aload_n hx hb d_E_about_0 rfl (lv_at hl 0 rfl) ?_
  refine va_get (D := D) (ci := 4) (C := R_E) (T := F_E) (N := 11) hx hb hts in_E hown hK hP 0 rfl rfl 1 (by decide) (hts _ tb_129) (fun _ h9 => h9) rfl d_E_about_1 ?_
  refine lv_iload_n hx hb d_E_about_4 rfl (lv_at hl 1 rfl) ?_
  refine aft_i (va_runVN (As := [.int x1]) (rest := []) ⟨hx, hb, hml, hown, hts⟩ (c_P_isWaiting l D a cI cZ _ g x1 _ hw) ⟨(va_cnB 1 hts good_P_isWaiting rfl rfl rfl (hN _ tn_338) (hts _ tb_2) hd_P_isWaiting ⟨Nat.le_of_ble_eq_true rfl, Nat.le_of_ble_eq_true rfl⟩), hts _ tb_340, hts _ ts_27⟩ (preV 2 2 hP hD hK hN rfl rfl) rfl rfl hl.1 rfl (lv_room (Nat.le_of_ble_eq_true rfl)) d_E_about_5 ⟨Nat.zero_le _, Nat.zero_le _⟩) hD hS hA hK (fun r5 u5 H locs hw hP hD hS => ?_)
  refine lv_if_ne (tgt := 13) hx hb d_E_about_8 (by decide) (fun hc => ?_) (fun hc => ?_)
  · replace hw := hw.1 hc
    refine lv_aload_n hx hb d_E_about_13 rfl (lv_at hl 0 rfl) ?_
    refine va_get (D := D) (ci := 4) (C := R_E) (T := F_E) (N := 11) hx hb hts in_E hown hK hP 0 rfl rfl 1 (by decide) (hts _ tb_129) (fun _ h9 => h9) rfl d_E_about_14 ?_
    refine va_getN (D := D) (ci := 2) (C := R_P) (T := F_P) (N := 7) hx hb hts in_P hown hK hP 2 rfl rfl 3 (by decide) (va_Nw.use rfl (hN _ tn_29)) (fun _ h9 => h9) rfl d_E_about_17 ?_
    refine lv_iload_n hx hb d_E_about_20 rfl (lv_at hl 1 rfl) ?_
    refine va_iald hx hb hK hP 6 0 rfl rfl hw.1 d_E_about_21 ?_
    replace hw := hw.2
    refine lv_istore_n (lv' := [(3, .int (u5.1 4 x1.toNatClampNeg)), (0, .ref (a 0)), (1, .int x1), (2, .int x2)]) hx hb d_E_about_22 rfl hl (by decide) rfl (fun ls hl => ?_)
    refine lv_iload_n hx hb d_E_about_23 rfl (lv_at hl 3 rfl) ?_
    rcases sw_5 x2 with hc | hc | hc | hc | hc | hc
    · replace hw := hw.1 hc
      refine lv_tableOut (tgt := 110) hx hb d_E_about_24 hc (by decide) ?_
      refine lv_iconst (v := (-1)) hx hb d_E_about_110 (by decide) ?_
      exact hret _ _ _ _ _ _ hw hP hD hS d_E_about_111
    · replace hw := hw.2.1 hc
      refine lv_tableIn (off := 36) (tgt := 60) hx hb d_E_about_24 (by rw [hc]; decide) (by rw [hc]; decide) (by rw [hc]; rfl) (by decide) ?_
      refine lv_aload_n hx hb d_E_about_60 rfl (lv_at hl 1 rfl) ?_
      refine va_get (D := D) (ci := 4) (C := R_E) (T := F_E) (N := 11) hx hb hts in_E hown hK hP 0 rfl rfl 2 (by decide) (hts _ tb_130) (fun _ h9 => h9) rfl d_E_about_61 ?_
      refine va_getN (D := D) (ci := 3) (C := R_R) (T := F_R) (N := 9) hx hb hts in_R hown hK hP 9 rfl rfl 1 (by decide) (va_Nw.use rfl (hN _ tn_62)) (fun _ h9 => h9) rfl d_E_about_64 ?_
      refine lv_iload_n hx hb d_E_about_67 rfl (lv_at hl 0 rfl) ?_
      refine va_iald hx hb hK hP 11 0 rfl rfl hw.1 d_E_about_68 ?_
      replace hw := hw.2
      exact hret _ _ _ _ _ _ hw hP hD hS d_E_about_69
    · replace hw := hw.2.2.1 hc
      refine lv_tableIn (off := 46) (tgt := 70) hx hb d_E_about_24 (by rw [hc]; decide) (by rw [hc]; decide) (by rw [hc]; rfl) (by decide) ?_
      refine lv_aload_n hx hb d_E_about_70 rfl (lv_at hl 1 rfl) ?_
      refine va_get (D := D) (ci := 4) (C := R_E) (T := F_E) (N := 11) hx hb hts in_E hown hK hP 0 rfl rfl 2 (by decide) (hts _ tb_130) (fun _ h9 => h9) rfl d_E_about_71 ?_
      refine va_getN (D := D) (ci := 3) (C := R_R) (T := F_R) (N := 9) hx hb hts in_R hown hK hP 9 rfl rfl 2 (by decide) (va_Nw.use rfl (hN _ tn_64)) (fun _ h9 => h9) rfl d_E_about_74 ?_
      refine lv_iload_n hx hb d_E_about_77 rfl (lv_at hl 0 rfl) ?_
      refine va_iald hx hb hK hP 12 0 rfl rfl hw.1 d_E_about_78 ?_
      replace hw := hw.2
      exact hret _ _ _ _ _ _ hw hP hD hS d_E_about_79
    · replace hw := hw.2.2.2.1 hc
      refine lv_tableIn (off := 56) (tgt := 80) hx hb d_E_about_24 (by rw [hc]; decide) (by rw [hc]; decide) (by rw [hc]; rfl) (by decide) ?_
      refine lv_aload_n hx hb d_E_about_80 rfl (lv_at hl 1 rfl) ?_
      refine va_get (D := D) (ci := 4) (C := R_E) (T := F_E) (N := 11) hx hb hts in_E hown hK hP 0 rfl rfl 2 (by decide) (hts _ tb_130) (fun _ h9 => h9) rfl d_E_about_81 ?_
      refine va_getN (D := D) (ci := 3) (C := R_R) (T := F_R) (N := 9) hx hb hts in_R hown hK hP 9 rfl rfl 4 (by decide) (va_Nw.use rfl (hN _ tn_68)) (fun _ h9 => h9) rfl d_E_about_84 ?_
      refine lv_iload_n hx hb d_E_about_87 rfl (lv_at hl 0 rfl) ?_
      refine va_iald hx hb hK hP 14 0 rfl rfl hw.1 d_E_about_88 ?_
      replace hw := hw.2
      exact hret _ _ _ _ _ _ hw hP hD hS d_E_about_89
    · replace hw := hw.2.2.2.2.1 hc
      refine lv_tableIn (off := 66) (tgt := 90) hx hb d_E_about_24 (by rw [hc]; decide) (by rw [hc]; decide) (by rw [hc]; rfl) (by decide) ?_
      refine lv_aload_n hx hb d_E_about_90 rfl (lv_at hl 1 rfl) ?_
      refine va_get (D := D) (ci := 4) (C := R_E) (T := F_E) (N := 11) hx hb hts in_E hown hK hP 0 rfl rfl 2 (by decide) (hts _ tb_130) (fun _ h9 => h9) rfl d_E_about_91 ?_
      refine va_getN (D := D) (ci := 3) (C := R_R) (T := F_R) (N := 9) hx hb hts in_R hown hK hP 9 rfl rfl 5 (by decide) (va_Nw.use rfl (hN _ tn_70)) (fun _ h9 => h9) rfl d_E_about_94 ?_
      refine lv_iload_n hx hb d_E_about_97 rfl (lv_at hl 0 rfl) ?_
      refine va_iald hx hb hK hP 15 0 rfl rfl hw.1 d_E_about_98 ?_
      replace hw := hw.2
      exact hret _ _ _ _ _ _ hw hP hD hS d_E_about_99
    · replace hw := hw.2.2.2.2.2 hc
      refine lv_tableIn (off := 76) (tgt := 100) hx hb d_E_about_24 (by rw [hc]; decide) (by rw [hc]; decide) (by rw [hc]; rfl) (by decide) ?_
      refine lv_aload_n hx hb d_E_about_100 rfl (lv_at hl 1 rfl) ?_
      refine va_get (D := D) (ci := 4) (C := R_E) (T := F_E) (N := 11) hx hb hts in_E hown hK hP 0 rfl rfl 2 (by decide) (hts _ tb_130) (fun _ h9 => h9) rfl d_E_about_101 ?_
      refine va_getN (D := D) (ci := 3) (C := R_R) (T := F_R) (N := 9) hx hb hts in_R hown hK hP 9 rfl rfl 0 (by decide) (va_Nw.use rfl (hN _ tn_60)) (fun _ h9 => h9) rfl d_E_about_104 ?_
      refine lv_iload_n hx hb d_E_about_107 rfl (lv_at hl 0 rfl) ?_
      refine va_iald hx hb hK hP 10 0 rfl rfl hw.1 d_E_about_108 ?_
      replace hw := hw.2
      exact hret _ _ _ _ _ _ hw hP hD hS d_E_about_109
  · replace hw := hw.2 hc
    refine lv_iconst (v := (-1)) hx hb d_E_about_11 (by decide) ?_
    exact hret _ _ _ _ _ _ hw hP hD hS d_E_about_12
set_option maxHeartbeats 4000000 in
set_option maxRecDepth 100000 in
theorem c_E_latest (l : Launch) (D : va_G) (a : Nat → Nat) (cI cZ : ClassId) (sz : Nat) (g : St) (Q : Int32 → St → Prop) (hw : wp_E_latest g Q) : MT_i l y_E_latest b_E_latest 1 rm_E_latest (wE a cI cZ) D (ty_ cI cZ) sz g [.ref (a 0)] Q := by
  refine MTi_of (by decide +kernel) (Nat.le_of_ble_eq_true rfl) ?_
  intro p e s m args below meth c A Qt ls hx hb hml hts hown hN hK hP hD hA hl hret
  have hS : va_S A s.heap s.heap [] := va_S.rf
  have hl : lv_has ls 1 [(0, .ref (a 0))] := hl
  unfold wp_E_latest at hw
  refine lv_aload_n hx hb d_E_latest_0 rfl (lv_at hl 0 rfl) ?_
  refine va_get (D := D) (ci := 4) (C := R_E) (T := F_E) (N := 11) hx hb hts in_E hown hK hP 0 rfl rfl 10 (by decide) (hts _ tb_138) (fun _ h9 => h9) rfl d_E_latest_1 ?_
  exact hret _ _ _ _ _ _ hw hP hD hS d_E_latest_4
set_option maxHeartbeats 4000000 in
set_option maxRecDepth 100000 in
theorem c_E_head (l : Launch) (D : va_G) (a : Nat → Nat) (cI cZ : ClassId) (sz : Nat) (g : St) (Q : Int32 → St → Prop) (hw : wp_E_head g Q) : MT_i l y_E_head b_E_head 1 rm_E_head (wE a cI cZ) D (ty_ cI cZ) sz g [.ref (a 0)] Q := by
  refine MTi_of (by decide +kernel) (Nat.le_of_ble_eq_true rfl) ?_
  intro p e s m args below meth c A Qt ls hx hb hml hts hown hN hK hP hD hA hl hret
  have hS : va_S A s.heap s.heap [] := va_S.rf
  have hl : lv_has ls 1 [(0, .ref (a 0))] := hl
  unfold wp_E_head at hw
  refine lv_aload_n hx hb d_E_head_0 rfl (lv_at hl 0 rfl) ?_
  refine va_get (D := D) (ci := 4) (C := R_E) (T := F_E) (N := 11) hx hb hts in_E hown hK hP 0 rfl rfl 9 (by decide) (hts _ tb_137) (fun _ h9 => h9) rfl d_E_head_1 ?_
  exact hret _ _ _ _ _ _ hw hP hD hS d_E_head_4
set_option maxHeartbeats 4000000 in
set_option maxRecDepth 100000 in
theorem c_E_now (l : Launch) (D : va_G) (a : Nat → Nat) (cI cZ : ClassId) (sz : Nat) (g : St) (Q : Int32 → St → Prop) (hw : wp_E_now g Q) : MT_i l y_E_now b_E_now 1 rm_E_now (wE a cI cZ) D (ty_ cI cZ) sz g [.ref (a 0)] Q := by
  refine MTi_of (by decide +kernel) (Nat.le_of_ble_eq_true rfl) ?_
  intro p e s m args below meth c A Qt ls hx hb hml hts hown hN hK hP hD hA hl hret
  have hS : va_S A s.heap s.heap [] := va_S.rf
  have hl : lv_has ls 1 [(0, .ref (a 0))] := hl
  unfold wp_E_now at hw
  refine lv_aload_n hx hb d_E_now_0 rfl (lv_at hl 0 rfl) ?_
  refine va_get (D := D) (ci := 4) (C := R_E) (T := F_E) (N := 11) hx hb hts in_E hown hK hP 0 rfl rfl 8 (by decide) (hts _ tb_136) (fun _ h9 => h9) rfl d_E_now_1 ?_
  exact hret _ _ _ _ _ _ hw hP hD hS d_E_now_4
set_option maxHeartbeats 4000000 in
set_option maxRecDepth 100000 in
theorem c_E_batch (l : Launch) (D : va_G) (a : Nat → Nat) (cI cZ : ClassId) (sz : Nat) (g : St) (Q : Int32 → St → Prop) (hw : wp_E_batch g Q) : MT_i l y_E_batch b_E_batch 1 rm_E_batch (wE a cI cZ) D (ty_ cI cZ) sz g [.ref (a 0)] Q := by
  refine MTi_of (by decide +kernel) (Nat.le_of_ble_eq_true rfl) ?_
  intro p e s m args below meth c A Qt ls hx hb hml hts hown hN hK hP hD hA hl hret
  have hS : va_S A s.heap s.heap [] := va_S.rf
  have hl : lv_has ls 1 [(0, .ref (a 0))] := hl
  unfold wp_E_batch at hw
  refine lv_bipush (v := 10) hx hb d_E_batch_0 (by decide) ?_
  refine lv_aload_n hx hb d_E_batch_2 rfl (lv_at hl 0 rfl) ?_
  refine va_get (D := D) (ci := 4) (C := R_E) (T := F_E) (N := 11) hx hb hts in_E hown hK hP 0 rfl rfl 4 (by decide) (hts _ tb_132) (fun _ h9 => h9) rfl d_E_batch_3 ?_
  refine va_getN (D := D) (ci := 0) (C := R_B) (T := F_B) (N := 3) hx hb hts in_B hown hK hP 19 rfl rfl 2 (by decide) (va_Nw.use rfl (hN _ tn_120)) (fun _ h9 => h9) rfl d_E_batch_6 ?_
  refine lv_imul hx hb d_E_batch_9 ?_
  refine lv_iconst (v := 5) hx hb d_E_batch_10 (by decide) ?_
  refine lv_aload_n hx hb d_E_batch_11 rfl (lv_at hl 0 rfl) ?_
  refine va_get (D := D) (ci := 4) (C := R_E) (T := F_E) (N := 11) hx hb hts in_E hown hK hP 0 rfl rfl 4 (by decide) (hts _ tb_132) (fun _ h9 => h9) rfl d_E_batch_12 ?_
  refine va_getN (D := D) (ci := 0) (C := R_B) (T := F_B) (N := 3) hx hb hts in_B hown hK hP 19 rfl rfl 0 (by decide) (va_Nw.use rfl (hN _ tn_116)) (fun _ h9 => h9) rfl d_E_batch_15 ?_
  refine lv_imul hx hb d_E_batch_18 ?_
  refine lv_iadd hx hb d_E_batch_19 ?_
  refine lv_aload_n hx hb d_E_batch_20 rfl (lv_at hl 0 rfl) ?_
  refine va_get (D := D) (ci := 4) (C := R_E) (T := F_E) (N := 11) hx hb hts in_E hown hK hP 0 rfl rfl 4 (by decide) (hts _ tb_132) (fun _ h9 => h9) rfl d_E_batch_21 ?_
  refine va_getN (D := D) (ci := 0) (C := R_B) (T := F_B) (N := 3) hx hb hts in_B hown hK hP 19 rfl rfl 1 (by decide) (va_Nw.use rfl (hN _ tn_118)) (fun _ h9 => h9) rfl d_E_batch_24 ?_
  refine lv_iadd hx hb d_E_batch_27 ?_
  exact hret _ _ _ _ _ _ hw hP hD hS d_E_batch_28
end
section
def wp_M_waits (g : St) (x1 : Int32) (Q : Int32 → St → Prop) : Prop := (vp_in x1 200 ∧ ((¬ (g.1 6 x1.toNatClampNeg) = 1 → Q 0 g) ∧ ((g.1 6 x1.toNatClampNeg) = 1 → (vp_in x1 200 ∧ ((¬ (g.1 5 x1.toNatClampNeg) = x1 → Q 0 g) ∧ ((g.1 5 x1.toNatClampNeg) = x1 → Q 1 g))))))
def wl_M_start_5 (Q : Int32 → St → Prop) : Nat → St → Int32 → Int32 → Int32 → Prop
  | 0, _, _, _, _ => False
  | n + 1, g, x1, x2, x3 => (((g.2.1 0) ≤ x3 → Q x2 g) ∧ (¬ (g.2.1 0) ≤ x3 → (vp_in x3 200 ∧ ((¬ (g.1 5 x3.toNatClampNeg) = x1 → (wl_M_start_5 Q n) g x1 x2 (x3 + 1)) ∧ ((g.1 5 x3.toNatClampNeg) = x1 → (vp_in x3 200 ∧ ((x2 ≤ (g.1 2 x3.toNatClampNeg) → (wl_M_start_5 Q n) g x1 x2 (x3 + 1)) ∧ (¬ x2 ≤ (g.1 2 x3.toNatClampNeg) → (vp_in x3 200 ∧ (wl_M_start_5 Q n) g x1 (g.1 2 x3.toNatClampNeg) (x3 + 1))))))))))
def wp_M_start (g : St) (x1 : Int32) (Q : Int32 → St → Prop) : Prop := ∃ j_5 : Nat, wl_M_start_5 Q j_5 g x1 64 0
def wl_M_length_4 (Q : Int32 → St → Prop) : Nat → St → Int32 → Int32 → Int32 → Prop
  | 0, _, _, _, _ => False
  | n + 1, g, x1, x2, x3 => (((g.2.1 0) ≤ x3 → Q x2 g) ∧ (¬ (g.2.1 0) ≤ x3 → (vp_in x3 200 ∧ ((¬ (g.1 5 x3.toNatClampNeg) = x1 → (wl_M_length_4 Q n) g x1 x2 (x3 + 1)) ∧ ((g.1 5 x3.toNatClampNeg) = x1 → (vp_in x3 200 ∧ (wl_M_length_4 Q n) g x1 (x2 + (g.1 3 x3.toNatClampNeg)) (x3 + 1)))))))
def wp_M_length (g : St) (x1 : Int32) (Q : Int32 → St → Prop) : Prop := ∃ j_4 : Nat, wl_M_length_4 Q j_4 g x1 0 0
def wl_M_members_4 (Q : Int32 → St → Prop) : Nat → St → Int32 → Int32 → Int32 → Prop
  | 0, _, _, _, _ => False
  | n + 1, g, x1, x2, x3 => (((g.2.1 0) ≤ x3 → Q x2 g) ∧ (¬ (g.2.1 0) ≤ x3 → (vp_in x3 200 ∧ ((¬ (g.1 5 x3.toNatClampNeg) = x1 → (wl_M_members_4 Q n) g x1 x2 (x3 + 1)) ∧ ((g.1 5 x3.toNatClampNeg) = x1 → (wl_M_members_4 Q n) g x1 (x2 + 1) (x3 + 1))))))
def wp_M_members (g : St) (x1 : Int32) (Q : Int32 → St → Prop) : Prop := ∃ j_4 : Nat, wl_M_members_4 Q j_4 g x1 0 0
def wb_M_conflict_20 (Q : Int32 → St → Prop) (g : St) (x1 : Int32) (x2 : Int32) : Prop := (vp_in x1 200 ∧ (vp_in x2 200 ∧ (vp_in x2 200 ∧ ((((g.1 2 x2.toNatClampNeg) + (g.1 3 x2.toNatClampNeg)) ≤ (g.1 2 x1.toNatClampNeg) → Q 0 g) ∧ (¬ ((g.1 2 x2.toNatClampNeg) + (g.1 3 x2.toNatClampNeg)) ≤ (g.1 2 x1.toNatClampNeg) → (vp_in x2 200 ∧ (vp_in x1 200 ∧ (vp_in x1 200 ∧ ((((g.1 2 x1.toNatClampNeg) + (g.1 3 x1.toNatClampNeg)) ≤ (g.1 2 x2.toNatClampNeg) → Q 0 g) ∧ (¬ ((g.1 2 x1.toNatClampNeg) + (g.1 3 x1.toNatClampNeg)) ≤ (g.1 2 x2.toNatClampNeg) → Q 1 g))))))))))
def wp_M_conflict (g : St) (x1 : Int32) (x2 : Int32) (Q : Int32 → St → Prop) : Prop := (vp_in x1 200 ∧ (((g.1 1 x1.toNatClampNeg) = 1 → wb_M_conflict_20 Q g x1 x2) ∧ (¬ (g.1 1 x1.toNatClampNeg) = 1 → (vp_in x2 200 ∧ ((¬ (g.1 1 x2.toNatClampNeg) = 1 → Q 0 g) ∧ ((g.1 1 x2.toNatClampNeg) = 1 → wb_M_conflict_20 Q g x1 x2))))))
def wl_M_isReady_66 (K_12 : St → Int32 → Int32 → Prop) (Q : Int32 → St → Prop) : Nat → St → Int32 → Int32 → Int32 → Prop
  | 0, _, _, _, _ => False
  | n + 1, g, x1, x2, x3 => (((g.2.1 0) ≤ x3 → K_12 g x1 (x2 + 1)) ∧ (¬ (g.2.1 0) ≤ x3 → (vp_in x3 200 ∧ ((¬ (g.1 5 x3.toNatClampNeg) = x1 → (wl_M_isReady_66 K_12 Q n) g x1 x2 (x3 + 1)) ∧ ((g.1 5 x3.toNatClampNeg) = x1 → wp_M_conflict g x3 x2 (fun r87 u87 => ((r87 = 0 → (wl_M_isReady_66 K_12 Q n) u87 x1 x2 (x3 + 1)) ∧ (¬ r87 = 0 → Q 0 u87))))))))
def wl_M_isReady_12 (Q : Int32 → St → Prop) : Nat → St → Int32 → Int32 → Prop
  | 0, _, _, _ => False
  | n + 1, g, x1, x2 => (((g.2.1 0) ≤ x2 → Q 1 g) ∧ (¬ (g.2.1 0) ≤ x2 → (vp_in x2 200 ∧ ((¬ (g.1 6 x2.toNatClampNeg) = 1 → (wl_M_isReady_12 Q n) g x1 (x2 + 1)) ∧ ((g.1 6 x2.toNatClampNeg) = 1 → (vp_in x2 200 ∧ (((g.1 5 x2.toNatClampNeg) = x1 → (wl_M_isReady_12 Q n) g x1 (x2 + 1)) ∧ (¬ (g.1 5 x2.toNatClampNeg) = x1 → (vp_in x2 200 ∧ (vp_in (g.1 5 x2.toNatClampNeg) 200 ∧ (vp_in x1 200 ∧ (((g.1 9 x1.toNatClampNeg) ≤ (g.1 9 (g.1 5 x2.toNatClampNeg).toNatClampNeg) → ∃ j_66 : Nat, wl_M_isReady_66 (wl_M_isReady_12 Q n) Q j_66 g x1 x2 (x2 + 1)) ∧ (¬ (g.1 9 x1.toNatClampNeg) ≤ (g.1 9 (g.1 5 x2.toNatClampNeg).toNatClampNeg) → Q 0 g)))))))))))))
def wp_M_isReady (g : St) (x1 : Int32) (Q : Int32 → St → Prop) : Prop := wp_M_waits g x1 (fun r2 u2 => ((¬ r2 = 0 → ∃ j_12 : Nat, wl_M_isReady_12 Q j_12 u2 x1 0) ∧ (r2 = 0 → Q 0 u2)))
def wb_M_joined_168 (K_36 : St → Int32 → Int32 → Prop) (K_43 : St → Int32 → Int32 → Int32 → Prop) (Q : Int32 → St → Prop) (g : St) (x1 : Int32) (x2 : Int32) (x3 : Int32) (z0 : Int32) : Prop := ((z0 = 0 → K_43 g x1 x2 (x3 + 1)) ∧ (¬ z0 = 0 → Q x3 g))
def wl_M_joined_43 (K_36 : St → Int32 → Int32 → Prop) (Q : Int32 → St → Prop) : Nat → St → Int32 → Int32 → Int32 → Prop
  | 0, _, _, _, _ => False
  | n + 1, g, x1, x2, x3 => ((x1 ≤ x3 → K_36 g x1 (x2 + 1)) ∧ (¬ x1 ≤ x3 → wp_M_waits g x3 (fun r50 u50 => ((r50 = 0 → (wl_M_joined_43 K_36 Q n) u50 x1 x2 (x3 + 1)) ∧ (¬ r50 = 0 → (vp_in x3 200 ∧ (vp_in x1 200 ∧ ((¬ (u50.1 1 x3.toNatClampNeg) = (u50.1 1 x1.toNatClampNeg) → (wl_M_joined_43 K_36 Q n) u50 x1 x2 (x3 + 1)) ∧ ((u50.1 1 x3.toNatClampNeg) = (u50.1 1 x1.toNatClampNeg) → (vp_in x3 200 ∧ ((¬ (u50.1 9 x3.toNatClampNeg) = (u50.2.1 1) → (wl_M_joined_43 K_36 Q n) u50 x1 x2 (x3 + 1)) ∧ ((u50.1 9 x3.toNatClampNeg) = (u50.2.1 1) → wp_M_members u50 x3 (fun r86 u86 => ((4 ≤ r86 → (wl_M_joined_43 K_36 Q n) u86 x1 x2 (x3 + 1)) ∧ (¬ 4 ≤ r86 → wp_M_length u86 x3 (fun r95 u95 => (vp_in x1 200 ∧ ((16 < (r95 + (u95.1 3 x1.toNatClampNeg)) → (wl_M_joined_43 K_36 Q n) u95 x1 x2 (x3 + 1)) ∧ (¬ 16 < (r95 + (u95.1 3 x1.toNatClampNeg)) → ((¬ x2 = 0 → wp_M_start u95 x3 (fun r144 u144 => (vp_in x1 200 ∧ (vp_in x1 200 ∧ ((¬ r144 = ((u144.1 2 x1.toNatClampNeg) + (u144.1 3 x1.toNatClampNeg)) → wb_M_joined_168 K_36 (wl_M_joined_43 K_36 Q n) Q u144 x1 x2 x3 0) ∧ (r144 = ((u144.1 2 x1.toNatClampNeg) + (u144.1 3 x1.toNatClampNeg)) → wb_M_joined_168 K_36 (wl_M_joined_43 K_36 Q n) Q u144 x1 x2 x3 1)))))) ∧ (x2 = 0 → wp_M_start u95 x3 (fun r116 u116 => wp_M_length u116 x3 (fun r121 u121 => (vp_in x1 200 ∧ ((¬ (r116 + r121) = (u121.1 2 x1.toNatClampNeg) → wb_M_joined_168 K_36 (wl_M_joined_43 K_36 Q n) Q u121 x1 x2 x3 0) ∧ ((r116 + r121) = (u121.1 2 x1.toNatClampNeg) → wb_M_joined_168 K_36 (wl_M_joined_43 K_36 Q n) Q u121 x1 x2 x3 1))))))))))))))))))))))))))
def wl_M_joined_36 (Q : Int32 → St → Prop) : Nat → St → Int32 → Int32 → Prop
  | 0, _, _, _ => False
  | n + 1, g, x1, x2 => ((2 ≤ x2 → Q x1 g) ∧ (¬ 2 ≤ x2 → ∃ j_43 : Nat, wl_M_joined_43 (wl_M_joined_36 Q n) Q j_43 g x1 x2 0))
def wl_M_joined_2 (Q : Int32 → St → Prop) : Nat → St → Int32 → Int32 → Prop
  | 0, _, _, _ => False
  | n + 1, g, x1, x2 => ((x1 ≤ x2 → ∃ j_36 : Nat, wl_M_joined_36 Q j_36 g x1 0) ∧ (¬ x1 ≤ x2 → (vp_in x2 200 ∧ ((¬ (g.1 6 x2.toNatClampNeg) = 1 → (wl_M_joined_2 Q n) g x1 (x2 + 1)) ∧ ((g.1 6 x2.toNatClampNeg) = 1 → wp_M_conflict g x1 x2 (fun r20 u20 => ((r20 = 0 → (wl_M_joined_2 Q n) u20 x1 (x2 + 1)) ∧ (¬ r20 = 0 → Q x1 u20))))))))
def wp_M_joined (g : St) (x1 : Int32) (Q : Int32 → St → Prop) : Prop := ∃ j_2 : Nat, wl_M_joined_2 Q j_2 g x1 0
def wl_M_waiting_4 (Q : Int32 → St → Prop) : Nat → St → Int32 → Int32 → Int32 → Prop
  | 0, _, _, _, _ => False
  | n + 1, g, x1, x2, x3 => (((g.2.1 0) ≤ x3 → ((x1 < 0 → Q (-1) g) ∧ (¬ x1 < 0 → ((x1 ≤ 1 → Q x2 g) ∧ (¬ x1 ≤ 1 → Q (-1) g))))) ∧ (¬ (g.2.1 0) ≤ x3 → wp_M_waits g x3 (fun r14 u14 => ((r14 = 0 → (wl_M_waiting_4 Q n) u14 x1 x2 (x3 + 1)) ∧ (¬ r14 = 0 → (vp_in x3 200 ∧ ((¬ (u14.1 1 x3.toNatClampNeg) = x1 → (wl_M_waiting_4 Q n) u14 x1 x2 (x3 + 1)) ∧ ((u14.1 1 x3.toNatClampNeg) = x1 → (wl_M_waiting_4 Q n) u14 x1 (x2 + 1) (x3 + 1)))))))))
def wp_M_waiting (g : St) (x1 : Int32) (Q : Int32 → St → Prop) : Prop := ∃ j_4 : Nat, wl_M_waiting_4 Q j_4 g x1 0 0
def wp_M_come (g : St) (x1 : Int32) (x2 : Int32) (x3 : Int32) (x4 : Int32) (Q : Int32 → St → Prop) : Prop := ((x3 < 1 → Q (-1) g) ∧ (¬ x3 < 1 → ((8 < x3 → Q (-1) g) ∧ (¬ 8 < x3 → ((x2 < 0 → Q (-1) g) ∧ (¬ x2 < 0 → ((x2 ≤ (64 - x3) → (((g.2.1 0) = 200 → Q (-2) g) ∧ (¬ (g.2.1 0) = 200 → wp_M_waiting g 0 (fun r37 u37 => wp_M_waiting u37 1 (fun r42 u42 => ((¬ (r37 + r42) = 24 → (vp_in (u42.2.1 0) 200 ∧ (vp_in (u42.2.1 0) 200 ∧ (vp_in (u42.2.1 0) 200 ∧ (vp_in (u42.2.1 0) 200 ∧ wp_M_joined (sA (sA (sA (sA u42 1 (u42.2.1 0).toNatClampNeg x1) 2 (u42.2.1 0).toNatClampNeg x2) 3 (u42.2.1 0).toNatClampNeg x3) 4 (u42.2.1 0).toNatClampNeg x4) (u42.2.1 0) (fun r96 u96 => (vp_in (u42.2.1 0) 200 ∧ (vp_in (u42.2.1 0) 200 ∧ ((¬ r96 = (u42.2.1 0) → Q (u42.2.1 0) (sA (sA (sI u96 0 ((u96.2.1 0) + 1)) 5 (u42.2.1 0).toNatClampNeg r96) 6 (u42.2.1 0).toNatClampNeg 1)) ∧ (r96 = (u42.2.1 0) → (vp_in x1 2 ∧ (vp_in (u42.2.1 0) 200 ∧ (vp_in (u42.2.1 0) 200 ∧ Q (u42.2.1 0) (sA (sA (sA (sA (sI u96 0 ((u96.2.1 0) + 1)) 5 (u42.2.1 0).toNatClampNeg r96) 6 (u42.2.1 0).toNatClampNeg 1) 8 (u42.2.1 0).toNatClampNeg (((sA (sA (sI u96 0 ((u96.2.1 0) + 1)) 5 (u42.2.1 0).toNatClampNeg r96) 6 (u42.2.1 0).toNatClampNeg 1).2.1 2) + ((sA (sA (sI u96 0 ((u96.2.1 0) + 1)) 5 (u42.2.1 0).toNatClampNeg r96) 6 (u42.2.1 0).toNatClampNeg 1).1 10 x1.toNatClampNeg))) 9 (u42.2.1 0).toNatClampNeg ((sA (sA (sA (sI u96 0 ((u96.2.1 0) + 1)) 5 (u42.2.1 0).toNatClampNeg r96) 6 (u42.2.1 0).toNatClampNeg 1) 8 (u42.2.1 0).toNatClampNeg (((sA (sA (sI u96 0 ((u96.2.1 0) + 1)) 5 (u42.2.1 0).toNatClampNeg r96) 6 (u42.2.1 0).toNatClampNeg 1).2.1 2) + ((sA (sA (sI u96 0 ((u96.2.1 0) + 1)) 5 (u42.2.1 0).toNatClampNeg r96) 6 (u42.2.1 0).toNatClampNeg 1).1 10 x1.toNatClampNeg))).2.1 1))))))))))))))) ∧ ((r37 + r42) = 24 → Q (-2) u42))))))) ∧ (¬ x2 ≤ (64 - x3) → Q (-1) g))))))))
def wp_M_read (g : St) (x1 : Int32) (x2 : Int32) (Q : Int32 → St → Prop) : Prop := wp_M_come g 0 x1 x2 0 (fun r5 u5 => Q r5 u5)
def wp_M_write (g : St) (x1 : Int32) (x2 : Int32) (x3 : Int32) (Q : Int32 → St → Prop) : Prop := wp_M_come g 1 x1 x2 x3 (fun r5 u5 => Q r5 u5)
def wp_M_barrier (g : St) (Q : Int32 → St → Prop) : Prop := Q ((sI g 1 ((g.2.1 1) + 1)).2.1 1) (sI g 1 ((g.2.1 1) + 1))
def wp_M_expire (g : St) (x1 : Int32) (x2 : Int32) (Q : Int32 → St → Prop) : Prop := wp_M_waiting g 0 (fun r2 u2 => wp_M_waiting u2 1 (fun r7 u7 => ((0 < (r2 + r7) → Q 0 u7) ∧ (¬ 0 < (r2 + r7) → ((x1 < 0 → Q 0 u7) ∧ (¬ x1 < 0 → ((10000 < x1 → Q 0 u7) ∧ (¬ 10000 < x1 → ((x2 < 0 → Q 0 u7) ∧ (¬ x2 < 0 → ((x2 ≤ 10000 → (vp_in 0 2 ∧ (vp_in 1 2 ∧ Q 1 (sA (sA u7 10 (0 : Int32).toNatClampNeg x1) 10 (1 : Int32).toNatClampNeg x2)))) ∧ (¬ x2 ≤ 10000 → Q 0 u7))))))))))))
def wp_M_tick (g : St) (x1 : Int32) (Q : Int32 → St → Prop) : Prop := ((x1 < 0 → Q 0 g) ∧ (¬ x1 < 0 → ((x1 ≤ 100000 → Q 1 (sI g 2 ((g.2.1 2) + x1))) ∧ (¬ x1 ≤ 100000 → Q 0 g))))
def wl_M_sweep_5 (Q : Int32 → St → Prop) : Nat → St → Int32 → Int32 → Int32 → Int32 → Prop
  | 0, _, _, _, _, _ => False
  | n + 1, g, x1, x2, x3, x4 => (((g.2.1 0) ≤ x4 → Q x3 g) ∧ (¬ (g.2.1 0) ≤ x4 → wp_M_isReady g x4 (fun r17 u17 => ((r17 = 0 → (wl_M_sweep_5 Q n) u17 x1 x2 x3 (x4 + 1)) ∧ (¬ r17 = 0 → (vp_in x4 200 ∧ ((¬ (u17.1 1 x4.toNatClampNeg) = x1 → (wl_M_sweep_5 Q n) u17 x1 x2 x3 (x4 + 1)) ∧ ((u17.1 1 x4.toNatClampNeg) = x1 → wp_M_start u17 x4 (fun r37 u37 => ((r37 < x2 → (wl_M_sweep_5 Q n) u37 x1 x2 x3 (x4 + 1)) ∧ (¬ r37 < x2 → ((x3 < 0 → (wl_M_sweep_5 Q n) u37 x1 x2 x4 (x4 + 1)) ∧ (¬ x3 < 0 → wp_M_start u37 x4 (fun r51 u51 => wp_M_start u51 x3 (fun r56 u56 => ((r56 ≤ r51 → (wl_M_sweep_5 Q n) u56 x1 x2 x3 (x4 + 1)) ∧ (¬ r56 ≤ r51 → (wl_M_sweep_5 Q n) u56 x1 x2 x4 (x4 + 1))))))))))))))))))
def wp_M_sweep (g : St) (x1 : Int32) (x2 : Int32) (Q : Int32 → St → Prop) : Prop := ∃ j_5 : Nat, wl_M_sweep_5 Q j_5 g x1 x2 (-1) 0
def wl_M_late_4 (Q : Int32 → St → Prop) : Nat → St → Int32 → Int32 → Int32 → Prop
  | 0, _, _, _, _ => False
  | n + 1, g, x1, x2, x3 => (((g.2.1 0) ≤ x3 → Q x2 g) ∧ (¬ (g.2.1 0) ≤ x3 → wp_M_isReady g x3 (fun r14 u14 => ((r14 = 0 → (wl_M_late_4 Q n) u14 x1 x2 (x3 + 1)) ∧ (¬ r14 = 0 → (vp_in x3 200 ∧ ((¬ (u14.1 1 x3.toNatClampNeg) = x1 → (wl_M_late_4 Q n) u14 x1 x2 (x3 + 1)) ∧ ((u14.1 1 x3.toNatClampNeg) = x1 → (vp_in x3 200 ∧ (((u14.2.1 2) < (u14.1 8 x3.toNatClampNeg) → (wl_M_late_4 Q n) u14 x1 x2 (x3 + 1)) ∧ (¬ (u14.2.1 2) < (u14.1 8 x3.toNatClampNeg) → ((x2 < 0 → (wl_M_late_4 Q n) u14 x1 x3 (x3 + 1)) ∧ (¬ x2 < 0 → (vp_in x3 200 ∧ (vp_in x2 200 ∧ (((u14.1 8 x2.toNatClampNeg) ≤ (u14.1 8 x3.toNatClampNeg) → (wl_M_late_4 Q n) u14 x1 x2 (x3 + 1)) ∧ (¬ (u14.1 8 x2.toNatClampNeg) ≤ (u14.1 8 x3.toNatClampNeg) → (wl_M_late_4 Q n) u14 x1 x3 (x3 + 1))))))))))))))))))
def wp_M_late (g : St) (x1 : Int32) (Q : Int32 → St → Prop) : Prop := ∃ j_4 : Nat, wl_M_late_4 Q j_4 g x1 (-1) 0
def wl_M_ready_4 (Q : Int32 → St → Prop) : Nat → St → Int32 → Int32 → Int32 → Prop
  | 0, _, _, _, _ => False
  | n + 1, g, x1, x2, x3 => (((g.2.1 0) ≤ x3 → ((x1 < 0 → Q (-1) g) ∧ (¬ x1 < 0 → ((x1 ≤ 1 → Q x2 g) ∧ (¬ x1 ≤ 1 → Q (-1) g))))) ∧ (¬ (g.2.1 0) ≤ x3 → (vp_in x3 200 ∧ ((¬ (g.1 1 x3.toNatClampNeg) = x1 → (wl_M_ready_4 Q n) g x1 x2 (x3 + 1)) ∧ ((g.1 1 x3.toNatClampNeg) = x1 → wp_M_isReady g x3 (fun r24 u24 => ((r24 = 0 → (wl_M_ready_4 Q n) u24 x1 x2 (x3 + 1)) ∧ (¬ r24 = 0 → (wl_M_ready_4 Q n) u24 x1 (x2 + 1) (x3 + 1)))))))))
def wp_M_ready (g : St) (x1 : Int32) (Q : Int32 → St → Prop) : Prop := ∃ j_4 : Nat, wl_M_ready_4 Q j_4 g x1 0 0
def wb_M_fresh_107 (Q : Int32 → St → Prop) (g : St) (z0 : Int32) : Prop := ((0 ≤ z0 → Q z0 g) ∧ (¬ 0 ≤ z0 → wp_M_sweep g (g.2.1 4) 0 (fun r118 u118 => Q r118 u118)))
def wb_M_fresh_73 (Q : Int32 → St → Prop) (g : St) : Prop := wp_M_late (sI g 5 1) ((sI g 5 1).2.1 4) (fun r83 u83 => ((0 ≤ r83 → wb_M_fresh_107 Q u83 r83) ∧ (¬ 0 ≤ r83 → wp_M_sweep u83 (u83.2.1 4) (u83.2.1 3) (fun r100 u100 => wb_M_fresh_107 Q u100 r100))))
def wb_M_fresh_63 (Q : Int32 → St → Prop) (g : St) : Prop := wb_M_fresh_73 Q (sI (sI g 4 1) 6 0)
def wb_M_fresh_34 (Q : Int32 → St → Prop) (g : St) (x1 : Int32) : Prop := ((x1 = 0 → wb_M_fresh_73 Q (sI (sI g 4 0) 6 ((sI g 4 0).2.1 6))) ∧ (¬ x1 = 0 → wb_M_fresh_73 Q (sI (sI g 4 0) 6 (((sI g 4 0).2.1 6) + 1))))
def wb_M_fresh_13 (Q : Int32 → St → Prop) (g : St) (z0 : Int32) : Prop := wp_M_ready g 0 (fun r16 u16 => ((r16 ≤ 0 → wb_M_fresh_63 Q u16) ∧ (¬ r16 ≤ 0 → ((z0 = 0 → wb_M_fresh_34 Q u16 z0) ∧ (¬ z0 = 0 → ((2 ≤ (u16.2.1 6) → wb_M_fresh_63 Q u16) ∧ (¬ 2 ≤ (u16.2.1 6) → wb_M_fresh_34 Q u16 z0)))))))
def wp_M_fresh (g : St) (Q : Int32 → St → Prop) : Prop := wp_M_ready g 1 (fun r2 u2 => ((r2 ≤ 0 → wb_M_fresh_13 Q u2 0) ∧ (¬ r2 ≤ 0 → wb_M_fresh_13 Q u2 1)))
def wl_M_carryOut_9 (Q : St → Prop) : Nat → St → Int32 → Int32 → Prop
  | 0, _, _, _ => False
  | n + 1, g, x1, x2 => (vp_in x1 200 ∧ (((g.1 3 x1.toNatClampNeg) ≤ x2 → Q g) ∧ (¬ (g.1 3 x1.toNatClampNeg) ≤ x2 → (vp_in x1 200 ∧ ((¬ (g.1 1 x1.toNatClampNeg) = 1 → (vp_in x1 200 ∧ (vp_in ((g.1 2 x1.toNatClampNeg) + x2) 64 ∧ (vp_in ((8 * x1) + x2) 1600 ∧ (wl_M_carryOut_9 Q n) (sA g 7 ((8 * x1) + x2).toNatClampNeg (g.1 0 ((g.1 2 x1.toNatClampNeg) + x2).toNatClampNeg)) x1 (x2 + 1))))) ∧ ((g.1 1 x1.toNatClampNeg) = 1 → (vp_in x1 200 ∧ (vp_in x1 200 ∧ (vp_in ((g.1 2 x1.toNatClampNeg) + x2) 64 ∧ (wl_M_carryOut_9 Q n) (sA g 0 ((g.1 2 x1.toNatClampNeg) + x2).toNatClampNeg ((g.1 4 x1.toNatClampNeg) + x2)) x1 (x2 + 1))))))))))
def wp_M_carryOut (g : St) (x1 : Int32) (Q : St → Prop) : Prop := (vp_in x1 200 ∧ ∃ j_9 : Nat, wl_M_carryOut_9 Q j_9 (sA g 6 x1.toNatClampNeg 2) x1 0)
def wl_M_dispatch_94 (Q : Int32 → St → Prop) : Nat → St → Int32 → Int32 → Int32 → Prop
  | 0, _, _, _, _ => False
  | n + 1, g, x1, x2, x3 => (((g.2.1 0) ≤ x3 → Q x2 g) ∧ (¬ (g.2.1 0) ≤ x3 → (vp_in x3 200 ∧ ((¬ (g.1 5 x3.toNatClampNeg) = x1 → (wl_M_dispatch_94 Q n) g x1 x2 (x3 + 1)) ∧ ((g.1 5 x3.toNatClampNeg) = x1 → wp_M_carryOut g x3 (fun u114 => (wl_M_dispatch_94 Q n) u114 x1 (x2 + 1) (x3 + 1)))))))
def wb_M_dispatch_70 (Q : Int32 → St → Prop) (g : St) (x1 : Int32) : Prop := wp_M_start g x1 (fun r73 u73 => wp_M_length u73 x1 (fun r78 u78 => ∃ j_94 : Nat, wl_M_dispatch_94 Q j_94 (sI (sI u78 3 (r73 + r78)) 7 x1) x1 0 0))
def wb_M_dispatch_47 (Q : Int32 → St → Prop) (g : St) (z0 : Int32) : Prop := ((z0 < 0 → wp_M_fresh g (fun r66 u66 => wb_M_dispatch_70 Q u66 r66)) ∧ (¬ z0 < 0 → wb_M_dispatch_70 Q (sI g 5 ((g.2.1 5) + 1)) z0))
def wp_M_dispatch (g : St) (Q : Int32 → St → Prop) : Prop := wp_M_waiting g 0 (fun r2 u2 => wp_M_waiting u2 1 (fun r7 u7 => ((¬ (r2 + r7) = 0 → (((u7.2.1 5) ≤ 0 → wb_M_dispatch_47 Q u7 (-1)) ∧ (¬ (u7.2.1 5) ≤ 0 → ((4 ≤ (u7.2.1 5) → wb_M_dispatch_47 Q u7 (-1)) ∧ (¬ 4 ≤ (u7.2.1 5) → wp_M_sweep u7 (u7.2.1 4) (u7.2.1 3) (fun r40 u40 => wb_M_dispatch_47 Q u40 r40)))))) ∧ ((r2 + r7) = 0 → Q 0 u7))))
def wp_M_isPart (g : St) (x1 : Int32) (Q : Int32 → St → Prop) : Prop := ((x1 < 0 → Q 0 g) ∧ (¬ x1 < 0 → (((g.2.1 0) ≤ x1 → Q 0 g) ∧ (¬ (g.2.1 0) ≤ x1 → Q 1 g))))
def wp_M_state (g : St) (x1 : Int32) (Q : Int32 → St → Prop) : Prop := wp_M_isPart g x1 (fun r2 u2 => ((r2 = 0 → Q 0 u2) ∧ (¬ r2 = 0 → (vp_in x1 200 ∧ Q (u2.1 6 x1.toNatClampNeg) u2))))
def wp_M_value (g : St) (x1 : Int32) (x2 : Int32) (Q : Int32 → St → Prop) : Prop := wp_M_isPart g x1 (fun r2 u2 => ((r2 = 0 → Q 0 u2) ∧ (¬ r2 = 0 → (vp_in x1 200 ∧ ((¬ (u2.1 1 x1.toNatClampNeg) = 0 → Q 0 u2) ∧ ((u2.1 1 x1.toNatClampNeg) = 0 → (vp_in x1 200 ∧ ((¬ (u2.1 6 x1.toNatClampNeg) = 2 → Q 0 u2) ∧ ((u2.1 6 x1.toNatClampNeg) = 2 → ((x2 < 0 → Q 0 u2) ∧ (¬ x2 < 0 → (vp_in x1 200 ∧ (((u2.1 3 x1.toNatClampNeg) ≤ x2 → Q 0 u2) ∧ (¬ (u2.1 3 x1.toNatClampNeg) ≤ x2 → (vp_in ((8 * x1) + x2) 1600 ∧ Q (u2.1 7 ((8 * x1) + x2).toNatClampNeg) u2)))))))))))))))
def wp_M_sector (g : St) (x1 : Int32) (Q : Int32 → St → Prop) : Prop := ((x1 < 0 → Q 0 g) ∧ (¬ x1 < 0 → ((x1 ≤ 63 → (vp_in x1 64 ∧ Q (g.1 0 x1.toNatClampNeg) g)) ∧ (¬ x1 ≤ 63 → Q 0 g))))
def wp_M_requestOf (g : St) (x1 : Int32) (Q : Int32 → St → Prop) : Prop := wp_M_isPart g x1 (fun r2 u2 => ((r2 = 0 → Q (-1) u2) ∧ (¬ r2 = 0 → (vp_in x1 200 ∧ ((¬ (u2.1 6 x1.toNatClampNeg) = 1 → Q (-1) u2) ∧ ((u2.1 6 x1.toNatClampNeg) = 1 → (vp_in x1 200 ∧ Q (u2.1 5 x1.toNatClampNeg) u2)))))))
def wp_M_about (g : St) (x1 : Int32) (x2 : Int32) (Q : Int32 → St → Prop) : Prop := wp_M_requestOf g x1 (fun r2 u2 => ((r2 < 0 → Q (-1) u2) ∧ (¬ r2 < 0 → ((x2 < 0 → Q (-1) u2) ∧ (¬ x2 < 0 → ((x2 ≤ 4 → ((¬ x2 = 0 → ((¬ x2 = 1 → ((¬ x2 = 2 → ((¬ x2 = 3 → (vp_in r2 200 ∧ Q (u2.1 1 r2.toNatClampNeg) u2)) ∧ (x2 = 3 → (vp_in r2 200 ∧ Q (u2.1 9 r2.toNatClampNeg) u2)))) ∧ (x2 = 2 → (vp_in r2 200 ∧ Q (u2.1 8 r2.toNatClampNeg) u2)))) ∧ (x2 = 1 → wp_M_length u2 r2 (fun r40 u40 => Q r40 u40)))) ∧ (x2 = 0 → wp_M_start u2 r2 (fun r27 u27 => Q r27 u27)))) ∧ (¬ x2 ≤ 4 → Q (-1) u2)))))))
def wp_M_latest (g : St) (Q : Int32 → St → Prop) : Prop := Q (g.2.1 7) g
def wp_M_head (g : St) (Q : Int32 → St → Prop) : Prop := Q (g.2.1 3) g
def wp_M_now (g : St) (Q : Int32 → St → Prop) : Prop := Q (g.2.1 2) g
def wp_M_batch (g : St) (Q : Int32 → St → Prop) : Prop := Q (((10 * (g.2.1 6)) + (5 * (g.2.1 4))) + (g.2.1 5)) g
end
section
set_option maxHeartbeats 4000000 in
set_option maxRecDepth 100000 in
theorem c_M_waits (l : Launch) (D : va_G) (a : Nat → Nat) (cI cZ : ClassId) (sz : Nat) (g : St) (x1 : Int32) (Q : Int32 → St → Prop) (hw : wp_M_waits g x1 Q) : MT_z l y_M_waits b_M_waits 2 rm_M_waits (wM a cI cZ) D (ty_ cI cZ) sz g [.ref (a 0), .int x1] Q := by
  refine MTz_of (by decide +kernel) (Nat.le_of_ble_eq_true rfl) ?_
  intro p e s m args below meth c A Qt ls hx hb hml hts hown hN hK hP hD hA hl hret
  have hS : va_S A s.heap s.heap [] := va_S.rf
  have hl : lv_has ls 2 [(0, .ref (a 0)), (1, .int x1)] := hl
  unfold wp_M_waits at hw
  refine lv_aload_n hx hb d_M_waits_0 rfl (lv_at hl 0 rfl) ?_
  refine va_get (D := D) (ci := 5) (C := R_M) (T := F_M) (N := 19) hx hb hts in_M hown hK hP 0 rfl rfl 7 (by decide) (hts _ tb_376) (fun _ h9 => h9) rfl d_M_waits_1 ?_
  refine lv_iload_n hx hb d_M_waits_4 rfl (lv_at hl 1 rfl) ?_
  refine va_iald hx hb hK hP 7 0 rfl rfl hw.1 d_M_waits_5 ?_
  replace hw := hw.2
  refine lv_iconst (v := 1) hx hb d_M_waits_6 (by decide) ?_
  refine lv_icmp_ne (tgt := 24) hx hb d_M_waits_7 (by decide) (fun hc => ?_) (fun hc => ?_)
  · replace hw := hw.1 hc
    refine lv_iconst (v := 0) hx hb d_M_waits_24 (by decide) ?_
    exact hret _ _ _ _ _ _ rfl hw hP hD hS d_M_waits_25
  · replace hw := hw.2 hc
    refine lv_aload_n hx hb d_M_waits_10 rfl (lv_at hl 0 rfl) ?_
    refine va_get (D := D) (ci := 5) (C := R_M) (T := F_M) (N := 19) hx hb hts in_M hown hK hP 0 rfl rfl 6 (by decide) (hts _ tb_375) (fun _ h9 => h9) rfl d_M_waits_11 ?_
    refine lv_iload_n hx hb d_M_waits_14 rfl (lv_at hl 1 rfl) ?_
    refine va_iald hx hb hK hP 6 0 rfl rfl hw.1 d_M_waits_15 ?_
    replace hw := hw.2
    refine lv_iload_n hx hb d_M_waits_16 rfl (lv_at hl 1 rfl) ?_
    refine lv_icmp_ne (tgt := 24) hx hb d_M_waits_17 (by decide) (fun hc => ?_) (fun hc => ?_)
    · replace hw := hw.1 hc
      refine lv_iconst (v := 0) hx hb d_M_waits_24 (by decide) ?_
      exact hret _ _ _ _ _ _ rfl hw hP hD hS d_M_waits_25
    · replace hw := hw.2 hc
      refine lv_iconst (v := 1) hx hb d_M_waits_20 (by decide) ?_
      refine lv_goto (tgt := 25) hx hb d_M_waits_21 (by decide) ?_
      exact hret _ _ _ _ _ _ rfl hw hP hD hS d_M_waits_25
set_option maxHeartbeats 4000000 in
set_option maxRecDepth 100000 in
theorem c_M_start (l : Launch) (D : va_G) (a : Nat → Nat) (cI cZ : ClassId) (sz : Nat) (g : St) (x1 : Int32) (Q : Int32 → St → Prop) (hw : wp_M_start g x1 Q) : MT_i l y_M_start b_M_start 4 rm_M_start (wM a cI cZ) D (ty_ cI cZ) sz g [.ref (a 0), .int x1] Q := by
  refine MTi_of (by decide +kernel) (Nat.le_of_ble_eq_true rfl) ?_
  intro p e s m args below meth c A Qt ls hx hb hml hts hown hN hK hP hD hA hl hret
  have hS : va_S A s.heap s.heap [] := va_S.rf
  have hl : lv_has ls 4 [(0, .ref (a 0)), (1, .int x1)] := hl
  have k_5 : ∀ (n : Nat) (g : St) (x1 : Int32) (x2 : Int32) (x3 : Int32) (H : Heap) (locs : List Loc) (ls : Array Slot), va_P D cls_ (wM a cI cZ g) H → va_D A (wM a cI cZ g) → va_S A s.heap H locs → lv_has ls 4 [(0, .ref (a 0)), (1, .int x1), (2, .int x2), (3, .int x3)] → wl_M_start_5 Q n g x1 x2 x3 → W p l e rm_M_start s m args below meth c H locs 0 0 Qt (F0 m 5 ls []) := by
    intro n
    induction n with
    | zero => intro g x1 x2 x3 H locs ls hP hD hS hl hw; exact False.elim hw
    | succ n_5 ih_5 =>
      intro g x1 x2 x3 H locs ls hP hD hS hl hw
      unfold wl_M_start_5 at hw
      refine lv_iload_n hx hb d_M_start_5 rfl (lv_at hl 3 rfl) ?_
      refine lv_aload_n hx hb d_M_start_6 rfl (lv_at hl 0 rfl) ?_
      refine va_get (D := D) (ci := 5) (C := R_M) (T := F_M) (N := 19) hx hb hts in_M hown hK hP 0 rfl rfl 1 (by decide) (hts _ tb_370) (fun _ h9 => h9) rfl d_M_start_7 ?_
      refine lv_icmp_ge (tgt := 46) hx hb d_M_start_10 (by decide) (fun hc => ?_) (fun hc => ?_)
      · replace hw := hw.1 hc
        refine lv_iload_n hx hb d_M_start_46 rfl (lv_at hl 2 rfl) ?_
        exact hret _ _ _ _ _ _ hw hP hD hS d_M_start_47
      · replace hw := hw.2 hc
        refine lv_aload_n hx hb d_M_start_13 rfl (lv_at hl 0 rfl) ?_
        refine va_get (D := D) (ci := 5) (C := R_M) (T := F_M) (N := 19) hx hb hts in_M hown hK hP 0 rfl rfl 6 (by decide) (hts _ tb_375) (fun _ h9 => h9) rfl d_M_start_14 ?_
        refine lv_iload_n hx hb d_M_start_17 rfl (lv_at hl 3 rfl) ?_
        refine va_iald hx hb hK hP 6 0 rfl rfl hw.1 d_M_start_18 ?_
        replace hw := hw.2
        refine lv_iload_n hx hb d_M_start_19 rfl (lv_at hl 1 rfl) ?_
        refine lv_icmp_ne (tgt := 40) hx hb d_M_start_20 (by decide) (fun hc => ?_) (fun hc => ?_)
        · replace hw := hw.1 hc
          refine lv_iinc (k := 3) (v := x3 + 1) (lv' := [(3, .int (x3 + 1)), (0, .ref (a 0)), (1, .int x1), (2, .int x2)]) hx hb d_M_start_40 hl rfl rfl (by decide) rfl (fun ls hl => ?_)
          refine lv_goto (tgt := 5) hx hb d_M_start_43 (by decide) ?_
          exact ih_5 g x1 x2 (x3 + 1) _ _ _ hP hD hS (lv_sub hl [1, 2, 3, 0] rfl) hw
        · replace hw := hw.2 hc
          refine lv_aload_n hx hb d_M_start_23 rfl (lv_at hl 0 rfl) ?_
          refine va_get (D := D) (ci := 5) (C := R_M) (T := F_M) (N := 19) hx hb hts in_M hown hK hP 0 rfl rfl 3 (by decide) (hts _ tb_372) (fun _ h9 => h9) rfl d_M_start_24 ?_
          refine lv_iload_n hx hb d_M_start_27 rfl (lv_at hl 3 rfl) ?_
          refine va_iald hx hb hK hP 3 0 rfl rfl hw.1 d_M_start_28 ?_
          replace hw := hw.2
          refine lv_iload_n hx hb d_M_start_29 rfl (lv_at hl 2 rfl) ?_
          refine lv_icmp_ge (tgt := 40) hx hb d_M_start_30 (by decide) (fun hc => ?_) (fun hc => ?_)
          · replace hw := hw.1 hc
            refine lv_iinc (k := 3) (v := x3 + 1) (lv' := [(3, .int (x3 + 1)), (0, .ref (a 0)), (1, .int x1), (2, .int x2)]) hx hb d_M_start_40 hl rfl rfl (by decide) rfl (fun ls hl => ?_)
            refine lv_goto (tgt := 5) hx hb d_M_start_43 (by decide) ?_
            exact ih_5 g x1 x2 (x3 + 1) _ _ _ hP hD hS (lv_sub hl [1, 2, 3, 0] rfl) hw
          · replace hw := hw.2 hc
            refine lv_aload_n hx hb d_M_start_33 rfl (lv_at hl 0 rfl) ?_
            refine va_get (D := D) (ci := 5) (C := R_M) (T := F_M) (N := 19) hx hb hts in_M hown hK hP 0 rfl rfl 3 (by decide) (hts _ tb_372) (fun _ h9 => h9) rfl d_M_start_34 ?_
            refine lv_iload_n hx hb d_M_start_37 rfl (lv_at hl 3 rfl) ?_
            refine va_iald hx hb hK hP 3 0 rfl rfl hw.1 d_M_start_38 ?_
            replace hw := hw.2
            refine lv_istore_n (lv' := [(2, .int (g.1 2 x3.toNatClampNeg)), (0, .ref (a 0)), (1, .int x1), (3, .int x3)]) hx hb d_M_start_39 rfl hl (by decide) rfl (fun ls hl => ?_)
            refine lv_iinc (k := 3) (v := x3 + 1) (lv' := [(3, .int (x3 + 1)), (2, .int (g.1 2 x3.toNatClampNeg)), (0, .ref (a 0)), (1, .int x1)]) hx hb d_M_start_40 hl rfl rfl (by decide) rfl (fun ls hl => ?_)
            refine lv_goto (tgt := 5) hx hb d_M_start_43 (by decide) ?_
            exact ih_5 g x1 (g.1 2 x3.toNatClampNeg) (x3 + 1) _ _ _ hP hD hS (lv_sub hl [2, 3, 1, 0] rfl) hw
  unfold wp_M_start at hw
  refine lv_bipush (v := 64) hx hb d_M_start_0 (by decide) ?_
  refine lv_istore_n (lv' := [(2, .int 64), (0, .ref (a 0)), (1, .int x1)]) hx hb d_M_start_2 rfl hl (by decide) rfl (fun ls hl => ?_)
  refine lv_iconst (v := 0) hx hb d_M_start_3 (by decide) ?_
  refine lv_istore_n (lv' := [(3, .int 0), (2, .int 64), (0, .ref (a 0)), (1, .int x1)]) hx hb d_M_start_4 rfl hl (by decide) rfl (fun ls hl => ?_)
  obtain ⟨n, hw⟩ := hw
  exact k_5 n g x1 64 0 _ _ _ hP hD hS (lv_sub hl [2, 3, 1, 0] rfl) hw
set_option maxHeartbeats 4000000 in
set_option maxRecDepth 100000 in
theorem c_M_length (l : Launch) (D : va_G) (a : Nat → Nat) (cI cZ : ClassId) (sz : Nat) (g : St) (x1 : Int32) (Q : Int32 → St → Prop) (hw : wp_M_length g x1 Q) : MT_i l y_M_length b_M_length 4 rm_M_length (wM a cI cZ) D (ty_ cI cZ) sz g [.ref (a 0), .int x1] Q := by
  refine MTi_of (by decide +kernel) (Nat.le_of_ble_eq_true rfl) ?_
  intro p e s m args below meth c A Qt ls hx hb hml hts hown hN hK hP hD hA hl hret
  have hS : va_S A s.heap s.heap [] := va_S.rf
  have hl : lv_has ls 4 [(0, .ref (a 0)), (1, .int x1)] := hl
  have k_4 : ∀ (n : Nat) (g : St) (x1 : Int32) (x2 : Int32) (x3 : Int32) (H : Heap) (locs : List Loc) (ls : Array Slot), va_P D cls_ (wM a cI cZ g) H → va_D A (wM a cI cZ g) → va_S A s.heap H locs → lv_has ls 4 [(0, .ref (a 0)), (1, .int x1), (2, .int x2), (3, .int x3)] → wl_M_length_4 Q n g x1 x2 x3 → W p l e rm_M_length s m args below meth c H locs 0 0 Qt (F0 m 4 ls []) := by
    intro n
    induction n with
    | zero => intro g x1 x2 x3 H locs ls hP hD hS hl hw; exact False.elim hw
    | succ n_4 ih_4 =>
      intro g x1 x2 x3 H locs ls hP hD hS hl hw
      unfold wl_M_length_4 at hw
      refine lv_iload_n hx hb d_M_length_4 rfl (lv_at hl 3 rfl) ?_
      refine lv_aload_n hx hb d_M_length_5 rfl (lv_at hl 0 rfl) ?_
      refine va_get (D := D) (ci := 5) (C := R_M) (T := F_M) (N := 19) hx hb hts in_M hown hK hP 0 rfl rfl 1 (by decide) (hts _ tb_370) (fun _ h9 => h9) rfl d_M_length_6 ?_
      refine lv_icmp_ge (tgt := 41) hx hb d_M_length_9 (by decide) (fun hc => ?_) (fun hc => ?_)
      · replace hw := hw.1 hc
        refine lv_iload_n hx hb d_M_length_41 rfl (lv_at hl 2 rfl) ?_
        exact hret _ _ _ _ _ _ hw hP hD hS d_M_length_42
      · replace hw := hw.2 hc
        refine lv_aload_n hx hb d_M_length_12 rfl (lv_at hl 0 rfl) ?_
        refine va_get (D := D) (ci := 5) (C := R_M) (T := F_M) (N := 19) hx hb hts in_M hown hK hP 0 rfl rfl 6 (by decide) (hts _ tb_375) (fun _ h9 => h9) rfl d_M_length_13 ?_
        refine lv_iload_n hx hb d_M_length_16 rfl (lv_at hl 3 rfl) ?_
        refine va_iald hx hb hK hP 6 0 rfl rfl hw.1 d_M_length_17 ?_
        replace hw := hw.2
        refine lv_iload_n hx hb d_M_length_18 rfl (lv_at hl 1 rfl) ?_
        refine lv_icmp_ne (tgt := 33) hx hb d_M_length_19 (by decide) (fun hc => ?_) (fun hc => ?_)
        · replace hw := hw.1 hc
          refine lv_iload_n hx hb d_M_length_33 rfl (lv_at hl 2 rfl) ?_
          refine lv_istore_n (lv' := [(2, .int x2), (0, .ref (a 0)), (1, .int x1), (3, .int x3)]) hx hb d_M_length_34 rfl hl (by decide) rfl (fun ls hl => ?_)
          refine lv_iinc (k := 3) (v := x3 + 1) (lv' := [(3, .int (x3 + 1)), (2, .int x2), (0, .ref (a 0)), (1, .int x1)]) hx hb d_M_length_35 hl rfl rfl (by decide) rfl (fun ls hl => ?_)
          refine lv_goto (tgt := 4) hx hb d_M_length_38 (by decide) ?_
          exact ih_4 g x1 x2 (x3 + 1) _ _ _ hP hD hS (lv_sub hl [2, 3, 1, 0] rfl) hw
        · replace hw := hw.2 hc
          refine lv_iload_n hx hb d_M_length_22 rfl (lv_at hl 2 rfl) ?_
          refine lv_aload_n hx hb d_M_length_23 rfl (lv_at hl 0 rfl) ?_
          refine va_get (D := D) (ci := 5) (C := R_M) (T := F_M) (N := 19) hx hb hts in_M hown hK hP 0 rfl rfl 4 (by decide) (hts _ tb_373) (fun _ h9 => h9) rfl d_M_length_24 ?_
          refine lv_iload_n hx hb d_M_length_27 rfl (lv_at hl 3 rfl) ?_
          refine va_iald hx hb hK hP 4 0 rfl rfl hw.1 d_M_length_28 ?_
          replace hw := hw.2
          refine lv_iadd hx hb d_M_length_29 ?_
          refine lv_goto (tgt := 34) hx hb d_M_length_30 (by decide) ?_
          refine lv_istore_n (lv' := [(2, .int (x2 + (g.1 3 x3.toNatClampNeg))), (0, .ref (a 0)), (1, .int x1), (3, .int x3)]) hx hb d_M_length_34 rfl hl (by decide) rfl (fun ls hl => ?_)
          refine lv_iinc (k := 3) (v := x3 + 1) (lv' := [(3, .int (x3 + 1)), (2, .int (x2 + (g.1 3 x3.toNatClampNeg))), (0, .ref (a 0)), (1, .int x1)]) hx hb d_M_length_35 hl rfl rfl (by decide) rfl (fun ls hl => ?_)
          refine lv_goto (tgt := 4) hx hb d_M_length_38 (by decide) ?_
          exact ih_4 g x1 (x2 + (g.1 3 x3.toNatClampNeg)) (x3 + 1) _ _ _ hP hD hS (lv_sub hl [2, 3, 1, 0] rfl) hw
  unfold wp_M_length at hw
  refine lv_iconst (v := 0) hx hb d_M_length_0 (by decide) ?_
  refine lv_istore_n (lv' := [(2, .int 0), (0, .ref (a 0)), (1, .int x1)]) hx hb d_M_length_1 rfl hl (by decide) rfl (fun ls hl => ?_)
  refine lv_iconst (v := 0) hx hb d_M_length_2 (by decide) ?_
  refine lv_istore_n (lv' := [(3, .int 0), (2, .int 0), (0, .ref (a 0)), (1, .int x1)]) hx hb d_M_length_3 rfl hl (by decide) rfl (fun ls hl => ?_)
  obtain ⟨n, hw⟩ := hw
  exact k_4 n g x1 0 0 _ _ _ hP hD hS (lv_sub hl [2, 3, 1, 0] rfl) hw
set_option maxHeartbeats 4000000 in
set_option maxRecDepth 100000 in
theorem c_M_members (l : Launch) (D : va_G) (a : Nat → Nat) (cI cZ : ClassId) (sz : Nat) (g : St) (x1 : Int32) (Q : Int32 → St → Prop) (hw : wp_M_members g x1 Q) : MT_i l y_M_members b_M_members 4 rm_M_members (wM a cI cZ) D (ty_ cI cZ) sz g [.ref (a 0), .int x1] Q := by
  refine MTi_of (by decide +kernel) (Nat.le_of_ble_eq_true rfl) ?_
  intro p e s m args below meth c A Qt ls hx hb hml hts hown hN hK hP hD hA hl hret
  have hS : va_S A s.heap s.heap [] := va_S.rf
  have hl : lv_has ls 4 [(0, .ref (a 0)), (1, .int x1)] := hl
  have k_4 : ∀ (n : Nat) (g : St) (x1 : Int32) (x2 : Int32) (x3 : Int32) (H : Heap) (locs : List Loc) (ls : Array Slot), va_P D cls_ (wM a cI cZ g) H → va_D A (wM a cI cZ g) → va_S A s.heap H locs → lv_has ls 4 [(0, .ref (a 0)), (1, .int x1), (2, .int x2), (3, .int x3)] → wl_M_members_4 Q n g x1 x2 x3 → W p l e rm_M_members s m args below meth c H locs 0 0 Qt (F0 m 4 ls []) := by
    intro n
    induction n with
    | zero => intro g x1 x2 x3 H locs ls hP hD hS hl hw; exact False.elim hw
    | succ n_4 ih_4 =>
      intro g x1 x2 x3 H locs ls hP hD hS hl hw
      unfold wl_M_members_4 at hw
      refine lv_iload_n hx hb d_M_members_4 rfl (lv_at hl 3 rfl) ?_
      refine lv_aload_n hx hb d_M_members_5 rfl (lv_at hl 0 rfl) ?_
      refine va_get (D := D) (ci := 5) (C := R_M) (T := F_M) (N := 19) hx hb hts in_M hown hK hP 0 rfl rfl 1 (by decide) (hts _ tb_370) (fun _ h9 => h9) rfl d_M_members_6 ?_
      refine lv_icmp_ge (tgt := 36) hx hb d_M_members_9 (by decide) (fun hc => ?_) (fun hc => ?_)
      · replace hw := hw.1 hc
        refine lv_iload_n hx hb d_M_members_36 rfl (lv_at hl 2 rfl) ?_
        exact hret _ _ _ _ _ _ hw hP hD hS d_M_members_37
      · replace hw := hw.2 hc
        refine lv_aload_n hx hb d_M_members_12 rfl (lv_at hl 0 rfl) ?_
        refine va_get (D := D) (ci := 5) (C := R_M) (T := F_M) (N := 19) hx hb hts in_M hown hK hP 0 rfl rfl 6 (by decide) (hts _ tb_375) (fun _ h9 => h9) rfl d_M_members_13 ?_
        refine lv_iload_n hx hb d_M_members_16 rfl (lv_at hl 3 rfl) ?_
        refine va_iald hx hb hK hP 6 0 rfl rfl hw.1 d_M_members_17 ?_
        replace hw := hw.2
        refine lv_iload_n hx hb d_M_members_18 rfl (lv_at hl 1 rfl) ?_
        refine lv_icmp_ne (tgt := 28) hx hb d_M_members_19 (by decide) (fun hc => ?_) (fun hc => ?_)
        · replace hw := hw.1 hc
          refine lv_iload_n hx hb d_M_members_28 rfl (lv_at hl 2 rfl) ?_
          refine lv_istore_n (lv' := [(2, .int x2), (0, .ref (a 0)), (1, .int x1), (3, .int x3)]) hx hb d_M_members_29 rfl hl (by decide) rfl (fun ls hl => ?_)
          refine lv_iinc (k := 3) (v := x3 + 1) (lv' := [(3, .int (x3 + 1)), (2, .int x2), (0, .ref (a 0)), (1, .int x1)]) hx hb d_M_members_30 hl rfl rfl (by decide) rfl (fun ls hl => ?_)
          refine lv_goto (tgt := 4) hx hb d_M_members_33 (by decide) ?_
          exact ih_4 g x1 x2 (x3 + 1) _ _ _ hP hD hS (lv_sub hl [2, 3, 1, 0] rfl) hw
        · replace hw := hw.2 hc
          refine lv_iload_n hx hb d_M_members_22 rfl (lv_at hl 2 rfl) ?_
          refine lv_iconst (v := 1) hx hb d_M_members_23 (by decide) ?_
          refine lv_iadd hx hb d_M_members_24 ?_
          refine lv_goto (tgt := 29) hx hb d_M_members_25 (by decide) ?_
          refine lv_istore_n (lv' := [(2, .int (x2 + 1)), (0, .ref (a 0)), (1, .int x1), (3, .int x3)]) hx hb d_M_members_29 rfl hl (by decide) rfl (fun ls hl => ?_)
          refine lv_iinc (k := 3) (v := x3 + 1) (lv' := [(3, .int (x3 + 1)), (2, .int (x2 + 1)), (0, .ref (a 0)), (1, .int x1)]) hx hb d_M_members_30 hl rfl rfl (by decide) rfl (fun ls hl => ?_)
          refine lv_goto (tgt := 4) hx hb d_M_members_33 (by decide) ?_
          exact ih_4 g x1 (x2 + 1) (x3 + 1) _ _ _ hP hD hS (lv_sub hl [2, 3, 1, 0] rfl) hw
  unfold wp_M_members at hw
  refine lv_iconst (v := 0) hx hb d_M_members_0 (by decide) ?_
  refine lv_istore_n (lv' := [(2, .int 0), (0, .ref (a 0)), (1, .int x1)]) hx hb d_M_members_1 rfl hl (by decide) rfl (fun ls hl => ?_)
  refine lv_iconst (v := 0) hx hb d_M_members_2 (by decide) ?_
  refine lv_istore_n (lv' := [(3, .int 0), (2, .int 0), (0, .ref (a 0)), (1, .int x1)]) hx hb d_M_members_3 rfl hl (by decide) rfl (fun ls hl => ?_)
  obtain ⟨n, hw⟩ := hw
  exact k_4 n g x1 0 0 _ _ _ hP hD hS (lv_sub hl [2, 3, 1, 0] rfl) hw
set_option maxHeartbeats 4000000 in
set_option maxRecDepth 100000 in
theorem c_M_conflict (l : Launch) (D : va_G) (a : Nat → Nat) (cI cZ : ClassId) (sz : Nat) (g : St) (x1 : Int32) (x2 : Int32) (Q : Int32 → St → Prop) (hw : wp_M_conflict g x1 x2 Q) : MT_z l y_M_conflict b_M_conflict 3 rm_M_conflict (wM a cI cZ) D (ty_ cI cZ) sz g [.ref (a 0), .int x1, .int x2] Q := by
  refine MTz_of (by decide +kernel) (Nat.le_of_ble_eq_true rfl) ?_
  intro p e s m args below meth c A Qt ls hx hb hml hts hown hN hK hP hD hA hl hret
  have hS : va_S A s.heap s.heap [] := va_S.rf
  have hl : lv_has ls 3 [(0, .ref (a 0)), (1, .int x1), (2, .int x2)] := hl
  have k_20 : ∀ (g : St) (x1 : Int32) (x2 : Int32) (H : Heap) (locs : List Loc) (ls : Array Slot), va_P D cls_ (wM a cI cZ g) H → va_D A (wM a cI cZ g) → va_S A s.heap H locs → lv_has ls 3 [(0, .ref (a 0)), (1, .int x1), (2, .int x2)] → wb_M_conflict_20 Q g x1 x2 → W p l e rm_M_conflict s m args below meth c H locs 0 0 Qt (F0 m 20 ls []) := by
    intro g x1 x2 H locs ls hP hD hS hl hw
    unfold wb_M_conflict_20 at hw
    refine lv_aload_n hx hb d_M_conflict_20 rfl (lv_at hl 0 rfl) ?_
    refine va_get (D := D) (ci := 5) (C := R_M) (T := F_M) (N := 19) hx hb hts in_M hown hK hP 0 rfl rfl 3 (by decide) (hts _ tb_372) (fun _ h9 => h9) rfl d_M_conflict_21 ?_
    refine lv_iload_n hx hb d_M_conflict_24 rfl (lv_at hl 1 rfl) ?_
    refine va_iald hx hb hK hP 3 0 rfl rfl hw.1 d_M_conflict_25 ?_
    replace hw := hw.2
    refine lv_aload_n hx hb d_M_conflict_26 rfl (lv_at hl 0 rfl) ?_
    refine va_get (D := D) (ci := 5) (C := R_M) (T := F_M) (N := 19) hx hb hts in_M hown hK hP 0 rfl rfl 3 (by decide) (hts _ tb_372) (fun _ h9 => h9) rfl d_M_conflict_27 ?_
    refine lv_iload_n hx hb d_M_conflict_30 rfl (lv_at hl 2 rfl) ?_
    refine va_iald hx hb hK hP 3 0 rfl rfl hw.1 d_M_conflict_31 ?_
    replace hw := hw.2
    refine lv_aload_n hx hb d_M_conflict_32 rfl (lv_at hl 0 rfl) ?_
    refine va_get (D := D) (ci := 5) (C := R_M) (T := F_M) (N := 19) hx hb hts in_M hown hK hP 0 rfl rfl 4 (by decide) (hts _ tb_373) (fun _ h9 => h9) rfl d_M_conflict_33 ?_
    refine lv_iload_n hx hb d_M_conflict_36 rfl (lv_at hl 2 rfl) ?_
    refine va_iald hx hb hK hP 4 0 rfl rfl hw.1 d_M_conflict_37 ?_
    replace hw := hw.2
    refine lv_iadd hx hb d_M_conflict_38 ?_
    refine lv_icmp_ge (tgt := 68) hx hb d_M_conflict_39 (by decide) (fun hc => ?_) (fun hc => ?_)
    · replace hw := hw.1 hc
      refine lv_iconst (v := 0) hx hb d_M_conflict_68 (by decide) ?_
      exact hret _ _ _ _ _ _ rfl hw hP hD hS d_M_conflict_69
    · replace hw := hw.2 hc
      refine lv_aload_n hx hb d_M_conflict_42 rfl (lv_at hl 0 rfl) ?_
      refine va_get (D := D) (ci := 5) (C := R_M) (T := F_M) (N := 19) hx hb hts in_M hown hK hP 0 rfl rfl 3 (by decide) (hts _ tb_372) (fun _ h9 => h9) rfl d_M_conflict_43 ?_
      refine lv_iload_n hx hb d_M_conflict_46 rfl (lv_at hl 2 rfl) ?_
      refine va_iald hx hb hK hP 3 0 rfl rfl hw.1 d_M_conflict_47 ?_
      replace hw := hw.2
      refine lv_aload_n hx hb d_M_conflict_48 rfl (lv_at hl 0 rfl) ?_
      refine va_get (D := D) (ci := 5) (C := R_M) (T := F_M) (N := 19) hx hb hts in_M hown hK hP 0 rfl rfl 3 (by decide) (hts _ tb_372) (fun _ h9 => h9) rfl d_M_conflict_49 ?_
      refine lv_iload_n hx hb d_M_conflict_52 rfl (lv_at hl 1 rfl) ?_
      refine va_iald hx hb hK hP 3 0 rfl rfl hw.1 d_M_conflict_53 ?_
      replace hw := hw.2
      refine lv_aload_n hx hb d_M_conflict_54 rfl (lv_at hl 0 rfl) ?_
      refine va_get (D := D) (ci := 5) (C := R_M) (T := F_M) (N := 19) hx hb hts in_M hown hK hP 0 rfl rfl 4 (by decide) (hts _ tb_373) (fun _ h9 => h9) rfl d_M_conflict_55 ?_
      refine lv_iload_n hx hb d_M_conflict_58 rfl (lv_at hl 1 rfl) ?_
      refine va_iald hx hb hK hP 4 0 rfl rfl hw.1 d_M_conflict_59 ?_
      replace hw := hw.2
      refine lv_iadd hx hb d_M_conflict_60 ?_
      refine lv_icmp_ge (tgt := 68) hx hb d_M_conflict_61 (by decide) (fun hc => ?_) (fun hc => ?_)
      · replace hw := hw.1 hc
        refine lv_iconst (v := 0) hx hb d_M_conflict_68 (by decide) ?_
        exact hret _ _ _ _ _ _ rfl hw hP hD hS d_M_conflict_69
      · replace hw := hw.2 hc
        refine lv_iconst (v := 1) hx hb d_M_conflict_64 (by decide) ?_
        refine lv_goto (tgt := 69) hx hb d_M_conflict_65 (by decide) ?_
        exact hret _ _ _ _ _ _ rfl hw hP hD hS d_M_conflict_69
  unfold wp_M_conflict at hw
  refine lv_aload_n hx hb d_M_conflict_0 rfl (lv_at hl 0 rfl) ?_
  refine va_get (D := D) (ci := 5) (C := R_M) (T := F_M) (N := 19) hx hb hts in_M hown hK hP 0 rfl rfl 2 (by decide) (hts _ tb_371) (fun _ h9 => h9) rfl d_M_conflict_1 ?_
  refine lv_iload_n hx hb d_M_conflict_4 rfl (lv_at hl 1 rfl) ?_
  refine va_iald hx hb hK hP 2 0 rfl rfl hw.1 d_M_conflict_5 ?_
  replace hw := hw.2
  refine lv_iconst (v := 1) hx hb d_M_conflict_6 (by decide) ?_
  refine lv_icmp_eq (tgt := 20) hx hb d_M_conflict_7 (by decide) (fun hc => ?_) (fun hc => ?_)
  · replace hw := hw.1 hc
    exact k_20 g x1 x2 _ _ _ hP hD hS (lv_sub hl [0, 1, 2] rfl) hw
  · replace hw := hw.2 hc
    refine lv_aload_n hx hb d_M_conflict_10 rfl (lv_at hl 0 rfl) ?_
    refine va_get (D := D) (ci := 5) (C := R_M) (T := F_M) (N := 19) hx hb hts in_M hown hK hP 0 rfl rfl 2 (by decide) (hts _ tb_371) (fun _ h9 => h9) rfl d_M_conflict_11 ?_
    refine lv_iload_n hx hb d_M_conflict_14 rfl (lv_at hl 2 rfl) ?_
    refine va_iald hx hb hK hP 2 0 rfl rfl hw.1 d_M_conflict_15 ?_
    replace hw := hw.2
    refine lv_iconst (v := 1) hx hb d_M_conflict_16 (by decide) ?_
    refine lv_icmp_ne (tgt := 68) hx hb d_M_conflict_17 (by decide) (fun hc => ?_) (fun hc => ?_)
    · replace hw := hw.1 hc
      refine lv_iconst (v := 0) hx hb d_M_conflict_68 (by decide) ?_
      exact hret _ _ _ _ _ _ rfl hw hP hD hS d_M_conflict_69
    · replace hw := hw.2 hc
      exact k_20 g x1 x2 _ _ _ hP hD hS (lv_sub hl [0, 1, 2] rfl) hw
set_option maxHeartbeats 4000000 in
set_option maxRecDepth 100000 in
theorem c_M_isReady (l : Launch) (D : va_G) (a : Nat → Nat) (cI cZ : ClassId) (sz : Nat) (g : St) (x1 : Int32) (Q : Int32 → St → Prop) (hw : wp_M_isReady g x1 Q) : MT_z l y_M_isReady b_M_isReady 4 rm_M_isReady (wM a cI cZ) D (ty_ cI cZ) sz g [.ref (a 0), .int x1] Q := by
  refine MTz_of (by decide +kernel) (Nat.le_of_ble_eq_true rfl) ?_
  intro p e s m args below meth c A Qt ls hx hb hml hts hown hN hK hP hD hA hl hret
  have hS : va_S A s.heap s.heap [] := va_S.rf
  have hl : lv_has ls 4 [(0, .ref (a 0)), (1, .int x1)] := hl
  have k_12 : ∀ (n : Nat) (g : St) (x1 : Int32) (x2 : Int32) (H : Heap) (locs : List Loc) (ls : Array Slot), va_P D cls_ (wM a cI cZ g) H → va_D A (wM a cI cZ g) → va_S A s.heap H locs → lv_has ls 4 [(0, .ref (a 0)), (1, .int x1), (2, .int x2)] → wl_M_isReady_12 Q n g x1 x2 → W p l e rm_M_isReady s m args below meth c H locs 0 0 Qt (F0 m 12 ls []) := by
    intro n
    induction n with
    | zero => intro g x1 x2 H locs ls hP hD hS hl hw; exact False.elim hw
    | succ n_12 ih_12 =>
      have k_66 : ∀ (n : Nat) (g : St) (x1 : Int32) (x2 : Int32) (x3 : Int32) (H : Heap) (locs : List Loc) (ls : Array Slot), va_P D cls_ (wM a cI cZ g) H → va_D A (wM a cI cZ g) → va_S A s.heap H locs → lv_has ls 4 [(0, .ref (a 0)), (1, .int x1), (2, .int x2), (3, .int x3)] → wl_M_isReady_66 (wl_M_isReady_12 Q n_12) Q n g x1 x2 x3 → W p l e rm_M_isReady s m args below meth c H locs 0 0 Qt (F0 m 66 ls []) := by
        intro n
        induction n with
        | zero => intro g x1 x2 x3 H locs ls hP hD hS hl hw; exact False.elim hw
        | succ n_66 ih_66 =>
          intro g x1 x2 x3 H locs ls hP hD hS hl hw
          unfold wl_M_isReady_66 at hw
          refine lv_iload_n hx hb d_M_isReady_66 rfl (lv_at hl 3 rfl) ?_
          refine lv_aload_n hx hb d_M_isReady_67 rfl (lv_at hl 0 rfl) ?_
          refine va_get (D := D) (ci := 5) (C := R_M) (T := F_M) (N := 19) hx hb hts in_M hown hK hP 0 rfl rfl 1 (by decide) (hts _ tb_370) (fun _ h9 => h9) rfl d_M_isReady_68 ?_
          refine lv_icmp_ge (tgt := 101) hx hb d_M_isReady_71 (by decide) (fun hc => ?_) (fun hc => ?_)
          · replace hw := hw.1 hc
            refine lv_iinc (k := 2) (v := x2 + 1) (lv' := [(2, .int (x2 + 1)), (0, .ref (a 0)), (1, .int x1), (3, .int x3)]) hx hb d_M_isReady_101 hl rfl rfl (by decide) rfl (fun ls hl => ?_)
            refine lv_goto (tgt := 12) hx hb d_M_isReady_104 (by decide) ?_
            exact ih_12 g x1 (x2 + 1) _ _ _ hP hD hS (lv_sub hl [1, 2, 0] rfl) hw
          · replace hw := hw.2 hc
            refine lv_aload_n hx hb d_M_isReady_74 rfl (lv_at hl 0 rfl) ?_
            refine va_get (D := D) (ci := 5) (C := R_M) (T := F_M) (N := 19) hx hb hts in_M hown hK hP 0 rfl rfl 6 (by decide) (hts _ tb_375) (fun _ h9 => h9) rfl d_M_isReady_75 ?_
            refine lv_iload_n hx hb d_M_isReady_78 rfl (lv_at hl 3 rfl) ?_
            refine va_iald hx hb hK hP 6 0 rfl rfl hw.1 d_M_isReady_79 ?_
            replace hw := hw.2
            refine lv_iload_n hx hb d_M_isReady_80 rfl (lv_at hl 1 rfl) ?_
            refine lv_icmp_ne (tgt := 95) hx hb d_M_isReady_81 (by decide) (fun hc => ?_) (fun hc => ?_)
            · replace hw := hw.1 hc
              refine lv_iinc (k := 3) (v := x3 + 1) (lv' := [(3, .int (x3 + 1)), (0, .ref (a 0)), (1, .int x1), (2, .int x2)]) hx hb d_M_isReady_95 hl rfl rfl (by decide) rfl (fun ls hl => ?_)
              refine lv_goto (tgt := 66) hx hb d_M_isReady_98 (by decide) ?_
              exact ih_66 g x1 x2 (x3 + 1) _ _ _ hP hD hS (lv_sub hl [1, 2, 3, 0] rfl) hw
            · replace hw := hw.2 hc
              refine lv_aload_n hx hb d_M_isReady_84 rfl (lv_at hl 0 rfl) ?_
              refine lv_iload_n hx hb d_M_isReady_85 rfl (lv_at hl 3 rfl) ?_
              refine lv_iload_n hx hb d_M_isReady_86 rfl (lv_at hl 2 rfl) ?_
              refine aft_i (va_runV (As := [.int x3, .int x2]) (rest := []) ⟨hx, hb, hml, hown, hts⟩ (c_M_conflict l D a cI cZ _ g x3 x2 _ hw) ⟨(callB_of 2 hts good_M_conflict rfl rfl rfl (hts _ tb_6) (hts _ tb_447) hd_M_conflict ⟨Nat.le_of_ble_eq_true rfl, Nat.le_of_ble_eq_true rfl⟩), hts _ tb_449, hts _ ts_31⟩ (preV 0 5 hP hD hK hN rfl rfl) rfl rfl hl.1 rfl (lv_room (Nat.le_of_ble_eq_true rfl)) d_M_isReady_87 ⟨Nat.zero_le _, Nat.zero_le _⟩) hD hS hA hK (fun r87 u87 H locs hw hP hD hS => ?_)
              refine lv_if_eq (tgt := 95) hx hb d_M_isReady_90 (by decide) (fun hc => ?_) (fun hc => ?_)
              · replace hw := hw.1 hc
                refine lv_iinc (k := 3) (v := x3 + 1) (lv' := [(3, .int (x3 + 1)), (0, .ref (a 0)), (1, .int x1), (2, .int x2)]) hx hb d_M_isReady_95 hl rfl rfl (by decide) rfl (fun ls hl => ?_)
                refine lv_goto (tgt := 66) hx hb d_M_isReady_98 (by decide) ?_
                exact ih_66 u87 x1 x2 (x3 + 1) _ _ _ hP hD hS (lv_sub hl [1, 2, 3, 0] rfl) hw
              · replace hw := hw.2 hc
                refine lv_iconst (v := 0) hx hb d_M_isReady_93 (by decide) ?_
                exact hret _ _ _ _ _ _ rfl hw hP hD hS d_M_isReady_94
      intro g x1 x2 H locs ls hP hD hS hl hw
      unfold wl_M_isReady_12 at hw
      refine lv_iload_n hx hb d_M_isReady_12 rfl (lv_at hl 2 rfl) ?_
      refine lv_aload_n hx hb d_M_isReady_13 rfl (lv_at hl 0 rfl) ?_
      refine va_get (D := D) (ci := 5) (C := R_M) (T := F_M) (N := 19) hx hb hts in_M hown hK hP 0 rfl rfl 1 (by decide) (hts _ tb_370) (fun _ h9 => h9) rfl d_M_isReady_14 ?_
      refine lv_icmp_ge (tgt := 107) hx hb d_M_isReady_17 (by decide) (fun hc => ?_) (fun hc => ?_)
      · replace hw := hw.1 hc
        refine lv_iconst (v := 1) hx hb d_M_isReady_107 (by decide) ?_
        exact hret _ _ _ _ _ _ rfl hw hP hD hS d_M_isReady_108
      · replace hw := hw.2 hc
        refine lv_aload_n hx hb d_M_isReady_20 rfl (lv_at hl 0 rfl) ?_
        refine va_get (D := D) (ci := 5) (C := R_M) (T := F_M) (N := 19) hx hb hts in_M hown hK hP 0 rfl rfl 7 (by decide) (hts _ tb_376) (fun _ h9 => h9) rfl d_M_isReady_21 ?_
        refine lv_iload_n hx hb d_M_isReady_24 rfl (lv_at hl 2 rfl) ?_
        refine va_iald hx hb hK hP 7 0 rfl rfl hw.1 d_M_isReady_25 ?_
        replace hw := hw.2
        refine lv_iconst (v := 1) hx hb d_M_isReady_26 (by decide) ?_
        refine lv_icmp_ne (tgt := 101) hx hb d_M_isReady_27 (by decide) (fun hc => ?_) (fun hc => ?_)
        · replace hw := hw.1 hc
          refine lv_iinc (k := 2) (v := x2 + 1) (lv' := [(2, .int (x2 + 1)), (0, .ref (a 0)), (1, .int x1)]) hx hb d_M_isReady_101 hl rfl rfl (by decide) rfl (fun ls hl => ?_)
          refine lv_goto (tgt := 12) hx hb d_M_isReady_104 (by decide) ?_
          exact ih_12 g x1 (x2 + 1) _ _ _ hP hD hS (lv_sub hl [1, 2, 0] rfl) hw
        · replace hw := hw.2 hc
          refine lv_aload_n hx hb d_M_isReady_30 rfl (lv_at hl 0 rfl) ?_
          refine va_get (D := D) (ci := 5) (C := R_M) (T := F_M) (N := 19) hx hb hts in_M hown hK hP 0 rfl rfl 6 (by decide) (hts _ tb_375) (fun _ h9 => h9) rfl d_M_isReady_31 ?_
          refine lv_iload_n hx hb d_M_isReady_34 rfl (lv_at hl 2 rfl) ?_
          refine va_iald hx hb hK hP 6 0 rfl rfl hw.1 d_M_isReady_35 ?_
          replace hw := hw.2
          refine lv_iload_n hx hb d_M_isReady_36 rfl (lv_at hl 1 rfl) ?_
          refine lv_icmp_eq (tgt := 101) hx hb d_M_isReady_37 (by decide) (fun hc => ?_) (fun hc => ?_)
          · replace hw := hw.1 hc
            refine lv_iinc (k := 2) (v := x2 + 1) (lv' := [(2, .int (x2 + 1)), (0, .ref (a 0)), (1, .int x1)]) hx hb d_M_isReady_101 hl rfl rfl (by decide) rfl (fun ls hl => ?_)
            refine lv_goto (tgt := 12) hx hb d_M_isReady_104 (by decide) ?_
            exact ih_12 g x1 (x2 + 1) _ _ _ hP hD hS (lv_sub hl [1, 2, 0] rfl) hw
          · replace hw := hw.2 hc
            refine lv_aload_n hx hb d_M_isReady_40 rfl (lv_at hl 0 rfl) ?_
            refine va_get (D := D) (ci := 5) (C := R_M) (T := F_M) (N := 19) hx hb hts in_M hown hK hP 0 rfl rfl 10 (by decide) (hts _ tb_379) (fun _ h9 => h9) rfl d_M_isReady_41 ?_
            refine lv_aload_n hx hb d_M_isReady_44 rfl (lv_at hl 0 rfl) ?_
            refine va_get (D := D) (ci := 5) (C := R_M) (T := F_M) (N := 19) hx hb hts in_M hown hK hP 0 rfl rfl 6 (by decide) (hts _ tb_375) (fun _ h9 => h9) rfl d_M_isReady_45 ?_
            refine lv_iload_n hx hb d_M_isReady_48 rfl (lv_at hl 2 rfl) ?_
            refine va_iald hx hb hK hP 6 0 rfl rfl hw.1 d_M_isReady_49 ?_
            replace hw := hw.2
            refine va_iald hx hb hK hP 10 0 rfl rfl hw.1 d_M_isReady_50 ?_
            replace hw := hw.2
            refine lv_aload_n hx hb d_M_isReady_51 rfl (lv_at hl 0 rfl) ?_
            refine va_get (D := D) (ci := 5) (C := R_M) (T := F_M) (N := 19) hx hb hts in_M hown hK hP 0 rfl rfl 10 (by decide) (hts _ tb_379) (fun _ h9 => h9) rfl d_M_isReady_52 ?_
            refine lv_iload_n hx hb d_M_isReady_55 rfl (lv_at hl 1 rfl) ?_
            refine va_iald hx hb hK hP 10 0 rfl rfl hw.1 d_M_isReady_56 ?_
            replace hw := hw.2
            refine lv_icmp_ge (tgt := 62) hx hb d_M_isReady_57 (by decide) (fun hc => ?_) (fun hc => ?_)
            · replace hw := hw.1 hc
              refine lv_iload_n hx hb d_M_isReady_62 rfl (lv_at hl 2 rfl) ?_
              refine lv_iconst (v := 1) hx hb d_M_isReady_63 (by decide) ?_
              refine lv_iadd hx hb d_M_isReady_64 ?_
              refine lv_istore_n (lv' := [(3, .int (x2 + 1)), (0, .ref (a 0)), (1, .int x1), (2, .int x2)]) hx hb d_M_isReady_65 rfl hl (by decide) rfl (fun ls hl => ?_)
              obtain ⟨n, hw⟩ := hw
              exact k_66 n g x1 x2 (x2 + 1) _ _ _ hP hD hS (lv_sub hl [1, 2, 3, 0] rfl) hw
            · replace hw := hw.2 hc
              refine lv_iconst (v := 0) hx hb d_M_isReady_60 (by decide) ?_
              exact hret _ _ _ _ _ _ rfl hw hP hD hS d_M_isReady_61
  unfold wp_M_isReady at hw
  refine lv_aload_n hx hb d_M_isReady_0 rfl (lv_at hl 0 rfl) ?_
  refine lv_iload_n hx hb d_M_isReady_1 rfl (lv_at hl 1 rfl) ?_
  refine aft_i (va_runV (As := [.int x1]) (rest := []) ⟨hx, hb, hml, hown, hts⟩ (c_M_waits l D a cI cZ _ g x1 _ hw) ⟨(callB_of 1 hts good_M_waits rfl rfl rfl (hts _ tb_6) (hts _ tb_439) hd_M_waits ⟨Nat.le_of_ble_eq_true rfl, Nat.le_of_ble_eq_true rfl⟩), hts _ tb_441, hts _ ts_29⟩ (preV 0 5 hP hD hK hN rfl rfl) rfl rfl hl.1 rfl (lv_room (Nat.le_of_ble_eq_true rfl)) d_M_isReady_2 ⟨Nat.zero_le _, Nat.zero_le _⟩) hD hS hA hK (fun r2 u2 H locs hw hP hD hS => ?_)
  refine lv_if_ne (tgt := 10) hx hb d_M_isReady_5 (by decide) (fun hc => ?_) (fun hc => ?_)
  · replace hw := hw.1 hc
    refine lv_iconst (v := 0) hx hb d_M_isReady_10 (by decide) ?_
    refine lv_istore_n (lv' := [(2, .int 0), (0, .ref (a 0)), (1, .int x1)]) hx hb d_M_isReady_11 rfl hl (by decide) rfl (fun ls hl => ?_)
    obtain ⟨n, hw⟩ := hw
    exact k_12 n u2 x1 0 _ _ _ hP hD hS (lv_sub hl [1, 2, 0] rfl) hw
  · replace hw := hw.2 hc
    refine lv_iconst (v := 0) hx hb d_M_isReady_8 (by decide) ?_
    exact hret _ _ _ _ _ _ rfl hw hP hD hS d_M_isReady_9
end
section
set_option maxHeartbeats 4000000 in
set_option maxRecDepth 100000 in
theorem c_M_joined (l : Launch) (D : va_G) (a : Nat → Nat) (cI cZ : ClassId) (sz : Nat) (g : St) (x1 : Int32) (Q : Int32 → St → Prop) (hw : wp_M_joined g x1 Q) : MT_i l y_M_joined b_M_joined 5 rm_M_joined (wM a cI cZ) D (ty_ cI cZ) sz g [.ref (a 0), .int x1] Q := by
  refine MTi_of (by decide +kernel) (Nat.le_of_ble_eq_true rfl) ?_
  intro p e s m args below meth c A Qt ls hx hb hml hts hown hN hK hP hD hA hl hret
  have hS : va_S A s.heap s.heap [] := va_S.rf
  have hl : lv_has ls 5 [(0, .ref (a 0)), (1, .int x1)] := hl
  have k_36 : ∀ (n : Nat) (g : St) (x1 : Int32) (x2 : Int32) (H : Heap) (locs : List Loc) (ls : Array Slot), va_P D cls_ (wM a cI cZ g) H → va_D A (wM a cI cZ g) → va_S A s.heap H locs → lv_has ls 5 [(0, .ref (a 0)), (1, .int x1), (2, .int x2)] → wl_M_joined_36 Q n g x1 x2 → W p l e rm_M_joined s m args below meth c H locs 0 0 Qt (F0 m 36 ls []) := by
    intro n
    induction n with
    | zero => intro g x1 x2 H locs ls hP hD hS hl hw; exact False.elim hw
    | succ n_36 ih_36 =>
      have k_43 : ∀ (n : Nat) (g : St) (x1 : Int32) (x2 : Int32) (x3 : Int32) (H : Heap) (locs : List Loc) (ls : Array Slot), va_P D cls_ (wM a cI cZ g) H → va_D A (wM a cI cZ g) → va_S A s.heap H locs → lv_has ls 5 [(0, .ref (a 0)), (1, .int x1), (2, .int x2), (3, .int x3)] → wl_M_joined_43 (wl_M_joined_36 Q n_36) Q n g x1 x2 x3 → W p l e rm_M_joined s m args below meth c H locs 0 0 Qt (F0 m 43 ls []) := by
        intro n
        induction n with
        | zero => intro g x1 x2 x3 H locs ls hP hD hS hl hw; exact False.elim hw
        | succ n_43 ih_43 =>
          have k_168 : ∀ (g : St) (x1 : Int32) (x2 : Int32) (x3 : Int32) (z0 : Int32) (H : Heap) (locs : List Loc) (ls : Array Slot), va_P D cls_ (wM a cI cZ g) H → va_D A (wM a cI cZ g) → va_S A s.heap H locs → lv_has ls 5 [(0, .ref (a 0)), (1, .int x1), (2, .int x2), (3, .int x3)] → wb_M_joined_168 (wl_M_joined_36 Q n_36) (wl_M_joined_43 (wl_M_joined_36 Q n_36) Q n_43) Q g x1 x2 x3 z0 → W p l e rm_M_joined s m args below meth c H locs 0 0 Qt (F0 m 168 ls [.int z0]) := by
            intro g x1 x2 x3 z0 H locs ls hP hD hS hl hw
            unfold wb_M_joined_168 at hw
            refine lv_istore (lv' := [(4, .int z0), (0, .ref (a 0)), (1, .int x1), (2, .int x2), (3, .int x3)]) hx hb d_M_joined_168 hl (by decide) rfl (fun ls hl => ?_)
            refine lv_iload hx hb d_M_joined_170 (lv_at hl 0 rfl) ?_
            refine lv_if_eq (tgt := 177) hx hb d_M_joined_172 (by decide) (fun hc => ?_) (fun hc => ?_)
            · replace hw := hw.1 hc
              refine lv_iinc (k := 4) (v := x3 + 1) (lv' := [(3, .int (x3 + 1)), (4, .int z0), (0, .ref (a 0)), (1, .int x1), (2, .int x2)]) hx hb d_M_joined_177 hl rfl rfl (by decide) rfl (fun ls hl => ?_)
              refine lv_goto (tgt := 43) hx hb d_M_joined_180 (by decide) ?_
              exact ih_43 g x1 x2 (x3 + 1) _ _ _ hP hD hS (lv_sub hl [2, 3, 4, 0] rfl) hw
            · replace hw := hw.2 hc
              refine lv_iload_n hx hb d_M_joined_175 rfl (lv_at hl 4 rfl) ?_
              exact hret _ _ _ _ _ _ hw hP hD hS d_M_joined_176
          intro g x1 x2 x3 H locs ls hP hD hS hl hw
          unfold wl_M_joined_43 at hw
          refine lv_iload_n hx hb d_M_joined_43 rfl (lv_at hl 3 rfl) ?_
          refine lv_iload_n hx hb d_M_joined_44 rfl (lv_at hl 1 rfl) ?_
          refine lv_icmp_ge (tgt := 183) hx hb d_M_joined_45 (by decide) (fun hc => ?_) (fun hc => ?_)
          · replace hw := hw.1 hc
            refine lv_iinc (k := 2) (v := x2 + 1) (lv' := [(2, .int (x2 + 1)), (0, .ref (a 0)), (1, .int x1), (3, .int x3)]) hx hb d_M_joined_183 hl rfl rfl (by decide) rfl (fun ls hl => ?_)
            refine lv_goto (tgt := 36) hx hb d_M_joined_186 (by decide) ?_
            exact ih_36 g x1 (x2 + 1) _ _ _ hP hD hS (lv_sub hl [1, 2, 0] rfl) hw
          · replace hw := hw.2 hc
            refine lv_aload_n hx hb d_M_joined_48 rfl (lv_at hl 0 rfl) ?_
            refine lv_iload_n hx hb d_M_joined_49 rfl (lv_at hl 3 rfl) ?_
            refine aft_i (va_runV (As := [.int x3]) (rest := []) ⟨hx, hb, hml, hown, hts⟩ (c_M_waits l D a cI cZ _ g x3 _ hw) ⟨(callB_of 1 hts good_M_waits rfl rfl rfl (hts _ tb_6) (hts _ tb_439) hd_M_waits ⟨Nat.le_of_ble_eq_true rfl, Nat.le_of_ble_eq_true rfl⟩), hts _ tb_441, hts _ ts_29⟩ (preV 0 5 hP hD hK hN rfl rfl) rfl rfl hl.1 rfl (lv_room (Nat.le_of_ble_eq_true rfl)) d_M_joined_50 ⟨Nat.zero_le _, Nat.zero_le _⟩) hD hS hA hK (fun r50 u50 H locs hw hP hD hS => ?_)
            refine lv_if_eq (tgt := 177) hx hb d_M_joined_53 (by decide) (fun hc => ?_) (fun hc => ?_)
            · replace hw := hw.1 hc
              refine lv_iinc (k := 3) (v := x3 + 1) (lv' := [(3, .int (x3 + 1)), (0, .ref (a 0)), (1, .int x1), (2, .int x2)]) hx hb d_M_joined_177 hl rfl rfl (by decide) rfl (fun ls hl => ?_)
              refine lv_goto (tgt := 43) hx hb d_M_joined_180 (by decide) ?_
              exact ih_43 u50 x1 x2 (x3 + 1) _ _ _ hP hD hS (lv_sub hl [1, 2, 3, 0] rfl) hw
            · replace hw := hw.2 hc
              refine lv_aload_n hx hb d_M_joined_56 rfl (lv_at hl 0 rfl) ?_
              refine va_get (D := D) (ci := 5) (C := R_M) (T := F_M) (N := 19) hx hb hts in_M hown hK hP 0 rfl rfl 2 (by decide) (hts _ tb_371) (fun _ h9 => h9) rfl d_M_joined_57 ?_
              refine lv_iload_n hx hb d_M_joined_60 rfl (lv_at hl 3 rfl) ?_
              refine va_iald hx hb hK hP 2 0 rfl rfl hw.1 d_M_joined_61 ?_
              replace hw := hw.2
              refine lv_aload_n hx hb d_M_joined_62 rfl (lv_at hl 0 rfl) ?_
              refine va_get (D := D) (ci := 5) (C := R_M) (T := F_M) (N := 19) hx hb hts in_M hown hK hP 0 rfl rfl 2 (by decide) (hts _ tb_371) (fun _ h9 => h9) rfl d_M_joined_63 ?_
              refine lv_iload_n hx hb d_M_joined_66 rfl (lv_at hl 1 rfl) ?_
              refine va_iald hx hb hK hP 2 0 rfl rfl hw.1 d_M_joined_67 ?_
              replace hw := hw.2
              refine lv_icmp_ne (tgt := 177) hx hb d_M_joined_68 (by decide) (fun hc => ?_) (fun hc => ?_)
              · replace hw := hw.1 hc
                refine lv_iinc (k := 3) (v := x3 + 1) (lv' := [(3, .int (x3 + 1)), (0, .ref (a 0)), (1, .int x1), (2, .int x2)]) hx hb d_M_joined_177 hl rfl rfl (by decide) rfl (fun ls hl => ?_)
                refine lv_goto (tgt := 43) hx hb d_M_joined_180 (by decide) ?_
                exact ih_43 u50 x1 x2 (x3 + 1) _ _ _ hP hD hS (lv_sub hl [1, 2, 3, 0] rfl) hw
              · replace hw := hw.2 hc
                refine lv_aload_n hx hb d_M_joined_71 rfl (lv_at hl 0 rfl) ?_
                refine va_get (D := D) (ci := 5) (C := R_M) (T := F_M) (N := 19) hx hb hts in_M hown hK hP 0 rfl rfl 10 (by decide) (hts _ tb_379) (fun _ h9 => h9) rfl d_M_joined_72 ?_
                refine lv_iload_n hx hb d_M_joined_75 rfl (lv_at hl 3 rfl) ?_
                refine va_iald hx hb hK hP 10 0 rfl rfl hw.1 d_M_joined_76 ?_
                replace hw := hw.2
                refine lv_aload_n hx hb d_M_joined_77 rfl (lv_at hl 0 rfl) ?_
                refine va_get (D := D) (ci := 5) (C := R_M) (T := F_M) (N := 19) hx hb hts in_M hown hK hP 0 rfl rfl 11 (by decide) (hts _ tb_380) (fun _ h9 => h9) rfl d_M_joined_78 ?_
                refine lv_icmp_ne (tgt := 177) hx hb d_M_joined_81 (by decide) (fun hc => ?_) (fun hc => ?_)
                · replace hw := hw.1 hc
                  refine lv_iinc (k := 3) (v := x3 + 1) (lv' := [(3, .int (x3 + 1)), (0, .ref (a 0)), (1, .int x1), (2, .int x2)]) hx hb d_M_joined_177 hl rfl rfl (by decide) rfl (fun ls hl => ?_)
                  refine lv_goto (tgt := 43) hx hb d_M_joined_180 (by decide) ?_
                  exact ih_43 u50 x1 x2 (x3 + 1) _ _ _ hP hD hS (lv_sub hl [1, 2, 3, 0] rfl) hw
                · replace hw := hw.2 hc
                  refine lv_aload_n hx hb d_M_joined_84 rfl (lv_at hl 0 rfl) ?_
                  refine lv_iload_n hx hb d_M_joined_85 rfl (lv_at hl 3 rfl) ?_
                  refine aft_i (va_runV (As := [.int x3]) (rest := []) ⟨hx, hb, hml, hown, hts⟩ (c_M_members l D a cI cZ _ u50 x3 _ hw) ⟨(callB_of 1 hts good_M_members rfl rfl rfl (hts _ tb_6) (hts _ tb_451) hd_M_members ⟨Nat.le_of_ble_eq_true rfl, Nat.le_of_ble_eq_true rfl⟩), hts _ tb_453, hts _ ts_32⟩ (preV 0 5 hP hD hK hN rfl rfl) rfl rfl hl.1 rfl (lv_room (Nat.le_of_ble_eq_true rfl)) d_M_joined_86 ⟨Nat.zero_le _, Nat.zero_le _⟩) hD hS hA hK (fun r86 u86 H locs hw hP hD hS => ?_)
                  refine lv_iconst (v := 4) hx hb d_M_joined_89 (by decide) ?_
                  refine lv_icmp_ge (tgt := 177) hx hb d_M_joined_90 (by decide) (fun hc => ?_) (fun hc => ?_)
                  · replace hw := hw.1 hc
                    refine lv_iinc (k := 3) (v := x3 + 1) (lv' := [(3, .int (x3 + 1)), (0, .ref (a 0)), (1, .int x1), (2, .int x2)]) hx hb d_M_joined_177 hl rfl rfl (by decide) rfl (fun ls hl => ?_)
                    refine lv_goto (tgt := 43) hx hb d_M_joined_180 (by decide) ?_
                    exact ih_43 u86 x1 x2 (x3 + 1) _ _ _ hP hD hS (lv_sub hl [1, 2, 3, 0] rfl) hw
                  · replace hw := hw.2 hc
                    refine lv_aload_n hx hb d_M_joined_93 rfl (lv_at hl 0 rfl) ?_
                    refine lv_iload_n hx hb d_M_joined_94 rfl (lv_at hl 3 rfl) ?_
                    refine aft_i (va_runV (As := [.int x3]) (rest := []) ⟨hx, hb, hml, hown, hts⟩ (c_M_length l D a cI cZ _ u86 x3 _ hw) ⟨(callB_of 1 hts good_M_length rfl rfl rfl (hts _ tb_6) (hts _ tb_455) hd_M_length ⟨Nat.le_of_ble_eq_true rfl, Nat.le_of_ble_eq_true rfl⟩), hts _ tb_457, hts _ ts_33⟩ (preV 0 5 hP hD hK hN rfl rfl) rfl rfl hl.1 rfl (lv_room (Nat.le_of_ble_eq_true rfl)) d_M_joined_95 ⟨Nat.zero_le _, Nat.zero_le _⟩) hD hS hA hK (fun r95 u95 H locs hw hP hD hS => ?_)
                    refine lv_aload_n hx hb d_M_joined_98 rfl (lv_at hl 0 rfl) ?_
                    refine va_get (D := D) (ci := 5) (C := R_M) (T := F_M) (N := 19) hx hb hts in_M hown hK hP 0 rfl rfl 4 (by decide) (hts _ tb_373) (fun _ h9 => h9) rfl d_M_joined_99 ?_
                    refine lv_iload_n hx hb d_M_joined_102 rfl (lv_at hl 1 rfl) ?_
                    refine va_iald hx hb hK hP 4 0 rfl rfl hw.1 d_M_joined_103 ?_
                    replace hw := hw.2
                    refine lv_iadd hx hb d_M_joined_104 ?_
                    refine lv_bipush (v := 16) hx hb d_M_joined_105 (by decide) ?_
                    refine lv_icmp_gt (tgt := 177) hx hb d_M_joined_107 (by decide) (fun hc => ?_) (fun hc => ?_)
                    · replace hw := hw.1 hc
                      refine lv_iinc (k := 3) (v := x3 + 1) (lv' := [(3, .int (x3 + 1)), (0, .ref (a 0)), (1, .int x1), (2, .int x2)]) hx hb d_M_joined_177 hl rfl rfl (by decide) rfl (fun ls hl => ?_)
                      refine lv_goto (tgt := 43) hx hb d_M_joined_180 (by decide) ?_
                      exact ih_43 u95 x1 x2 (x3 + 1) _ _ _ hP hD hS (lv_sub hl [1, 2, 3, 0] rfl) hw
                    · replace hw := hw.2 hc
                      refine lv_iload_n hx hb d_M_joined_110 rfl (lv_at hl 2 rfl) ?_
                      refine lv_if_ne (tgt := 142) hx hb d_M_joined_111 (by decide) (fun hc => ?_) (fun hc => ?_)
                      · replace hw := hw.1 hc
                        refine lv_aload_n hx hb d_M_joined_142 rfl (lv_at hl 0 rfl) ?_
                        refine lv_iload_n hx hb d_M_joined_143 rfl (lv_at hl 3 rfl) ?_
                        refine aft_i (va_runV (As := [.int x3]) (rest := []) ⟨hx, hb, hml, hown, hts⟩ (c_M_start l D a cI cZ _ u95 x3 _ hw) ⟨(callB_of 1 hts good_M_start rfl rfl rfl (hts _ tb_6) (hts _ tb_459) hd_M_start ⟨Nat.le_of_ble_eq_true rfl, Nat.le_of_ble_eq_true rfl⟩), hts _ tb_461, hts _ ts_34⟩ (preV 0 5 hP hD hK hN rfl rfl) rfl rfl hl.1 rfl (lv_room (Nat.le_of_ble_eq_true rfl)) d_M_joined_144 ⟨Nat.zero_le _, Nat.zero_le _⟩) hD hS hA hK (fun r144 u144 H locs hw hP hD hS => ?_)
                        refine lv_aload_n hx hb d_M_joined_147 rfl (lv_at hl 0 rfl) ?_
                        refine va_get (D := D) (ci := 5) (C := R_M) (T := F_M) (N := 19) hx hb hts in_M hown hK hP 0 rfl rfl 3 (by decide) (hts _ tb_372) (fun _ h9 => h9) rfl d_M_joined_148 ?_
                        refine lv_iload_n hx hb d_M_joined_151 rfl (lv_at hl 1 rfl) ?_
                        refine va_iald hx hb hK hP 3 0 rfl rfl hw.1 d_M_joined_152 ?_
                        replace hw := hw.2
                        refine lv_aload_n hx hb d_M_joined_153 rfl (lv_at hl 0 rfl) ?_
                        refine va_get (D := D) (ci := 5) (C := R_M) (T := F_M) (N := 19) hx hb hts in_M hown hK hP 0 rfl rfl 4 (by decide) (hts _ tb_373) (fun _ h9 => h9) rfl d_M_joined_154 ?_
                        refine lv_iload_n hx hb d_M_joined_157 rfl (lv_at hl 1 rfl) ?_
                        refine va_iald hx hb hK hP 4 0 rfl rfl hw.1 d_M_joined_158 ?_
                        replace hw := hw.2
                        refine lv_iadd hx hb d_M_joined_159 ?_
                        refine lv_icmp_ne (tgt := 167) hx hb d_M_joined_160 (by decide) (fun hc => ?_) (fun hc => ?_)
                        · replace hw := hw.1 hc
                          refine lv_iconst (v := 0) hx hb d_M_joined_167 (by decide) ?_
                          exact k_168 u144 x1 x2 x3 0 _ _ _ hP hD hS (lv_sub hl [0, 1, 2, 3] rfl) hw
                        · replace hw := hw.2 hc
                          refine lv_iconst (v := 1) hx hb d_M_joined_163 (by decide) ?_
                          refine lv_goto (tgt := 168) hx hb d_M_joined_164 (by decide) ?_
                          exact k_168 u144 x1 x2 x3 1 _ _ _ hP hD hS (lv_sub hl [0, 1, 2, 3] rfl) hw
                      · replace hw := hw.2 hc
                        refine lv_aload_n hx hb d_M_joined_114 rfl (lv_at hl 0 rfl) ?_
                        refine lv_iload_n hx hb d_M_joined_115 rfl (lv_at hl 3 rfl) ?_
                        refine aft_i (va_runV (As := [.int x3]) (rest := []) ⟨hx, hb, hml, hown, hts⟩ (c_M_start l D a cI cZ _ u95 x3 _ hw) ⟨(callB_of 1 hts good_M_start rfl rfl rfl (hts _ tb_6) (hts _ tb_459) hd_M_start ⟨Nat.le_of_ble_eq_true rfl, Nat.le_of_ble_eq_true rfl⟩), hts _ tb_461, hts _ ts_34⟩ (preV 0 5 hP hD hK hN rfl rfl) rfl rfl hl.1 rfl (lv_room (Nat.le_of_ble_eq_true rfl)) d_M_joined_116 ⟨Nat.zero_le _, Nat.zero_le _⟩) hD hS hA hK (fun r116 u116 H locs hw hP hD hS => ?_)
                        refine lv_aload_n hx hb d_M_joined_119 rfl (lv_at hl 0 rfl) ?_
                        refine lv_iload_n hx hb d_M_joined_120 rfl (lv_at hl 3 rfl) ?_
                        refine aft_i (va_runV (As := [.int x3]) (rest := [.int r116]) ⟨hx, hb, hml, hown, hts⟩ (c_M_length l D a cI cZ _ u116 x3 _ hw) ⟨(callB_of 1 hts good_M_length rfl rfl rfl (hts _ tb_6) (hts _ tb_455) hd_M_length ⟨Nat.le_of_ble_eq_true rfl, Nat.le_of_ble_eq_true rfl⟩), hts _ tb_457, hts _ ts_33⟩ (preV 0 5 hP hD hK hN rfl rfl) rfl rfl hl.1 rfl (lv_room (Nat.le_of_ble_eq_true rfl)) d_M_joined_121 ⟨Nat.zero_le _, Nat.zero_le _⟩) hD hS hA hK (fun r121 u121 H locs hw hP hD hS => ?_)
                        refine lv_iadd hx hb d_M_joined_124 ?_
                        refine lv_aload_n hx hb d_M_joined_125 rfl (lv_at hl 0 rfl) ?_
                        refine va_get (D := D) (ci := 5) (C := R_M) (T := F_M) (N := 19) hx hb hts in_M hown hK hP 0 rfl rfl 3 (by decide) (hts _ tb_372) (fun _ h9 => h9) rfl d_M_joined_126 ?_
                        refine lv_iload_n hx hb d_M_joined_129 rfl (lv_at hl 1 rfl) ?_
                        refine va_iald hx hb hK hP 3 0 rfl rfl hw.1 d_M_joined_130 ?_
                        replace hw := hw.2
                        refine lv_icmp_ne (tgt := 138) hx hb d_M_joined_131 (by decide) (fun hc => ?_) (fun hc => ?_)
                        · replace hw := hw.1 hc
                          refine lv_iconst (v := 0) hx hb d_M_joined_138 (by decide) ?_
                          refine lv_goto (tgt := 168) hx hb d_M_joined_139 (by decide) ?_
                          exact k_168 u121 x1 x2 x3 0 _ _ _ hP hD hS (lv_sub hl [0, 1, 2, 3] rfl) hw
                        · replace hw := hw.2 hc
                          refine lv_iconst (v := 1) hx hb d_M_joined_134 (by decide) ?_
                          refine lv_goto (tgt := 168) hx hb d_M_joined_135 (by decide) ?_
                          exact k_168 u121 x1 x2 x3 1 _ _ _ hP hD hS (lv_sub hl [0, 1, 2, 3] rfl) hw
      intro g x1 x2 H locs ls hP hD hS hl hw
      unfold wl_M_joined_36 at hw
      refine lv_iload_n hx hb d_M_joined_36 rfl (lv_at hl 2 rfl) ?_
      refine lv_iconst (v := 2) hx hb d_M_joined_37 (by decide) ?_
      refine lv_icmp_ge (tgt := 189) hx hb d_M_joined_38 (by decide) (fun hc => ?_) (fun hc => ?_)
      · replace hw := hw.1 hc
        refine lv_iload_n hx hb d_M_joined_189 rfl (lv_at hl 1 rfl) ?_
        exact hret _ _ _ _ _ _ hw hP hD hS d_M_joined_190
      · replace hw := hw.2 hc
        refine lv_iconst (v := 0) hx hb d_M_joined_41 (by decide) ?_
        refine lv_istore_n (lv' := [(3, .int 0), (0, .ref (a 0)), (1, .int x1), (2, .int x2)]) hx hb d_M_joined_42 rfl hl (by decide) rfl (fun ls hl => ?_)
        obtain ⟨n, hw⟩ := hw
        exact k_43 n g x1 x2 0 _ _ _ hP hD hS (lv_sub hl [1, 2, 3, 0] rfl) hw
  have k_2 : ∀ (n : Nat) (g : St) (x1 : Int32) (x2 : Int32) (H : Heap) (locs : List Loc) (ls : Array Slot), va_P D cls_ (wM a cI cZ g) H → va_D A (wM a cI cZ g) → va_S A s.heap H locs → lv_has ls 5 [(0, .ref (a 0)), (1, .int x1), (2, .int x2)] → wl_M_joined_2 Q n g x1 x2 → W p l e rm_M_joined s m args below meth c H locs 0 0 Qt (F0 m 2 ls []) := by
    intro n
    induction n with
    | zero => intro g x1 x2 H locs ls hP hD hS hl hw; exact False.elim hw
    | succ n_2 ih_2 =>
      intro g x1 x2 H locs ls hP hD hS hl hw
      unfold wl_M_joined_2 at hw
      refine lv_iload_n hx hb d_M_joined_2 rfl (lv_at hl 2 rfl) ?_
      refine lv_iload_n hx hb d_M_joined_3 rfl (lv_at hl 1 rfl) ?_
      refine lv_icmp_ge (tgt := 34) hx hb d_M_joined_4 (by decide) (fun hc => ?_) (fun hc => ?_)
      · replace hw := hw.1 hc
        refine lv_iconst (v := 0) hx hb d_M_joined_34 (by decide) ?_
        refine lv_istore_n (lv' := [(2, .int 0), (0, .ref (a 0)), (1, .int x1)]) hx hb d_M_joined_35 rfl hl (by decide) rfl (fun ls hl => ?_)
        obtain ⟨n, hw⟩ := hw
        exact k_36 n g x1 0 _ _ _ hP hD hS (lv_sub hl [1, 2, 0] rfl) hw
      · replace hw := hw.2 hc
        refine lv_aload_n hx hb d_M_joined_7 rfl (lv_at hl 0 rfl) ?_
        refine va_get (D := D) (ci := 5) (C := R_M) (T := F_M) (N := 19) hx hb hts in_M hown hK hP 0 rfl rfl 7 (by decide) (hts _ tb_376) (fun _ h9 => h9) rfl d_M_joined_8 ?_
        refine lv_iload_n hx hb d_M_joined_11 rfl (lv_at hl 2 rfl) ?_
        refine va_iald hx hb hK hP 7 0 rfl rfl hw.1 d_M_joined_12 ?_
        replace hw := hw.2
        refine lv_iconst (v := 1) hx hb d_M_joined_13 (by decide) ?_
        refine lv_icmp_ne (tgt := 28) hx hb d_M_joined_14 (by decide) (fun hc => ?_) (fun hc => ?_)
        · replace hw := hw.1 hc
          refine lv_iinc (k := 2) (v := x2 + 1) (lv' := [(2, .int (x2 + 1)), (0, .ref (a 0)), (1, .int x1)]) hx hb d_M_joined_28 hl rfl rfl (by decide) rfl (fun ls hl => ?_)
          refine lv_goto (tgt := 2) hx hb d_M_joined_31 (by decide) ?_
          exact ih_2 g x1 (x2 + 1) _ _ _ hP hD hS (lv_sub hl [1, 2, 0] rfl) hw
        · replace hw := hw.2 hc
          refine lv_aload_n hx hb d_M_joined_17 rfl (lv_at hl 0 rfl) ?_
          refine lv_iload_n hx hb d_M_joined_18 rfl (lv_at hl 1 rfl) ?_
          refine lv_iload_n hx hb d_M_joined_19 rfl (lv_at hl 2 rfl) ?_
          refine aft_i (va_runV (As := [.int x1, .int x2]) (rest := []) ⟨hx, hb, hml, hown, hts⟩ (c_M_conflict l D a cI cZ _ g x1 x2 _ hw) ⟨(callB_of 2 hts good_M_conflict rfl rfl rfl (hts _ tb_6) (hts _ tb_447) hd_M_conflict ⟨Nat.le_of_ble_eq_true rfl, Nat.le_of_ble_eq_true rfl⟩), hts _ tb_449, hts _ ts_31⟩ (preV 0 5 hP hD hK hN rfl rfl) rfl rfl hl.1 rfl (lv_room (Nat.le_of_ble_eq_true rfl)) d_M_joined_20 ⟨Nat.zero_le _, Nat.zero_le _⟩) hD hS hA hK (fun r20 u20 H locs hw hP hD hS => ?_)
          refine lv_if_eq (tgt := 28) hx hb d_M_joined_23 (by decide) (fun hc => ?_) (fun hc => ?_)
          · replace hw := hw.1 hc
            refine lv_iinc (k := 2) (v := x2 + 1) (lv' := [(2, .int (x2 + 1)), (0, .ref (a 0)), (1, .int x1)]) hx hb d_M_joined_28 hl rfl rfl (by decide) rfl (fun ls hl => ?_)
            refine lv_goto (tgt := 2) hx hb d_M_joined_31 (by decide) ?_
            exact ih_2 u20 x1 (x2 + 1) _ _ _ hP hD hS (lv_sub hl [1, 2, 0] rfl) hw
          · replace hw := hw.2 hc
            refine lv_iload_n hx hb d_M_joined_26 rfl (lv_at hl 1 rfl) ?_
            exact hret _ _ _ _ _ _ hw hP hD hS d_M_joined_27
  unfold wp_M_joined at hw
  refine lv_iconst (v := 0) hx hb d_M_joined_0 (by decide) ?_
  refine lv_istore_n (lv' := [(2, .int 0), (0, .ref (a 0)), (1, .int x1)]) hx hb d_M_joined_1 rfl hl (by decide) rfl (fun ls hl => ?_)
  obtain ⟨n, hw⟩ := hw
  exact k_2 n g x1 0 _ _ _ hP hD hS (lv_sub hl [1, 2, 0] rfl) hw
set_option maxHeartbeats 4000000 in
set_option maxRecDepth 100000 in
theorem c_M_waiting (l : Launch) (D : va_G) (a : Nat → Nat) (cI cZ : ClassId) (sz : Nat) (g : St) (x1 : Int32) (Q : Int32 → St → Prop) (hw : wp_M_waiting g x1 Q) : MT_i l y_M_waiting b_M_waiting 4 rm_M_waiting (wM a cI cZ) D (ty_ cI cZ) sz g [.ref (a 0), .int x1] Q := by
  refine MTi_of (by decide +kernel) (Nat.le_of_ble_eq_true rfl) ?_
  intro p e s m args below meth c A Qt ls hx hb hml hts hown hN hK hP hD hA hl hret
  have hS : va_S A s.heap s.heap [] := va_S.rf
  have hl : lv_has ls 4 [(0, .ref (a 0)), (1, .int x1)] := hl
  have k_4 : ∀ (n : Nat) (g : St) (x1 : Int32) (x2 : Int32) (x3 : Int32) (H : Heap) (locs : List Loc) (ls : Array Slot), va_P D cls_ (wM a cI cZ g) H → va_D A (wM a cI cZ g) → va_S A s.heap H locs → lv_has ls 4 [(0, .ref (a 0)), (1, .int x1), (2, .int x2), (3, .int x3)] → wl_M_waiting_4 Q n g x1 x2 x3 → W p l e rm_M_waiting s m args below meth c H locs 0 0 Qt (F0 m 4 ls []) := by
    intro n
    induction n with
    | zero => intro g x1 x2 x3 H locs ls hP hD hS hl hw; exact False.elim hw
    | succ n_4 ih_4 =>
      intro g x1 x2 x3 H locs ls hP hD hS hl hw
      unfold wl_M_waiting_4 at hw
      refine lv_iload_n hx hb d_M_waiting_4 rfl (lv_at hl 3 rfl) ?_
      refine lv_aload_n hx hb d_M_waiting_5 rfl (lv_at hl 0 rfl) ?_
      refine va_get (D := D) (ci := 5) (C := R_M) (T := F_M) (N := 19) hx hb hts in_M hown hK hP 0 rfl rfl 1 (by decide) (hts _ tb_370) (fun _ h9 => h9) rfl d_M_waiting_6 ?_
      refine lv_icmp_ge (tgt := 44) hx hb d_M_waiting_9 (by decide) (fun hc => ?_) (fun hc => ?_)
      · replace hw := hw.1 hc
        refine lv_iload_n hx hb d_M_waiting_44 rfl (lv_at hl 1 rfl) ?_
        refine lv_if_lt (tgt := 53) hx hb d_M_waiting_45 (by decide) (fun hc => ?_) (fun hc => ?_)
        · replace hw := hw.1 hc
          refine lv_iconst (v := (-1)) hx hb d_M_waiting_53 (by decide) ?_
          refine lv_goto (tgt := 58) hx hb d_M_waiting_54 (by decide) ?_
          exact hret _ _ _ _ _ _ hw hP hD hS d_M_waiting_58
        · replace hw := hw.2 hc
          refine lv_iload_n hx hb d_M_waiting_48 rfl (lv_at hl 1 rfl) ?_
          refine lv_iconst (v := 1) hx hb d_M_waiting_49 (by decide) ?_
          refine lv_icmp_le (tgt := 57) hx hb d_M_waiting_50 (by decide) (fun hc => ?_) (fun hc => ?_)
          · replace hw := hw.1 hc
            refine lv_iload_n hx hb d_M_waiting_57 rfl (lv_at hl 2 rfl) ?_
            exact hret _ _ _ _ _ _ hw hP hD hS d_M_waiting_58
          · replace hw := hw.2 hc
            refine lv_iconst (v := (-1)) hx hb d_M_waiting_53 (by decide) ?_
            refine lv_goto (tgt := 58) hx hb d_M_waiting_54 (by decide) ?_
            exact hret _ _ _ _ _ _ hw hP hD hS d_M_waiting_58
      · replace hw := hw.2 hc
        refine lv_aload_n hx hb d_M_waiting_12 rfl (lv_at hl 0 rfl) ?_
        refine lv_iload_n hx hb d_M_waiting_13 rfl (lv_at hl 3 rfl) ?_
        refine aft_i (va_runV (As := [.int x3]) (rest := []) ⟨hx, hb, hml, hown, hts⟩ (c_M_waits l D a cI cZ _ g x3 _ hw) ⟨(callB_of 1 hts good_M_waits rfl rfl rfl (hts _ tb_6) (hts _ tb_439) hd_M_waits ⟨Nat.le_of_ble_eq_true rfl, Nat.le_of_ble_eq_true rfl⟩), hts _ tb_441, hts _ ts_29⟩ (preV 0 5 hP hD hK hN rfl rfl) rfl rfl hl.1 rfl (lv_room (Nat.le_of_ble_eq_true rfl)) d_M_waiting_14 ⟨Nat.zero_le _, Nat.zero_le _⟩) hD hS hA hK (fun r14 u14 H locs hw hP hD hS => ?_)
        refine lv_if_eq (tgt := 36) hx hb d_M_waiting_17 (by decide) (fun hc => ?_) (fun hc => ?_)
        · replace hw := hw.1 hc
          refine lv_iload_n hx hb d_M_waiting_36 rfl (lv_at hl 2 rfl) ?_
          refine lv_istore_n (lv' := [(2, .int x2), (0, .ref (a 0)), (1, .int x1), (3, .int x3)]) hx hb d_M_waiting_37 rfl hl (by decide) rfl (fun ls hl => ?_)
          refine lv_iinc (k := 3) (v := x3 + 1) (lv' := [(3, .int (x3 + 1)), (2, .int x2), (0, .ref (a 0)), (1, .int x1)]) hx hb d_M_waiting_38 hl rfl rfl (by decide) rfl (fun ls hl => ?_)
          refine lv_goto (tgt := 4) hx hb d_M_waiting_41 (by decide) ?_
          exact ih_4 u14 x1 x2 (x3 + 1) _ _ _ hP hD hS (lv_sub hl [2, 3, 1, 0] rfl) hw
        · replace hw := hw.2 hc
          refine lv_aload_n hx hb d_M_waiting_20 rfl (lv_at hl 0 rfl) ?_
          refine va_get (D := D) (ci := 5) (C := R_M) (T := F_M) (N := 19) hx hb hts in_M hown hK hP 0 rfl rfl 2 (by decide) (hts _ tb_371) (fun _ h9 => h9) rfl d_M_waiting_21 ?_
          refine lv_iload_n hx hb d_M_waiting_24 rfl (lv_at hl 3 rfl) ?_
          refine va_iald hx hb hK hP 2 0 rfl rfl hw.1 d_M_waiting_25 ?_
          replace hw := hw.2
          refine lv_iload_n hx hb d_M_waiting_26 rfl (lv_at hl 1 rfl) ?_
          refine lv_icmp_ne (tgt := 36) hx hb d_M_waiting_27 (by decide) (fun hc => ?_) (fun hc => ?_)
          · replace hw := hw.1 hc
            refine lv_iload_n hx hb d_M_waiting_36 rfl (lv_at hl 2 rfl) ?_
            refine lv_istore_n (lv' := [(2, .int x2), (0, .ref (a 0)), (1, .int x1), (3, .int x3)]) hx hb d_M_waiting_37 rfl hl (by decide) rfl (fun ls hl => ?_)
            refine lv_iinc (k := 3) (v := x3 + 1) (lv' := [(3, .int (x3 + 1)), (2, .int x2), (0, .ref (a 0)), (1, .int x1)]) hx hb d_M_waiting_38 hl rfl rfl (by decide) rfl (fun ls hl => ?_)
            refine lv_goto (tgt := 4) hx hb d_M_waiting_41 (by decide) ?_
            exact ih_4 u14 x1 x2 (x3 + 1) _ _ _ hP hD hS (lv_sub hl [2, 3, 1, 0] rfl) hw
          · replace hw := hw.2 hc
            refine lv_iload_n hx hb d_M_waiting_30 rfl (lv_at hl 2 rfl) ?_
            refine lv_iconst (v := 1) hx hb d_M_waiting_31 (by decide) ?_
            refine lv_iadd hx hb d_M_waiting_32 ?_
            refine lv_goto (tgt := 37) hx hb d_M_waiting_33 (by decide) ?_
            refine lv_istore_n (lv' := [(2, .int (x2 + 1)), (0, .ref (a 0)), (1, .int x1), (3, .int x3)]) hx hb d_M_waiting_37 rfl hl (by decide) rfl (fun ls hl => ?_)
            refine lv_iinc (k := 3) (v := x3 + 1) (lv' := [(3, .int (x3 + 1)), (2, .int (x2 + 1)), (0, .ref (a 0)), (1, .int x1)]) hx hb d_M_waiting_38 hl rfl rfl (by decide) rfl (fun ls hl => ?_)
            refine lv_goto (tgt := 4) hx hb d_M_waiting_41 (by decide) ?_
            exact ih_4 u14 x1 (x2 + 1) (x3 + 1) _ _ _ hP hD hS (lv_sub hl [2, 3, 1, 0] rfl) hw
  unfold wp_M_waiting at hw
  refine lv_iconst (v := 0) hx hb d_M_waiting_0 (by decide) ?_
  refine lv_istore_n (lv' := [(2, .int 0), (0, .ref (a 0)), (1, .int x1)]) hx hb d_M_waiting_1 rfl hl (by decide) rfl (fun ls hl => ?_)
  refine lv_iconst (v := 0) hx hb d_M_waiting_2 (by decide) ?_
  refine lv_istore_n (lv' := [(3, .int 0), (2, .int 0), (0, .ref (a 0)), (1, .int x1)]) hx hb d_M_waiting_3 rfl hl (by decide) rfl (fun ls hl => ?_)
  obtain ⟨n, hw⟩ := hw
  exact k_4 n g x1 0 0 _ _ _ hP hD hS (lv_sub hl [2, 3, 1, 0] rfl) hw
set_option maxHeartbeats 4000000 in
set_option maxRecDepth 100000 in
theorem c_M_come (l : Launch) (D : va_G) (a : Nat → Nat) (cI cZ : ClassId) (sz : Nat) (g : St) (x1 : Int32) (x2 : Int32) (x3 : Int32) (x4 : Int32) (Q : Int32 → St → Prop) (hw : wp_M_come g x1 x2 x3 x4 Q) : MT_i l y_M_come b_M_come 7 rm_M_come (wM a cI cZ) D (ty_ cI cZ) sz g [.ref (a 0), .int x1, .int x2, .int x3, .int x4] Q := by
  refine MTi_of (by decide +kernel) (Nat.le_of_ble_eq_true rfl) ?_
  intro p e s m args below meth c A Qt ls hx hb hml hts hown hN hK hP hD hA hl hret
  have hS : va_S A s.heap s.heap [] := va_S.rf
  have hl : lv_has ls 7 [(0, .ref (a 0)), (1, .int x1), (2, .int x2), (3, .int x3), (4, .int x4)] := hl
  unfold wp_M_come at hw
  refine lv_iload_n hx hb d_M_come_0 rfl (lv_at hl 3 rfl) ?_
  refine lv_iconst (v := 1) hx hb d_M_come_1 (by decide) ?_
  refine lv_icmp_lt (tgt := 23) hx hb d_M_come_2 (by decide) (fun hc => ?_) (fun hc => ?_)
  · replace hw := hw.1 hc
    refine lv_iconst (v := (-1)) hx hb d_M_come_23 (by decide) ?_
    exact hret _ _ _ _ _ _ hw hP hD hS d_M_come_24
  · replace hw := hw.2 hc
    refine lv_iload_n hx hb d_M_come_5 rfl (lv_at hl 3 rfl) ?_
    refine lv_bipush (v := 8) hx hb d_M_come_6 (by decide) ?_
    refine lv_icmp_gt (tgt := 23) hx hb d_M_come_8 (by decide) (fun hc => ?_) (fun hc => ?_)
    · replace hw := hw.1 hc
      refine lv_iconst (v := (-1)) hx hb d_M_come_23 (by decide) ?_
      exact hret _ _ _ _ _ _ hw hP hD hS d_M_come_24
    · replace hw := hw.2 hc
      refine lv_iload_n hx hb d_M_come_11 rfl (lv_at hl 2 rfl) ?_
      refine lv_if_lt (tgt := 23) hx hb d_M_come_12 (by decide) (fun hc => ?_) (fun hc => ?_)
      · replace hw := hw.1 hc
        refine lv_iconst (v := (-1)) hx hb d_M_come_23 (by decide) ?_
        exact hret _ _ _ _ _ _ hw hP hD hS d_M_come_24
      · replace hw := hw.2 hc
        refine lv_iload_n hx hb d_M_come_15 rfl (lv_at hl 2 rfl) ?_
        refine lv_bipush (v := 64) hx hb d_M_come_16 (by decide) ?_
        refine lv_iload_n hx hb d_M_come_18 rfl (lv_at hl 3 rfl) ?_
        refine lv_isub hx hb d_M_come_19 ?_
        refine lv_icmp_le (tgt := 25) hx hb d_M_come_20 (by decide) (fun hc => ?_) (fun hc => ?_)
        · replace hw := hw.1 hc
          refine lv_aload_n hx hb d_M_come_25 rfl (lv_at hl 0 rfl) ?_
          refine va_get (D := D) (ci := 5) (C := R_M) (T := F_M) (N := 19) hx hb hts in_M hown hK hP 0 rfl rfl 1 (by decide) (hts _ tb_370) (fun _ h9 => h9) rfl d_M_come_26 ?_
          refine lv_sipush (v := 200) hx hb d_M_come_29 (by decide) ?_
          refine lv_icmp_eq (tgt := 51) hx hb d_M_come_32 (by decide) (fun hc => ?_) (fun hc => ?_)
          · replace hw := hw.1 hc
            refine lv_bipush (v := (-2)) hx hb d_M_come_51 (by decide) ?_
            exact hret _ _ _ _ _ _ hw hP hD hS d_M_come_53
          · replace hw := hw.2 hc
            refine lv_aload_n hx hb d_M_come_35 rfl (lv_at hl 0 rfl) ?_
            refine lv_iconst (v := 0) hx hb d_M_come_36 (by decide) ?_
            refine aft_i (va_runV (As := [.int 0]) (rest := []) ⟨hx, hb, hml, hown, hts⟩ (c_M_waiting l D a cI cZ _ g 0 _ hw) ⟨(callB_of 1 hts good_M_waiting rfl rfl rfl (hts _ tb_6) (hts _ tb_435) hd_M_waiting ⟨Nat.le_of_ble_eq_true rfl, Nat.le_of_ble_eq_true rfl⟩), hts _ tb_436, hts _ tb_437⟩ (preV 0 5 hP hD hK hN rfl rfl) rfl rfl hl.1 rfl (lv_room (Nat.le_of_ble_eq_true rfl)) d_M_come_37 ⟨Nat.zero_le _, Nat.zero_le _⟩) hD hS hA hK (fun r37 u37 H locs hw hP hD hS => ?_)
            refine lv_aload_n hx hb d_M_come_40 rfl (lv_at hl 0 rfl) ?_
            refine lv_iconst (v := 1) hx hb d_M_come_41 (by decide) ?_
            refine aft_i (va_runV (As := [.int 1]) (rest := [.int r37]) ⟨hx, hb, hml, hown, hts⟩ (c_M_waiting l D a cI cZ _ u37 1 _ hw) ⟨(callB_of 1 hts good_M_waiting rfl rfl rfl (hts _ tb_6) (hts _ tb_435) hd_M_waiting ⟨Nat.le_of_ble_eq_true rfl, Nat.le_of_ble_eq_true rfl⟩), hts _ tb_436, hts _ tb_437⟩ (preV 0 5 hP hD hK hN rfl rfl) rfl rfl hl.1 rfl (lv_room (Nat.le_of_ble_eq_true rfl)) d_M_come_42 ⟨Nat.zero_le _, Nat.zero_le _⟩) hD hS hA hK (fun r42 u42 H locs hw hP hD hS => ?_)
            refine lv_iadd hx hb d_M_come_45 ?_
            refine lv_bipush (v := 24) hx hb d_M_come_46 (by decide) ?_
            refine lv_icmp_ne (tgt := 54) hx hb d_M_come_48 (by decide) (fun hc => ?_) (fun hc => ?_)
            · replace hw := hw.1 hc
              refine lv_aload_n hx hb d_M_come_54 rfl (lv_at hl 0 rfl) ?_
              refine va_get (D := D) (ci := 5) (C := R_M) (T := F_M) (N := 19) hx hb hts in_M hown hK hP 0 rfl rfl 1 (by decide) (hts _ tb_370) (fun _ h9 => h9) rfl d_M_come_55 ?_
              refine lv_istore (lv' := [(5, .int (u42.2.1 0)), (0, .ref (a 0)), (1, .int x1), (2, .int x2), (3, .int x3), (4, .int x4)]) hx hb d_M_come_58 hl (by decide) rfl (fun ls hl => ?_)
              refine lv_aload_n hx hb d_M_come_60 rfl (lv_at hl 1 rfl) ?_
              refine va_get (D := D) (ci := 5) (C := R_M) (T := F_M) (N := 19) hx hb hts in_M hown hK hP 0 rfl rfl 2 (by decide) (hts _ tb_371) (fun _ h9 => h9) rfl d_M_come_61 ?_
              refine lv_iload hx hb d_M_come_64 (lv_at hl 0 rfl) ?_
              refine lv_iload_n hx hb d_M_come_66 rfl (lv_at hl 2 rfl) ?_
              refine va_iast hx hb hK hP hD hS 2 0 rfl rfl hw.1 d_M_come_67 (fun H locs hP hD hS => ?_)
              replace hw := hw.2
              have hP : va_P D cls_ (wM a cI cZ (sA u42 1 (u42.2.1 0).toNatClampNeg x1)) H := pA_M_1 (g := u42) (j := (u42.2.1 0).toNatClampNeg) (x := x1) hP
              have hD : va_D A (wM a cI cZ (sA u42 1 (u42.2.1 0).toNatClampNeg x1)) := dA_M_1 (g := u42) (j := (u42.2.1 0).toNatClampNeg) (x := x1) hD
              generalize sA u42 1 (u42.2.1 0).toNatClampNeg x1 = g_67 at hw hP hD
              refine lv_aload_n hx hb d_M_come_68 rfl (lv_at hl 1 rfl) ?_
              refine va_get (D := D) (ci := 5) (C := R_M) (T := F_M) (N := 19) hx hb hts in_M hown hK hP 0 rfl rfl 3 (by decide) (hts _ tb_372) (fun _ h9 => h9) rfl d_M_come_69 ?_
              refine lv_iload hx hb d_M_come_72 (lv_at hl 0 rfl) ?_
              refine lv_iload_n hx hb d_M_come_74 rfl (lv_at hl 3 rfl) ?_
              refine va_iast hx hb hK hP hD hS 3 0 rfl rfl hw.1 d_M_come_75 (fun H locs hP hD hS => ?_)
              replace hw := hw.2
              have hP : va_P D cls_ (wM a cI cZ (sA g_67 2 (u42.2.1 0).toNatClampNeg x2)) H := pA_M_2 (g := g_67) (j := (u42.2.1 0).toNatClampNeg) (x := x2) hP
              have hD : va_D A (wM a cI cZ (sA g_67 2 (u42.2.1 0).toNatClampNeg x2)) := dA_M_2 (g := g_67) (j := (u42.2.1 0).toNatClampNeg) (x := x2) hD
              generalize sA g_67 2 (u42.2.1 0).toNatClampNeg x2 = g_75 at hw hP hD
              refine lv_aload_n hx hb d_M_come_76 rfl (lv_at hl 1 rfl) ?_
              refine va_get (D := D) (ci := 5) (C := R_M) (T := F_M) (N := 19) hx hb hts in_M hown hK hP 0 rfl rfl 4 (by decide) (hts _ tb_373) (fun _ h9 => h9) rfl d_M_come_77 ?_
              refine lv_iload hx hb d_M_come_80 (lv_at hl 0 rfl) ?_
              refine lv_iload_n hx hb d_M_come_82 rfl (lv_at hl 4 rfl) ?_
              refine va_iast hx hb hK hP hD hS 4 0 rfl rfl hw.1 d_M_come_83 (fun H locs hP hD hS => ?_)
              replace hw := hw.2
              have hP : va_P D cls_ (wM a cI cZ (sA g_75 3 (u42.2.1 0).toNatClampNeg x3)) H := pA_M_3 (g := g_75) (j := (u42.2.1 0).toNatClampNeg) (x := x3) hP
              have hD : va_D A (wM a cI cZ (sA g_75 3 (u42.2.1 0).toNatClampNeg x3)) := dA_M_3 (g := g_75) (j := (u42.2.1 0).toNatClampNeg) (x := x3) hD
              generalize sA g_75 3 (u42.2.1 0).toNatClampNeg x3 = g_83 at hw hP hD
              refine lv_aload_n hx hb d_M_come_84 rfl (lv_at hl 1 rfl) ?_
              refine va_get (D := D) (ci := 5) (C := R_M) (T := F_M) (N := 19) hx hb hts in_M hown hK hP 0 rfl rfl 5 (by decide) (hts _ tb_374) (fun _ h9 => h9) rfl d_M_come_85 ?_
              refine lv_iload hx hb d_M_come_88 (lv_at hl 0 rfl) ?_
              refine lv_iload hx hb d_M_come_90 (lv_at hl 5 rfl) ?_
              refine va_iast hx hb hK hP hD hS 5 0 rfl rfl hw.1 d_M_come_92 (fun H locs hP hD hS => ?_)
              replace hw := hw.2
              have hP : va_P D cls_ (wM a cI cZ (sA g_83 4 (u42.2.1 0).toNatClampNeg x4)) H := pA_M_4 (g := g_83) (j := (u42.2.1 0).toNatClampNeg) (x := x4) hP
              have hD : va_D A (wM a cI cZ (sA g_83 4 (u42.2.1 0).toNatClampNeg x4)) := dA_M_4 (g := g_83) (j := (u42.2.1 0).toNatClampNeg) (x := x4) hD
              generalize sA g_83 4 (u42.2.1 0).toNatClampNeg x4 = g_92 at hw hP hD
              refine lv_aload_n hx hb d_M_come_93 rfl (lv_at hl 1 rfl) ?_
              refine lv_iload hx hb d_M_come_94 (lv_at hl 0 rfl) ?_
              refine aft_i (va_runV (As := [.int (u42.2.1 0)]) (rest := []) ⟨hx, hb, hml, hown, hts⟩ (c_M_joined l D a cI cZ _ g_92 (u42.2.1 0) _ hw) ⟨(callB_of 1 hts good_M_joined rfl rfl rfl (hts _ tb_6) (hts _ tb_443) hd_M_joined ⟨Nat.le_of_ble_eq_true rfl, Nat.le_of_ble_eq_true rfl⟩), hts _ tb_445, hts _ ts_30⟩ (preV 0 5 hP hD hK hN rfl rfl) rfl rfl hl.1 rfl (lv_room (Nat.le_of_ble_eq_true rfl)) d_M_come_96 ⟨Nat.zero_le _, Nat.zero_le _⟩) hD hS hA hK (fun r96 u96 H locs hw hP hD hS => ?_)
              refine lv_istore (lv' := [(6, .int r96), (5, .int (u42.2.1 0)), (0, .ref (a 0)), (1, .int x1), (2, .int x2), (3, .int x3), (4, .int x4)]) hx hb d_M_come_99 hl (by decide) rfl (fun ls hl => ?_)
              refine lv_aload_n hx hb d_M_come_101 rfl (lv_at hl 2 rfl) ?_
              refine lv_aload_n hx hb d_M_come_102 rfl (lv_at hl 2 rfl) ?_
              refine va_get (D := D) (ci := 5) (C := R_M) (T := F_M) (N := 19) hx hb hts in_M hown hK hP 0 rfl rfl 1 (by decide) (hts _ tb_370) (fun _ h9 => h9) rfl d_M_come_103 ?_
              refine lv_iconst (v := 1) hx hb d_M_come_106 (by decide) ?_
              refine lv_iadd hx hb d_M_come_107 ?_
              refine va_put (v := .int ((u96.2.1 0) + 1)) (ty := .int) (D := D) (ci := 5) (C := R_M) (T := F_M) (N := 19) hx hb hts in_M t_M t_M_ok n_M hown hK hP hD hS 0 rfl rfl 1 (by decide) (hts _ tb_370) (fun _ h9 => h9) rfl (by decide +kernel) rfl rfl (Nat.le_of_ble_eq_true rfl) d_M_come_108 (fun H locs hP hD hS => ?_)
              have hP : va_P D cls_ (wM a cI cZ (sI u96 0 ((u96.2.1 0) + 1))) H := pI_M_0 (g := u96) (v := (u96.2.1 0) + 1) hP
              have hD : va_D A (wM a cI cZ (sI u96 0 ((u96.2.1 0) + 1))) := dI_M_0 (g := u96) (v := (u96.2.1 0) + 1) hD
              generalize sI u96 0 ((u96.2.1 0) + 1) = g_108 at hw hP hD
              refine lv_aload_n hx hb d_M_come_111 rfl (lv_at hl 2 rfl) ?_
              refine va_get (D := D) (ci := 5) (C := R_M) (T := F_M) (N := 19) hx hb hts in_M hown hK hP 0 rfl rfl 6 (by decide) (hts _ tb_375) (fun _ h9 => h9) rfl d_M_come_112 ?_
              refine lv_iload hx hb d_M_come_115 (lv_at hl 1 rfl) ?_
              refine lv_iload hx hb d_M_come_117 (lv_at hl 0 rfl) ?_
              refine va_iast hx hb hK hP hD hS 6 0 rfl rfl hw.1 d_M_come_119 (fun H locs hP hD hS => ?_)
              replace hw := hw.2
              have hP : va_P D cls_ (wM a cI cZ (sA g_108 5 (u42.2.1 0).toNatClampNeg r96)) H := pA_M_5 (g := g_108) (j := (u42.2.1 0).toNatClampNeg) (x := r96) hP
              have hD : va_D A (wM a cI cZ (sA g_108 5 (u42.2.1 0).toNatClampNeg r96)) := dA_M_5 (g := g_108) (j := (u42.2.1 0).toNatClampNeg) (x := r96) hD
              generalize sA g_108 5 (u42.2.1 0).toNatClampNeg r96 = g_119 at hw hP hD
              refine lv_aload_n hx hb d_M_come_120 rfl (lv_at hl 2 rfl) ?_
              refine va_get (D := D) (ci := 5) (C := R_M) (T := F_M) (N := 19) hx hb hts in_M hown hK hP 0 rfl rfl 7 (by decide) (hts _ tb_376) (fun _ h9 => h9) rfl d_M_come_121 ?_
              refine lv_iload hx hb d_M_come_124 (lv_at hl 1 rfl) ?_
              refine lv_iconst (v := 1) hx hb d_M_come_126 (by decide) ?_
              refine va_iast hx hb hK hP hD hS 7 0 rfl rfl hw.1 d_M_come_127 (fun H locs hP hD hS => ?_)
              replace hw := hw.2
              have hP : va_P D cls_ (wM a cI cZ (sA g_119 6 (u42.2.1 0).toNatClampNeg 1)) H := pA_M_6 (g := g_119) (j := (u42.2.1 0).toNatClampNeg) (x := 1) hP
              have hD : va_D A (wM a cI cZ (sA g_119 6 (u42.2.1 0).toNatClampNeg 1)) := dA_M_6 (g := g_119) (j := (u42.2.1 0).toNatClampNeg) (x := 1) hD
              generalize sA g_119 6 (u42.2.1 0).toNatClampNeg 1 = g_127 at hw hP hD
              refine lv_iload hx hb d_M_come_128 (lv_at hl 0 rfl) ?_
              refine lv_iload hx hb d_M_come_130 (lv_at hl 1 rfl) ?_
              refine lv_icmp_ne (tgt := 164) hx hb d_M_come_132 (by decide) (fun hc => ?_) (fun hc => ?_)
              · replace hw := hw.1 hc
                refine lv_iload hx hb d_M_come_164 (lv_at hl 1 rfl) ?_
                exact hret _ _ _ _ _ _ hw hP hD hS d_M_come_166
              · replace hw := hw.2 hc
                refine lv_aload_n hx hb d_M_come_135 rfl (lv_at hl 2 rfl) ?_
                refine va_get (D := D) (ci := 5) (C := R_M) (T := F_M) (N := 19) hx hb hts in_M hown hK hP 0 rfl rfl 9 (by decide) (hts _ tb_378) (fun _ h9 => h9) rfl d_M_come_136 ?_
                refine lv_iload hx hb d_M_come_139 (lv_at hl 1 rfl) ?_
                refine lv_aload_n hx hb d_M_come_141 rfl (lv_at hl 2 rfl) ?_
                refine va_get (D := D) (ci := 5) (C := R_M) (T := F_M) (N := 19) hx hb hts in_M hown hK hP 0 rfl rfl 12 (by decide) (hts _ tb_381) (fun _ h9 => h9) rfl d_M_come_142 ?_
                refine lv_aload_n hx hb d_M_come_145 rfl (lv_at hl 2 rfl) ?_
                refine va_get (D := D) (ci := 5) (C := R_M) (T := F_M) (N := 19) hx hb hts in_M hown hK hP 0 rfl rfl 13 (by decide) (hts _ tb_382) (fun _ h9 => h9) rfl d_M_come_146 ?_
                refine lv_iload_n hx hb d_M_come_149 rfl (lv_at hl 3 rfl) ?_
                refine va_iald hx hb hK hP 11 0 rfl rfl hw.1 d_M_come_150 ?_
                replace hw := hw.2
                refine lv_iadd hx hb d_M_come_151 ?_
                refine va_iast hx hb hK hP hD hS 9 0 rfl rfl hw.1 d_M_come_152 (fun H locs hP hD hS => ?_)
                replace hw := hw.2
                have hP : va_P D cls_ (wM a cI cZ (sA g_127 8 (u42.2.1 0).toNatClampNeg ((g_127.2.1 2) + (g_127.1 10 x1.toNatClampNeg)))) H := pA_M_8 (g := g_127) (j := (u42.2.1 0).toNatClampNeg) (x := ((g_127.2.1 2) + (g_127.1 10 x1.toNatClampNeg))) hP
                have hD : va_D A (wM a cI cZ (sA g_127 8 (u42.2.1 0).toNatClampNeg ((g_127.2.1 2) + (g_127.1 10 x1.toNatClampNeg)))) := dA_M_8 (g := g_127) (j := (u42.2.1 0).toNatClampNeg) (x := ((g_127.2.1 2) + (g_127.1 10 x1.toNatClampNeg))) hD
                generalize sA g_127 8 (u42.2.1 0).toNatClampNeg ((g_127.2.1 2) + (g_127.1 10 x1.toNatClampNeg)) = g_152 at hw hP hD
                refine lv_aload_n hx hb d_M_come_153 rfl (lv_at hl 2 rfl) ?_
                refine va_get (D := D) (ci := 5) (C := R_M) (T := F_M) (N := 19) hx hb hts in_M hown hK hP 0 rfl rfl 10 (by decide) (hts _ tb_379) (fun _ h9 => h9) rfl d_M_come_154 ?_
                refine lv_iload hx hb d_M_come_157 (lv_at hl 1 rfl) ?_
                refine lv_aload_n hx hb d_M_come_159 rfl (lv_at hl 2 rfl) ?_
                refine va_get (D := D) (ci := 5) (C := R_M) (T := F_M) (N := 19) hx hb hts in_M hown hK hP 0 rfl rfl 11 (by decide) (hts _ tb_380) (fun _ h9 => h9) rfl d_M_come_160 ?_
                refine va_iast hx hb hK hP hD hS 10 0 rfl rfl hw.1 d_M_come_163 (fun H locs hP hD hS => ?_)
                replace hw := hw.2
                have hP : va_P D cls_ (wM a cI cZ (sA g_152 9 (u42.2.1 0).toNatClampNeg (g_152.2.1 1))) H := pA_M_9 (g := g_152) (j := (u42.2.1 0).toNatClampNeg) (x := (g_152.2.1 1)) hP
                have hD : va_D A (wM a cI cZ (sA g_152 9 (u42.2.1 0).toNatClampNeg (g_152.2.1 1))) := dA_M_9 (g := g_152) (j := (u42.2.1 0).toNatClampNeg) (x := (g_152.2.1 1)) hD
                generalize sA g_152 9 (u42.2.1 0).toNatClampNeg (g_152.2.1 1) = g_163 at hw hP hD
                refine lv_iload hx hb d_M_come_164 (lv_at hl 1 rfl) ?_
                exact hret _ _ _ _ _ _ hw hP hD hS d_M_come_166
            · replace hw := hw.2 hc
              refine lv_bipush (v := (-2)) hx hb d_M_come_51 (by decide) ?_
              exact hret _ _ _ _ _ _ hw hP hD hS d_M_come_53
        · replace hw := hw.2 hc
          refine lv_iconst (v := (-1)) hx hb d_M_come_23 (by decide) ?_
          exact hret _ _ _ _ _ _ hw hP hD hS d_M_come_24
end
section
set_option maxHeartbeats 4000000 in
set_option maxRecDepth 100000 in
theorem c_M_read (l : Launch) (D : va_G) (a : Nat → Nat) (cI cZ : ClassId) (sz : Nat) (g : St) (x1 : Int32) (x2 : Int32) (Q : Int32 → St → Prop) (hw : wp_M_read g x1 x2 Q) : MT_i l y_M_read b_M_read 3 rm_M_read (wM a cI cZ) D (ty_ cI cZ) sz g [.ref (a 0), .int x1, .int x2] Q := by
  refine MTi_of (by decide +kernel) (Nat.le_of_ble_eq_true rfl) ?_
  intro p e s m args below meth c A Qt ls hx hb hml hts hown hN hK hP hD hA hl hret
  have hS : va_S A s.heap s.heap [] := va_S.rf
  have hl : lv_has ls 3 [(0, .ref (a 0)), (1, .int x1), (2, .int x2)] := hl
  unfold wp_M_read at hw
  refine lv_aload_n hx hb d_M_read_0 rfl (lv_at hl 0 rfl) ?_
  refine lv_iconst (v := 0) hx hb d_M_read_1 (by decide) ?_
  refine lv_iload_n hx hb d_M_read_2 rfl (lv_at hl 1 rfl) ?_
  refine lv_iload_n hx hb d_M_read_3 rfl (lv_at hl 2 rfl) ?_
  refine lv_iconst (v := 0) hx hb d_M_read_4 (by decide) ?_
  refine aft_i (va_runV (As := [.int 0, .int x1, .int x2, .int 0]) (rest := []) ⟨hx, hb, hml, hown, hts⟩ (c_M_come l D a cI cZ _ g 0 x1 x2 0 _ hw) ⟨(callB_of 4 hts good_M_come rfl rfl rfl (hts _ tb_6) (hts _ tb_431) hd_M_come ⟨Nat.le_of_ble_eq_true rfl, Nat.le_of_ble_eq_true rfl⟩), hts _ tb_433, hts _ ts_28⟩ (preV 0 5 hP hD hK hN rfl rfl) rfl rfl hl.1 rfl (lv_room (Nat.le_of_ble_eq_true rfl)) d_M_read_5 ⟨Nat.zero_le _, Nat.zero_le _⟩) hD hS hA hK (fun r5 u5 H locs hw hP hD hS => ?_)
  exact hret _ _ _ _ _ _ hw hP hD hS d_M_read_8
set_option maxHeartbeats 4000000 in
set_option maxRecDepth 100000 in
theorem c_M_write (l : Launch) (D : va_G) (a : Nat → Nat) (cI cZ : ClassId) (sz : Nat) (g : St) (x1 : Int32) (x2 : Int32) (x3 : Int32) (Q : Int32 → St → Prop) (hw : wp_M_write g x1 x2 x3 Q) : MT_i l y_M_write b_M_write 4 rm_M_write (wM a cI cZ) D (ty_ cI cZ) sz g [.ref (a 0), .int x1, .int x2, .int x3] Q := by
  refine MTi_of (by decide +kernel) (Nat.le_of_ble_eq_true rfl) ?_
  intro p e s m args below meth c A Qt ls hx hb hml hts hown hN hK hP hD hA hl hret
  have hS : va_S A s.heap s.heap [] := va_S.rf
  have hl : lv_has ls 4 [(0, .ref (a 0)), (1, .int x1), (2, .int x2), (3, .int x3)] := hl
  unfold wp_M_write at hw
  refine lv_aload_n hx hb d_M_write_0 rfl (lv_at hl 0 rfl) ?_
  refine lv_iconst (v := 1) hx hb d_M_write_1 (by decide) ?_
  refine lv_iload_n hx hb d_M_write_2 rfl (lv_at hl 1 rfl) ?_
  refine lv_iload_n hx hb d_M_write_3 rfl (lv_at hl 2 rfl) ?_
  refine lv_iload_n hx hb d_M_write_4 rfl (lv_at hl 3 rfl) ?_
  refine aft_i (va_runV (As := [.int 1, .int x1, .int x2, .int x3]) (rest := []) ⟨hx, hb, hml, hown, hts⟩ (c_M_come l D a cI cZ _ g 1 x1 x2 x3 _ hw) ⟨(callB_of 4 hts good_M_come rfl rfl rfl (hts _ tb_6) (hts _ tb_431) hd_M_come ⟨Nat.le_of_ble_eq_true rfl, Nat.le_of_ble_eq_true rfl⟩), hts _ tb_433, hts _ ts_28⟩ (preV 0 5 hP hD hK hN rfl rfl) rfl rfl hl.1 rfl (lv_room (Nat.le_of_ble_eq_true rfl)) d_M_write_5 ⟨Nat.zero_le _, Nat.zero_le _⟩) hD hS hA hK (fun r5 u5 H locs hw hP hD hS => ?_)
  exact hret _ _ _ _ _ _ hw hP hD hS d_M_write_8
set_option maxHeartbeats 4000000 in
set_option maxRecDepth 100000 in
theorem c_M_barrier (l : Launch) (D : va_G) (a : Nat → Nat) (cI cZ : ClassId) (sz : Nat) (g : St) (Q : Int32 → St → Prop) (hw : wp_M_barrier g Q) : MT_i l y_M_barrier b_M_barrier 1 rm_M_barrier (wM a cI cZ) D (ty_ cI cZ) sz g [.ref (a 0)] Q := by
  refine MTi_of (by decide +kernel) (Nat.le_of_ble_eq_true rfl) ?_
  intro p e s m args below meth c A Qt ls hx hb hml hts hown hN hK hP hD hA hl hret
  have hS : va_S A s.heap s.heap [] := va_S.rf
  have hl : lv_has ls 1 [(0, .ref (a 0))] := hl
  unfold wp_M_barrier at hw
  refine lv_aload_n hx hb d_M_barrier_0 rfl (lv_at hl 0 rfl) ?_
  refine lv_aload_n hx hb d_M_barrier_1 rfl (lv_at hl 0 rfl) ?_
  refine va_get (D := D) (ci := 5) (C := R_M) (T := F_M) (N := 19) hx hb hts in_M hown hK hP 0 rfl rfl 11 (by decide) (hts _ tb_380) (fun _ h9 => h9) rfl d_M_barrier_2 ?_
  refine lv_iconst (v := 1) hx hb d_M_barrier_5 (by decide) ?_
  refine lv_iadd hx hb d_M_barrier_6 ?_
  refine va_put (v := .int ((g.2.1 1) + 1)) (ty := .int) (D := D) (ci := 5) (C := R_M) (T := F_M) (N := 19) hx hb hts in_M t_M t_M_ok n_M hown hK hP hD hS 0 rfl rfl 11 (by decide) (hts _ tb_380) (fun _ h9 => h9) rfl (by decide +kernel) rfl rfl (Nat.le_of_ble_eq_true rfl) d_M_barrier_7 (fun H locs hP hD hS => ?_)
  have hP : va_P D cls_ (wM a cI cZ (sI g 1 ((g.2.1 1) + 1))) H := pI_M_1 (g := g) (v := (g.2.1 1) + 1) hP
  have hD : va_D A (wM a cI cZ (sI g 1 ((g.2.1 1) + 1))) := dI_M_1 (g := g) (v := (g.2.1 1) + 1) hD
  generalize sI g 1 ((g.2.1 1) + 1) = g_7 at hw hP hD
  refine lv_aload_n hx hb d_M_barrier_10 rfl (lv_at hl 0 rfl) ?_
  refine va_get (D := D) (ci := 5) (C := R_M) (T := F_M) (N := 19) hx hb hts in_M hown hK hP 0 rfl rfl 11 (by decide) (hts _ tb_380) (fun _ h9 => h9) rfl d_M_barrier_11 ?_
  exact hret _ _ _ _ _ _ hw hP hD hS d_M_barrier_14
set_option maxHeartbeats 4000000 in
set_option maxRecDepth 100000 in
theorem c_M_expire (l : Launch) (D : va_G) (a : Nat → Nat) (cI cZ : ClassId) (sz : Nat) (g : St) (x1 : Int32) (x2 : Int32) (Q : Int32 → St → Prop) (hw : wp_M_expire g x1 x2 Q) : MT_z l y_M_expire b_M_expire 3 rm_M_expire (wM a cI cZ) D (ty_ cI cZ) sz g [.ref (a 0), .int x1, .int x2] Q := by
  refine MTz_of (by decide +kernel) (Nat.le_of_ble_eq_true rfl) ?_
  intro p e s m args below meth c A Qt ls hx hb hml hts hown hN hK hP hD hA hl hret
  have hS : va_S A s.heap s.heap [] := va_S.rf
  have hl : lv_has ls 3 [(0, .ref (a 0)), (1, .int x1), (2, .int x2)] := hl
  unfold wp_M_expire at hw
  refine lv_aload_n hx hb d_M_expire_0 rfl (lv_at hl 0 rfl) ?_
  refine lv_iconst (v := 0) hx hb d_M_expire_1 (by decide) ?_
  refine aft_i (va_runV (As := [.int 0]) (rest := []) ⟨hx, hb, hml, hown, hts⟩ (c_M_waiting l D a cI cZ _ g 0 _ hw) ⟨(callB_of 1 hts good_M_waiting rfl rfl rfl (hts _ tb_6) (hts _ tb_435) hd_M_waiting ⟨Nat.le_of_ble_eq_true rfl, Nat.le_of_ble_eq_true rfl⟩), hts _ tb_436, hts _ tb_437⟩ (preV 0 5 hP hD hK hN rfl rfl) rfl rfl hl.1 rfl (lv_room (Nat.le_of_ble_eq_true rfl)) d_M_expire_2 ⟨Nat.zero_le _, Nat.zero_le _⟩) hD hS hA hK (fun r2 u2 H locs hw hP hD hS => ?_)
  refine lv_aload_n hx hb d_M_expire_5 rfl (lv_at hl 0 rfl) ?_
  refine lv_iconst (v := 1) hx hb d_M_expire_6 (by decide) ?_
  refine aft_i (va_runV (As := [.int 1]) (rest := [.int r2]) ⟨hx, hb, hml, hown, hts⟩ (c_M_waiting l D a cI cZ _ u2 1 _ hw) ⟨(callB_of 1 hts good_M_waiting rfl rfl rfl (hts _ tb_6) (hts _ tb_435) hd_M_waiting ⟨Nat.le_of_ble_eq_true rfl, Nat.le_of_ble_eq_true rfl⟩), hts _ tb_436, hts _ tb_437⟩ (preV 0 5 hP hD hK hN rfl rfl) rfl rfl hl.1 rfl (lv_room (Nat.le_of_ble_eq_true rfl)) d_M_expire_7 ⟨Nat.zero_le _, Nat.zero_le _⟩) hD hS hA hK (fun r7 u7 H locs hw hP hD hS => ?_)
  refine lv_iadd hx hb d_M_expire_10 ?_
  refine lv_if_gt (tgt := 36) hx hb d_M_expire_11 (by decide) (fun hc => ?_) (fun hc => ?_)
  · replace hw := hw.1 hc
    refine lv_iconst (v := 0) hx hb d_M_expire_36 (by decide) ?_
    exact hret _ _ _ _ _ _ rfl hw hP hD hS d_M_expire_37
  · replace hw := hw.2 hc
    refine lv_iload_n hx hb d_M_expire_14 rfl (lv_at hl 1 rfl) ?_
    refine lv_if_lt (tgt := 36) hx hb d_M_expire_15 (by decide) (fun hc => ?_) (fun hc => ?_)
    · replace hw := hw.1 hc
      refine lv_iconst (v := 0) hx hb d_M_expire_36 (by decide) ?_
      exact hret _ _ _ _ _ _ rfl hw hP hD hS d_M_expire_37
    · replace hw := hw.2 hc
      refine lv_iload_n hx hb d_M_expire_18 rfl (lv_at hl 1 rfl) ?_
      refine lv_sipush (v := 10000) hx hb d_M_expire_19 (by decide) ?_
      refine lv_icmp_gt (tgt := 36) hx hb d_M_expire_22 (by decide) (fun hc => ?_) (fun hc => ?_)
      · replace hw := hw.1 hc
        refine lv_iconst (v := 0) hx hb d_M_expire_36 (by decide) ?_
        exact hret _ _ _ _ _ _ rfl hw hP hD hS d_M_expire_37
      · replace hw := hw.2 hc
        refine lv_iload_n hx hb d_M_expire_25 rfl (lv_at hl 2 rfl) ?_
        refine lv_if_lt (tgt := 36) hx hb d_M_expire_26 (by decide) (fun hc => ?_) (fun hc => ?_)
        · replace hw := hw.1 hc
          refine lv_iconst (v := 0) hx hb d_M_expire_36 (by decide) ?_
          exact hret _ _ _ _ _ _ rfl hw hP hD hS d_M_expire_37
        · replace hw := hw.2 hc
          refine lv_iload_n hx hb d_M_expire_29 rfl (lv_at hl 2 rfl) ?_
          refine lv_sipush (v := 10000) hx hb d_M_expire_30 (by decide) ?_
          refine lv_icmp_le (tgt := 38) hx hb d_M_expire_33 (by decide) (fun hc => ?_) (fun hc => ?_)
          · replace hw := hw.1 hc
            refine lv_aload_n hx hb d_M_expire_38 rfl (lv_at hl 0 rfl) ?_
            refine va_get (D := D) (ci := 5) (C := R_M) (T := F_M) (N := 19) hx hb hts in_M hown hK hP 0 rfl rfl 13 (by decide) (hts _ tb_382) (fun _ h9 => h9) rfl d_M_expire_39 ?_
            refine lv_iconst (v := 0) hx hb d_M_expire_42 (by decide) ?_
            refine lv_iload_n hx hb d_M_expire_43 rfl (lv_at hl 1 rfl) ?_
            refine va_iast hx hb hK hP hD hS 11 0 rfl rfl hw.1 d_M_expire_44 (fun H locs hP hD hS => ?_)
            replace hw := hw.2
            have hP : va_P D cls_ (wM a cI cZ (sA u7 10 (0 : Int32).toNatClampNeg x1)) H := pA_M_10 (g := u7) (j := (0 : Int32).toNatClampNeg) (x := x1) hP
            have hD : va_D A (wM a cI cZ (sA u7 10 (0 : Int32).toNatClampNeg x1)) := dA_M_10 (g := u7) (j := (0 : Int32).toNatClampNeg) (x := x1) hD
            generalize sA u7 10 (0 : Int32).toNatClampNeg x1 = g_44 at hw hP hD
            refine lv_aload_n hx hb d_M_expire_45 rfl (lv_at hl 0 rfl) ?_
            refine va_get (D := D) (ci := 5) (C := R_M) (T := F_M) (N := 19) hx hb hts in_M hown hK hP 0 rfl rfl 13 (by decide) (hts _ tb_382) (fun _ h9 => h9) rfl d_M_expire_46 ?_
            refine lv_iconst (v := 1) hx hb d_M_expire_49 (by decide) ?_
            refine lv_iload_n hx hb d_M_expire_50 rfl (lv_at hl 2 rfl) ?_
            refine va_iast hx hb hK hP hD hS 11 0 rfl rfl hw.1 d_M_expire_51 (fun H locs hP hD hS => ?_)
            replace hw := hw.2
            have hP : va_P D cls_ (wM a cI cZ (sA g_44 10 (1 : Int32).toNatClampNeg x2)) H := pA_M_10 (g := g_44) (j := (1 : Int32).toNatClampNeg) (x := x2) hP
            have hD : va_D A (wM a cI cZ (sA g_44 10 (1 : Int32).toNatClampNeg x2)) := dA_M_10 (g := g_44) (j := (1 : Int32).toNatClampNeg) (x := x2) hD
            generalize sA g_44 10 (1 : Int32).toNatClampNeg x2 = g_51 at hw hP hD
            refine lv_iconst (v := 1) hx hb d_M_expire_52 (by decide) ?_
            exact hret _ _ _ _ _ _ rfl hw hP hD hS d_M_expire_53
          · replace hw := hw.2 hc
            refine lv_iconst (v := 0) hx hb d_M_expire_36 (by decide) ?_
            exact hret _ _ _ _ _ _ rfl hw hP hD hS d_M_expire_37
set_option maxHeartbeats 4000000 in
set_option maxRecDepth 100000 in
theorem c_M_tick (l : Launch) (D : va_G) (a : Nat → Nat) (cI cZ : ClassId) (sz : Nat) (g : St) (x1 : Int32) (Q : Int32 → St → Prop) (hw : wp_M_tick g x1 Q) : MT_z l y_M_tick b_M_tick 2 rm_M_tick (wM a cI cZ) D (ty_ cI cZ) sz g [.ref (a 0), .int x1] Q := by
  refine MTz_of (by decide +kernel) (Nat.le_of_ble_eq_true rfl) ?_
  intro p e s m args below meth c A Qt ls hx hb hml hts hown hN hK hP hD hA hl hret
  have hS : va_S A s.heap s.heap [] := va_S.rf
  have hl : lv_has ls 2 [(0, .ref (a 0)), (1, .int x1)] := hl
  unfold wp_M_tick at hw
  refine lv_iload_n hx hb d_M_tick_0 rfl (lv_at hl 1 rfl) ?_
  refine lv_if_lt (tgt := 10) hx hb d_M_tick_1 (by decide) (fun hc => ?_) (fun hc => ?_)
  · replace hw := hw.1 hc
    refine lv_iconst (v := 0) hx hb d_M_tick_10 (by decide) ?_
    exact hret _ _ _ _ _ _ rfl hw hP hD hS d_M_tick_11
  · replace hw := hw.2 hc
    refine lv_iload_n hx hb d_M_tick_4 rfl (lv_at hl 1 rfl) ?_
    refine lv_ldc hx hb hown (hts _ tb_479) d_M_tick_5 ?_
    refine lv_icmp_le (tgt := 12) hx hb d_M_tick_7 (by decide) (fun hc => ?_) (fun hc => ?_)
    · replace hw := hw.1 hc
      refine lv_aload_n hx hb d_M_tick_12 rfl (lv_at hl 0 rfl) ?_
      refine lv_aload_n hx hb d_M_tick_13 rfl (lv_at hl 0 rfl) ?_
      refine va_get (D := D) (ci := 5) (C := R_M) (T := F_M) (N := 19) hx hb hts in_M hown hK hP 0 rfl rfl 12 (by decide) (hts _ tb_381) (fun _ h9 => h9) rfl d_M_tick_14 ?_
      refine lv_iload_n hx hb d_M_tick_17 rfl (lv_at hl 1 rfl) ?_
      refine lv_iadd hx hb d_M_tick_18 ?_
      refine va_put (v := .int ((g.2.1 2) + x1)) (ty := .int) (D := D) (ci := 5) (C := R_M) (T := F_M) (N := 19) hx hb hts in_M t_M t_M_ok n_M hown hK hP hD hS 0 rfl rfl 12 (by decide) (hts _ tb_381) (fun _ h9 => h9) rfl (by decide +kernel) rfl rfl (Nat.le_of_ble_eq_true rfl) d_M_tick_19 (fun H locs hP hD hS => ?_)
      have hP : va_P D cls_ (wM a cI cZ (sI g 2 ((g.2.1 2) + x1))) H := pI_M_2 (g := g) (v := (g.2.1 2) + x1) hP
      have hD : va_D A (wM a cI cZ (sI g 2 ((g.2.1 2) + x1))) := dI_M_2 (g := g) (v := (g.2.1 2) + x1) hD
      generalize sI g 2 ((g.2.1 2) + x1) = g_19 at hw hP hD
      refine lv_iconst (v := 1) hx hb d_M_tick_22 (by decide) ?_
      exact hret _ _ _ _ _ _ rfl hw hP hD hS d_M_tick_23
    · replace hw := hw.2 hc
      refine lv_iconst (v := 0) hx hb d_M_tick_10 (by decide) ?_
      exact hret _ _ _ _ _ _ rfl hw hP hD hS d_M_tick_11
set_option maxHeartbeats 4000000 in
set_option maxRecDepth 100000 in
theorem c_M_sweep (l : Launch) (D : va_G) (a : Nat → Nat) (cI cZ : ClassId) (sz : Nat) (g : St) (x1 : Int32) (x2 : Int32) (Q : Int32 → St → Prop) (hw : wp_M_sweep g x1 x2 Q) : MT_i l y_M_sweep b_M_sweep 5 rm_M_sweep (wM a cI cZ) D (ty_ cI cZ) sz g [.ref (a 0), .int x1, .int x2] Q := by
  refine MTi_of (by decide +kernel) (Nat.le_of_ble_eq_true rfl) ?_
  intro p e s m args below meth c A Qt ls hx hb hml hts hown hN hK hP hD hA hl hret
  have hS : va_S A s.heap s.heap [] := va_S.rf
  have hl : lv_has ls 5 [(0, .ref (a 0)), (1, .int x1), (2, .int x2)] := hl
  have k_5 : ∀ (n : Nat) (g : St) (x1 : Int32) (x2 : Int32) (x3 : Int32) (x4 : Int32) (H : Heap) (locs : List Loc) (ls : Array Slot), va_P D cls_ (wM a cI cZ g) H → va_D A (wM a cI cZ g) → va_S A s.heap H locs → lv_has ls 5 [(0, .ref (a 0)), (1, .int x1), (2, .int x2), (3, .int x3), (4, .int x4)] → wl_M_sweep_5 Q n g x1 x2 x3 x4 → W p l e rm_M_sweep s m args below meth c H locs 0 0 Qt (F0 m 5 ls []) := by
    intro n
    induction n with
    | zero => intro g x1 x2 x3 x4 H locs ls hP hD hS hl hw; exact False.elim hw
    | succ n_5 ih_5 =>
      intro g x1 x2 x3 x4 H locs ls hP hD hS hl hw
      unfold wl_M_sweep_5 at hw
      refine lv_iload hx hb d_M_sweep_5 (lv_at hl 4 rfl) ?_
      refine lv_aload_n hx hb d_M_sweep_7 rfl (lv_at hl 0 rfl) ?_
      refine va_get (D := D) (ci := 5) (C := R_M) (T := F_M) (N := 19) hx hb hts in_M hown hK hP 0 rfl rfl 1 (by decide) (hts _ tb_370) (fun _ h9 => h9) rfl d_M_sweep_8 ?_
      refine lv_icmp_ge (tgt := 71) hx hb d_M_sweep_11 (by decide) (fun hc => ?_) (fun hc => ?_)
      · replace hw := hw.1 hc
        refine lv_iload_n hx hb d_M_sweep_71 rfl (lv_at hl 3 rfl) ?_
        exact hret _ _ _ _ _ _ hw hP hD hS d_M_sweep_72
      · replace hw := hw.2 hc
        refine lv_aload_n hx hb d_M_sweep_14 rfl (lv_at hl 0 rfl) ?_
        refine lv_iload hx hb d_M_sweep_15 (lv_at hl 4 rfl) ?_
        refine aft_i (va_runV (As := [.int x4]) (rest := []) ⟨hx, hb, hml, hown, hts⟩ (c_M_isReady l D a cI cZ _ g x4 _ hw) ⟨(callB_of 1 hts good_M_isReady rfl rfl rfl (hts _ tb_6) (hts _ tb_488) hd_M_isReady ⟨Nat.le_of_ble_eq_true rfl, Nat.le_of_ble_eq_true rfl⟩), hts _ tb_490, hts _ ts_36⟩ (preV 0 5 hP hD hK hN rfl rfl) rfl rfl hl.1 rfl (lv_room (Nat.le_of_ble_eq_true rfl)) d_M_sweep_17 ⟨Nat.zero_le _, Nat.zero_le _⟩) hD hS hA hK (fun r17 u17 H locs hw hP hD hS => ?_)
        refine lv_if_eq (tgt := 65) hx hb d_M_sweep_20 (by decide) (fun hc => ?_) (fun hc => ?_)
        · replace hw := hw.1 hc
          refine lv_iinc (k := 4) (v := x4 + 1) (lv' := [(4, .int (x4 + 1)), (0, .ref (a 0)), (1, .int x1), (2, .int x2), (3, .int x3)]) hx hb d_M_sweep_65 hl rfl rfl (by decide) rfl (fun ls hl => ?_)
          refine lv_goto (tgt := 5) hx hb d_M_sweep_68 (by decide) ?_
          exact ih_5 u17 x1 x2 x3 (x4 + 1) _ _ _ hP hD hS (lv_sub hl [1, 2, 3, 4, 0] rfl) hw
        · replace hw := hw.2 hc
          refine lv_aload_n hx hb d_M_sweep_23 rfl (lv_at hl 0 rfl) ?_
          refine va_get (D := D) (ci := 5) (C := R_M) (T := F_M) (N := 19) hx hb hts in_M hown hK hP 0 rfl rfl 2 (by decide) (hts _ tb_371) (fun _ h9 => h9) rfl d_M_sweep_24 ?_
          refine lv_iload hx hb d_M_sweep_27 (lv_at hl 4 rfl) ?_
          refine va_iald hx hb hK hP 2 0 rfl rfl hw.1 d_M_sweep_29 ?_
          replace hw := hw.2
          refine lv_iload_n hx hb d_M_sweep_30 rfl (lv_at hl 1 rfl) ?_
          refine lv_icmp_ne (tgt := 65) hx hb d_M_sweep_31 (by decide) (fun hc => ?_) (fun hc => ?_)
          · replace hw := hw.1 hc
            refine lv_iinc (k := 4) (v := x4 + 1) (lv' := [(4, .int (x4 + 1)), (0, .ref (a 0)), (1, .int x1), (2, .int x2), (3, .int x3)]) hx hb d_M_sweep_65 hl rfl rfl (by decide) rfl (fun ls hl => ?_)
            refine lv_goto (tgt := 5) hx hb d_M_sweep_68 (by decide) ?_
            exact ih_5 u17 x1 x2 x3 (x4 + 1) _ _ _ hP hD hS (lv_sub hl [1, 2, 3, 4, 0] rfl) hw
          · replace hw := hw.2 hc
            refine lv_aload_n hx hb d_M_sweep_34 rfl (lv_at hl 0 rfl) ?_
            refine lv_iload hx hb d_M_sweep_35 (lv_at hl 4 rfl) ?_
            refine aft_i (va_runV (As := [.int x4]) (rest := []) ⟨hx, hb, hml, hown, hts⟩ (c_M_start l D a cI cZ _ u17 x4 _ hw) ⟨(callB_of 1 hts good_M_start rfl rfl rfl (hts _ tb_6) (hts _ tb_459) hd_M_start ⟨Nat.le_of_ble_eq_true rfl, Nat.le_of_ble_eq_true rfl⟩), hts _ tb_461, hts _ ts_34⟩ (preV 0 5 hP hD hK hN rfl rfl) rfl rfl hl.1 rfl (lv_room (Nat.le_of_ble_eq_true rfl)) d_M_sweep_37 ⟨Nat.zero_le _, Nat.zero_le _⟩) hD hS hA hK (fun r37 u37 H locs hw hP hD hS => ?_)
            refine lv_iload_n hx hb d_M_sweep_40 rfl (lv_at hl 2 rfl) ?_
            refine lv_icmp_lt (tgt := 65) hx hb d_M_sweep_41 (by decide) (fun hc => ?_) (fun hc => ?_)
            · replace hw := hw.1 hc
              refine lv_iinc (k := 4) (v := x4 + 1) (lv' := [(4, .int (x4 + 1)), (0, .ref (a 0)), (1, .int x1), (2, .int x2), (3, .int x3)]) hx hb d_M_sweep_65 hl rfl rfl (by decide) rfl (fun ls hl => ?_)
              refine lv_goto (tgt := 5) hx hb d_M_sweep_68 (by decide) ?_
              exact ih_5 u37 x1 x2 x3 (x4 + 1) _ _ _ hP hD hS (lv_sub hl [1, 2, 3, 4, 0] rfl) hw
            · replace hw := hw.2 hc
              refine lv_iload_n hx hb d_M_sweep_44 rfl (lv_at hl 3 rfl) ?_
              refine lv_if_lt (tgt := 62) hx hb d_M_sweep_45 (by decide) (fun hc => ?_) (fun hc => ?_)
              · replace hw := hw.1 hc
                refine lv_iload hx hb d_M_sweep_62 (lv_at hl 4 rfl) ?_
                refine lv_istore_n (lv' := [(3, .int x4), (0, .ref (a 0)), (1, .int x1), (2, .int x2), (4, .int x4)]) hx hb d_M_sweep_64 rfl hl (by decide) rfl (fun ls hl => ?_)
                refine lv_iinc (k := 4) (v := x4 + 1) (lv' := [(4, .int (x4 + 1)), (3, .int x4), (0, .ref (a 0)), (1, .int x1), (2, .int x2)]) hx hb d_M_sweep_65 hl rfl rfl (by decide) rfl (fun ls hl => ?_)
                refine lv_goto (tgt := 5) hx hb d_M_sweep_68 (by decide) ?_
                exact ih_5 u37 x1 x2 x4 (x4 + 1) _ _ _ hP hD hS (lv_sub hl [2, 3, 4, 1, 0] rfl) hw
              · replace hw := hw.2 hc
                refine lv_aload_n hx hb d_M_sweep_48 rfl (lv_at hl 0 rfl) ?_
                refine lv_iload hx hb d_M_sweep_49 (lv_at hl 4 rfl) ?_
                refine aft_i (va_runV (As := [.int x4]) (rest := []) ⟨hx, hb, hml, hown, hts⟩ (c_M_start l D a cI cZ _ u37 x4 _ hw) ⟨(callB_of 1 hts good_M_start rfl rfl rfl (hts _ tb_6) (hts _ tb_459) hd_M_start ⟨Nat.le_of_ble_eq_true rfl, Nat.le_of_ble_eq_true rfl⟩), hts _ tb_461, hts _ ts_34⟩ (preV 0 5 hP hD hK hN rfl rfl) rfl rfl hl.1 rfl (lv_room (Nat.le_of_ble_eq_true rfl)) d_M_sweep_51 ⟨Nat.zero_le _, Nat.zero_le _⟩) hD hS hA hK (fun r51 u51 H locs hw hP hD hS => ?_)
                refine lv_aload_n hx hb d_M_sweep_54 rfl (lv_at hl 0 rfl) ?_
                refine lv_iload_n hx hb d_M_sweep_55 rfl (lv_at hl 3 rfl) ?_
                refine aft_i (va_runV (As := [.int x3]) (rest := [.int r51]) ⟨hx, hb, hml, hown, hts⟩ (c_M_start l D a cI cZ _ u51 x3 _ hw) ⟨(callB_of 1 hts good_M_start rfl rfl rfl (hts _ tb_6) (hts _ tb_459) hd_M_start ⟨Nat.le_of_ble_eq_true rfl, Nat.le_of_ble_eq_true rfl⟩), hts _ tb_461, hts _ ts_34⟩ (preV 0 5 hP hD hK hN rfl rfl) rfl rfl hl.1 rfl (lv_room (Nat.le_of_ble_eq_true rfl)) d_M_sweep_56 ⟨Nat.zero_le _, Nat.zero_le _⟩) hD hS hA hK (fun r56 u56 H locs hw hP hD hS => ?_)
                refine lv_icmp_ge (tgt := 65) hx hb d_M_sweep_59 (by decide) (fun hc => ?_) (fun hc => ?_)
                · replace hw := hw.1 hc
                  refine lv_iinc (k := 4) (v := x4 + 1) (lv' := [(4, .int (x4 + 1)), (0, .ref (a 0)), (1, .int x1), (2, .int x2), (3, .int x3)]) hx hb d_M_sweep_65 hl rfl rfl (by decide) rfl (fun ls hl => ?_)
                  refine lv_goto (tgt := 5) hx hb d_M_sweep_68 (by decide) ?_
                  exact ih_5 u56 x1 x2 x3 (x4 + 1) _ _ _ hP hD hS (lv_sub hl [1, 2, 3, 4, 0] rfl) hw
                · replace hw := hw.2 hc
                  refine lv_iload hx hb d_M_sweep_62 (lv_at hl 4 rfl) ?_
                  refine lv_istore_n (lv' := [(3, .int x4), (0, .ref (a 0)), (1, .int x1), (2, .int x2), (4, .int x4)]) hx hb d_M_sweep_64 rfl hl (by decide) rfl (fun ls hl => ?_)
                  refine lv_iinc (k := 4) (v := x4 + 1) (lv' := [(4, .int (x4 + 1)), (3, .int x4), (0, .ref (a 0)), (1, .int x1), (2, .int x2)]) hx hb d_M_sweep_65 hl rfl rfl (by decide) rfl (fun ls hl => ?_)
                  refine lv_goto (tgt := 5) hx hb d_M_sweep_68 (by decide) ?_
                  exact ih_5 u56 x1 x2 x4 (x4 + 1) _ _ _ hP hD hS (lv_sub hl [2, 3, 4, 1, 0] rfl) hw
  unfold wp_M_sweep at hw
  refine lv_iconst (v := (-1)) hx hb d_M_sweep_0 (by decide) ?_
  refine lv_istore_n (lv' := [(3, .int (-1)), (0, .ref (a 0)), (1, .int x1), (2, .int x2)]) hx hb d_M_sweep_1 rfl hl (by decide) rfl (fun ls hl => ?_)
  refine lv_iconst (v := 0) hx hb d_M_sweep_2 (by decide) ?_
  refine lv_istore (lv' := [(4, .int 0), (3, .int (-1)), (0, .ref (a 0)), (1, .int x1), (2, .int x2)]) hx hb d_M_sweep_3 hl (by decide) rfl (fun ls hl => ?_)
  obtain ⟨n, hw⟩ := hw
  exact k_5 n g x1 x2 (-1) 0 _ _ _ hP hD hS (lv_sub hl [2, 3, 4, 1, 0] rfl) hw
set_option maxHeartbeats 4000000 in
set_option maxRecDepth 100000 in
theorem c_M_late (l : Launch) (D : va_G) (a : Nat → Nat) (cI cZ : ClassId) (sz : Nat) (g : St) (x1 : Int32) (Q : Int32 → St → Prop) (hw : wp_M_late g x1 Q) : MT_i l y_M_late b_M_late 4 rm_M_late (wM a cI cZ) D (ty_ cI cZ) sz g [.ref (a 0), .int x1] Q := by
  refine MTi_of (by decide +kernel) (Nat.le_of_ble_eq_true rfl) ?_
  intro p e s m args below meth c A Qt ls hx hb hml hts hown hN hK hP hD hA hl hret
  have hS : va_S A s.heap s.heap [] := va_S.rf
  have hl : lv_has ls 4 [(0, .ref (a 0)), (1, .int x1)] := hl
  have k_4 : ∀ (n : Nat) (g : St) (x1 : Int32) (x2 : Int32) (x3 : Int32) (H : Heap) (locs : List Loc) (ls : Array Slot), va_P D cls_ (wM a cI cZ g) H → va_D A (wM a cI cZ g) → va_S A s.heap H locs → lv_has ls 4 [(0, .ref (a 0)), (1, .int x1), (2, .int x2), (3, .int x3)] → wl_M_late_4 Q n g x1 x2 x3 → W p l e rm_M_late s m args below meth c H locs 0 0 Qt (F0 m 4 ls []) := by
    intro n
    induction n with
    | zero => intro g x1 x2 x3 H locs ls hP hD hS hl hw; exact False.elim hw
    | succ n_4 ih_4 =>
      intro g x1 x2 x3 H locs ls hP hD hS hl hw
      unfold wl_M_late_4 at hw
      refine lv_iload_n hx hb d_M_late_4 rfl (lv_at hl 3 rfl) ?_
      refine lv_aload_n hx hb d_M_late_5 rfl (lv_at hl 0 rfl) ?_
      refine va_get (D := D) (ci := 5) (C := R_M) (T := F_M) (N := 19) hx hb hts in_M hown hK hP 0 rfl rfl 1 (by decide) (hts _ tb_370) (fun _ h9 => h9) rfl d_M_late_6 ?_
      refine lv_icmp_ge (tgt := 70) hx hb d_M_late_9 (by decide) (fun hc => ?_) (fun hc => ?_)
      · replace hw := hw.1 hc
        refine lv_iload_n hx hb d_M_late_70 rfl (lv_at hl 2 rfl) ?_
        exact hret _ _ _ _ _ _ hw hP hD hS d_M_late_71
      · replace hw := hw.2 hc
        refine lv_aload_n hx hb d_M_late_12 rfl (lv_at hl 0 rfl) ?_
        refine lv_iload_n hx hb d_M_late_13 rfl (lv_at hl 3 rfl) ?_
        refine aft_i (va_runV (As := [.int x3]) (rest := []) ⟨hx, hb, hml, hown, hts⟩ (c_M_isReady l D a cI cZ _ g x3 _ hw) ⟨(callB_of 1 hts good_M_isReady rfl rfl rfl (hts _ tb_6) (hts _ tb_488) hd_M_isReady ⟨Nat.le_of_ble_eq_true rfl, Nat.le_of_ble_eq_true rfl⟩), hts _ tb_490, hts _ ts_36⟩ (preV 0 5 hP hD hK hN rfl rfl) rfl rfl hl.1 rfl (lv_room (Nat.le_of_ble_eq_true rfl)) d_M_late_14 ⟨Nat.zero_le _, Nat.zero_le _⟩) hD hS hA hK (fun r14 u14 H locs hw hP hD hS => ?_)
        refine lv_if_eq (tgt := 64) hx hb d_M_late_17 (by decide) (fun hc => ?_) (fun hc => ?_)
        · replace hw := hw.1 hc
          refine lv_iinc (k := 3) (v := x3 + 1) (lv' := [(3, .int (x3 + 1)), (0, .ref (a 0)), (1, .int x1), (2, .int x2)]) hx hb d_M_late_64 hl rfl rfl (by decide) rfl (fun ls hl => ?_)
          refine lv_goto (tgt := 4) hx hb d_M_late_67 (by decide) ?_
          exact ih_4 u14 x1 x2 (x3 + 1) _ _ _ hP hD hS (lv_sub hl [1, 2, 3, 0] rfl) hw
        · replace hw := hw.2 hc
          refine lv_aload_n hx hb d_M_late_20 rfl (lv_at hl 0 rfl) ?_
          refine va_get (D := D) (ci := 5) (C := R_M) (T := F_M) (N := 19) hx hb hts in_M hown hK hP 0 rfl rfl 2 (by decide) (hts _ tb_371) (fun _ h9 => h9) rfl d_M_late_21 ?_
          refine lv_iload_n hx hb d_M_late_24 rfl (lv_at hl 3 rfl) ?_
          refine va_iald hx hb hK hP 2 0 rfl rfl hw.1 d_M_late_25 ?_
          replace hw := hw.2
          refine lv_iload_n hx hb d_M_late_26 rfl (lv_at hl 1 rfl) ?_
          refine lv_icmp_ne (tgt := 64) hx hb d_M_late_27 (by decide) (fun hc => ?_) (fun hc => ?_)
          · replace hw := hw.1 hc
            refine lv_iinc (k := 3) (v := x3 + 1) (lv' := [(3, .int (x3 + 1)), (0, .ref (a 0)), (1, .int x1), (2, .int x2)]) hx hb d_M_late_64 hl rfl rfl (by decide) rfl (fun ls hl => ?_)
            refine lv_goto (tgt := 4) hx hb d_M_late_67 (by decide) ?_
            exact ih_4 u14 x1 x2 (x3 + 1) _ _ _ hP hD hS (lv_sub hl [1, 2, 3, 0] rfl) hw
          · replace hw := hw.2 hc
            refine lv_aload_n hx hb d_M_late_30 rfl (lv_at hl 0 rfl) ?_
            refine va_get (D := D) (ci := 5) (C := R_M) (T := F_M) (N := 19) hx hb hts in_M hown hK hP 0 rfl rfl 9 (by decide) (hts _ tb_378) (fun _ h9 => h9) rfl d_M_late_31 ?_
            refine lv_iload_n hx hb d_M_late_34 rfl (lv_at hl 3 rfl) ?_
            refine va_iald hx hb hK hP 9 0 rfl rfl hw.1 d_M_late_35 ?_
            replace hw := hw.2
            refine lv_aload_n hx hb d_M_late_36 rfl (lv_at hl 0 rfl) ?_
            refine va_get (D := D) (ci := 5) (C := R_M) (T := F_M) (N := 19) hx hb hts in_M hown hK hP 0 rfl rfl 12 (by decide) (hts _ tb_381) (fun _ h9 => h9) rfl d_M_late_37 ?_
            refine lv_icmp_gt (tgt := 64) hx hb d_M_late_40 (by decide) (fun hc => ?_) (fun hc => ?_)
            · replace hw := hw.1 hc
              refine lv_iinc (k := 3) (v := x3 + 1) (lv' := [(3, .int (x3 + 1)), (0, .ref (a 0)), (1, .int x1), (2, .int x2)]) hx hb d_M_late_64 hl rfl rfl (by decide) rfl (fun ls hl => ?_)
              refine lv_goto (tgt := 4) hx hb d_M_late_67 (by decide) ?_
              exact ih_4 u14 x1 x2 (x3 + 1) _ _ _ hP hD hS (lv_sub hl [1, 2, 3, 0] rfl) hw
            · replace hw := hw.2 hc
              refine lv_iload_n hx hb d_M_late_43 rfl (lv_at hl 2 rfl) ?_
              refine lv_if_lt (tgt := 62) hx hb d_M_late_44 (by decide) (fun hc => ?_) (fun hc => ?_)
              · replace hw := hw.1 hc
                refine lv_iload_n hx hb d_M_late_62 rfl (lv_at hl 3 rfl) ?_
                refine lv_istore_n (lv' := [(2, .int x3), (0, .ref (a 0)), (1, .int x1), (3, .int x3)]) hx hb d_M_late_63 rfl hl (by decide) rfl (fun ls hl => ?_)
                refine lv_iinc (k := 3) (v := x3 + 1) (lv' := [(3, .int (x3 + 1)), (2, .int x3), (0, .ref (a 0)), (1, .int x1)]) hx hb d_M_late_64 hl rfl rfl (by decide) rfl (fun ls hl => ?_)
                refine lv_goto (tgt := 4) hx hb d_M_late_67 (by decide) ?_
                exact ih_4 u14 x1 x3 (x3 + 1) _ _ _ hP hD hS (lv_sub hl [2, 3, 1, 0] rfl) hw
              · replace hw := hw.2 hc
                refine lv_aload_n hx hb d_M_late_47 rfl (lv_at hl 0 rfl) ?_
                refine va_get (D := D) (ci := 5) (C := R_M) (T := F_M) (N := 19) hx hb hts in_M hown hK hP 0 rfl rfl 9 (by decide) (hts _ tb_378) (fun _ h9 => h9) rfl d_M_late_48 ?_
                refine lv_iload_n hx hb d_M_late_51 rfl (lv_at hl 3 rfl) ?_
                refine va_iald hx hb hK hP 9 0 rfl rfl hw.1 d_M_late_52 ?_
                replace hw := hw.2
                refine lv_aload_n hx hb d_M_late_53 rfl (lv_at hl 0 rfl) ?_
                refine va_get (D := D) (ci := 5) (C := R_M) (T := F_M) (N := 19) hx hb hts in_M hown hK hP 0 rfl rfl 9 (by decide) (hts _ tb_378) (fun _ h9 => h9) rfl d_M_late_54 ?_
                refine lv_iload_n hx hb d_M_late_57 rfl (lv_at hl 2 rfl) ?_
                refine va_iald hx hb hK hP 9 0 rfl rfl hw.1 d_M_late_58 ?_
                replace hw := hw.2
                refine lv_icmp_ge (tgt := 64) hx hb d_M_late_59 (by decide) (fun hc => ?_) (fun hc => ?_)
                · replace hw := hw.1 hc
                  refine lv_iinc (k := 3) (v := x3 + 1) (lv' := [(3, .int (x3 + 1)), (0, .ref (a 0)), (1, .int x1), (2, .int x2)]) hx hb d_M_late_64 hl rfl rfl (by decide) rfl (fun ls hl => ?_)
                  refine lv_goto (tgt := 4) hx hb d_M_late_67 (by decide) ?_
                  exact ih_4 u14 x1 x2 (x3 + 1) _ _ _ hP hD hS (lv_sub hl [1, 2, 3, 0] rfl) hw
                · replace hw := hw.2 hc
                  refine lv_iload_n hx hb d_M_late_62 rfl (lv_at hl 3 rfl) ?_
                  refine lv_istore_n (lv' := [(2, .int x3), (0, .ref (a 0)), (1, .int x1), (3, .int x3)]) hx hb d_M_late_63 rfl hl (by decide) rfl (fun ls hl => ?_)
                  refine lv_iinc (k := 3) (v := x3 + 1) (lv' := [(3, .int (x3 + 1)), (2, .int x3), (0, .ref (a 0)), (1, .int x1)]) hx hb d_M_late_64 hl rfl rfl (by decide) rfl (fun ls hl => ?_)
                  refine lv_goto (tgt := 4) hx hb d_M_late_67 (by decide) ?_
                  exact ih_4 u14 x1 x3 (x3 + 1) _ _ _ hP hD hS (lv_sub hl [2, 3, 1, 0] rfl) hw
  unfold wp_M_late at hw
  refine lv_iconst (v := (-1)) hx hb d_M_late_0 (by decide) ?_
  refine lv_istore_n (lv' := [(2, .int (-1)), (0, .ref (a 0)), (1, .int x1)]) hx hb d_M_late_1 rfl hl (by decide) rfl (fun ls hl => ?_)
  refine lv_iconst (v := 0) hx hb d_M_late_2 (by decide) ?_
  refine lv_istore_n (lv' := [(3, .int 0), (2, .int (-1)), (0, .ref (a 0)), (1, .int x1)]) hx hb d_M_late_3 rfl hl (by decide) rfl (fun ls hl => ?_)
  obtain ⟨n, hw⟩ := hw
  exact k_4 n g x1 (-1) 0 _ _ _ hP hD hS (lv_sub hl [2, 3, 1, 0] rfl) hw
set_option maxHeartbeats 4000000 in
set_option maxRecDepth 100000 in
theorem c_M_ready (l : Launch) (D : va_G) (a : Nat → Nat) (cI cZ : ClassId) (sz : Nat) (g : St) (x1 : Int32) (Q : Int32 → St → Prop) (hw : wp_M_ready g x1 Q) : MT_i l y_M_ready b_M_ready 4 rm_M_ready (wM a cI cZ) D (ty_ cI cZ) sz g [.ref (a 0), .int x1] Q := by
  refine MTi_of (by decide +kernel) (Nat.le_of_ble_eq_true rfl) ?_
  intro p e s m args below meth c A Qt ls hx hb hml hts hown hN hK hP hD hA hl hret
  have hS : va_S A s.heap s.heap [] := va_S.rf
  have hl : lv_has ls 4 [(0, .ref (a 0)), (1, .int x1)] := hl
  have k_4 : ∀ (n : Nat) (g : St) (x1 : Int32) (x2 : Int32) (x3 : Int32) (H : Heap) (locs : List Loc) (ls : Array Slot), va_P D cls_ (wM a cI cZ g) H → va_D A (wM a cI cZ g) → va_S A s.heap H locs → lv_has ls 4 [(0, .ref (a 0)), (1, .int x1), (2, .int x2), (3, .int x3)] → wl_M_ready_4 Q n g x1 x2 x3 → W p l e rm_M_ready s m args below meth c H locs 0 0 Qt (F0 m 4 ls []) := by
    intro n
    induction n with
    | zero => intro g x1 x2 x3 H locs ls hP hD hS hl hw; exact False.elim hw
    | succ n_4 ih_4 =>
      intro g x1 x2 x3 H locs ls hP hD hS hl hw
      unfold wl_M_ready_4 at hw
      refine lv_iload_n hx hb d_M_ready_4 rfl (lv_at hl 3 rfl) ?_
      refine lv_aload_n hx hb d_M_ready_5 rfl (lv_at hl 0 rfl) ?_
      refine va_get (D := D) (ci := 5) (C := R_M) (T := F_M) (N := 19) hx hb hts in_M hown hK hP 0 rfl rfl 1 (by decide) (hts _ tb_370) (fun _ h9 => h9) rfl d_M_ready_6 ?_
      refine lv_icmp_ge (tgt := 44) hx hb d_M_ready_9 (by decide) (fun hc => ?_) (fun hc => ?_)
      · replace hw := hw.1 hc
        refine lv_iload_n hx hb d_M_ready_44 rfl (lv_at hl 1 rfl) ?_
        refine lv_if_lt (tgt := 53) hx hb d_M_ready_45 (by decide) (fun hc => ?_) (fun hc => ?_)
        · replace hw := hw.1 hc
          refine lv_iconst (v := (-1)) hx hb d_M_ready_53 (by decide) ?_
          refine lv_goto (tgt := 58) hx hb d_M_ready_54 (by decide) ?_
          exact hret _ _ _ _ _ _ hw hP hD hS d_M_ready_58
        · replace hw := hw.2 hc
          refine lv_iload_n hx hb d_M_ready_48 rfl (lv_at hl 1 rfl) ?_
          refine lv_iconst (v := 1) hx hb d_M_ready_49 (by decide) ?_
          refine lv_icmp_le (tgt := 57) hx hb d_M_ready_50 (by decide) (fun hc => ?_) (fun hc => ?_)
          · replace hw := hw.1 hc
            refine lv_iload_n hx hb d_M_ready_57 rfl (lv_at hl 2 rfl) ?_
            exact hret _ _ _ _ _ _ hw hP hD hS d_M_ready_58
          · replace hw := hw.2 hc
            refine lv_iconst (v := (-1)) hx hb d_M_ready_53 (by decide) ?_
            refine lv_goto (tgt := 58) hx hb d_M_ready_54 (by decide) ?_
            exact hret _ _ _ _ _ _ hw hP hD hS d_M_ready_58
      · replace hw := hw.2 hc
        refine lv_aload_n hx hb d_M_ready_12 rfl (lv_at hl 0 rfl) ?_
        refine va_get (D := D) (ci := 5) (C := R_M) (T := F_M) (N := 19) hx hb hts in_M hown hK hP 0 rfl rfl 2 (by decide) (hts _ tb_371) (fun _ h9 => h9) rfl d_M_ready_13 ?_
        refine lv_iload_n hx hb d_M_ready_16 rfl (lv_at hl 3 rfl) ?_
        refine va_iald hx hb hK hP 2 0 rfl rfl hw.1 d_M_ready_17 ?_
        replace hw := hw.2
        refine lv_iload_n hx hb d_M_ready_18 rfl (lv_at hl 1 rfl) ?_
        refine lv_icmp_ne (tgt := 36) hx hb d_M_ready_19 (by decide) (fun hc => ?_) (fun hc => ?_)
        · replace hw := hw.1 hc
          refine lv_iload_n hx hb d_M_ready_36 rfl (lv_at hl 2 rfl) ?_
          refine lv_istore_n (lv' := [(2, .int x2), (0, .ref (a 0)), (1, .int x1), (3, .int x3)]) hx hb d_M_ready_37 rfl hl (by decide) rfl (fun ls hl => ?_)
          refine lv_iinc (k := 3) (v := x3 + 1) (lv' := [(3, .int (x3 + 1)), (2, .int x2), (0, .ref (a 0)), (1, .int x1)]) hx hb d_M_ready_38 hl rfl rfl (by decide) rfl (fun ls hl => ?_)
          refine lv_goto (tgt := 4) hx hb d_M_ready_41 (by decide) ?_
          exact ih_4 g x1 x2 (x3 + 1) _ _ _ hP hD hS (lv_sub hl [2, 3, 1, 0] rfl) hw
        · replace hw := hw.2 hc
          refine lv_aload_n hx hb d_M_ready_22 rfl (lv_at hl 0 rfl) ?_
          refine lv_iload_n hx hb d_M_ready_23 rfl (lv_at hl 3 rfl) ?_
          refine aft_i (va_runV (As := [.int x3]) (rest := []) ⟨hx, hb, hml, hown, hts⟩ (c_M_isReady l D a cI cZ _ g x3 _ hw) ⟨(callB_of 1 hts good_M_isReady rfl rfl rfl (hts _ tb_6) (hts _ tb_488) hd_M_isReady ⟨Nat.le_of_ble_eq_true rfl, Nat.le_of_ble_eq_true rfl⟩), hts _ tb_490, hts _ ts_36⟩ (preV 0 5 hP hD hK hN rfl rfl) rfl rfl hl.1 rfl (lv_room (Nat.le_of_ble_eq_true rfl)) d_M_ready_24 ⟨Nat.zero_le _, Nat.zero_le _⟩) hD hS hA hK (fun r24 u24 H locs hw hP hD hS => ?_)
          refine lv_if_eq (tgt := 36) hx hb d_M_ready_27 (by decide) (fun hc => ?_) (fun hc => ?_)
          · replace hw := hw.1 hc
            refine lv_iload_n hx hb d_M_ready_36 rfl (lv_at hl 2 rfl) ?_
            refine lv_istore_n (lv' := [(2, .int x2), (0, .ref (a 0)), (1, .int x1), (3, .int x3)]) hx hb d_M_ready_37 rfl hl (by decide) rfl (fun ls hl => ?_)
            refine lv_iinc (k := 3) (v := x3 + 1) (lv' := [(3, .int (x3 + 1)), (2, .int x2), (0, .ref (a 0)), (1, .int x1)]) hx hb d_M_ready_38 hl rfl rfl (by decide) rfl (fun ls hl => ?_)
            refine lv_goto (tgt := 4) hx hb d_M_ready_41 (by decide) ?_
            exact ih_4 u24 x1 x2 (x3 + 1) _ _ _ hP hD hS (lv_sub hl [2, 3, 1, 0] rfl) hw
          · replace hw := hw.2 hc
            refine lv_iload_n hx hb d_M_ready_30 rfl (lv_at hl 2 rfl) ?_
            refine lv_iconst (v := 1) hx hb d_M_ready_31 (by decide) ?_
            refine lv_iadd hx hb d_M_ready_32 ?_
            refine lv_goto (tgt := 37) hx hb d_M_ready_33 (by decide) ?_
            refine lv_istore_n (lv' := [(2, .int (x2 + 1)), (0, .ref (a 0)), (1, .int x1), (3, .int x3)]) hx hb d_M_ready_37 rfl hl (by decide) rfl (fun ls hl => ?_)
            refine lv_iinc (k := 3) (v := x3 + 1) (lv' := [(3, .int (x3 + 1)), (2, .int (x2 + 1)), (0, .ref (a 0)), (1, .int x1)]) hx hb d_M_ready_38 hl rfl rfl (by decide) rfl (fun ls hl => ?_)
            refine lv_goto (tgt := 4) hx hb d_M_ready_41 (by decide) ?_
            exact ih_4 u24 x1 (x2 + 1) (x3 + 1) _ _ _ hP hD hS (lv_sub hl [2, 3, 1, 0] rfl) hw
  unfold wp_M_ready at hw
  refine lv_iconst (v := 0) hx hb d_M_ready_0 (by decide) ?_
  refine lv_istore_n (lv' := [(2, .int 0), (0, .ref (a 0)), (1, .int x1)]) hx hb d_M_ready_1 rfl hl (by decide) rfl (fun ls hl => ?_)
  refine lv_iconst (v := 0) hx hb d_M_ready_2 (by decide) ?_
  refine lv_istore_n (lv' := [(3, .int 0), (2, .int 0), (0, .ref (a 0)), (1, .int x1)]) hx hb d_M_ready_3 rfl hl (by decide) rfl (fun ls hl => ?_)
  obtain ⟨n, hw⟩ := hw
  exact k_4 n g x1 0 0 _ _ _ hP hD hS (lv_sub hl [2, 3, 1, 0] rfl) hw
end
section
set_option maxHeartbeats 4000000 in
set_option maxRecDepth 100000 in
theorem c_M_fresh (l : Launch) (D : va_G) (a : Nat → Nat) (cI cZ : ClassId) (sz : Nat) (g : St) (Q : Int32 → St → Prop) (hw : wp_M_fresh g Q) : MT_i l y_M_fresh b_M_fresh 3 rm_M_fresh (wM a cI cZ) D (ty_ cI cZ) sz g [.ref (a 0)] Q := by
  refine MTi_of (by decide +kernel) (Nat.le_of_ble_eq_true rfl) ?_
  intro p e s m args below meth c A Qt ls hx hb hml hts hown hN hK hP hD hA hl hret
  have hS : va_S A s.heap s.heap [] := va_S.rf
  have hl : lv_has ls 3 [(0, .ref (a 0))] := hl
  have k_107 : ∀ (g : St) (z0 : Int32) (H : Heap) (locs : List Loc) (ls : Array Slot), va_P D cls_ (wM a cI cZ g) H → va_D A (wM a cI cZ g) → va_S A s.heap H locs → lv_has ls 3 [(0, .ref (a 0))] → wb_M_fresh_107 Q g z0 → W p l e rm_M_fresh s m args below meth c H locs 0 0 Qt (F0 m 107 ls [.int z0]) := by
    intro g z0 H locs ls hP hD hS hl hw
    unfold wb_M_fresh_107 at hw
    refine lv_istore_n (lv' := [(2, .int z0), (0, .ref (a 0))]) hx hb d_M_fresh_107 rfl hl (by decide) rfl (fun ls hl => ?_)
    refine lv_iload_n hx hb d_M_fresh_108 rfl (lv_at hl 0 rfl) ?_
    refine lv_if_ge (tgt := 124) hx hb d_M_fresh_109 (by decide) (fun hc => ?_) (fun hc => ?_)
    · replace hw := hw.1 hc
      refine lv_iload_n hx hb d_M_fresh_124 rfl (lv_at hl 0 rfl) ?_
      exact hret _ _ _ _ _ _ hw hP hD hS d_M_fresh_125
    · replace hw := hw.2 hc
      refine lv_aload_n hx hb d_M_fresh_112 rfl (lv_at hl 1 rfl) ?_
      refine lv_aload_n hx hb d_M_fresh_113 rfl (lv_at hl 1 rfl) ?_
      refine va_get (D := D) (ci := 5) (C := R_M) (T := F_M) (N := 19) hx hb hts in_M hown hK hP 0 rfl rfl 15 (by decide) (hts _ tb_384) (fun _ h9 => h9) rfl d_M_fresh_114 ?_
      refine lv_iconst (v := 0) hx hb d_M_fresh_117 (by decide) ?_
      refine aft_i (va_runV (As := [.int (g.2.1 4), .int 0]) (rest := []) ⟨hx, hb, hml, hown, hts⟩ (c_M_sweep l D a cI cZ _ g (g.2.1 4) 0 _ hw) ⟨(callB_of 2 hts good_M_sweep rfl rfl rfl (hts _ tb_6) (hts _ tb_484) hd_M_sweep ⟨Nat.le_of_ble_eq_true rfl, Nat.le_of_ble_eq_true rfl⟩), hts _ tb_486, hts _ ts_35⟩ (preV 0 5 hP hD hK hN rfl rfl) rfl rfl hl.1 rfl (lv_room (Nat.le_of_ble_eq_true rfl)) d_M_fresh_118 ⟨Nat.zero_le _, Nat.zero_le _⟩) hD hS hA hK (fun r118 u118 H locs hw hP hD hS => ?_)
      refine lv_goto (tgt := 125) hx hb d_M_fresh_121 (by decide) ?_
      exact hret _ _ _ _ _ _ hw hP hD hS d_M_fresh_125
  have k_73 : ∀ (g : St) (H : Heap) (locs : List Loc) (ls : Array Slot), va_P D cls_ (wM a cI cZ g) H → va_D A (wM a cI cZ g) → va_S A s.heap H locs → lv_has ls 3 [(0, .ref (a 0))] → wb_M_fresh_73 Q g → W p l e rm_M_fresh s m args below meth c H locs 0 0 Qt (F0 m 73 ls []) := by
    intro g H locs ls hP hD hS hl hw
    unfold wb_M_fresh_73 at hw
    refine lv_aload_n hx hb d_M_fresh_73 rfl (lv_at hl 0 rfl) ?_
    refine lv_iconst (v := 1) hx hb d_M_fresh_74 (by decide) ?_
    refine va_put (v := .int 1) (ty := .int) (D := D) (ci := 5) (C := R_M) (T := F_M) (N := 19) hx hb hts in_M t_M t_M_ok n_M hown hK hP hD hS 0 rfl rfl 16 (by decide) (hts _ tb_385) (fun _ h9 => h9) rfl (by decide +kernel) rfl rfl (Nat.le_of_ble_eq_true rfl) d_M_fresh_75 (fun H locs hP hD hS => ?_)
    have hP : va_P D cls_ (wM a cI cZ (sI g 5 1)) H := pI_M_5 (g := g) (v := 1) hP
    have hD : va_D A (wM a cI cZ (sI g 5 1)) := dI_M_5 (g := g) (v := 1) hD
    generalize sI g 5 1 = g_75 at hw hP hD
    refine lv_aload_n hx hb d_M_fresh_78 rfl (lv_at hl 0 rfl) ?_
    refine lv_aload_n hx hb d_M_fresh_79 rfl (lv_at hl 0 rfl) ?_
    refine va_get (D := D) (ci := 5) (C := R_M) (T := F_M) (N := 19) hx hb hts in_M hown hK hP 0 rfl rfl 15 (by decide) (hts _ tb_384) (fun _ h9 => h9) rfl d_M_fresh_80 ?_
    refine aft_i (va_runV (As := [.int (g_75.2.1 4)]) (rest := []) ⟨hx, hb, hml, hown, hts⟩ (c_M_late l D a cI cZ _ g_75 (g_75.2.1 4) _ hw) ⟨(callB_of 1 hts good_M_late rfl rfl rfl (hts _ tb_6) (hts _ tb_500) hd_M_late ⟨Nat.le_of_ble_eq_true rfl, Nat.le_of_ble_eq_true rfl⟩), hts _ tb_502, hts _ ts_38⟩ (preV 0 5 hP hD hK hN rfl rfl) rfl rfl hl.1 rfl (lv_room (Nat.le_of_ble_eq_true rfl)) d_M_fresh_83 ⟨Nat.zero_le _, Nat.zero_le _⟩) hD hS hA hK (fun r83 u83 H locs hw hP hD hS => ?_)
    refine lv_istore_n (lv' := [(2, .int r83), (0, .ref (a 0))]) hx hb d_M_fresh_86 rfl hl (by decide) rfl (fun ls hl => ?_)
    refine lv_iload_n hx hb d_M_fresh_87 rfl (lv_at hl 0 rfl) ?_
    refine lv_if_ge (tgt := 106) hx hb d_M_fresh_88 (by decide) (fun hc => ?_) (fun hc => ?_)
    · replace hw := hw.1 hc
      refine lv_iload_n hx hb d_M_fresh_106 rfl (lv_at hl 0 rfl) ?_
      exact k_107 u83 r83 _ _ _ hP hD hS (lv_sub hl [1] rfl) hw
    · replace hw := hw.2 hc
      refine lv_aload_n hx hb d_M_fresh_91 rfl (lv_at hl 1 rfl) ?_
      refine lv_aload_n hx hb d_M_fresh_92 rfl (lv_at hl 1 rfl) ?_
      refine va_get (D := D) (ci := 5) (C := R_M) (T := F_M) (N := 19) hx hb hts in_M hown hK hP 0 rfl rfl 15 (by decide) (hts _ tb_384) (fun _ h9 => h9) rfl d_M_fresh_93 ?_
      refine lv_aload_n hx hb d_M_fresh_96 rfl (lv_at hl 1 rfl) ?_
      refine va_get (D := D) (ci := 5) (C := R_M) (T := F_M) (N := 19) hx hb hts in_M hown hK hP 0 rfl rfl 14 (by decide) (hts _ tb_383) (fun _ h9 => h9) rfl d_M_fresh_97 ?_
      refine aft_i (va_runV (As := [.int (u83.2.1 4), .int (u83.2.1 3)]) (rest := []) ⟨hx, hb, hml, hown, hts⟩ (c_M_sweep l D a cI cZ _ u83 (u83.2.1 4) (u83.2.1 3) _ hw) ⟨(callB_of 2 hts good_M_sweep rfl rfl rfl (hts _ tb_6) (hts _ tb_484) hd_M_sweep ⟨Nat.le_of_ble_eq_true rfl, Nat.le_of_ble_eq_true rfl⟩), hts _ tb_486, hts _ ts_35⟩ (preV 0 5 hP hD hK hN rfl rfl) rfl rfl hl.1 rfl (lv_room (Nat.le_of_ble_eq_true rfl)) d_M_fresh_100 ⟨Nat.zero_le _, Nat.zero_le _⟩) hD hS hA hK (fun r100 u100 H locs hw hP hD hS => ?_)
      refine lv_goto (tgt := 107) hx hb d_M_fresh_103 (by decide) ?_
      exact k_107 u100 r100 _ _ _ hP hD hS (lv_sub hl [1] rfl) hw
  have k_63 : ∀ (g : St) (H : Heap) (locs : List Loc) (ls : Array Slot), va_P D cls_ (wM a cI cZ g) H → va_D A (wM a cI cZ g) → va_S A s.heap H locs → lv_has ls 3 [(0, .ref (a 0))] → wb_M_fresh_63 Q g → W p l e rm_M_fresh s m args below meth c H locs 0 0 Qt (F0 m 63 ls []) := by
    intro g H locs ls hP hD hS hl hw
    unfold wb_M_fresh_63 at hw
    refine lv_aload_n hx hb d_M_fresh_63 rfl (lv_at hl 0 rfl) ?_
    refine lv_iconst (v := 1) hx hb d_M_fresh_64 (by decide) ?_
    refine va_put (v := .int 1) (ty := .int) (D := D) (ci := 5) (C := R_M) (T := F_M) (N := 19) hx hb hts in_M t_M t_M_ok n_M hown hK hP hD hS 0 rfl rfl 15 (by decide) (hts _ tb_384) (fun _ h9 => h9) rfl (by decide +kernel) rfl rfl (Nat.le_of_ble_eq_true rfl) d_M_fresh_65 (fun H locs hP hD hS => ?_)
    have hP : va_P D cls_ (wM a cI cZ (sI g 4 1)) H := pI_M_4 (g := g) (v := 1) hP
    have hD : va_D A (wM a cI cZ (sI g 4 1)) := dI_M_4 (g := g) (v := 1) hD
    generalize sI g 4 1 = g_65 at hw hP hD
    refine lv_aload_n hx hb d_M_fresh_68 rfl (lv_at hl 0 rfl) ?_
    refine lv_iconst (v := 0) hx hb d_M_fresh_69 (by decide) ?_
    refine va_put (v := .int 0) (ty := .int) (D := D) (ci := 5) (C := R_M) (T := F_M) (N := 19) hx hb hts in_M t_M t_M_ok n_M hown hK hP hD hS 0 rfl rfl 17 (by decide) (hts _ tb_386) (fun _ h9 => h9) rfl (by decide +kernel) rfl rfl (Nat.le_of_ble_eq_true rfl) d_M_fresh_70 (fun H locs hP hD hS => ?_)
    have hP : va_P D cls_ (wM a cI cZ (sI g_65 6 0)) H := pI_M_6 (g := g_65) (v := 0) hP
    have hD : va_D A (wM a cI cZ (sI g_65 6 0)) := dI_M_6 (g := g_65) (v := 0) hD
    generalize sI g_65 6 0 = g_70 at hw hP hD
    exact k_73 g_70 _ _ _ hP hD hS (lv_sub hl [0] rfl) hw
  have k_34 : ∀ (g : St) (x1 : Int32) (H : Heap) (locs : List Loc) (ls : Array Slot), va_P D cls_ (wM a cI cZ g) H → va_D A (wM a cI cZ g) → va_S A s.heap H locs → lv_has ls 3 [(0, .ref (a 0)), (1, .int x1)] → wb_M_fresh_34 Q g x1 → W p l e rm_M_fresh s m args below meth c H locs 0 0 Qt (F0 m 34 ls []) := by
    intro g x1 H locs ls hP hD hS hl hw
    unfold wb_M_fresh_34 at hw
    refine lv_aload_n hx hb d_M_fresh_34 rfl (lv_at hl 0 rfl) ?_
    refine lv_iconst (v := 0) hx hb d_M_fresh_35 (by decide) ?_
    refine va_put (v := .int 0) (ty := .int) (D := D) (ci := 5) (C := R_M) (T := F_M) (N := 19) hx hb hts in_M t_M t_M_ok n_M hown hK hP hD hS 0 rfl rfl 15 (by decide) (hts _ tb_384) (fun _ h9 => h9) rfl (by decide +kernel) rfl rfl (Nat.le_of_ble_eq_true rfl) d_M_fresh_36 (fun H locs hP hD hS => ?_)
    have hP : va_P D cls_ (wM a cI cZ (sI g 4 0)) H := pI_M_4 (g := g) (v := 0) hP
    have hD : va_D A (wM a cI cZ (sI g 4 0)) := dI_M_4 (g := g) (v := 0) hD
    generalize sI g 4 0 = g_36 at hw hP hD
    refine lv_aload_n hx hb d_M_fresh_39 rfl (lv_at hl 0 rfl) ?_
    refine lv_iload_n hx hb d_M_fresh_40 rfl (lv_at hl 1 rfl) ?_
    refine lv_if_eq (tgt := 53) hx hb d_M_fresh_41 (by decide) (fun hc => ?_) (fun hc => ?_)
    · replace hw := hw.1 hc
      refine lv_aload_n hx hb d_M_fresh_53 rfl (lv_at hl 0 rfl) ?_
      refine va_get (D := D) (ci := 5) (C := R_M) (T := F_M) (N := 19) hx hb hts in_M hown hK hP 0 rfl rfl 17 (by decide) (hts _ tb_386) (fun _ h9 => h9) rfl d_M_fresh_54 ?_
      refine va_put (v := .int (g_36.2.1 6)) (ty := .int) (D := D) (ci := 5) (C := R_M) (T := F_M) (N := 19) hx hb hts in_M t_M t_M_ok n_M hown hK hP hD hS 0 rfl rfl 17 (by decide) (hts _ tb_386) (fun _ h9 => h9) rfl (by decide +kernel) rfl rfl (Nat.le_of_ble_eq_true rfl) d_M_fresh_57 (fun H locs hP hD hS => ?_)
      have hP : va_P D cls_ (wM a cI cZ (sI g_36 6 (g_36.2.1 6))) H := pI_M_6 (g := g_36) (v := g_36.2.1 6) hP
      have hD : va_D A (wM a cI cZ (sI g_36 6 (g_36.2.1 6))) := dI_M_6 (g := g_36) (v := g_36.2.1 6) hD
      generalize sI g_36 6 (g_36.2.1 6) = g_57 at hw hP hD
      refine lv_goto (tgt := 73) hx hb d_M_fresh_60 (by decide) ?_
      exact k_73 g_57 _ _ _ hP hD hS (lv_sub hl [0] rfl) hw
    · replace hw := hw.2 hc
      refine lv_aload_n hx hb d_M_fresh_44 rfl (lv_at hl 0 rfl) ?_
      refine va_get (D := D) (ci := 5) (C := R_M) (T := F_M) (N := 19) hx hb hts in_M hown hK hP 0 rfl rfl 17 (by decide) (hts _ tb_386) (fun _ h9 => h9) rfl d_M_fresh_45 ?_
      refine lv_iconst (v := 1) hx hb d_M_fresh_48 (by decide) ?_
      refine lv_iadd hx hb d_M_fresh_49 ?_
      refine lv_goto (tgt := 57) hx hb d_M_fresh_50 (by decide) ?_
      refine va_put (v := .int ((g_36.2.1 6) + 1)) (ty := .int) (D := D) (ci := 5) (C := R_M) (T := F_M) (N := 19) hx hb hts in_M t_M t_M_ok n_M hown hK hP hD hS 0 rfl rfl 17 (by decide) (hts _ tb_386) (fun _ h9 => h9) rfl (by decide +kernel) rfl rfl (Nat.le_of_ble_eq_true rfl) d_M_fresh_57 (fun H locs hP hD hS => ?_)
      have hP : va_P D cls_ (wM a cI cZ (sI g_36 6 ((g_36.2.1 6) + 1))) H := pI_M_6 (g := g_36) (v := (g_36.2.1 6) + 1) hP
      have hD : va_D A (wM a cI cZ (sI g_36 6 ((g_36.2.1 6) + 1))) := dI_M_6 (g := g_36) (v := (g_36.2.1 6) + 1) hD
      generalize sI g_36 6 ((g_36.2.1 6) + 1) = g_57 at hw hP hD
      refine lv_goto (tgt := 73) hx hb d_M_fresh_60 (by decide) ?_
      exact k_73 g_57 _ _ _ hP hD hS (lv_sub hl [0] rfl) hw
  have k_13 : ∀ (g : St) (z0 : Int32) (H : Heap) (locs : List Loc) (ls : Array Slot), va_P D cls_ (wM a cI cZ g) H → va_D A (wM a cI cZ g) → va_S A s.heap H locs → lv_has ls 3 [(0, .ref (a 0))] → wb_M_fresh_13 Q g z0 → W p l e rm_M_fresh s m args below meth c H locs 0 0 Qt (F0 m 13 ls [.int z0]) := by
    intro g z0 H locs ls hP hD hS hl hw
    unfold wb_M_fresh_13 at hw
    refine lv_istore_n (lv' := [(1, .int z0), (0, .ref (a 0))]) hx hb d_M_fresh_13 rfl hl (by decide) rfl (fun ls hl => ?_)
    refine lv_aload_n hx hb d_M_fresh_14 rfl (lv_at hl 1 rfl) ?_
    refine lv_iconst (v := 0) hx hb d_M_fresh_15 (by decide) ?_
    refine aft_i (va_runV (As := [.int 0]) (rest := []) ⟨hx, hb, hml, hown, hts⟩ (c_M_ready l D a cI cZ _ g 0 _ hw) ⟨(callB_of 1 hts good_M_ready rfl rfl rfl (hts _ tb_6) (hts _ tb_496) hd_M_ready ⟨Nat.le_of_ble_eq_true rfl, Nat.le_of_ble_eq_true rfl⟩), hts _ tb_497, hts _ tb_498⟩ (preV 0 5 hP hD hK hN rfl rfl) rfl rfl hl.1 rfl (lv_room (Nat.le_of_ble_eq_true rfl)) d_M_fresh_16 ⟨Nat.zero_le _, Nat.zero_le _⟩) hD hS hA hK (fun r16 u16 H locs hw hP hD hS => ?_)
    refine lv_if_le (tgt := 63) hx hb d_M_fresh_19 (by decide) (fun hc => ?_) (fun hc => ?_)
    · replace hw := hw.1 hc
      exact k_63 u16 _ _ _ hP hD hS (lv_sub hl [1] rfl) hw
    · replace hw := hw.2 hc
      refine lv_iload_n hx hb d_M_fresh_22 rfl (lv_at hl 0 rfl) ?_
      refine lv_if_eq (tgt := 34) hx hb d_M_fresh_23 (by decide) (fun hc => ?_) (fun hc => ?_)
      · replace hw := hw.1 hc
        exact k_34 u16 z0 _ _ _ hP hD hS (lv_sub hl [1, 0] rfl) hw
      · replace hw := hw.2 hc
        refine lv_aload_n hx hb d_M_fresh_26 rfl (lv_at hl 1 rfl) ?_
        refine va_get (D := D) (ci := 5) (C := R_M) (T := F_M) (N := 19) hx hb hts in_M hown hK hP 0 rfl rfl 17 (by decide) (hts _ tb_386) (fun _ h9 => h9) rfl d_M_fresh_27 ?_
        refine lv_iconst (v := 2) hx hb d_M_fresh_30 (by decide) ?_
        refine lv_icmp_ge (tgt := 63) hx hb d_M_fresh_31 (by decide) (fun hc => ?_) (fun hc => ?_)
        · replace hw := hw.1 hc
          exact k_63 u16 _ _ _ hP hD hS (lv_sub hl [1] rfl) hw
        · replace hw := hw.2 hc
          exact k_34 u16 z0 _ _ _ hP hD hS (lv_sub hl [1, 0] rfl) hw
  unfold wp_M_fresh at hw
  refine lv_aload_n hx hb d_M_fresh_0 rfl (lv_at hl 0 rfl) ?_
  refine lv_iconst (v := 1) hx hb d_M_fresh_1 (by decide) ?_
  refine aft_i (va_runV (As := [.int 1]) (rest := []) ⟨hx, hb, hml, hown, hts⟩ (c_M_ready l D a cI cZ _ g 1 _ hw) ⟨(callB_of 1 hts good_M_ready rfl rfl rfl (hts _ tb_6) (hts _ tb_496) hd_M_ready ⟨Nat.le_of_ble_eq_true rfl, Nat.le_of_ble_eq_true rfl⟩), hts _ tb_497, hts _ tb_498⟩ (preV 0 5 hP hD hK hN rfl rfl) rfl rfl hl.1 rfl (lv_room (Nat.le_of_ble_eq_true rfl)) d_M_fresh_2 ⟨Nat.zero_le _, Nat.zero_le _⟩) hD hS hA hK (fun r2 u2 H locs hw hP hD hS => ?_)
  refine lv_if_le (tgt := 12) hx hb d_M_fresh_5 (by decide) (fun hc => ?_) (fun hc => ?_)
  · replace hw := hw.1 hc
    refine lv_iconst (v := 0) hx hb d_M_fresh_12 (by decide) ?_
    exact k_13 u2 0 _ _ _ hP hD hS (lv_sub hl [0] rfl) hw
  · replace hw := hw.2 hc
    refine lv_iconst (v := 1) hx hb d_M_fresh_8 (by decide) ?_
    refine lv_goto (tgt := 13) hx hb d_M_fresh_9 (by decide) ?_
    exact k_13 u2 1 _ _ _ hP hD hS (lv_sub hl [0] rfl) hw
set_option maxHeartbeats 4000000 in
set_option maxRecDepth 100000 in
theorem c_M_carryOut (l : Launch) (D : va_G) (a : Nat → Nat) (cI cZ : ClassId) (sz : Nat) (g : St) (x1 : Int32) (Q : St → Prop) (hw : wp_M_carryOut g x1 Q) : MT_v l y_M_carryOut b_M_carryOut 3 rm_M_carryOut (wM a cI cZ) D (ty_ cI cZ) sz g [.ref (a 0), .int x1] Q := by
  refine MTv_of (by decide +kernel) (Nat.le_of_ble_eq_true rfl) ?_
  intro p e s m args below meth c A Qt ls hx hb hml hts hown hN hK hP hD hA hl hret
  have hS : va_S A s.heap s.heap [] := va_S.rf
  have hl : lv_has ls 3 [(0, .ref (a 0)), (1, .int x1)] := hl
  have k_9 : ∀ (n : Nat) (g : St) (x1 : Int32) (x2 : Int32) (H : Heap) (locs : List Loc) (ls : Array Slot), va_P D cls_ (wM a cI cZ g) H → va_D A (wM a cI cZ g) → va_S A s.heap H locs → lv_has ls 3 [(0, .ref (a 0)), (1, .int x1), (2, .int x2)] → wl_M_carryOut_9 Q n g x1 x2 → W p l e rm_M_carryOut s m args below meth c H locs 0 0 Qt (F0 m 9 ls []) := by
    intro n
    induction n with
    | zero => intro g x1 x2 H locs ls hP hD hS hl hw; exact False.elim hw
    | succ n_9 ih_9 =>
      intro g x1 x2 H locs ls hP hD hS hl hw
      unfold wl_M_carryOut_9 at hw
      refine lv_iload_n hx hb d_M_carryOut_9 rfl (lv_at hl 2 rfl) ?_
      refine lv_aload_n hx hb d_M_carryOut_10 rfl (lv_at hl 0 rfl) ?_
      refine va_get (D := D) (ci := 5) (C := R_M) (T := F_M) (N := 19) hx hb hts in_M hown hK hP 0 rfl rfl 4 (by decide) (hts _ tb_373) (fun _ h9 => h9) rfl d_M_carryOut_11 ?_
      refine lv_iload_n hx hb d_M_carryOut_14 rfl (lv_at hl 1 rfl) ?_
      refine va_iald hx hb hK hP 4 0 rfl rfl hw.1 d_M_carryOut_15 ?_
      replace hw := hw.2
      refine lv_icmp_ge (tgt := 83) hx hb d_M_carryOut_16 (by decide) (fun hc => ?_) (fun hc => ?_)
      · replace hw := hw.1 hc
        exact hret _ _ _ _ _ hw hP hD hS d_M_carryOut_83
      · replace hw := hw.2 hc
        refine lv_aload_n hx hb d_M_carryOut_19 rfl (lv_at hl 0 rfl) ?_
        refine va_get (D := D) (ci := 5) (C := R_M) (T := F_M) (N := 19) hx hb hts in_M hown hK hP 0 rfl rfl 2 (by decide) (hts _ tb_371) (fun _ h9 => h9) rfl d_M_carryOut_20 ?_
        refine lv_iload_n hx hb d_M_carryOut_23 rfl (lv_at hl 1 rfl) ?_
        refine va_iald hx hb hK hP 2 0 rfl rfl hw.1 d_M_carryOut_24 ?_
        replace hw := hw.2
        refine lv_iconst (v := 1) hx hb d_M_carryOut_25 (by decide) ?_
        refine lv_icmp_ne (tgt := 53) hx hb d_M_carryOut_26 (by decide) (fun hc => ?_) (fun hc => ?_)
        · replace hw := hw.1 hc
          refine lv_aload_n hx hb d_M_carryOut_53 rfl (lv_at hl 0 rfl) ?_
          refine va_get (D := D) (ci := 5) (C := R_M) (T := F_M) (N := 19) hx hb hts in_M hown hK hP 0 rfl rfl 8 (by decide) (hts _ tb_377) (fun _ h9 => h9) rfl d_M_carryOut_54 ?_
          refine lv_bipush (v := 8) hx hb d_M_carryOut_57 (by decide) ?_
          refine lv_iload_n hx hb d_M_carryOut_59 rfl (lv_at hl 1 rfl) ?_
          refine lv_imul hx hb d_M_carryOut_60 ?_
          refine lv_iload_n hx hb d_M_carryOut_61 rfl (lv_at hl 2 rfl) ?_
          refine lv_iadd hx hb d_M_carryOut_62 ?_
          refine lv_aload_n hx hb d_M_carryOut_63 rfl (lv_at hl 0 rfl) ?_
          refine va_get (D := D) (ci := 5) (C := R_M) (T := F_M) (N := 19) hx hb hts in_M hown hK hP 0 rfl rfl 0 (by decide) (hts _ tb_369) (fun _ h9 => h9) rfl d_M_carryOut_64 ?_
          refine lv_aload_n hx hb d_M_carryOut_67 rfl (lv_at hl 0 rfl) ?_
          refine va_get (D := D) (ci := 5) (C := R_M) (T := F_M) (N := 19) hx hb hts in_M hown hK hP 0 rfl rfl 3 (by decide) (hts _ tb_372) (fun _ h9 => h9) rfl d_M_carryOut_68 ?_
          refine lv_iload_n hx hb d_M_carryOut_71 rfl (lv_at hl 1 rfl) ?_
          refine va_iald hx hb hK hP 3 0 rfl rfl hw.1 d_M_carryOut_72 ?_
          replace hw := hw.2
          refine lv_iload_n hx hb d_M_carryOut_73 rfl (lv_at hl 2 rfl) ?_
          refine lv_iadd hx hb d_M_carryOut_74 ?_
          refine va_iald hx hb hK hP 1 0 rfl rfl hw.1 d_M_carryOut_75 ?_
          replace hw := hw.2
          refine va_iast hx hb hK hP hD hS 8 0 rfl rfl hw.1 d_M_carryOut_76 (fun H locs hP hD hS => ?_)
          replace hw := hw.2
          have hP : va_P D cls_ (wM a cI cZ (sA g 7 ((8 * x1) + x2).toNatClampNeg (g.1 0 ((g.1 2 x1.toNatClampNeg) + x2).toNatClampNeg))) H := pA_M_7 (g := g) (j := ((8 * x1) + x2).toNatClampNeg) (x := (g.1 0 ((g.1 2 x1.toNatClampNeg) + x2).toNatClampNeg)) hP
          have hD : va_D A (wM a cI cZ (sA g 7 ((8 * x1) + x2).toNatClampNeg (g.1 0 ((g.1 2 x1.toNatClampNeg) + x2).toNatClampNeg))) := dA_M_7 (g := g) (j := ((8 * x1) + x2).toNatClampNeg) (x := (g.1 0 ((g.1 2 x1.toNatClampNeg) + x2).toNatClampNeg)) hD
          generalize sA g 7 ((8 * x1) + x2).toNatClampNeg (g.1 0 ((g.1 2 x1.toNatClampNeg) + x2).toNatClampNeg) = g_76 at hw hP hD
          refine lv_iinc (k := 2) (v := x2 + 1) (lv' := [(2, .int (x2 + 1)), (0, .ref (a 0)), (1, .int x1)]) hx hb d_M_carryOut_77 hl rfl rfl (by decide) rfl (fun ls hl => ?_)
          refine lv_goto (tgt := 9) hx hb d_M_carryOut_80 (by decide) ?_
          exact ih_9 g_76 x1 (x2 + 1) _ _ _ hP hD hS (lv_sub hl [1, 2, 0] rfl) hw
        · replace hw := hw.2 hc
          refine lv_aload_n hx hb d_M_carryOut_29 rfl (lv_at hl 0 rfl) ?_
          refine va_get (D := D) (ci := 5) (C := R_M) (T := F_M) (N := 19) hx hb hts in_M hown hK hP 0 rfl rfl 0 (by decide) (hts _ tb_369) (fun _ h9 => h9) rfl d_M_carryOut_30 ?_
          refine lv_aload_n hx hb d_M_carryOut_33 rfl (lv_at hl 0 rfl) ?_
          refine va_get (D := D) (ci := 5) (C := R_M) (T := F_M) (N := 19) hx hb hts in_M hown hK hP 0 rfl rfl 3 (by decide) (hts _ tb_372) (fun _ h9 => h9) rfl d_M_carryOut_34 ?_
          refine lv_iload_n hx hb d_M_carryOut_37 rfl (lv_at hl 1 rfl) ?_
          refine va_iald hx hb hK hP 3 0 rfl rfl hw.1 d_M_carryOut_38 ?_
          replace hw := hw.2
          refine lv_iload_n hx hb d_M_carryOut_39 rfl (lv_at hl 2 rfl) ?_
          refine lv_iadd hx hb d_M_carryOut_40 ?_
          refine lv_aload_n hx hb d_M_carryOut_41 rfl (lv_at hl 0 rfl) ?_
          refine va_get (D := D) (ci := 5) (C := R_M) (T := F_M) (N := 19) hx hb hts in_M hown hK hP 0 rfl rfl 5 (by decide) (hts _ tb_374) (fun _ h9 => h9) rfl d_M_carryOut_42 ?_
          refine lv_iload_n hx hb d_M_carryOut_45 rfl (lv_at hl 1 rfl) ?_
          refine va_iald hx hb hK hP 5 0 rfl rfl hw.1 d_M_carryOut_46 ?_
          replace hw := hw.2
          refine lv_iload_n hx hb d_M_carryOut_47 rfl (lv_at hl 2 rfl) ?_
          refine lv_iadd hx hb d_M_carryOut_48 ?_
          refine va_iast hx hb hK hP hD hS 1 0 rfl rfl hw.1 d_M_carryOut_49 (fun H locs hP hD hS => ?_)
          replace hw := hw.2
          have hP : va_P D cls_ (wM a cI cZ (sA g 0 ((g.1 2 x1.toNatClampNeg) + x2).toNatClampNeg ((g.1 4 x1.toNatClampNeg) + x2))) H := pA_M_0 (g := g) (j := ((g.1 2 x1.toNatClampNeg) + x2).toNatClampNeg) (x := ((g.1 4 x1.toNatClampNeg) + x2)) hP
          have hD : va_D A (wM a cI cZ (sA g 0 ((g.1 2 x1.toNatClampNeg) + x2).toNatClampNeg ((g.1 4 x1.toNatClampNeg) + x2))) := dA_M_0 (g := g) (j := ((g.1 2 x1.toNatClampNeg) + x2).toNatClampNeg) (x := ((g.1 4 x1.toNatClampNeg) + x2)) hD
          generalize sA g 0 ((g.1 2 x1.toNatClampNeg) + x2).toNatClampNeg ((g.1 4 x1.toNatClampNeg) + x2) = g_49 at hw hP hD
          refine lv_goto (tgt := 77) hx hb d_M_carryOut_50 (by decide) ?_
          refine lv_iinc (k := 2) (v := x2 + 1) (lv' := [(2, .int (x2 + 1)), (0, .ref (a 0)), (1, .int x1)]) hx hb d_M_carryOut_77 hl rfl rfl (by decide) rfl (fun ls hl => ?_)
          refine lv_goto (tgt := 9) hx hb d_M_carryOut_80 (by decide) ?_
          exact ih_9 g_49 x1 (x2 + 1) _ _ _ hP hD hS (lv_sub hl [1, 2, 0] rfl) hw
  unfold wp_M_carryOut at hw
  refine lv_aload_n hx hb d_M_carryOut_0 rfl (lv_at hl 0 rfl) ?_
  refine va_get (D := D) (ci := 5) (C := R_M) (T := F_M) (N := 19) hx hb hts in_M hown hK hP 0 rfl rfl 7 (by decide) (hts _ tb_376) (fun _ h9 => h9) rfl d_M_carryOut_1 ?_
  refine lv_iload_n hx hb d_M_carryOut_4 rfl (lv_at hl 1 rfl) ?_
  refine lv_iconst (v := 2) hx hb d_M_carryOut_5 (by decide) ?_
  refine va_iast hx hb hK hP hD hS 7 0 rfl rfl hw.1 d_M_carryOut_6 (fun H locs hP hD hS => ?_)
  replace hw := hw.2
  have hP : va_P D cls_ (wM a cI cZ (sA g 6 x1.toNatClampNeg 2)) H := pA_M_6 (g := g) (j := x1.toNatClampNeg) (x := 2) hP
  have hD : va_D A (wM a cI cZ (sA g 6 x1.toNatClampNeg 2)) := dA_M_6 (g := g) (j := x1.toNatClampNeg) (x := 2) hD
  generalize sA g 6 x1.toNatClampNeg 2 = g_6 at hw hP hD
  refine lv_iconst (v := 0) hx hb d_M_carryOut_7 (by decide) ?_
  refine lv_istore_n (lv' := [(2, .int 0), (0, .ref (a 0)), (1, .int x1)]) hx hb d_M_carryOut_8 rfl hl (by decide) rfl (fun ls hl => ?_)
  obtain ⟨n, hw⟩ := hw
  exact k_9 n g_6 x1 0 _ _ _ hP hD hS (lv_sub hl [1, 2, 0] rfl) hw
set_option maxHeartbeats 4000000 in
set_option maxRecDepth 100000 in
theorem c_M_dispatch (l : Launch) (D : va_G) (a : Nat → Nat) (cI cZ : ClassId) (sz : Nat) (g : St) (Q : Int32 → St → Prop) (hw : wp_M_dispatch g Q) : MT_i l y_M_dispatch b_M_dispatch 4 rm_M_dispatch (wM a cI cZ) D (ty_ cI cZ) sz g [.ref (a 0)] Q := by
  refine MTi_of (by decide +kernel) (Nat.le_of_ble_eq_true rfl) ?_
  intro p e s m args below meth c A Qt ls hx hb hml hts hown hN hK hP hD hA hl hret
  have hS : va_S A s.heap s.heap [] := va_S.rf
  have hl : lv_has ls 4 [(0, .ref (a 0))] := hl
  have k_94 : ∀ (n : Nat) (g : St) (x1 : Int32) (x2 : Int32) (x3 : Int32) (H : Heap) (locs : List Loc) (ls : Array Slot), va_P D cls_ (wM a cI cZ g) H → va_D A (wM a cI cZ g) → va_S A s.heap H locs → lv_has ls 4 [(0, .ref (a 0)), (1, .int x1), (2, .int x2), (3, .int x3)] → wl_M_dispatch_94 Q n g x1 x2 x3 → W p l e rm_M_dispatch s m args below meth c H locs 0 0 Qt (F0 m 94 ls []) := by
    intro n
    induction n with
    | zero => intro g x1 x2 x3 H locs ls hP hD hS hl hw; exact False.elim hw
    | succ n_94 ih_94 =>
      intro g x1 x2 x3 H locs ls hP hD hS hl hw
      unfold wl_M_dispatch_94 at hw
      refine lv_iload_n hx hb d_M_dispatch_94 rfl (lv_at hl 3 rfl) ?_
      refine lv_aload_n hx hb d_M_dispatch_95 rfl (lv_at hl 0 rfl) ?_
      refine va_get (D := D) (ci := 5) (C := R_M) (T := F_M) (N := 19) hx hb hts in_M hown hK hP 0 rfl rfl 1 (by decide) (hts _ tb_370) (fun _ h9 => h9) rfl d_M_dispatch_96 ?_
      refine lv_icmp_ge (tgt := 127) hx hb d_M_dispatch_99 (by decide) (fun hc => ?_) (fun hc => ?_)
      · replace hw := hw.1 hc
        refine lv_iload_n hx hb d_M_dispatch_127 rfl (lv_at hl 2 rfl) ?_
        exact hret _ _ _ _ _ _ hw hP hD hS d_M_dispatch_128
      · replace hw := hw.2 hc
        refine lv_aload_n hx hb d_M_dispatch_102 rfl (lv_at hl 0 rfl) ?_
        refine va_get (D := D) (ci := 5) (C := R_M) (T := F_M) (N := 19) hx hb hts in_M hown hK hP 0 rfl rfl 6 (by decide) (hts _ tb_375) (fun _ h9 => h9) rfl d_M_dispatch_103 ?_
        refine lv_iload_n hx hb d_M_dispatch_106 rfl (lv_at hl 3 rfl) ?_
        refine va_iald hx hb hK hP 6 0 rfl rfl hw.1 d_M_dispatch_107 ?_
        replace hw := hw.2
        refine lv_iload_n hx hb d_M_dispatch_108 rfl (lv_at hl 1 rfl) ?_
        refine lv_icmp_ne (tgt := 121) hx hb d_M_dispatch_109 (by decide) (fun hc => ?_) (fun hc => ?_)
        · replace hw := hw.1 hc
          refine lv_iinc (k := 3) (v := x3 + 1) (lv' := [(3, .int (x3 + 1)), (0, .ref (a 0)), (1, .int x1), (2, .int x2)]) hx hb d_M_dispatch_121 hl rfl rfl (by decide) rfl (fun ls hl => ?_)
          refine lv_goto (tgt := 94) hx hb d_M_dispatch_124 (by decide) ?_
          exact ih_94 g x1 x2 (x3 + 1) _ _ _ hP hD hS (lv_sub hl [1, 2, 3, 0] rfl) hw
        · replace hw := hw.2 hc
          refine lv_aload_n hx hb d_M_dispatch_112 rfl (lv_at hl 0 rfl) ?_
          refine lv_iload_n hx hb d_M_dispatch_113 rfl (lv_at hl 3 rfl) ?_
          refine aft_v (va_runV (As := [.int x3]) (rest := []) ⟨hx, hb, hml, hown, hts⟩ (c_M_carryOut l D a cI cZ _ g x3 _ hw) ⟨(callB_of 1 hts good_M_carryOut rfl rfl rfl (hts _ tb_6) (hts _ tb_504) hd_M_carryOut ⟨Nat.le_of_ble_eq_true rfl, Nat.le_of_ble_eq_true rfl⟩), hts _ tb_506, hts _ ts_39⟩ (preV 0 5 hP hD hK hN rfl rfl) rfl rfl hl.1 rfl (lv_room (Nat.le_of_ble_eq_true rfl)) d_M_dispatch_114 ⟨Nat.zero_le _, Nat.zero_le _⟩) hD hS hA hK (fun u114 H locs hw hP hD hS => ?_)
          refine lv_iload_n hx hb d_M_dispatch_117 rfl (lv_at hl 2 rfl) ?_
          refine lv_iconst (v := 1) hx hb d_M_dispatch_118 (by decide) ?_
          refine lv_iadd hx hb d_M_dispatch_119 ?_
          refine lv_istore_n (lv' := [(2, .int (x2 + 1)), (0, .ref (a 0)), (1, .int x1), (3, .int x3)]) hx hb d_M_dispatch_120 rfl hl (by decide) rfl (fun ls hl => ?_)
          refine lv_iinc (k := 3) (v := x3 + 1) (lv' := [(3, .int (x3 + 1)), (2, .int (x2 + 1)), (0, .ref (a 0)), (1, .int x1)]) hx hb d_M_dispatch_121 hl rfl rfl (by decide) rfl (fun ls hl => ?_)
          refine lv_goto (tgt := 94) hx hb d_M_dispatch_124 (by decide) ?_
          exact ih_94 u114 x1 (x2 + 1) (x3 + 1) _ _ _ hP hD hS (lv_sub hl [2, 3, 1, 0] rfl) hw
  have k_70 : ∀ (g : St) (x1 : Int32) (H : Heap) (locs : List Loc) (ls : Array Slot), va_P D cls_ (wM a cI cZ g) H → va_D A (wM a cI cZ g) → va_S A s.heap H locs → lv_has ls 4 [(0, .ref (a 0)), (1, .int x1)] → wb_M_dispatch_70 Q g x1 → W p l e rm_M_dispatch s m args below meth c H locs 0 0 Qt (F0 m 70 ls []) := by
    intro g x1 H locs ls hP hD hS hl hw
    unfold wb_M_dispatch_70 at hw
    refine lv_aload_n hx hb d_M_dispatch_70 rfl (lv_at hl 0 rfl) ?_
    refine lv_aload_n hx hb d_M_dispatch_71 rfl (lv_at hl 0 rfl) ?_
    refine lv_iload_n hx hb d_M_dispatch_72 rfl (lv_at hl 1 rfl) ?_
    refine aft_i (va_runV (As := [.int x1]) (rest := [.ref (a 0)]) ⟨hx, hb, hml, hown, hts⟩ (c_M_start l D a cI cZ _ g x1 _ hw) ⟨(callB_of 1 hts good_M_start rfl rfl rfl (hts _ tb_6) (hts _ tb_459) hd_M_start ⟨Nat.le_of_ble_eq_true rfl, Nat.le_of_ble_eq_true rfl⟩), hts _ tb_461, hts _ ts_34⟩ (preV 0 5 hP hD hK hN rfl rfl) rfl rfl hl.1 rfl (lv_room (Nat.le_of_ble_eq_true rfl)) d_M_dispatch_73 ⟨Nat.zero_le _, Nat.zero_le _⟩) hD hS hA hK (fun r73 u73 H locs hw hP hD hS => ?_)
    refine lv_aload_n hx hb d_M_dispatch_76 rfl (lv_at hl 0 rfl) ?_
    refine lv_iload_n hx hb d_M_dispatch_77 rfl (lv_at hl 1 rfl) ?_
    refine aft_i (va_runV (As := [.int x1]) (rest := [.int r73, .ref (a 0)]) ⟨hx, hb, hml, hown, hts⟩ (c_M_length l D a cI cZ _ u73 x1 _ hw) ⟨(callB_of 1 hts good_M_length rfl rfl rfl (hts _ tb_6) (hts _ tb_455) hd_M_length ⟨Nat.le_of_ble_eq_true rfl, Nat.le_of_ble_eq_true rfl⟩), hts _ tb_457, hts _ ts_33⟩ (preV 0 5 hP hD hK hN rfl rfl) rfl rfl hl.1 rfl (lv_room (Nat.le_of_ble_eq_true rfl)) d_M_dispatch_78 ⟨Nat.zero_le _, Nat.zero_le _⟩) hD hS hA hK (fun r78 u78 H locs hw hP hD hS => ?_)
    refine lv_iadd hx hb d_M_dispatch_81 ?_
    refine va_put (v := .int (r73 + r78)) (ty := .int) (D := D) (ci := 5) (C := R_M) (T := F_M) (N := 19) hx hb hts in_M t_M t_M_ok n_M hown hK hP hD hS 0 rfl rfl 14 (by decide) (hts _ tb_383) (fun _ h9 => h9) rfl (by decide +kernel) rfl rfl (Nat.le_of_ble_eq_true rfl) d_M_dispatch_82 (fun H locs hP hD hS => ?_)
    have hP : va_P D cls_ (wM a cI cZ (sI u78 3 (r73 + r78))) H := pI_M_3 (g := u78) (v := r73 + r78) hP
    have hD : va_D A (wM a cI cZ (sI u78 3 (r73 + r78))) := dI_M_3 (g := u78) (v := r73 + r78) hD
    generalize sI u78 3 (r73 + r78) = g_82 at hw hP hD
    refine lv_aload_n hx hb d_M_dispatch_85 rfl (lv_at hl 0 rfl) ?_
    refine lv_iload_n hx hb d_M_dispatch_86 rfl (lv_at hl 1 rfl) ?_
    refine va_put (v := .int x1) (ty := .int) (D := D) (ci := 5) (C := R_M) (T := F_M) (N := 19) hx hb hts in_M t_M t_M_ok n_M hown hK hP hD hS 0 rfl rfl 18 (by decide) (hts _ tb_387) (fun _ h9 => h9) rfl (by decide +kernel) rfl rfl (Nat.le_of_ble_eq_true rfl) d_M_dispatch_87 (fun H locs hP hD hS => ?_)
    have hP : va_P D cls_ (wM a cI cZ (sI g_82 7 x1)) H := pI_M_7 (g := g_82) (v := x1) hP
    have hD : va_D A (wM a cI cZ (sI g_82 7 x1)) := dI_M_7 (g := g_82) (v := x1) hD
    generalize sI g_82 7 x1 = g_87 at hw hP hD
    refine lv_iconst (v := 0) hx hb d_M_dispatch_90 (by decide) ?_
    refine lv_istore_n (lv' := [(2, .int 0), (0, .ref (a 0)), (1, .int x1)]) hx hb d_M_dispatch_91 rfl hl (by decide) rfl (fun ls hl => ?_)
    refine lv_iconst (v := 0) hx hb d_M_dispatch_92 (by decide) ?_
    refine lv_istore_n (lv' := [(3, .int 0), (2, .int 0), (0, .ref (a 0)), (1, .int x1)]) hx hb d_M_dispatch_93 rfl hl (by decide) rfl (fun ls hl => ?_)
    obtain ⟨n, hw⟩ := hw
    exact k_94 n g_87 x1 0 0 _ _ _ hP hD hS (lv_sub hl [2, 3, 1, 0] rfl) hw
  have k_47 : ∀ (g : St) (z0 : Int32) (H : Heap) (locs : List Loc) (ls : Array Slot), va_P D cls_ (wM a cI cZ g) H → va_D A (wM a cI cZ g) → va_S A s.heap H locs → lv_has ls 4 [(0, .ref (a 0))] → wb_M_dispatch_47 Q g z0 → W p l e rm_M_dispatch s m args below meth c H locs 0 0 Qt (F0 m 47 ls [.int z0]) := by
    intro g z0 H locs ls hP hD hS hl hw
    unfold wb_M_dispatch_47 at hw
    refine lv_istore_n (lv' := [(1, .int z0), (0, .ref (a 0))]) hx hb d_M_dispatch_47 rfl hl (by decide) rfl (fun ls hl => ?_)
    refine lv_iload_n hx hb d_M_dispatch_48 rfl (lv_at hl 0 rfl) ?_
    refine lv_if_lt (tgt := 65) hx hb d_M_dispatch_49 (by decide) (fun hc => ?_) (fun hc => ?_)
    · replace hw := hw.1 hc
      refine lv_aload_n hx hb d_M_dispatch_65 rfl (lv_at hl 1 rfl) ?_
      refine aft_i (va_runV (As := []) (rest := []) ⟨hx, hb, hml, hown, hts⟩ (c_M_fresh l D a cI cZ _ g _ hw) ⟨(callB_of 0 hts good_M_fresh rfl rfl rfl (hts _ tb_6) (hts _ tb_492) hd_M_fresh ⟨Nat.le_of_ble_eq_true rfl, Nat.le_of_ble_eq_true rfl⟩), hts _ tb_494, hts _ ts_37⟩ (preV 0 5 hP hD hK hN rfl rfl) rfl rfl hl.1 rfl (lv_room (Nat.le_of_ble_eq_true rfl)) d_M_dispatch_66 ⟨Nat.zero_le _, Nat.zero_le _⟩) hD hS hA hK (fun r66 u66 H locs hw hP hD hS => ?_)
      refine lv_istore_n (lv' := [(1, .int r66), (0, .ref (a 0))]) hx hb d_M_dispatch_69 rfl hl (by decide) rfl (fun ls hl => ?_)
      exact k_70 u66 r66 _ _ _ hP hD hS (lv_sub hl [1, 0] rfl) hw
    · replace hw := hw.2 hc
      refine lv_aload_n hx hb d_M_dispatch_52 rfl (lv_at hl 1 rfl) ?_
      refine lv_aload_n hx hb d_M_dispatch_53 rfl (lv_at hl 1 rfl) ?_
      refine va_get (D := D) (ci := 5) (C := R_M) (T := F_M) (N := 19) hx hb hts in_M hown hK hP 0 rfl rfl 16 (by decide) (hts _ tb_385) (fun _ h9 => h9) rfl d_M_dispatch_54 ?_
      refine lv_iconst (v := 1) hx hb d_M_dispatch_57 (by decide) ?_
      refine lv_iadd hx hb d_M_dispatch_58 ?_
      refine va_put (v := .int ((g.2.1 5) + 1)) (ty := .int) (D := D) (ci := 5) (C := R_M) (T := F_M) (N := 19) hx hb hts in_M t_M t_M_ok n_M hown hK hP hD hS 0 rfl rfl 16 (by decide) (hts _ tb_385) (fun _ h9 => h9) rfl (by decide +kernel) rfl rfl (Nat.le_of_ble_eq_true rfl) d_M_dispatch_59 (fun H locs hP hD hS => ?_)
      have hP : va_P D cls_ (wM a cI cZ (sI g 5 ((g.2.1 5) + 1))) H := pI_M_5 (g := g) (v := (g.2.1 5) + 1) hP
      have hD : va_D A (wM a cI cZ (sI g 5 ((g.2.1 5) + 1))) := dI_M_5 (g := g) (v := (g.2.1 5) + 1) hD
      generalize sI g 5 ((g.2.1 5) + 1) = g_59 at hw hP hD
      refine lv_goto (tgt := 70) hx hb d_M_dispatch_62 (by decide) ?_
      exact k_70 g_59 z0 _ _ _ hP hD hS (lv_sub hl [1, 0] rfl) hw
  unfold wp_M_dispatch at hw
  refine lv_aload_n hx hb d_M_dispatch_0 rfl (lv_at hl 0 rfl) ?_
  refine lv_iconst (v := 0) hx hb d_M_dispatch_1 (by decide) ?_
  refine aft_i (va_runV (As := [.int 0]) (rest := []) ⟨hx, hb, hml, hown, hts⟩ (c_M_waiting l D a cI cZ _ g 0 _ hw) ⟨(callB_of 1 hts good_M_waiting rfl rfl rfl (hts _ tb_6) (hts _ tb_435) hd_M_waiting ⟨Nat.le_of_ble_eq_true rfl, Nat.le_of_ble_eq_true rfl⟩), hts _ tb_436, hts _ tb_437⟩ (preV 0 5 hP hD hK hN rfl rfl) rfl rfl hl.1 rfl (lv_room (Nat.le_of_ble_eq_true rfl)) d_M_dispatch_2 ⟨Nat.zero_le _, Nat.zero_le _⟩) hD hS hA hK (fun r2 u2 H locs hw hP hD hS => ?_)
  refine lv_aload_n hx hb d_M_dispatch_5 rfl (lv_at hl 0 rfl) ?_
  refine lv_iconst (v := 1) hx hb d_M_dispatch_6 (by decide) ?_
  refine aft_i (va_runV (As := [.int 1]) (rest := [.int r2]) ⟨hx, hb, hml, hown, hts⟩ (c_M_waiting l D a cI cZ _ u2 1 _ hw) ⟨(callB_of 1 hts good_M_waiting rfl rfl rfl (hts _ tb_6) (hts _ tb_435) hd_M_waiting ⟨Nat.le_of_ble_eq_true rfl, Nat.le_of_ble_eq_true rfl⟩), hts _ tb_436, hts _ tb_437⟩ (preV 0 5 hP hD hK hN rfl rfl) rfl rfl hl.1 rfl (lv_room (Nat.le_of_ble_eq_true rfl)) d_M_dispatch_7 ⟨Nat.zero_le _, Nat.zero_le _⟩) hD hS hA hK (fun r7 u7 H locs hw hP hD hS => ?_)
  refine lv_iadd hx hb d_M_dispatch_10 ?_
  refine lv_if_ne (tgt := 16) hx hb d_M_dispatch_11 (by decide) (fun hc => ?_) (fun hc => ?_)
  · replace hw := hw.1 hc
    refine lv_aload_n hx hb d_M_dispatch_16 rfl (lv_at hl 0 rfl) ?_
    refine va_get (D := D) (ci := 5) (C := R_M) (T := F_M) (N := 19) hx hb hts in_M hown hK hP 0 rfl rfl 16 (by decide) (hts _ tb_385) (fun _ h9 => h9) rfl d_M_dispatch_17 ?_
    refine lv_if_le (tgt := 46) hx hb d_M_dispatch_20 (by decide) (fun hc => ?_) (fun hc => ?_)
    · replace hw := hw.1 hc
      refine lv_iconst (v := (-1)) hx hb d_M_dispatch_46 (by decide) ?_
      exact k_47 u7 (-1) _ _ _ hP hD hS (lv_sub hl [0] rfl) hw
    · replace hw := hw.2 hc
      refine lv_aload_n hx hb d_M_dispatch_23 rfl (lv_at hl 0 rfl) ?_
      refine va_get (D := D) (ci := 5) (C := R_M) (T := F_M) (N := 19) hx hb hts in_M hown hK hP 0 rfl rfl 16 (by decide) (hts _ tb_385) (fun _ h9 => h9) rfl d_M_dispatch_24 ?_
      refine lv_iconst (v := 4) hx hb d_M_dispatch_27 (by decide) ?_
      refine lv_icmp_ge (tgt := 46) hx hb d_M_dispatch_28 (by decide) (fun hc => ?_) (fun hc => ?_)
      · replace hw := hw.1 hc
        refine lv_iconst (v := (-1)) hx hb d_M_dispatch_46 (by decide) ?_
        exact k_47 u7 (-1) _ _ _ hP hD hS (lv_sub hl [0] rfl) hw
      · replace hw := hw.2 hc
        refine lv_aload_n hx hb d_M_dispatch_31 rfl (lv_at hl 0 rfl) ?_
        refine lv_aload_n hx hb d_M_dispatch_32 rfl (lv_at hl 0 rfl) ?_
        refine va_get (D := D) (ci := 5) (C := R_M) (T := F_M) (N := 19) hx hb hts in_M hown hK hP 0 rfl rfl 15 (by decide) (hts _ tb_384) (fun _ h9 => h9) rfl d_M_dispatch_33 ?_
        refine lv_aload_n hx hb d_M_dispatch_36 rfl (lv_at hl 0 rfl) ?_
        refine va_get (D := D) (ci := 5) (C := R_M) (T := F_M) (N := 19) hx hb hts in_M hown hK hP 0 rfl rfl 14 (by decide) (hts _ tb_383) (fun _ h9 => h9) rfl d_M_dispatch_37 ?_
        refine aft_i (va_runV (As := [.int (u7.2.1 4), .int (u7.2.1 3)]) (rest := []) ⟨hx, hb, hml, hown, hts⟩ (c_M_sweep l D a cI cZ _ u7 (u7.2.1 4) (u7.2.1 3) _ hw) ⟨(callB_of 2 hts good_M_sweep rfl rfl rfl (hts _ tb_6) (hts _ tb_484) hd_M_sweep ⟨Nat.le_of_ble_eq_true rfl, Nat.le_of_ble_eq_true rfl⟩), hts _ tb_486, hts _ ts_35⟩ (preV 0 5 hP hD hK hN rfl rfl) rfl rfl hl.1 rfl (lv_room (Nat.le_of_ble_eq_true rfl)) d_M_dispatch_40 ⟨Nat.zero_le _, Nat.zero_le _⟩) hD hS hA hK (fun r40 u40 H locs hw hP hD hS => ?_)
        refine lv_goto (tgt := 47) hx hb d_M_dispatch_43 (by decide) ?_
        exact k_47 u40 r40 _ _ _ hP hD hS (lv_sub hl [0] rfl) hw
  · replace hw := hw.2 hc
    refine lv_iconst (v := 0) hx hb d_M_dispatch_14 (by decide) ?_
    exact hret _ _ _ _ _ _ hw hP hD hS d_M_dispatch_15
set_option maxHeartbeats 4000000 in
set_option maxRecDepth 100000 in
theorem c_M_isPart (l : Launch) (D : va_G) (a : Nat → Nat) (cI cZ : ClassId) (sz : Nat) (g : St) (x1 : Int32) (Q : Int32 → St → Prop) (hw : wp_M_isPart g x1 Q) : MT_z l y_M_isPart b_M_isPart 2 rm_M_isPart (wM a cI cZ) D (ty_ cI cZ) sz g [.ref (a 0), .int x1] Q := by
  refine MTz_of (by decide +kernel) (Nat.le_of_ble_eq_true rfl) ?_
  intro p e s m args below meth c A Qt ls hx hb hml hts hown hN hK hP hD hA hl hret
  have hS : va_S A s.heap s.heap [] := va_S.rf
  have hl : lv_has ls 2 [(0, .ref (a 0)), (1, .int x1)] := hl
  unfold wp_M_isPart at hw
  refine lv_iload_n hx hb d_M_isPart_0 rfl (lv_at hl 1 rfl) ?_
  refine lv_if_lt (tgt := 16) hx hb d_M_isPart_1 (by decide) (fun hc => ?_) (fun hc => ?_)
  · replace hw := hw.1 hc
    refine lv_iconst (v := 0) hx hb d_M_isPart_16 (by decide) ?_
    exact hret _ _ _ _ _ _ rfl hw hP hD hS d_M_isPart_17
  · replace hw := hw.2 hc
    refine lv_iload_n hx hb d_M_isPart_4 rfl (lv_at hl 1 rfl) ?_
    refine lv_aload_n hx hb d_M_isPart_5 rfl (lv_at hl 0 rfl) ?_
    refine va_get (D := D) (ci := 5) (C := R_M) (T := F_M) (N := 19) hx hb hts in_M hown hK hP 0 rfl rfl 1 (by decide) (hts _ tb_370) (fun _ h9 => h9) rfl d_M_isPart_6 ?_
    refine lv_icmp_ge (tgt := 16) hx hb d_M_isPart_9 (by decide) (fun hc => ?_) (fun hc => ?_)
    · replace hw := hw.1 hc
      refine lv_iconst (v := 0) hx hb d_M_isPart_16 (by decide) ?_
      exact hret _ _ _ _ _ _ rfl hw hP hD hS d_M_isPart_17
    · replace hw := hw.2 hc
      refine lv_iconst (v := 1) hx hb d_M_isPart_12 (by decide) ?_
      refine lv_goto (tgt := 17) hx hb d_M_isPart_13 (by decide) ?_
      exact hret _ _ _ _ _ _ rfl hw hP hD hS d_M_isPart_17
set_option maxHeartbeats 4000000 in
set_option maxRecDepth 100000 in
theorem c_M_state (l : Launch) (D : va_G) (a : Nat → Nat) (cI cZ : ClassId) (sz : Nat) (g : St) (x1 : Int32) (Q : Int32 → St → Prop) (hw : wp_M_state g x1 Q) : MT_i l y_M_state b_M_state 2 rm_M_state (wM a cI cZ) D (ty_ cI cZ) sz g [.ref (a 0), .int x1] Q := by
  refine MTi_of (by decide +kernel) (Nat.le_of_ble_eq_true rfl) ?_
  intro p e s m args below meth c A Qt ls hx hb hml hts hown hN hK hP hD hA hl hret
  have hS : va_S A s.heap s.heap [] := va_S.rf
  have hl : lv_has ls 2 [(0, .ref (a 0)), (1, .int x1)] := hl
  unfold wp_M_state at hw
  refine lv_aload_n hx hb d_M_state_0 rfl (lv_at hl 0 rfl) ?_
  refine lv_iload_n hx hb d_M_state_1 rfl (lv_at hl 1 rfl) ?_
  refine aft_i (va_runV (As := [.int x1]) (rest := []) ⟨hx, hb, hml, hown, hts⟩ (c_M_isPart l D a cI cZ _ g x1 _ hw) ⟨(callB_of 1 hts good_M_isPart rfl rfl rfl (hts _ tb_6) (hts _ tb_512) hd_M_isPart ⟨Nat.le_of_ble_eq_true rfl, Nat.le_of_ble_eq_true rfl⟩), hts _ tb_514, hts _ ts_40⟩ (preV 0 5 hP hD hK hN rfl rfl) rfl rfl hl.1 rfl (lv_room (Nat.le_of_ble_eq_true rfl)) d_M_state_2 ⟨Nat.zero_le _, Nat.zero_le _⟩) hD hS hA hK (fun r2 u2 H locs hw hP hD hS => ?_)
  refine lv_if_eq (tgt := 17) hx hb d_M_state_5 (by decide) (fun hc => ?_) (fun hc => ?_)
  · replace hw := hw.1 hc
    refine lv_iconst (v := 0) hx hb d_M_state_17 (by decide) ?_
    exact hret _ _ _ _ _ _ hw hP hD hS d_M_state_18
  · replace hw := hw.2 hc
    refine lv_aload_n hx hb d_M_state_8 rfl (lv_at hl 0 rfl) ?_
    refine va_get (D := D) (ci := 5) (C := R_M) (T := F_M) (N := 19) hx hb hts in_M hown hK hP 0 rfl rfl 7 (by decide) (hts _ tb_376) (fun _ h9 => h9) rfl d_M_state_9 ?_
    refine lv_iload_n hx hb d_M_state_12 rfl (lv_at hl 1 rfl) ?_
    refine va_iald hx hb hK hP 7 0 rfl rfl hw.1 d_M_state_13 ?_
    replace hw := hw.2
    refine lv_goto (tgt := 18) hx hb d_M_state_14 (by decide) ?_
    exact hret _ _ _ _ _ _ hw hP hD hS d_M_state_18
end
section
set_option maxHeartbeats 4000000 in
set_option maxRecDepth 100000 in
theorem c_M_value (l : Launch) (D : va_G) (a : Nat → Nat) (cI cZ : ClassId) (sz : Nat) (g : St) (x1 : Int32) (x2 : Int32) (Q : Int32 → St → Prop) (hw : wp_M_value g x1 x2 Q) : MT_i l y_M_value b_M_value 3 rm_M_value (wM a cI cZ) D (ty_ cI cZ) sz g [.ref (a 0), .int x1, .int x2] Q := by
  refine MTi_of (by decide +kernel) (Nat.le_of_ble_eq_true rfl) ?_
  intro p e s m args below meth c A Qt ls hx hb hml hts hown hN hK hP hD hA hl hret
  have hS : va_S A s.heap s.heap [] := va_S.rf
  have hl : lv_has ls 3 [(0, .ref (a 0)), (1, .int x1), (2, .int x2)] := hl
  unfold wp_M_value at hw
  refine lv_aload_n hx hb d_M_value_0 rfl (lv_at hl 0 rfl) ?_
  refine lv_iload_n hx hb d_M_value_1 rfl (lv_at hl 1 rfl) ?_
  refine aft_i (va_runV (As := [.int x1]) (rest := []) ⟨hx, hb, hml, hown, hts⟩ (c_M_isPart l D a cI cZ _ g x1 _ hw) ⟨(callB_of 1 hts good_M_isPart rfl rfl rfl (hts _ tb_6) (hts _ tb_512) hd_M_isPart ⟨Nat.le_of_ble_eq_true rfl, Nat.le_of_ble_eq_true rfl⟩), hts _ tb_514, hts _ ts_40⟩ (preV 0 5 hP hD hK hN rfl rfl) rfl rfl hl.1 rfl (lv_room (Nat.le_of_ble_eq_true rfl)) d_M_value_2 ⟨Nat.zero_le _, Nat.zero_le _⟩) hD hS hA hK (fun r2 u2 H locs hw hP hD hS => ?_)
  refine lv_if_eq (tgt := 55) hx hb d_M_value_5 (by decide) (fun hc => ?_) (fun hc => ?_)
  · replace hw := hw.1 hc
    refine lv_iconst (v := 0) hx hb d_M_value_55 (by decide) ?_
    exact hret _ _ _ _ _ _ hw hP hD hS d_M_value_56
  · replace hw := hw.2 hc
    refine lv_aload_n hx hb d_M_value_8 rfl (lv_at hl 0 rfl) ?_
    refine va_get (D := D) (ci := 5) (C := R_M) (T := F_M) (N := 19) hx hb hts in_M hown hK hP 0 rfl rfl 2 (by decide) (hts _ tb_371) (fun _ h9 => h9) rfl d_M_value_9 ?_
    refine lv_iload_n hx hb d_M_value_12 rfl (lv_at hl 1 rfl) ?_
    refine va_iald hx hb hK hP 2 0 rfl rfl hw.1 d_M_value_13 ?_
    replace hw := hw.2
    refine lv_if_ne (tgt := 55) hx hb d_M_value_14 (by decide) (fun hc => ?_) (fun hc => ?_)
    · replace hw := hw.1 hc
      refine lv_iconst (v := 0) hx hb d_M_value_55 (by decide) ?_
      exact hret _ _ _ _ _ _ hw hP hD hS d_M_value_56
    · replace hw := hw.2 hc
      refine lv_aload_n hx hb d_M_value_17 rfl (lv_at hl 0 rfl) ?_
      refine va_get (D := D) (ci := 5) (C := R_M) (T := F_M) (N := 19) hx hb hts in_M hown hK hP 0 rfl rfl 7 (by decide) (hts _ tb_376) (fun _ h9 => h9) rfl d_M_value_18 ?_
      refine lv_iload_n hx hb d_M_value_21 rfl (lv_at hl 1 rfl) ?_
      refine va_iald hx hb hK hP 7 0 rfl rfl hw.1 d_M_value_22 ?_
      replace hw := hw.2
      refine lv_iconst (v := 2) hx hb d_M_value_23 (by decide) ?_
      refine lv_icmp_ne (tgt := 55) hx hb d_M_value_24 (by decide) (fun hc => ?_) (fun hc => ?_)
      · replace hw := hw.1 hc
        refine lv_iconst (v := 0) hx hb d_M_value_55 (by decide) ?_
        exact hret _ _ _ _ _ _ hw hP hD hS d_M_value_56
      · replace hw := hw.2 hc
        refine lv_iload_n hx hb d_M_value_27 rfl (lv_at hl 2 rfl) ?_
        refine lv_if_lt (tgt := 55) hx hb d_M_value_28 (by decide) (fun hc => ?_) (fun hc => ?_)
        · replace hw := hw.1 hc
          refine lv_iconst (v := 0) hx hb d_M_value_55 (by decide) ?_
          exact hret _ _ _ _ _ _ hw hP hD hS d_M_value_56
        · replace hw := hw.2 hc
          refine lv_iload_n hx hb d_M_value_31 rfl (lv_at hl 2 rfl) ?_
          refine lv_aload_n hx hb d_M_value_32 rfl (lv_at hl 0 rfl) ?_
          refine va_get (D := D) (ci := 5) (C := R_M) (T := F_M) (N := 19) hx hb hts in_M hown hK hP 0 rfl rfl 4 (by decide) (hts _ tb_373) (fun _ h9 => h9) rfl d_M_value_33 ?_
          refine lv_iload_n hx hb d_M_value_36 rfl (lv_at hl 1 rfl) ?_
          refine va_iald hx hb hK hP 4 0 rfl rfl hw.1 d_M_value_37 ?_
          replace hw := hw.2
          refine lv_icmp_ge (tgt := 55) hx hb d_M_value_38 (by decide) (fun hc => ?_) (fun hc => ?_)
          · replace hw := hw.1 hc
            refine lv_iconst (v := 0) hx hb d_M_value_55 (by decide) ?_
            exact hret _ _ _ _ _ _ hw hP hD hS d_M_value_56
          · replace hw := hw.2 hc
            refine lv_aload_n hx hb d_M_value_41 rfl (lv_at hl 0 rfl) ?_
            refine va_get (D := D) (ci := 5) (C := R_M) (T := F_M) (N := 19) hx hb hts in_M hown hK hP 0 rfl rfl 8 (by decide) (hts _ tb_377) (fun _ h9 => h9) rfl d_M_value_42 ?_
            refine lv_bipush (v := 8) hx hb d_M_value_45 (by decide) ?_
            refine lv_iload_n hx hb d_M_value_47 rfl (lv_at hl 1 rfl) ?_
            refine lv_imul hx hb d_M_value_48 ?_
            refine lv_iload_n hx hb d_M_value_49 rfl (lv_at hl 2 rfl) ?_
            refine lv_iadd hx hb d_M_value_50 ?_
            refine va_iald hx hb hK hP 8 0 rfl rfl hw.1 d_M_value_51 ?_
            replace hw := hw.2
            refine lv_goto (tgt := 56) hx hb d_M_value_52 (by decide) ?_
            exact hret _ _ _ _ _ _ hw hP hD hS d_M_value_56
set_option maxHeartbeats 4000000 in
set_option maxRecDepth 100000 in
theorem c_M_sector (l : Launch) (D : va_G) (a : Nat → Nat) (cI cZ : ClassId) (sz : Nat) (g : St) (x1 : Int32) (Q : Int32 → St → Prop) (hw : wp_M_sector g x1 Q) : MT_i l y_M_sector b_M_sector 2 rm_M_sector (wM a cI cZ) D (ty_ cI cZ) sz g [.ref (a 0), .int x1] Q := by
  refine MTi_of (by decide +kernel) (Nat.le_of_ble_eq_true rfl) ?_
  intro p e s m args below meth c A Qt ls hx hb hml hts hown hN hK hP hD hA hl hret
  have hS : va_S A s.heap s.heap [] := va_S.rf
  have hl : lv_has ls 2 [(0, .ref (a 0)), (1, .int x1)] := hl
  unfold wp_M_sector at hw
  refine lv_iload_n hx hb d_M_sector_0 rfl (lv_at hl 1 rfl) ?_
  refine lv_if_lt (tgt := 10) hx hb d_M_sector_1 (by decide) (fun hc => ?_) (fun hc => ?_)
  · replace hw := hw.1 hc
    refine lv_iconst (v := 0) hx hb d_M_sector_10 (by decide) ?_
    refine lv_goto (tgt := 20) hx hb d_M_sector_11 (by decide) ?_
    exact hret _ _ _ _ _ _ hw hP hD hS d_M_sector_20
  · replace hw := hw.2 hc
    refine lv_iload_n hx hb d_M_sector_4 rfl (lv_at hl 1 rfl) ?_
    refine lv_bipush (v := 63) hx hb d_M_sector_5 (by decide) ?_
    refine lv_icmp_le (tgt := 14) hx hb d_M_sector_7 (by decide) (fun hc => ?_) (fun hc => ?_)
    · replace hw := hw.1 hc
      refine lv_aload_n hx hb d_M_sector_14 rfl (lv_at hl 0 rfl) ?_
      refine va_get (D := D) (ci := 5) (C := R_M) (T := F_M) (N := 19) hx hb hts in_M hown hK hP 0 rfl rfl 0 (by decide) (hts _ tb_369) (fun _ h9 => h9) rfl d_M_sector_15 ?_
      refine lv_iload_n hx hb d_M_sector_18 rfl (lv_at hl 1 rfl) ?_
      refine va_iald hx hb hK hP 1 0 rfl rfl hw.1 d_M_sector_19 ?_
      replace hw := hw.2
      exact hret _ _ _ _ _ _ hw hP hD hS d_M_sector_20
    · replace hw := hw.2 hc
      refine lv_iconst (v := 0) hx hb d_M_sector_10 (by decide) ?_
      refine lv_goto (tgt := 20) hx hb d_M_sector_11 (by decide) ?_
      exact hret _ _ _ _ _ _ hw hP hD hS d_M_sector_20
set_option maxHeartbeats 4000000 in
set_option maxRecDepth 100000 in
theorem c_M_requestOf (l : Launch) (D : va_G) (a : Nat → Nat) (cI cZ : ClassId) (sz : Nat) (g : St) (x1 : Int32) (Q : Int32 → St → Prop) (hw : wp_M_requestOf g x1 Q) : MT_i l y_M_requestOf b_M_requestOf 2 rm_M_requestOf (wM a cI cZ) D (ty_ cI cZ) sz g [.ref (a 0), .int x1] Q := by
  refine MTi_of (by decide +kernel) (Nat.le_of_ble_eq_true rfl) ?_
  intro p e s m args below meth c A Qt ls hx hb hml hts hown hN hK hP hD hA hl hret
  have hS : va_S A s.heap s.heap [] := va_S.rf
  have hl : lv_has ls 2 [(0, .ref (a 0)), (1, .int x1)] := hl
  unfold wp_M_requestOf at hw
  refine lv_aload_n hx hb d_M_requestOf_0 rfl (lv_at hl 0 rfl) ?_
  refine lv_iload_n hx hb d_M_requestOf_1 rfl (lv_at hl 1 rfl) ?_
  refine aft_i (va_runV (As := [.int x1]) (rest := []) ⟨hx, hb, hml, hown, hts⟩ (c_M_isPart l D a cI cZ _ g x1 _ hw) ⟨(callB_of 1 hts good_M_isPart rfl rfl rfl (hts _ tb_6) (hts _ tb_512) hd_M_isPart ⟨Nat.le_of_ble_eq_true rfl, Nat.le_of_ble_eq_true rfl⟩), hts _ tb_514, hts _ ts_40⟩ (preV 0 5 hP hD hK hN rfl rfl) rfl rfl hl.1 rfl (lv_room (Nat.le_of_ble_eq_true rfl)) d_M_requestOf_2 ⟨Nat.zero_le _, Nat.zero_le _⟩) hD hS hA hK (fun r2 u2 H locs hw hP hD hS => ?_)
  refine lv_if_eq (tgt := 27) hx hb d_M_requestOf_5 (by decide) (fun hc => ?_) (fun hc => ?_)
  · replace hw := hw.1 hc
    refine lv_iconst (v := (-1)) hx hb d_M_requestOf_27 (by decide) ?_
    exact hret _ _ _ _ _ _ hw hP hD hS d_M_requestOf_28
  · replace hw := hw.2 hc
    refine lv_aload_n hx hb d_M_requestOf_8 rfl (lv_at hl 0 rfl) ?_
    refine va_get (D := D) (ci := 5) (C := R_M) (T := F_M) (N := 19) hx hb hts in_M hown hK hP 0 rfl rfl 7 (by decide) (hts _ tb_376) (fun _ h9 => h9) rfl d_M_requestOf_9 ?_
    refine lv_iload_n hx hb d_M_requestOf_12 rfl (lv_at hl 1 rfl) ?_
    refine va_iald hx hb hK hP 7 0 rfl rfl hw.1 d_M_requestOf_13 ?_
    replace hw := hw.2
    refine lv_iconst (v := 1) hx hb d_M_requestOf_14 (by decide) ?_
    refine lv_icmp_ne (tgt := 27) hx hb d_M_requestOf_15 (by decide) (fun hc => ?_) (fun hc => ?_)
    · replace hw := hw.1 hc
      refine lv_iconst (v := (-1)) hx hb d_M_requestOf_27 (by decide) ?_
      exact hret _ _ _ _ _ _ hw hP hD hS d_M_requestOf_28
    · replace hw := hw.2 hc
      refine lv_aload_n hx hb d_M_requestOf_18 rfl (lv_at hl 0 rfl) ?_
      refine va_get (D := D) (ci := 5) (C := R_M) (T := F_M) (N := 19) hx hb hts in_M hown hK hP 0 rfl rfl 6 (by decide) (hts _ tb_375) (fun _ h9 => h9) rfl d_M_requestOf_19 ?_
      refine lv_iload_n hx hb d_M_requestOf_22 rfl (lv_at hl 1 rfl) ?_
      refine va_iald hx hb hK hP 6 0 rfl rfl hw.1 d_M_requestOf_23 ?_
      replace hw := hw.2
      refine lv_goto (tgt := 28) hx hb d_M_requestOf_24 (by decide) ?_
      exact hret _ _ _ _ _ _ hw hP hD hS d_M_requestOf_28
set_option maxHeartbeats 4000000 in
set_option maxRecDepth 100000 in
theorem c_M_about (l : Launch) (D : va_G) (a : Nat → Nat) (cI cZ : ClassId) (sz : Nat) (g : St) (x1 : Int32) (x2 : Int32) (Q : Int32 → St → Prop) (hw : wp_M_about g x1 x2 Q) : MT_i l y_M_about b_M_about 4 rm_M_about (wM a cI cZ) D (ty_ cI cZ) sz g [.ref (a 0), .int x1, .int x2] Q := by
  refine MTi_of (by decide +kernel) (Nat.le_of_ble_eq_true rfl) ?_
  intro p e s m args below meth c A Qt ls hx hb hml hts hown hN hK hP hD hA hl hret
  have hS : va_S A s.heap s.heap [] := va_S.rf
  have hl : lv_has ls 4 [(0, .ref (a 0)), (1, .int x1), (2, .int x2)] := hl
  unfold wp_M_about at hw
  refine lv_aload_n hx hb d_M_about_0 rfl (lv_at hl 0 rfl) ?_
  refine lv_iload_n hx hb d_M_about_1 rfl (lv_at hl 1 rfl) ?_
  refine aft_i (va_runV (As := [.int x1]) (rest := []) ⟨hx, hb, hml, hown, hts⟩ (c_M_requestOf l D a cI cZ _ g x1 _ hw) ⟨(callB_of 1 hts good_M_requestOf rfl rfl rfl (hts _ tb_6) (hts _ tb_534) hd_M_requestOf ⟨Nat.le_of_ble_eq_true rfl, Nat.le_of_ble_eq_true rfl⟩), hts _ tb_527, hts _ tb_528⟩ (preV 0 5 hP hD hK hN rfl rfl) rfl rfl hl.1 rfl (lv_room (Nat.le_of_ble_eq_true rfl)) d_M_about_2 ⟨Nat.zero_le _, Nat.zero_le _⟩) hD hS hA hK (fun r2 u2 H locs hw hP hD hS => ?_)
  refine lv_istore_n (lv' := [(3, .int r2), (0, .ref (a 0)), (1, .int x1), (2, .int x2)]) hx hb d_M_about_5 rfl hl (by decide) rfl (fun ls hl => ?_)
  refine lv_iload_n hx hb d_M_about_6 rfl (lv_at hl 0 rfl) ?_
  refine lv_if_lt (tgt := 19) hx hb d_M_about_7 (by decide) (fun hc => ?_) (fun hc => ?_)
  · replace hw := hw.1 hc
    refine lv_iconst (v := (-1)) hx hb d_M_about_19 (by decide) ?_
    exact hret _ _ _ _ _ _ hw hP hD hS d_M_about_20
  · replace hw := hw.2 hc
    refine lv_iload_n hx hb d_M_about_10 rfl (lv_at hl 3 rfl) ?_
    refine lv_if_lt (tgt := 19) hx hb d_M_about_11 (by decide) (fun hc => ?_) (fun hc => ?_)
    · replace hw := hw.1 hc
      refine lv_iconst (v := (-1)) hx hb d_M_about_19 (by decide) ?_
      exact hret _ _ _ _ _ _ hw hP hD hS d_M_about_20
    · replace hw := hw.2 hc
      refine lv_iload_n hx hb d_M_about_14 rfl (lv_at hl 3 rfl) ?_
      refine lv_iconst (v := 4) hx hb d_M_about_15 (by decide) ?_
      refine lv_icmp_le (tgt := 21) hx hb d_M_about_16 (by decide) (fun hc => ?_) (fun hc => ?_)
      · replace hw := hw.1 hc
        refine lv_iload_n hx hb d_M_about_21 rfl (lv_at hl 3 rfl) ?_
        refine lv_if_ne (tgt := 33) hx hb d_M_about_22 (by decide) (fun hc => ?_) (fun hc => ?_)
        · replace hw := hw.1 hc
          refine lv_iload_n hx hb d_M_about_33 rfl (lv_at hl 3 rfl) ?_
          refine lv_iconst (v := 1) hx hb d_M_about_34 (by decide) ?_
          refine lv_icmp_ne (tgt := 46) hx hb d_M_about_35 (by decide) (fun hc => ?_) (fun hc => ?_)
          · replace hw := hw.1 hc
            refine lv_iload_n hx hb d_M_about_46 rfl (lv_at hl 3 rfl) ?_
            refine lv_iconst (v := 2) hx hb d_M_about_47 (by decide) ?_
            refine lv_icmp_ne (tgt := 60) hx hb d_M_about_48 (by decide) (fun hc => ?_) (fun hc => ?_)
            · replace hw := hw.1 hc
              refine lv_iload_n hx hb d_M_about_60 rfl (lv_at hl 3 rfl) ?_
              refine lv_iconst (v := 3) hx hb d_M_about_61 (by decide) ?_
              refine lv_icmp_ne (tgt := 74) hx hb d_M_about_62 (by decide) (fun hc => ?_) (fun hc => ?_)
              · replace hw := hw.1 hc
                refine lv_aload_n hx hb d_M_about_74 rfl (lv_at hl 1 rfl) ?_
                refine va_get (D := D) (ci := 5) (C := R_M) (T := F_M) (N := 19) hx hb hts in_M hown hK hP 0 rfl rfl 2 (by decide) (hts _ tb_371) (fun _ h9 => h9) rfl d_M_about_75 ?_
                refine lv_iload_n hx hb d_M_about_78 rfl (lv_at hl 0 rfl) ?_
                refine va_iald hx hb hK hP 2 0 rfl rfl hw.1 d_M_about_79 ?_
                replace hw := hw.2
                exact hret _ _ _ _ _ _ hw hP hD hS d_M_about_80
              · replace hw := hw.2 hc
                refine lv_aload_n hx hb d_M_about_65 rfl (lv_at hl 1 rfl) ?_
                refine va_get (D := D) (ci := 5) (C := R_M) (T := F_M) (N := 19) hx hb hts in_M hown hK hP 0 rfl rfl 10 (by decide) (hts _ tb_379) (fun _ h9 => h9) rfl d_M_about_66 ?_
                refine lv_iload_n hx hb d_M_about_69 rfl (lv_at hl 0 rfl) ?_
                refine va_iald hx hb hK hP 10 0 rfl rfl hw.1 d_M_about_70 ?_
                replace hw := hw.2
                refine lv_goto (tgt := 80) hx hb d_M_about_71 (by decide) ?_
                exact hret _ _ _ _ _ _ hw hP hD hS d_M_about_80
            · replace hw := hw.2 hc
              refine lv_aload_n hx hb d_M_about_51 rfl (lv_at hl 1 rfl) ?_
              refine va_get (D := D) (ci := 5) (C := R_M) (T := F_M) (N := 19) hx hb hts in_M hown hK hP 0 rfl rfl 9 (by decide) (hts _ tb_378) (fun _ h9 => h9) rfl d_M_about_52 ?_
              refine lv_iload_n hx hb d_M_about_55 rfl (lv_at hl 0 rfl) ?_
              refine va_iald hx hb hK hP 9 0 rfl rfl hw.1 d_M_about_56 ?_
              replace hw := hw.2
              refine lv_goto (tgt := 80) hx hb d_M_about_57 (by decide) ?_
              exact hret _ _ _ _ _ _ hw hP hD hS d_M_about_80
          · replace hw := hw.2 hc
            refine lv_aload_n hx hb d_M_about_38 rfl (lv_at hl 1 rfl) ?_
            refine lv_iload_n hx hb d_M_about_39 rfl (lv_at hl 0 rfl) ?_
            refine aft_i (va_runV (As := [.int r2]) (rest := []) ⟨hx, hb, hml, hown, hts⟩ (c_M_length l D a cI cZ _ u2 r2 _ hw) ⟨(callB_of 1 hts good_M_length rfl rfl rfl (hts _ tb_6) (hts _ tb_455) hd_M_length ⟨Nat.le_of_ble_eq_true rfl, Nat.le_of_ble_eq_true rfl⟩), hts _ tb_457, hts _ ts_33⟩ (preV 0 5 hP hD hK hN rfl rfl) rfl rfl hl.1 rfl (lv_room (Nat.le_of_ble_eq_true rfl)) d_M_about_40 ⟨Nat.zero_le _, Nat.zero_le _⟩) hD hS hA hK (fun r40 u40 H locs hw hP hD hS => ?_)
            refine lv_goto (tgt := 80) hx hb d_M_about_43 (by decide) ?_
            exact hret _ _ _ _ _ _ hw hP hD hS d_M_about_80
        · replace hw := hw.2 hc
          refine lv_aload_n hx hb d_M_about_25 rfl (lv_at hl 1 rfl) ?_
          refine lv_iload_n hx hb d_M_about_26 rfl (lv_at hl 0 rfl) ?_
          refine aft_i (va_runV (As := [.int r2]) (rest := []) ⟨hx, hb, hml, hown, hts⟩ (c_M_start l D a cI cZ _ u2 r2 _ hw) ⟨(callB_of 1 hts good_M_start rfl rfl rfl (hts _ tb_6) (hts _ tb_459) hd_M_start ⟨Nat.le_of_ble_eq_true rfl, Nat.le_of_ble_eq_true rfl⟩), hts _ tb_461, hts _ ts_34⟩ (preV 0 5 hP hD hK hN rfl rfl) rfl rfl hl.1 rfl (lv_room (Nat.le_of_ble_eq_true rfl)) d_M_about_27 ⟨Nat.zero_le _, Nat.zero_le _⟩) hD hS hA hK (fun r27 u27 H locs hw hP hD hS => ?_)
          refine lv_goto (tgt := 80) hx hb d_M_about_30 (by decide) ?_
          exact hret _ _ _ _ _ _ hw hP hD hS d_M_about_80
      · replace hw := hw.2 hc
        refine lv_iconst (v := (-1)) hx hb d_M_about_19 (by decide) ?_
        exact hret _ _ _ _ _ _ hw hP hD hS d_M_about_20
set_option maxHeartbeats 4000000 in
set_option maxRecDepth 100000 in
theorem c_M_latest (l : Launch) (D : va_G) (a : Nat → Nat) (cI cZ : ClassId) (sz : Nat) (g : St) (Q : Int32 → St → Prop) (hw : wp_M_latest g Q) : MT_i l y_M_latest b_M_latest 1 rm_M_latest (wM a cI cZ) D (ty_ cI cZ) sz g [.ref (a 0)] Q := by
  refine MTi_of (by decide +kernel) (Nat.le_of_ble_eq_true rfl) ?_
  intro p e s m args below meth c A Qt ls hx hb hml hts hown hN hK hP hD hA hl hret
  have hS : va_S A s.heap s.heap [] := va_S.rf
  have hl : lv_has ls 1 [(0, .ref (a 0))] := hl
  unfold wp_M_latest at hw
  refine lv_aload_n hx hb d_M_latest_0 rfl (lv_at hl 0 rfl) ?_
  refine va_get (D := D) (ci := 5) (C := R_M) (T := F_M) (N := 19) hx hb hts in_M hown hK hP 0 rfl rfl 18 (by decide) (hts _ tb_387) (fun _ h9 => h9) rfl d_M_latest_1 ?_
  exact hret _ _ _ _ _ _ hw hP hD hS d_M_latest_4
set_option maxHeartbeats 4000000 in
set_option maxRecDepth 100000 in
theorem c_M_head (l : Launch) (D : va_G) (a : Nat → Nat) (cI cZ : ClassId) (sz : Nat) (g : St) (Q : Int32 → St → Prop) (hw : wp_M_head g Q) : MT_i l y_M_head b_M_head 1 rm_M_head (wM a cI cZ) D (ty_ cI cZ) sz g [.ref (a 0)] Q := by
  refine MTi_of (by decide +kernel) (Nat.le_of_ble_eq_true rfl) ?_
  intro p e s m args below meth c A Qt ls hx hb hml hts hown hN hK hP hD hA hl hret
  have hS : va_S A s.heap s.heap [] := va_S.rf
  have hl : lv_has ls 1 [(0, .ref (a 0))] := hl
  unfold wp_M_head at hw
  refine lv_aload_n hx hb d_M_head_0 rfl (lv_at hl 0 rfl) ?_
  refine va_get (D := D) (ci := 5) (C := R_M) (T := F_M) (N := 19) hx hb hts in_M hown hK hP 0 rfl rfl 14 (by decide) (hts _ tb_383) (fun _ h9 => h9) rfl d_M_head_1 ?_
  exact hret _ _ _ _ _ _ hw hP hD hS d_M_head_4
set_option maxHeartbeats 4000000 in
set_option maxRecDepth 100000 in
theorem c_M_now (l : Launch) (D : va_G) (a : Nat → Nat) (cI cZ : ClassId) (sz : Nat) (g : St) (Q : Int32 → St → Prop) (hw : wp_M_now g Q) : MT_i l y_M_now b_M_now 1 rm_M_now (wM a cI cZ) D (ty_ cI cZ) sz g [.ref (a 0)] Q := by
  refine MTi_of (by decide +kernel) (Nat.le_of_ble_eq_true rfl) ?_
  intro p e s m args below meth c A Qt ls hx hb hml hts hown hN hK hP hD hA hl hret
  have hS : va_S A s.heap s.heap [] := va_S.rf
  have hl : lv_has ls 1 [(0, .ref (a 0))] := hl
  unfold wp_M_now at hw
  refine lv_aload_n hx hb d_M_now_0 rfl (lv_at hl 0 rfl) ?_
  refine va_get (D := D) (ci := 5) (C := R_M) (T := F_M) (N := 19) hx hb hts in_M hown hK hP 0 rfl rfl 12 (by decide) (hts _ tb_381) (fun _ h9 => h9) rfl d_M_now_1 ?_
  exact hret _ _ _ _ _ _ hw hP hD hS d_M_now_4
set_option maxHeartbeats 4000000 in
set_option maxRecDepth 100000 in
theorem c_M_batch (l : Launch) (D : va_G) (a : Nat → Nat) (cI cZ : ClassId) (sz : Nat) (g : St) (Q : Int32 → St → Prop) (hw : wp_M_batch g Q) : MT_i l y_M_batch b_M_batch 1 rm_M_batch (wM a cI cZ) D (ty_ cI cZ) sz g [.ref (a 0)] Q := by
  refine MTi_of (by decide +kernel) (Nat.le_of_ble_eq_true rfl) ?_
  intro p e s m args below meth c A Qt ls hx hb hml hts hown hN hK hP hD hA hl hret
  have hS : va_S A s.heap s.heap [] := va_S.rf
  have hl : lv_has ls 1 [(0, .ref (a 0))] := hl
  unfold wp_M_batch at hw
  refine lv_bipush (v := 10) hx hb d_M_batch_0 (by decide) ?_
  refine lv_aload_n hx hb d_M_batch_2 rfl (lv_at hl 0 rfl) ?_
  refine va_get (D := D) (ci := 5) (C := R_M) (T := F_M) (N := 19) hx hb hts in_M hown hK hP 0 rfl rfl 17 (by decide) (hts _ tb_386) (fun _ h9 => h9) rfl d_M_batch_3 ?_
  refine lv_imul hx hb d_M_batch_6 ?_
  refine lv_iconst (v := 5) hx hb d_M_batch_7 (by decide) ?_
  refine lv_aload_n hx hb d_M_batch_8 rfl (lv_at hl 0 rfl) ?_
  refine va_get (D := D) (ci := 5) (C := R_M) (T := F_M) (N := 19) hx hb hts in_M hown hK hP 0 rfl rfl 15 (by decide) (hts _ tb_384) (fun _ h9 => h9) rfl d_M_batch_9 ?_
  refine lv_imul hx hb d_M_batch_12 ?_
  refine lv_iadd hx hb d_M_batch_13 ?_
  refine lv_aload_n hx hb d_M_batch_14 rfl (lv_at hl 0 rfl) ?_
  refine va_get (D := D) (ci := 5) (C := R_M) (T := F_M) (N := 19) hx hb hts in_M hown hK hP 0 rfl rfl 16 (by decide) (hts _ tb_385) (fun _ h9 => h9) rfl d_M_batch_15 ?_
  refine lv_iadd hx hb d_M_batch_18 ?_
  exact hret _ _ _ _ _ _ hw hP hD hS d_M_batch_19
end
section
def gE0 : St := (fun _ _ => 0, fun k => match k with | 5 => 50 | 6 => 500 | 10 => -1 | _ => 0, fun _ => 0)
def gM0 : St := (fun k => match k with | 10 => upd (upd (fun _ => 0) (0 : Int32).toNatClampNeg 50) (1 : Int32).toNatClampNeg 500 | _ => fun _ => 0, fun k => match k with | 7 => -1 | _ => 0, fun _ => 0)
abbrev rm_B_init : Room := { frames := 1, cells := 0, slots := 0, locals := 12 }
theorem good_B_init : GoodIn TB (.code y_B_init b_B_init 1 none :: TB) := good_of tb_113
theorem hd_B_init : y_B_init.cls ≠ "java/lang/invoke/MethodHandle" ∧ y_B_init.cls ≠ "java/lang/invoke/VarHandle" ∧ (parseMethodDescriptor y_B_init.desc).map (fun d => d.parameters.length) = some 0 := by decide +kernel
theorem d_B_init_0 : decode b_B_init 0 = .ok (.aload_n 0, 1) := by decide +kernel
theorem d_B_init_1 : decode b_B_init 1 = .ok (.invokespecial 3, 3) := by decide +kernel
theorem d_B_init_4 : decode b_B_init 4 = .ok (.aload_n 0, 1) := by decide +kernel
theorem d_B_init_5 : decode b_B_init 5 = .ok (.iconst 0, 1) := by decide +kernel
theorem d_B_init_6 : decode b_B_init 6 = .ok (.putfield 9, 3) := by decide +kernel
theorem d_B_init_9 : decode b_B_init 9 = .ok (.aload_n 0, 1) := by decide +kernel
theorem d_B_init_10 : decode b_B_init 10 = .ok (.iconst 0, 1) := by decide +kernel
theorem d_B_init_11 : decode b_B_init 11 = .ok (.putfield 15, 3) := by decide +kernel
theorem d_B_init_14 : decode b_B_init 14 = .ok (.aload_n 0, 1) := by decide +kernel
theorem d_B_init_15 : decode b_B_init 15 = .ok (.iconst 0, 1) := by decide +kernel
theorem d_B_init_16 : decode b_B_init 16 = .ok (.putfield 18, 3) := by decide +kernel
theorem d_B_init_19 : decode b_B_init 19 = .ok (.return_, 1) := by decide +kernel
set_option maxHeartbeats 4000000 in
set_option maxRecDepth 100000 in
theorem c_B_init (l : Launch) (D : va_G) (h0 sz : Nat) : Met l y_B_init (.code y_B_init b_B_init 1 none :: TB) rm_B_init (va_Pc [.ref h0] (fun U => U.heap.size = sz ∧ va_P D cls_ [(h0, .inr (0, [.int 0, .int 0, .int 0]))] U.heap ∧ va_K D cls_ [] U ∧ va_D (fun _ => True) [(h0, .inr (0, [.int 0, .int 0, .int 0]))] ∧ NW U)) (va_Qv (fun u : Unit => True) (fun u t => va_P D cls_ ([(h0, .inr (0, [.int 0, .int 0, .int 0]))]) t.heap ∧ va_K D cls_ ([]) t ∧ va_D (va_A [(h0, .inr (0, [.int 0, .int 0, .int 0]))] sz) ([(h0, .inr (0, [.int 0, .int 0, .int 0]))])) (va_A [(h0, .inr (0, [.int 0, .int 0, .int 0]))] sz)) 0 0 (va_A [(h0, .inr (0, [.int 0, .int 0, .int 0]))] sz) := by
  refine Met.ofW (cc := b_B_init) (maxL := 1) (ret := none) (by decide +kernel) rfl ?_
  intro p e s m args below meth c s₁ B hml hv
  obtain ⟨rfl, hsz, hP, hK, hD0, hN⟩ := hv
  have hx := B.exec
  have hb := B.bytes
  have hr := B.returns
  have hts0 := atoms_spec (ws := Cond.code y_B_init b_B_init 1 none :: TB) B.pre
  have hts : ∀ w ∈ TB, w.before _ s = true := fun w h => hts0 w (List.mem_cons_of_mem _ h)
  have hown : s.vm.findClass R_B = some m.cls := findClass_of_methodNamed B.named
  have hlocks := B.notSynchronized
  have hin : meth.name = "<init>" := (name_of_methodNamed B.named B.method).1
  subst hsz
  have hD := hD0.self (sz := s.heap.size)
  generalize hAe : va_A [(h0, .inr (0, [.int 0, .int 0, .int 0]))] s.heap.size = A at hD ⊢
  have hA : ∀ q : Nat, s.heap.size ≤ q → A q := fun q h => by rw [← hAe]; exact Or.inr h
  have hS : va_S A s.heap s.heap [] := va_S.rf
  have hl := lv_entry ([.ref h0]) (n := 1) (Nat.le_of_ble_eq_true rfl)
  rw [lg_entry_eq]
  generalize (lg_sl ([.ref h0]) ++ List.replicate (1 - (lg_sl ([.ref h0])).length) Slot.unset).toArray = ls at hl ⊢
  have hl : lv_has ls 1 [(0, .ref h0)] := hl
  refine lv_aload_n hx hb d_B_init_0 rfl (lv_at hl 0 rfl) ?_
  refine W.objInit hx hb hown (hts _ tb_114) (hts _ tb_15) (hts _ tb_16) rfl (by rw [hml]; exact hl.1) rfl d_B_init_1 (Nat.le_of_ble_eq_true rfl) (Nat.le_of_ble_eq_true rfl) ?_
  refine W.eq (g2 := F0 m 4 ls []) rfl ?_
  refine lv_aload_n hx hb d_B_init_4 rfl (lv_at hl 0 rfl) ?_
  refine lv_iconst (v := 0) hx hb d_B_init_5 (by decide) ?_
  refine va_put (D := D) (ci := 0) (v := .int 0) (ty := .int) (C := R_B) (T := F_B) (N := 3) hx hb hts in_B t_B t_B_ok n_B hown hK hP hD hS 0 rfl rfl 0 (by decide) (hts _ tb_115) (fun _ h9 => h9) rfl (by decide +kernel) rfl rfl (Nat.le_of_ble_eq_true rfl) d_B_init_6 (fun H locs hP hD hS => ?_)
  have hP : va_P D cls_ [(h0, .inr (0, [.int 0, .int 0, .int 0]))] H := hP
  have hD : va_D A [(h0, .inr (0, [.int 0, .int 0, .int 0]))] := hD
  refine lv_aload_n hx hb d_B_init_9 rfl (lv_at hl 0 rfl) ?_
  refine lv_iconst (v := 0) hx hb d_B_init_10 (by decide) ?_
  refine va_put (D := D) (ci := 0) (v := .int 0) (ty := .int) (C := R_B) (T := F_B) (N := 3) hx hb hts in_B t_B t_B_ok n_B hown hK hP hD hS 0 rfl rfl 1 (by decide) (hts _ tb_117) (fun _ h9 => h9) rfl (by decide +kernel) rfl rfl (Nat.le_of_ble_eq_true rfl) d_B_init_11 (fun H locs hP hD hS => ?_)
  have hP : va_P D cls_ [(h0, .inr (0, [.int 0, .int 0, .int 0]))] H := hP
  have hD : va_D A [(h0, .inr (0, [.int 0, .int 0, .int 0]))] := hD
  refine lv_aload_n hx hb d_B_init_14 rfl (lv_at hl 0 rfl) ?_
  refine lv_iconst (v := 0) hx hb d_B_init_15 (by decide) ?_
  refine va_put (D := D) (ci := 0) (v := .int 0) (ty := .int) (C := R_B) (T := F_B) (N := 3) hx hb hts in_B t_B t_B_ok n_B hown hK hP hD hS 0 rfl rfl 2 (by decide) (hts _ tb_119) (fun _ h9 => h9) rfl (by decide +kernel) rfl rfl (Nat.le_of_ble_eq_true rfl) d_B_init_16 (fun H locs hP hD hS => ?_)
  have hP : va_P D cls_ [(h0, .inr (0, [.int 0, .int 0, .int 0]))] H := hP
  have hD : va_D A [(h0, .inr (0, [.int 0, .int 0, .int 0]))] := hD
  have hP9 := hP.sub (ws' := [(h0, .inr (0, [.int 0, .int 0, .int 0]))]) [0] rfl
  have hD9 := hD.sub (ws' := [(h0, .inr (0, [.int 0, .int 0, .int 0]))]) [0] (by decide) rfl
  have hK9 : va_K D cls_ [] s := hK
  exact W.vret hx hb hr (fun t ht hW => ⟨⟨(), rfl, trivial, by rw [ht]; exact hP9, va_K.moved hW.alike hK9, hD9⟩, hS.F ht⟩) hS.2.2 d_B_init_19
abbrev rm_C_init : Room := { frames := 1, cells := 0, slots := 0, locals := 12 }
theorem good_C_init : GoodIn TB (.code y_C_init b_C_init 1 none :: TB) := good_of tb_100
theorem hd_C_init : y_C_init.cls ≠ "java/lang/invoke/MethodHandle" ∧ y_C_init.cls ≠ "java/lang/invoke/VarHandle" ∧ (parseMethodDescriptor y_C_init.desc).map (fun d => d.parameters.length) = some 0 := by decide +kernel
theorem d_C_init_0 : decode b_C_init 0 = .ok (.aload_n 0, 1) := by decide +kernel
theorem d_C_init_1 : decode b_C_init 1 = .ok (.invokespecial 3, 3) := by decide +kernel
theorem d_C_init_4 : decode b_C_init 4 = .ok (.aload_n 0, 1) := by decide +kernel
theorem d_C_init_5 : decode b_C_init 5 = .ok (.lconst 0, 1) := by decide +kernel
theorem d_C_init_6 : decode b_C_init 6 = .ok (.putfield 9, 3) := by decide +kernel
theorem d_C_init_9 : decode b_C_init 9 = .ok (.aload_n 0, 1) := by decide +kernel
theorem d_C_init_10 : decode b_C_init 10 = .ok (.lconst 0, 1) := by decide +kernel
theorem d_C_init_11 : decode b_C_init 11 = .ok (.putfield 15, 3) := by decide +kernel
theorem d_C_init_14 : decode b_C_init 14 = .ok (.return_, 1) := by decide +kernel
set_option maxHeartbeats 4000000 in
set_option maxRecDepth 100000 in
theorem c_C_init (l : Launch) (D : va_G) (h0 sz : Nat) : Met l y_C_init (.code y_C_init b_C_init 1 none :: TB) rm_C_init (va_Pc [.ref h0] (fun U => U.heap.size = sz ∧ va_P D cls_ [(h0, .inr (1, [.long 0, .long 0]))] U.heap ∧ va_K D cls_ [] U ∧ va_D (fun _ => True) [(h0, .inr (1, [.long 0, .long 0]))] ∧ NW U)) (va_Qv (fun u : Unit => True) (fun u t => va_P D cls_ ([(h0, .inr (1, [.long 0, .long 0]))]) t.heap ∧ va_K D cls_ ([]) t ∧ va_D (va_A [(h0, .inr (1, [.long 0, .long 0]))] sz) ([(h0, .inr (1, [.long 0, .long 0]))])) (va_A [(h0, .inr (1, [.long 0, .long 0]))] sz)) 0 0 (va_A [(h0, .inr (1, [.long 0, .long 0]))] sz) := by
  refine Met.ofW (cc := b_C_init) (maxL := 1) (ret := none) (by decide +kernel) rfl ?_
  intro p e s m args below meth c s₁ B hml hv
  obtain ⟨rfl, hsz, hP, hK, hD0, hN⟩ := hv
  have hx := B.exec
  have hb := B.bytes
  have hr := B.returns
  have hts0 := atoms_spec (ws := Cond.code y_C_init b_C_init 1 none :: TB) B.pre
  have hts : ∀ w ∈ TB, w.before _ s = true := fun w h => hts0 w (List.mem_cons_of_mem _ h)
  have hown : s.vm.findClass R_C = some m.cls := findClass_of_methodNamed B.named
  have hlocks := B.notSynchronized
  have hin : meth.name = "<init>" := (name_of_methodNamed B.named B.method).1
  subst hsz
  have hD := hD0.self (sz := s.heap.size)
  generalize hAe : va_A [(h0, .inr (1, [.long 0, .long 0]))] s.heap.size = A at hD ⊢
  have hA : ∀ q : Nat, s.heap.size ≤ q → A q := fun q h => by rw [← hAe]; exact Or.inr h
  have hS : va_S A s.heap s.heap [] := va_S.rf
  have hl := lv_entry ([.ref h0]) (n := 1) (Nat.le_of_ble_eq_true rfl)
  rw [lg_entry_eq]
  generalize (lg_sl ([.ref h0]) ++ List.replicate (1 - (lg_sl ([.ref h0])).length) Slot.unset).toArray = ls at hl ⊢
  have hl : lv_has ls 1 [(0, .ref h0)] := hl
  refine lv_aload_n hx hb d_C_init_0 rfl (lv_at hl 0 rfl) ?_
  refine W.objInit hx hb hown (hts _ tb_101) (hts _ tb_15) (hts _ tb_16) rfl (by rw [hml]; exact hl.1) rfl d_C_init_1 (Nat.le_of_ble_eq_true rfl) (Nat.le_of_ble_eq_true rfl) ?_
  refine W.eq (g2 := F0 m 4 ls []) rfl ?_
  refine lv_aload_n hx hb d_C_init_4 rfl (lv_at hl 0 rfl) ?_
  refine lv_lconst (v := 0) hx hb d_C_init_5 (by decide) ?_
  refine va_put (D := D) (ci := 1) (v := .long 0) (ty := .long) (C := R_C) (T := F_C) (N := 2) hx hb hts in_C t_C t_C_ok n_C hown hK hP hD hS 0 rfl rfl 0 (by decide) (hts _ tb_102) (fun _ h9 => h9) rfl (by decide +kernel) rfl rfl (Nat.le_of_ble_eq_true rfl) d_C_init_6 (fun H locs hP hD hS => ?_)
  have hP : va_P D cls_ [(h0, .inr (1, [.long 0, .long 0]))] H := hP
  have hD : va_D A [(h0, .inr (1, [.long 0, .long 0]))] := hD
  refine lv_aload_n hx hb d_C_init_9 rfl (lv_at hl 0 rfl) ?_
  refine lv_lconst (v := 0) hx hb d_C_init_10 (by decide) ?_
  refine va_put (D := D) (ci := 1) (v := .long 0) (ty := .long) (C := R_C) (T := F_C) (N := 2) hx hb hts in_C t_C t_C_ok n_C hown hK hP hD hS 0 rfl rfl 1 (by decide) (hts _ tb_103) (fun _ h9 => h9) rfl (by decide +kernel) rfl rfl (Nat.le_of_ble_eq_true rfl) d_C_init_11 (fun H locs hP hD hS => ?_)
  have hP : va_P D cls_ [(h0, .inr (1, [.long 0, .long 0]))] H := hP
  have hD : va_D A [(h0, .inr (1, [.long 0, .long 0]))] := hD
  have hP9 := hP.sub (ws' := [(h0, .inr (1, [.long 0, .long 0]))]) [0] rfl
  have hD9 := hD.sub (ws' := [(h0, .inr (1, [.long 0, .long 0]))]) [0] (by decide) rfl
  have hK9 : va_K D cls_ [] s := hK
  exact W.vret hx hb hr (fun t ht hW => ⟨⟨(), rfl, trivial, by rw [ht]; exact hP9, va_K.moved hW.alike hK9, hD9⟩, hS.F ht⟩) hS.2.2 d_C_init_14
abbrev rm_P_init : Room := { frames := 1, cells := 6, slots := 2600, locals := 12 }
theorem good_P_init : GoodIn TB (.code y_P_init b_P_init 1 none :: TB) := good_of tb_21
theorem hd_P_init : y_P_init.cls ≠ "java/lang/invoke/MethodHandle" ∧ y_P_init.cls ≠ "java/lang/invoke/VarHandle" ∧ (parseMethodDescriptor y_P_init.desc).map (fun d => d.parameters.length) = some 0 := by decide +kernel
theorem d_P_init_0 : decode b_P_init 0 = .ok (.aload_n 0, 1) := by decide +kernel
theorem d_P_init_1 : decode b_P_init 1 = .ok (.invokespecial 3, 3) := by decide +kernel
theorem d_P_init_4 : decode b_P_init 4 = .ok (.aload_n 0, 1) := by decide +kernel
theorem d_P_init_5 : decode b_P_init 5 = .ok (.sipush 200, 3) := by decide +kernel
theorem d_P_init_8 : decode b_P_init 8 = .ok (.newarray .int, 2) := by decide +kernel
theorem d_P_init_10 : decode b_P_init 10 = .ok (.putfield 9, 3) := by decide +kernel
theorem d_P_init_13 : decode b_P_init 13 = .ok (.aload_n 0, 1) := by decide +kernel
theorem d_P_init_14 : decode b_P_init 14 = .ok (.sipush 200, 3) := by decide +kernel
theorem d_P_init_17 : decode b_P_init 17 = .ok (.newarray .int, 2) := by decide +kernel
theorem d_P_init_19 : decode b_P_init 19 = .ok (.putfield 15, 3) := by decide +kernel
theorem d_P_init_22 : decode b_P_init 22 = .ok (.aload_n 0, 1) := by decide +kernel
theorem d_P_init_23 : decode b_P_init 23 = .ok (.sipush 200, 3) := by decide +kernel
theorem d_P_init_26 : decode b_P_init 26 = .ok (.newarray .int, 2) := by decide +kernel
theorem d_P_init_28 : decode b_P_init 28 = .ok (.putfield 18, 3) := by decide +kernel
theorem d_P_init_31 : decode b_P_init 31 = .ok (.aload_n 0, 1) := by decide +kernel
theorem d_P_init_32 : decode b_P_init 32 = .ok (.sipush 200, 3) := by decide +kernel
theorem d_P_init_35 : decode b_P_init 35 = .ok (.newarray .int, 2) := by decide +kernel
theorem d_P_init_37 : decode b_P_init 37 = .ok (.putfield 21, 3) := by decide +kernel
theorem d_P_init_40 : decode b_P_init 40 = .ok (.aload_n 0, 1) := by decide +kernel
theorem d_P_init_41 : decode b_P_init 41 = .ok (.sipush 200, 3) := by decide +kernel
theorem d_P_init_44 : decode b_P_init 44 = .ok (.newarray .boolean, 2) := by decide +kernel
theorem d_P_init_46 : decode b_P_init 46 = .ok (.putfield 24, 3) := by decide +kernel
theorem d_P_init_49 : decode b_P_init 49 = .ok (.aload_n 0, 1) := by decide +kernel
theorem d_P_init_50 : decode b_P_init 50 = .ok (.sipush 1600, 3) := by decide +kernel
theorem d_P_init_53 : decode b_P_init 53 = .ok (.newarray .int, 2) := by decide +kernel
theorem d_P_init_55 : decode b_P_init 55 = .ok (.putfield 28, 3) := by decide +kernel
theorem d_P_init_58 : decode b_P_init 58 = .ok (.aload_n 0, 1) := by decide +kernel
theorem d_P_init_59 : decode b_P_init 59 = .ok (.iconst 0, 1) := by decide +kernel
theorem d_P_init_60 : decode b_P_init 60 = .ok (.putfield 31, 3) := by decide +kernel
theorem d_P_init_63 : decode b_P_init 63 = .ok (.return_, 1) := by decide +kernel
set_option maxHeartbeats 4000000 in
set_option maxRecDepth 100000 in
theorem c_P_init (l : Launch) (D : va_G) (h0 sz : Nat) : Met l y_P_init (.code y_P_init b_P_init 1 none :: TB) rm_P_init (va_Pc [.ref h0] (fun U => U.heap.size = sz ∧ va_P D cls_ [(h0, .inr (2, [.null, .null, .null, .null, .null, .null, .int 0]))] U.heap ∧ va_K D cls_ [] U ∧ va_D (fun _ => True) [(h0, .inr (2, [.null, .null, .null, .null, .null, .null, .int 0]))] ∧ NW U)) (va_Qv (fun u : (Nat → Nat) × ClassId × ClassId => True) (fun u t => va_P D cls_ ([(h0, .inr (2, [.ref (u.1 0), .ref (u.1 1), .ref (u.1 2), .ref (u.1 3), .ref (u.1 4), .ref (u.1 5), .int 0])), ((u.1 0), .inl (u.2.1, 200, .inl (fun _ => 0))), ((u.1 1), .inl (u.2.1, 200, .inl (fun _ => 0))), ((u.1 2), .inl (u.2.1, 200, .inl (fun _ => 0))), ((u.1 3), .inl (u.2.1, 200, .inl (fun _ => 0))), ((u.1 4), .inl (u.2.2, 200, .inl (fun _ => 0))), ((u.1 5), .inl (u.2.1, 1600, .inl (fun _ => 0)))]) t.heap ∧ va_K D cls_ (ty_ u.2.1 u.2.2) t ∧ va_D (va_A [(h0, .inr (2, [.null, .null, .null, .null, .null, .null, .int 0]))] sz) ([(h0, .inr (2, [.ref (u.1 0), .ref (u.1 1), .ref (u.1 2), .ref (u.1 3), .ref (u.1 4), .ref (u.1 5), .int 0])), ((u.1 0), .inl (u.2.1, 200, .inl (fun _ => 0))), ((u.1 1), .inl (u.2.1, 200, .inl (fun _ => 0))), ((u.1 2), .inl (u.2.1, 200, .inl (fun _ => 0))), ((u.1 3), .inl (u.2.1, 200, .inl (fun _ => 0))), ((u.1 4), .inl (u.2.2, 200, .inl (fun _ => 0))), ((u.1 5), .inl (u.2.1, 1600, .inl (fun _ => 0)))])) (va_A [(h0, .inr (2, [.null, .null, .null, .null, .null, .null, .int 0]))] sz)) 6 2600 (va_A [(h0, .inr (2, [.null, .null, .null, .null, .null, .null, .int 0]))] sz) := by
  refine Met.ofW (cc := b_P_init) (maxL := 1) (ret := none) (by decide +kernel) rfl ?_
  intro p e s m args below meth c s₁ B hml hv
  obtain ⟨rfl, hsz, hP, hK, hD0, hN⟩ := hv
  have hx := B.exec
  have hb := B.bytes
  have hr := B.returns
  have hts0 := atoms_spec (ws := Cond.code y_P_init b_P_init 1 none :: TB) B.pre
  have hts : ∀ w ∈ TB, w.before _ s = true := fun w h => hts0 w (List.mem_cons_of_mem _ h)
  have hown : s.vm.findClass R_P = some m.cls := findClass_of_methodNamed B.named
  have hlocks := B.notSynchronized
  have hin : meth.name = "<init>" := (name_of_methodNamed B.named B.method).1
  subst hsz
  have hD := hD0.self (sz := s.heap.size)
  generalize hAe : va_A [(h0, .inr (2, [.null, .null, .null, .null, .null, .null, .int 0]))] s.heap.size = A at hD ⊢
  have hA : ∀ q : Nat, s.heap.size ≤ q → A q := fun q h => by rw [← hAe]; exact Or.inr h
  have hS : va_S A s.heap s.heap [] := va_S.rf
  have hl := lv_entry ([.ref h0]) (n := 1) (Nat.le_of_ble_eq_true rfl)
  rw [lg_entry_eq]
  generalize (lg_sl ([.ref h0]) ++ List.replicate (1 - (lg_sl ([.ref h0])).length) Slot.unset).toArray = ls at hl ⊢
  have hl : lv_has ls 1 [(0, .ref h0)] := hl
  refine lv_aload_n hx hb d_P_init_0 rfl (lv_at hl 0 rfl) ?_
  refine W.objInit hx hb hown (hts _ tb_22) (hts _ tb_15) (hts _ tb_16) rfl (by rw [hml]; exact hl.1) rfl d_P_init_1 (Nat.le_of_ble_eq_true rfl) (Nat.le_of_ble_eq_true rfl) ?_
  refine W.eq (g2 := F0 m 4 ls []) rfl ?_
  refine lv_aload_n hx hb d_P_init_4 rfl (lv_at hl 0 rfl) ?_
  refine lv_sipush (v := 200) hx hb d_P_init_5 (by decide) ?_
  refine va_newa (atype := .int) (ty := .int) (N' := 200) (a0 := (200, .inl (fun _ => 0))) hx hb (hts _ tb_51) rfl hK hP hD hS hA (fun _ => rfl) (by decide) (by decide) (by decide) (Nat.le_of_ble_eq_true rfl) (Nat.le_of_ble_eq_true rfl) d_P_init_8 (fun q8 c8 H hK hP hD hS => ?_)
  refine W.widen (k := 1) (n := 200) (by decide) (by decide) ?_
  have hK : va_K D cls_ [(c8, .int)] s := hK
  have hP : va_P D cls_ [(h0, .inr (2, [.null, .null, .null, .null, .null, .null, .int 0])), (q8, .inl (c8, 200, .inl (fun _ => 0)))] H := hP
  have hD : va_D A [(h0, .inr (2, [.null, .null, .null, .null, .null, .null, .int 0])), (q8, .inl (c8, 200, .inl (fun _ => 0)))] := hD
  refine va_putF (D := D) (ci := 2) (v := .ref q8) (ty := .array .int) (C := R_P) (T := F_P) (N := 7) hx hb hts in_P t_P t_P_ok n_P hown hK hP hD hS 0 rfl rfl 0 (by decide) (hts _ tb_23) (fun _ h9 => h9) rfl hin rfl (by decide +kernel) rfl rfl (Nat.le_of_ble_eq_true rfl) d_P_init_10 (fun H locs hP hD hS => ?_)
  have hP : va_P D cls_ [(h0, .inr (2, [.ref q8, .null, .null, .null, .null, .null, .int 0])), (q8, .inl (c8, 200, .inl (fun _ => 0)))] H := hP
  have hD : va_D A [(h0, .inr (2, [.ref q8, .null, .null, .null, .null, .null, .int 0])), (q8, .inl (c8, 200, .inl (fun _ => 0)))] := hD
  refine lv_aload_n hx hb d_P_init_13 rfl (lv_at hl 0 rfl) ?_
  refine lv_sipush (v := 200) hx hb d_P_init_14 (by decide) ?_
  refine va_newa (atype := .int) (ty := .int) (N' := 200) (a0 := (200, .inl (fun _ => 0))) hx hb (hts _ tb_51) rfl hK hP hD hS hA (fun _ => rfl) (by decide) (by decide) (by decide) (Nat.le_of_ble_eq_true rfl) (Nat.le_of_ble_eq_true rfl) d_P_init_17 (fun q17 c17 H hK hP hD hS => ?_)
  refine W.widen (k := 2) (n := 400) (by decide) (by decide) ?_
  have e17 : c8 = c17 := arr_eqI hK 0 1 rfl rfl
  subst e17
  have hK : va_K D cls_ [(c8, .int)] s := hK.sub [0] rfl
  have hP : va_P D cls_ [(h0, .inr (2, [.ref q8, .null, .null, .null, .null, .null, .int 0])), (q8, .inl (c8, 200, .inl (fun _ => 0))), (q17, .inl (c8, 200, .inl (fun _ => 0)))] H := hP
  have hD : va_D A [(h0, .inr (2, [.ref q8, .null, .null, .null, .null, .null, .int 0])), (q8, .inl (c8, 200, .inl (fun _ => 0))), (q17, .inl (c8, 200, .inl (fun _ => 0)))] := hD
  refine va_putF (D := D) (ci := 2) (v := .ref q17) (ty := .array .int) (C := R_P) (T := F_P) (N := 7) hx hb hts in_P t_P t_P_ok n_P hown hK hP hD hS 0 rfl rfl 1 (by decide) (hts _ tb_25) (fun _ h9 => h9) rfl hin rfl (by decide +kernel) rfl rfl (Nat.le_of_ble_eq_true rfl) d_P_init_19 (fun H locs hP hD hS => ?_)
  have hP : va_P D cls_ [(h0, .inr (2, [.ref q8, .ref q17, .null, .null, .null, .null, .int 0])), (q8, .inl (c8, 200, .inl (fun _ => 0))), (q17, .inl (c8, 200, .inl (fun _ => 0)))] H := hP
  have hD : va_D A [(h0, .inr (2, [.ref q8, .ref q17, .null, .null, .null, .null, .int 0])), (q8, .inl (c8, 200, .inl (fun _ => 0))), (q17, .inl (c8, 200, .inl (fun _ => 0)))] := hD
  refine lv_aload_n hx hb d_P_init_22 rfl (lv_at hl 0 rfl) ?_
  refine lv_sipush (v := 200) hx hb d_P_init_23 (by decide) ?_
  refine va_newa (atype := .int) (ty := .int) (N' := 200) (a0 := (200, .inl (fun _ => 0))) hx hb (hts _ tb_51) rfl hK hP hD hS hA (fun _ => rfl) (by decide) (by decide) (by decide) (Nat.le_of_ble_eq_true rfl) (Nat.le_of_ble_eq_true rfl) d_P_init_26 (fun q26 c26 H hK hP hD hS => ?_)
  refine W.widen (k := 3) (n := 600) (by decide) (by decide) ?_
  have e26 : c8 = c26 := arr_eqI hK 0 1 rfl rfl
  subst e26
  have hK : va_K D cls_ [(c8, .int)] s := hK.sub [0] rfl
  have hP : va_P D cls_ [(h0, .inr (2, [.ref q8, .ref q17, .null, .null, .null, .null, .int 0])), (q8, .inl (c8, 200, .inl (fun _ => 0))), (q17, .inl (c8, 200, .inl (fun _ => 0))), (q26, .inl (c8, 200, .inl (fun _ => 0)))] H := hP
  have hD : va_D A [(h0, .inr (2, [.ref q8, .ref q17, .null, .null, .null, .null, .int 0])), (q8, .inl (c8, 200, .inl (fun _ => 0))), (q17, .inl (c8, 200, .inl (fun _ => 0))), (q26, .inl (c8, 200, .inl (fun _ => 0)))] := hD
  refine va_putF (D := D) (ci := 2) (v := .ref q26) (ty := .array .int) (C := R_P) (T := F_P) (N := 7) hx hb hts in_P t_P t_P_ok n_P hown hK hP hD hS 0 rfl rfl 2 (by decide) (hts _ tb_26) (fun _ h9 => h9) rfl hin rfl (by decide +kernel) rfl rfl (Nat.le_of_ble_eq_true rfl) d_P_init_28 (fun H locs hP hD hS => ?_)
  have hP : va_P D cls_ [(h0, .inr (2, [.ref q8, .ref q17, .ref q26, .null, .null, .null, .int 0])), (q8, .inl (c8, 200, .inl (fun _ => 0))), (q17, .inl (c8, 200, .inl (fun _ => 0))), (q26, .inl (c8, 200, .inl (fun _ => 0)))] H := hP
  have hD : va_D A [(h0, .inr (2, [.ref q8, .ref q17, .ref q26, .null, .null, .null, .int 0])), (q8, .inl (c8, 200, .inl (fun _ => 0))), (q17, .inl (c8, 200, .inl (fun _ => 0))), (q26, .inl (c8, 200, .inl (fun _ => 0)))] := hD
  refine lv_aload_n hx hb d_P_init_31 rfl (lv_at hl 0 rfl) ?_
  refine lv_sipush (v := 200) hx hb d_P_init_32 (by decide) ?_
  refine va_newa (atype := .int) (ty := .int) (N' := 200) (a0 := (200, .inl (fun _ => 0))) hx hb (hts _ tb_51) rfl hK hP hD hS hA (fun _ => rfl) (by decide) (by decide) (by decide) (Nat.le_of_ble_eq_true rfl) (Nat.le_of_ble_eq_true rfl) d_P_init_35 (fun q35 c35 H hK hP hD hS => ?_)
  refine W.widen (k := 4) (n := 800) (by decide) (by decide) ?_
  have e35 : c8 = c35 := arr_eqI hK 0 1 rfl rfl
  subst e35
  have hK : va_K D cls_ [(c8, .int)] s := hK.sub [0] rfl
  have hP : va_P D cls_ [(h0, .inr (2, [.ref q8, .ref q17, .ref q26, .null, .null, .null, .int 0])), (q8, .inl (c8, 200, .inl (fun _ => 0))), (q17, .inl (c8, 200, .inl (fun _ => 0))), (q26, .inl (c8, 200, .inl (fun _ => 0))), (q35, .inl (c8, 200, .inl (fun _ => 0)))] H := hP
  have hD : va_D A [(h0, .inr (2, [.ref q8, .ref q17, .ref q26, .null, .null, .null, .int 0])), (q8, .inl (c8, 200, .inl (fun _ => 0))), (q17, .inl (c8, 200, .inl (fun _ => 0))), (q26, .inl (c8, 200, .inl (fun _ => 0))), (q35, .inl (c8, 200, .inl (fun _ => 0)))] := hD
  refine va_putF (D := D) (ci := 2) (v := .ref q35) (ty := .array .int) (C := R_P) (T := F_P) (N := 7) hx hb hts in_P t_P t_P_ok n_P hown hK hP hD hS 0 rfl rfl 3 (by decide) (hts _ tb_28) (fun _ h9 => h9) rfl hin rfl (by decide +kernel) rfl rfl (Nat.le_of_ble_eq_true rfl) d_P_init_37 (fun H locs hP hD hS => ?_)
  have hP : va_P D cls_ [(h0, .inr (2, [.ref q8, .ref q17, .ref q26, .ref q35, .null, .null, .int 0])), (q8, .inl (c8, 200, .inl (fun _ => 0))), (q17, .inl (c8, 200, .inl (fun _ => 0))), (q26, .inl (c8, 200, .inl (fun _ => 0))), (q35, .inl (c8, 200, .inl (fun _ => 0)))] H := hP
  have hD : va_D A [(h0, .inr (2, [.ref q8, .ref q17, .ref q26, .ref q35, .null, .null, .int 0])), (q8, .inl (c8, 200, .inl (fun _ => 0))), (q17, .inl (c8, 200, .inl (fun _ => 0))), (q26, .inl (c8, 200, .inl (fun _ => 0))), (q35, .inl (c8, 200, .inl (fun _ => 0)))] := hD
  refine lv_aload_n hx hb d_P_init_40 rfl (lv_at hl 0 rfl) ?_
  refine lv_sipush (v := 200) hx hb d_P_init_41 (by decide) ?_
  refine va_newa (atype := .boolean) (ty := .boolean) (N' := 200) (a0 := (200, .inl (fun _ => 0))) hx hb (hts _ tb_52) rfl hK hP hD hS hA (fun _ => rfl) (by decide) (by decide) (by decide) (Nat.le_of_ble_eq_true rfl) (Nat.le_of_ble_eq_true rfl) d_P_init_44 (fun q44 c44 H hK hP hD hS => ?_)
  refine W.widen (k := 5) (n := 1000) (by decide) (by decide) ?_
  have hK : va_K D cls_ [(c8, .int), (c44, .boolean)] s := hK
  have hP : va_P D cls_ [(h0, .inr (2, [.ref q8, .ref q17, .ref q26, .ref q35, .null, .null, .int 0])), (q8, .inl (c8, 200, .inl (fun _ => 0))), (q17, .inl (c8, 200, .inl (fun _ => 0))), (q26, .inl (c8, 200, .inl (fun _ => 0))), (q35, .inl (c8, 200, .inl (fun _ => 0))), (q44, .inl (c44, 200, .inl (fun _ => 0)))] H := hP
  have hD : va_D A [(h0, .inr (2, [.ref q8, .ref q17, .ref q26, .ref q35, .null, .null, .int 0])), (q8, .inl (c8, 200, .inl (fun _ => 0))), (q17, .inl (c8, 200, .inl (fun _ => 0))), (q26, .inl (c8, 200, .inl (fun _ => 0))), (q35, .inl (c8, 200, .inl (fun _ => 0))), (q44, .inl (c44, 200, .inl (fun _ => 0)))] := hD
  refine va_putF (D := D) (ci := 2) (v := .ref q44) (ty := .array .boolean) (C := R_P) (T := F_P) (N := 7) hx hb hts in_P t_P t_P_ok n_P hown hK hP hD hS 0 rfl rfl 4 (by decide) (hts _ tb_30) (fun _ h9 => h9) rfl hin rfl (by decide +kernel) rfl rfl (Nat.le_of_ble_eq_true rfl) d_P_init_46 (fun H locs hP hD hS => ?_)
  have hP : va_P D cls_ [(h0, .inr (2, [.ref q8, .ref q17, .ref q26, .ref q35, .ref q44, .null, .int 0])), (q8, .inl (c8, 200, .inl (fun _ => 0))), (q17, .inl (c8, 200, .inl (fun _ => 0))), (q26, .inl (c8, 200, .inl (fun _ => 0))), (q35, .inl (c8, 200, .inl (fun _ => 0))), (q44, .inl (c44, 200, .inl (fun _ => 0)))] H := hP
  have hD : va_D A [(h0, .inr (2, [.ref q8, .ref q17, .ref q26, .ref q35, .ref q44, .null, .int 0])), (q8, .inl (c8, 200, .inl (fun _ => 0))), (q17, .inl (c8, 200, .inl (fun _ => 0))), (q26, .inl (c8, 200, .inl (fun _ => 0))), (q35, .inl (c8, 200, .inl (fun _ => 0))), (q44, .inl (c44, 200, .inl (fun _ => 0)))] := hD
  refine lv_aload_n hx hb d_P_init_49 rfl (lv_at hl 0 rfl) ?_
  refine lv_sipush (v := 1600) hx hb d_P_init_50 (by decide) ?_
  refine va_newa (atype := .int) (ty := .int) (N' := 1600) (a0 := (1600, .inl (fun _ => 0))) hx hb (hts _ tb_51) rfl hK hP hD hS hA (fun _ => rfl) (by decide) (by decide) (by decide) (Nat.le_of_ble_eq_true rfl) (Nat.le_of_ble_eq_true rfl) d_P_init_53 (fun q53 c53 H hK hP hD hS => ?_)
  refine W.widen (k := 6) (n := 2600) (by decide) (by decide) ?_
  have e53 : c8 = c53 := arr_eqI hK 0 2 rfl rfl
  subst e53
  have hK : va_K D cls_ [(c8, .int), (c44, .boolean)] s := hK.sub [0, 1] rfl
  have hP : va_P D cls_ [(h0, .inr (2, [.ref q8, .ref q17, .ref q26, .ref q35, .ref q44, .null, .int 0])), (q8, .inl (c8, 200, .inl (fun _ => 0))), (q17, .inl (c8, 200, .inl (fun _ => 0))), (q26, .inl (c8, 200, .inl (fun _ => 0))), (q35, .inl (c8, 200, .inl (fun _ => 0))), (q44, .inl (c44, 200, .inl (fun _ => 0))), (q53, .inl (c8, 1600, .inl (fun _ => 0)))] H := hP
  have hD : va_D A [(h0, .inr (2, [.ref q8, .ref q17, .ref q26, .ref q35, .ref q44, .null, .int 0])), (q8, .inl (c8, 200, .inl (fun _ => 0))), (q17, .inl (c8, 200, .inl (fun _ => 0))), (q26, .inl (c8, 200, .inl (fun _ => 0))), (q35, .inl (c8, 200, .inl (fun _ => 0))), (q44, .inl (c44, 200, .inl (fun _ => 0))), (q53, .inl (c8, 1600, .inl (fun _ => 0)))] := hD
  refine va_putF (D := D) (ci := 2) (v := .ref q53) (ty := .array .int) (C := R_P) (T := F_P) (N := 7) hx hb hts in_P t_P t_P_ok n_P hown hK hP hD hS 0 rfl rfl 5 (by decide) (hts _ tb_32) (fun _ h9 => h9) rfl hin rfl (by decide +kernel) rfl rfl (Nat.le_of_ble_eq_true rfl) d_P_init_55 (fun H locs hP hD hS => ?_)
  have hP : va_P D cls_ [(h0, .inr (2, [.ref q8, .ref q17, .ref q26, .ref q35, .ref q44, .ref q53, .int 0])), (q8, .inl (c8, 200, .inl (fun _ => 0))), (q17, .inl (c8, 200, .inl (fun _ => 0))), (q26, .inl (c8, 200, .inl (fun _ => 0))), (q35, .inl (c8, 200, .inl (fun _ => 0))), (q44, .inl (c44, 200, .inl (fun _ => 0))), (q53, .inl (c8, 1600, .inl (fun _ => 0)))] H := hP
  have hD : va_D A [(h0, .inr (2, [.ref q8, .ref q17, .ref q26, .ref q35, .ref q44, .ref q53, .int 0])), (q8, .inl (c8, 200, .inl (fun _ => 0))), (q17, .inl (c8, 200, .inl (fun _ => 0))), (q26, .inl (c8, 200, .inl (fun _ => 0))), (q35, .inl (c8, 200, .inl (fun _ => 0))), (q44, .inl (c44, 200, .inl (fun _ => 0))), (q53, .inl (c8, 1600, .inl (fun _ => 0)))] := hD
  refine lv_aload_n hx hb d_P_init_58 rfl (lv_at hl 0 rfl) ?_
  refine lv_iconst (v := 0) hx hb d_P_init_59 (by decide) ?_
  refine va_put (D := D) (ci := 2) (v := .int 0) (ty := .int) (C := R_P) (T := F_P) (N := 7) hx hb hts in_P t_P t_P_ok n_P hown hK hP hD hS 0 rfl rfl 6 (by decide) (hts _ tb_34) (fun _ h9 => h9) rfl (by decide +kernel) rfl rfl (Nat.le_of_ble_eq_true rfl) d_P_init_60 (fun H locs hP hD hS => ?_)
  have hP : va_P D cls_ [(h0, .inr (2, [.ref q8, .ref q17, .ref q26, .ref q35, .ref q44, .ref q53, .int 0])), (q8, .inl (c8, 200, .inl (fun _ => 0))), (q17, .inl (c8, 200, .inl (fun _ => 0))), (q26, .inl (c8, 200, .inl (fun _ => 0))), (q35, .inl (c8, 200, .inl (fun _ => 0))), (q44, .inl (c44, 200, .inl (fun _ => 0))), (q53, .inl (c8, 1600, .inl (fun _ => 0)))] H := hP
  have hD : va_D A [(h0, .inr (2, [.ref q8, .ref q17, .ref q26, .ref q35, .ref q44, .ref q53, .int 0])), (q8, .inl (c8, 200, .inl (fun _ => 0))), (q17, .inl (c8, 200, .inl (fun _ => 0))), (q26, .inl (c8, 200, .inl (fun _ => 0))), (q35, .inl (c8, 200, .inl (fun _ => 0))), (q44, .inl (c44, 200, .inl (fun _ => 0))), (q53, .inl (c8, 1600, .inl (fun _ => 0)))] := hD
  have hP9 := hP.sub (ws' := [(h0, .inr (2, [.ref q8, .ref q17, .ref q26, .ref q35, .ref q44, .ref q53, .int 0])), (q8, .inl (c8, 200, .inl (fun _ => 0))), (q17, .inl (c8, 200, .inl (fun _ => 0))), (q26, .inl (c8, 200, .inl (fun _ => 0))), (q35, .inl (c8, 200, .inl (fun _ => 0))), (q44, .inl (c44, 200, .inl (fun _ => 0))), (q53, .inl (c8, 1600, .inl (fun _ => 0)))]) [0, 1, 2, 3, 4, 5, 6] rfl
  have hD9 := hD.sub (ws' := [(h0, .inr (2, [.ref q8, .ref q17, .ref q26, .ref q35, .ref q44, .ref q53, .int 0])), (q8, .inl (c8, 200, .inl (fun _ => 0))), (q17, .inl (c8, 200, .inl (fun _ => 0))), (q26, .inl (c8, 200, .inl (fun _ => 0))), (q35, .inl (c8, 200, .inl (fun _ => 0))), (q44, .inl (c44, 200, .inl (fun _ => 0))), (q53, .inl (c8, 1600, .inl (fun _ => 0)))]) [0, 1, 2, 3, 4, 5, 6] (by decide) rfl
  have hK9 : va_K D cls_ (ty_ c8 c44) s := hK.sub [0, 1] rfl
  exact W.vret hx hb hr (fun t ht hW => ⟨⟨((fun k : Nat => match k with | 0 => q8 | 1 => q17 | 2 => q26 | 3 => q35 | 4 => q44 | _ => q53), c8, c44), rfl, trivial, by rw [ht]; exact hP9, va_K.moved hW.alike hK9, hD9⟩, hS.F ht⟩) hS.2.2 d_P_init_63
abbrev rm_R_init : Room := { frames := 1, cells := 8, slots := 1424, locals := 12 }
theorem good_R_init : GoodIn TB (.code y_R_init b_R_init 1 none :: TB) := good_of tb_57
theorem hd_R_init : y_R_init.cls ≠ "java/lang/invoke/MethodHandle" ∧ y_R_init.cls ≠ "java/lang/invoke/VarHandle" ∧ (parseMethodDescriptor y_R_init.desc).map (fun d => d.parameters.length) = some 0 := by decide +kernel
theorem d_R_init_0 : decode b_R_init 0 = .ok (.aload_n 0, 1) := by decide +kernel
theorem d_R_init_1 : decode b_R_init 1 = .ok (.invokespecial 3, 3) := by decide +kernel
theorem d_R_init_4 : decode b_R_init 4 = .ok (.aload_n 0, 1) := by decide +kernel
theorem d_R_init_5 : decode b_R_init 5 = .ok (.sipush 200, 3) := by decide +kernel
theorem d_R_init_8 : decode b_R_init 8 = .ok (.newarray .int, 2) := by decide +kernel
theorem d_R_init_10 : decode b_R_init 10 = .ok (.putfield 9, 3) := by decide +kernel
theorem d_R_init_13 : decode b_R_init 13 = .ok (.aload_n 0, 1) := by decide +kernel
theorem d_R_init_14 : decode b_R_init 14 = .ok (.sipush 200, 3) := by decide +kernel
theorem d_R_init_17 : decode b_R_init 17 = .ok (.newarray .int, 2) := by decide +kernel
theorem d_R_init_19 : decode b_R_init 19 = .ok (.putfield 15, 3) := by decide +kernel
theorem d_R_init_22 : decode b_R_init 22 = .ok (.aload_n 0, 1) := by decide +kernel
theorem d_R_init_23 : decode b_R_init 23 = .ok (.sipush 200, 3) := by decide +kernel
theorem d_R_init_26 : decode b_R_init 26 = .ok (.newarray .int, 2) := by decide +kernel
theorem d_R_init_28 : decode b_R_init 28 = .ok (.putfield 18, 3) := by decide +kernel
theorem d_R_init_31 : decode b_R_init 31 = .ok (.aload_n 0, 1) := by decide +kernel
theorem d_R_init_32 : decode b_R_init 32 = .ok (.sipush 200, 3) := by decide +kernel
theorem d_R_init_35 : decode b_R_init 35 = .ok (.newarray .int, 2) := by decide +kernel
theorem d_R_init_37 : decode b_R_init 37 = .ok (.putfield 21, 3) := by decide +kernel
theorem d_R_init_40 : decode b_R_init 40 = .ok (.aload_n 0, 1) := by decide +kernel
theorem d_R_init_41 : decode b_R_init 41 = .ok (.sipush 200, 3) := by decide +kernel
theorem d_R_init_44 : decode b_R_init 44 = .ok (.newarray .int, 2) := by decide +kernel
theorem d_R_init_46 : decode b_R_init 46 = .ok (.putfield 24, 3) := by decide +kernel
theorem d_R_init_49 : decode b_R_init 49 = .ok (.aload_n 0, 1) := by decide +kernel
theorem d_R_init_50 : decode b_R_init 50 = .ok (.sipush 200, 3) := by decide +kernel
theorem d_R_init_53 : decode b_R_init 53 = .ok (.newarray .int, 2) := by decide +kernel
theorem d_R_init_55 : decode b_R_init 55 = .ok (.putfield 27, 3) := by decide +kernel
theorem d_R_init_58 : decode b_R_init 58 = .ok (.aload_n 0, 1) := by decide +kernel
theorem d_R_init_59 : decode b_R_init 59 = .ok (.sipush 200, 3) := by decide +kernel
theorem d_R_init_62 : decode b_R_init 62 = .ok (.newarray .boolean, 2) := by decide +kernel
theorem d_R_init_64 : decode b_R_init 64 = .ok (.putfield 30, 3) := by decide +kernel
theorem d_R_init_67 : decode b_R_init 67 = .ok (.aload_n 0, 1) := by decide +kernel
theorem d_R_init_68 : decode b_R_init 68 = .ok (.bipush 24, 2) := by decide +kernel
theorem d_R_init_70 : decode b_R_init 70 = .ok (.newarray .int, 2) := by decide +kernel
theorem d_R_init_72 : decode b_R_init 72 = .ok (.putfield 34, 3) := by decide +kernel
theorem d_R_init_75 : decode b_R_init 75 = .ok (.aload_n 0, 1) := by decide +kernel
theorem d_R_init_76 : decode b_R_init 76 = .ok (.iconst 0, 1) := by decide +kernel
theorem d_R_init_77 : decode b_R_init 77 = .ok (.putfield 37, 3) := by decide +kernel
theorem d_R_init_80 : decode b_R_init 80 = .ok (.return_, 1) := by decide +kernel
set_option maxHeartbeats 4000000 in
set_option maxRecDepth 100000 in
theorem c_R_init (l : Launch) (D : va_G) (h0 sz : Nat) : Met l y_R_init (.code y_R_init b_R_init 1 none :: TB) rm_R_init (va_Pc [.ref h0] (fun U => U.heap.size = sz ∧ va_P D cls_ [(h0, .inr (3, [.null, .null, .null, .null, .null, .null, .null, .null, .int 0]))] U.heap ∧ va_K D cls_ [] U ∧ va_D (fun _ => True) [(h0, .inr (3, [.null, .null, .null, .null, .null, .null, .null, .null, .int 0]))] ∧ NW U)) (va_Qv (fun u : (Nat → Nat) × ClassId × ClassId => True) (fun u t => va_P D cls_ ([(h0, .inr (3, [.ref (u.1 0), .ref (u.1 1), .ref (u.1 2), .ref (u.1 3), .ref (u.1 4), .ref (u.1 5), .ref (u.1 6), .ref (u.1 7), .int 0])), ((u.1 0), .inl (u.2.1, 200, .inl (fun _ => 0))), ((u.1 1), .inl (u.2.1, 200, .inl (fun _ => 0))), ((u.1 2), .inl (u.2.1, 200, .inl (fun _ => 0))), ((u.1 3), .inl (u.2.1, 200, .inl (fun _ => 0))), ((u.1 4), .inl (u.2.1, 200, .inl (fun _ => 0))), ((u.1 5), .inl (u.2.1, 200, .inl (fun _ => 0))), ((u.1 6), .inl (u.2.2, 200, .inl (fun _ => 0))), ((u.1 7), .inl (u.2.1, 24, .inl (fun _ => 0)))]) t.heap ∧ va_K D cls_ (ty_ u.2.1 u.2.2) t ∧ va_D (va_A [(h0, .inr (3, [.null, .null, .null, .null, .null, .null, .null, .null, .int 0]))] sz) ([(h0, .inr (3, [.ref (u.1 0), .ref (u.1 1), .ref (u.1 2), .ref (u.1 3), .ref (u.1 4), .ref (u.1 5), .ref (u.1 6), .ref (u.1 7), .int 0])), ((u.1 0), .inl (u.2.1, 200, .inl (fun _ => 0))), ((u.1 1), .inl (u.2.1, 200, .inl (fun _ => 0))), ((u.1 2), .inl (u.2.1, 200, .inl (fun _ => 0))), ((u.1 3), .inl (u.2.1, 200, .inl (fun _ => 0))), ((u.1 4), .inl (u.2.1, 200, .inl (fun _ => 0))), ((u.1 5), .inl (u.2.1, 200, .inl (fun _ => 0))), ((u.1 6), .inl (u.2.2, 200, .inl (fun _ => 0))), ((u.1 7), .inl (u.2.1, 24, .inl (fun _ => 0)))])) (va_A [(h0, .inr (3, [.null, .null, .null, .null, .null, .null, .null, .null, .int 0]))] sz)) 8 1424 (va_A [(h0, .inr (3, [.null, .null, .null, .null, .null, .null, .null, .null, .int 0]))] sz) := by
  refine Met.ofW (cc := b_R_init) (maxL := 1) (ret := none) (by decide +kernel) rfl ?_
  intro p e s m args below meth c s₁ B hml hv
  obtain ⟨rfl, hsz, hP, hK, hD0, hN⟩ := hv
  have hx := B.exec
  have hb := B.bytes
  have hr := B.returns
  have hts0 := atoms_spec (ws := Cond.code y_R_init b_R_init 1 none :: TB) B.pre
  have hts : ∀ w ∈ TB, w.before _ s = true := fun w h => hts0 w (List.mem_cons_of_mem _ h)
  have hown : s.vm.findClass R_R = some m.cls := findClass_of_methodNamed B.named
  have hlocks := B.notSynchronized
  have hin : meth.name = "<init>" := (name_of_methodNamed B.named B.method).1
  subst hsz
  have hD := hD0.self (sz := s.heap.size)
  generalize hAe : va_A [(h0, .inr (3, [.null, .null, .null, .null, .null, .null, .null, .null, .int 0]))] s.heap.size = A at hD ⊢
  have hA : ∀ q : Nat, s.heap.size ≤ q → A q := fun q h => by rw [← hAe]; exact Or.inr h
  have hS : va_S A s.heap s.heap [] := va_S.rf
  have hl := lv_entry ([.ref h0]) (n := 1) (Nat.le_of_ble_eq_true rfl)
  rw [lg_entry_eq]
  generalize (lg_sl ([.ref h0]) ++ List.replicate (1 - (lg_sl ([.ref h0])).length) Slot.unset).toArray = ls at hl ⊢
  have hl : lv_has ls 1 [(0, .ref h0)] := hl
  refine lv_aload_n hx hb d_R_init_0 rfl (lv_at hl 0 rfl) ?_
  refine W.objInit hx hb hown (hts _ tb_58) (hts _ tb_15) (hts _ tb_16) rfl (by rw [hml]; exact hl.1) rfl d_R_init_1 (Nat.le_of_ble_eq_true rfl) (Nat.le_of_ble_eq_true rfl) ?_
  refine W.eq (g2 := F0 m 4 ls []) rfl ?_
  refine lv_aload_n hx hb d_R_init_4 rfl (lv_at hl 0 rfl) ?_
  refine lv_sipush (v := 200) hx hb d_R_init_5 (by decide) ?_
  refine va_newa (atype := .int) (ty := .int) (N' := 200) (a0 := (200, .inl (fun _ => 0))) hx hb (hts _ tb_51) rfl hK hP hD hS hA (fun _ => rfl) (by decide) (by decide) (by decide) (Nat.le_of_ble_eq_true rfl) (Nat.le_of_ble_eq_true rfl) d_R_init_8 (fun q8 c8 H hK hP hD hS => ?_)
  refine W.widen (k := 1) (n := 200) (by decide) (by decide) ?_
  have hK : va_K D cls_ [(c8, .int)] s := hK
  have hP : va_P D cls_ [(h0, .inr (3, [.null, .null, .null, .null, .null, .null, .null, .null, .int 0])), (q8, .inl (c8, 200, .inl (fun _ => 0)))] H := hP
  have hD : va_D A [(h0, .inr (3, [.null, .null, .null, .null, .null, .null, .null, .null, .int 0])), (q8, .inl (c8, 200, .inl (fun _ => 0)))] := hD
  refine va_putF (D := D) (ci := 3) (v := .ref q8) (ty := .array .int) (C := R_R) (T := F_R) (N := 9) hx hb hts in_R t_R t_R_ok n_R hown hK hP hD hS 0 rfl rfl 0 (by decide) (hts _ tb_59) (fun _ h9 => h9) rfl hin rfl (by decide +kernel) rfl rfl (Nat.le_of_ble_eq_true rfl) d_R_init_10 (fun H locs hP hD hS => ?_)
  have hP : va_P D cls_ [(h0, .inr (3, [.ref q8, .null, .null, .null, .null, .null, .null, .null, .int 0])), (q8, .inl (c8, 200, .inl (fun _ => 0)))] H := hP
  have hD : va_D A [(h0, .inr (3, [.ref q8, .null, .null, .null, .null, .null, .null, .null, .int 0])), (q8, .inl (c8, 200, .inl (fun _ => 0)))] := hD
  refine lv_aload_n hx hb d_R_init_13 rfl (lv_at hl 0 rfl) ?_
  refine lv_sipush (v := 200) hx hb d_R_init_14 (by decide) ?_
  refine va_newa (atype := .int) (ty := .int) (N' := 200) (a0 := (200, .inl (fun _ => 0))) hx hb (hts _ tb_51) rfl hK hP hD hS hA (fun _ => rfl) (by decide) (by decide) (by decide) (Nat.le_of_ble_eq_true rfl) (Nat.le_of_ble_eq_true rfl) d_R_init_17 (fun q17 c17 H hK hP hD hS => ?_)
  refine W.widen (k := 2) (n := 400) (by decide) (by decide) ?_
  have e17 : c8 = c17 := arr_eqI hK 0 1 rfl rfl
  subst e17
  have hK : va_K D cls_ [(c8, .int)] s := hK.sub [0] rfl
  have hP : va_P D cls_ [(h0, .inr (3, [.ref q8, .null, .null, .null, .null, .null, .null, .null, .int 0])), (q8, .inl (c8, 200, .inl (fun _ => 0))), (q17, .inl (c8, 200, .inl (fun _ => 0)))] H := hP
  have hD : va_D A [(h0, .inr (3, [.ref q8, .null, .null, .null, .null, .null, .null, .null, .int 0])), (q8, .inl (c8, 200, .inl (fun _ => 0))), (q17, .inl (c8, 200, .inl (fun _ => 0)))] := hD
  refine va_putF (D := D) (ci := 3) (v := .ref q17) (ty := .array .int) (C := R_R) (T := F_R) (N := 9) hx hb hts in_R t_R t_R_ok n_R hown hK hP hD hS 0 rfl rfl 1 (by decide) (hts _ tb_61) (fun _ h9 => h9) rfl hin rfl (by decide +kernel) rfl rfl (Nat.le_of_ble_eq_true rfl) d_R_init_19 (fun H locs hP hD hS => ?_)
  have hP : va_P D cls_ [(h0, .inr (3, [.ref q8, .ref q17, .null, .null, .null, .null, .null, .null, .int 0])), (q8, .inl (c8, 200, .inl (fun _ => 0))), (q17, .inl (c8, 200, .inl (fun _ => 0)))] H := hP
  have hD : va_D A [(h0, .inr (3, [.ref q8, .ref q17, .null, .null, .null, .null, .null, .null, .int 0])), (q8, .inl (c8, 200, .inl (fun _ => 0))), (q17, .inl (c8, 200, .inl (fun _ => 0)))] := hD
  refine lv_aload_n hx hb d_R_init_22 rfl (lv_at hl 0 rfl) ?_
  refine lv_sipush (v := 200) hx hb d_R_init_23 (by decide) ?_
  refine va_newa (atype := .int) (ty := .int) (N' := 200) (a0 := (200, .inl (fun _ => 0))) hx hb (hts _ tb_51) rfl hK hP hD hS hA (fun _ => rfl) (by decide) (by decide) (by decide) (Nat.le_of_ble_eq_true rfl) (Nat.le_of_ble_eq_true rfl) d_R_init_26 (fun q26 c26 H hK hP hD hS => ?_)
  refine W.widen (k := 3) (n := 600) (by decide) (by decide) ?_
  have e26 : c8 = c26 := arr_eqI hK 0 1 rfl rfl
  subst e26
  have hK : va_K D cls_ [(c8, .int)] s := hK.sub [0] rfl
  have hP : va_P D cls_ [(h0, .inr (3, [.ref q8, .ref q17, .null, .null, .null, .null, .null, .null, .int 0])), (q8, .inl (c8, 200, .inl (fun _ => 0))), (q17, .inl (c8, 200, .inl (fun _ => 0))), (q26, .inl (c8, 200, .inl (fun _ => 0)))] H := hP
  have hD : va_D A [(h0, .inr (3, [.ref q8, .ref q17, .null, .null, .null, .null, .null, .null, .int 0])), (q8, .inl (c8, 200, .inl (fun _ => 0))), (q17, .inl (c8, 200, .inl (fun _ => 0))), (q26, .inl (c8, 200, .inl (fun _ => 0)))] := hD
  refine va_putF (D := D) (ci := 3) (v := .ref q26) (ty := .array .int) (C := R_R) (T := F_R) (N := 9) hx hb hts in_R t_R t_R_ok n_R hown hK hP hD hS 0 rfl rfl 2 (by decide) (hts _ tb_63) (fun _ h9 => h9) rfl hin rfl (by decide +kernel) rfl rfl (Nat.le_of_ble_eq_true rfl) d_R_init_28 (fun H locs hP hD hS => ?_)
  have hP : va_P D cls_ [(h0, .inr (3, [.ref q8, .ref q17, .ref q26, .null, .null, .null, .null, .null, .int 0])), (q8, .inl (c8, 200, .inl (fun _ => 0))), (q17, .inl (c8, 200, .inl (fun _ => 0))), (q26, .inl (c8, 200, .inl (fun _ => 0)))] H := hP
  have hD : va_D A [(h0, .inr (3, [.ref q8, .ref q17, .ref q26, .null, .null, .null, .null, .null, .int 0])), (q8, .inl (c8, 200, .inl (fun _ => 0))), (q17, .inl (c8, 200, .inl (fun _ => 0))), (q26, .inl (c8, 200, .inl (fun _ => 0)))] := hD
  refine lv_aload_n hx hb d_R_init_31 rfl (lv_at hl 0 rfl) ?_
  refine lv_sipush (v := 200) hx hb d_R_init_32 (by decide) ?_
  refine va_newa (atype := .int) (ty := .int) (N' := 200) (a0 := (200, .inl (fun _ => 0))) hx hb (hts _ tb_51) rfl hK hP hD hS hA (fun _ => rfl) (by decide) (by decide) (by decide) (Nat.le_of_ble_eq_true rfl) (Nat.le_of_ble_eq_true rfl) d_R_init_35 (fun q35 c35 H hK hP hD hS => ?_)
  refine W.widen (k := 4) (n := 800) (by decide) (by decide) ?_
  have e35 : c8 = c35 := arr_eqI hK 0 1 rfl rfl
  subst e35
  have hK : va_K D cls_ [(c8, .int)] s := hK.sub [0] rfl
  have hP : va_P D cls_ [(h0, .inr (3, [.ref q8, .ref q17, .ref q26, .null, .null, .null, .null, .null, .int 0])), (q8, .inl (c8, 200, .inl (fun _ => 0))), (q17, .inl (c8, 200, .inl (fun _ => 0))), (q26, .inl (c8, 200, .inl (fun _ => 0))), (q35, .inl (c8, 200, .inl (fun _ => 0)))] H := hP
  have hD : va_D A [(h0, .inr (3, [.ref q8, .ref q17, .ref q26, .null, .null, .null, .null, .null, .int 0])), (q8, .inl (c8, 200, .inl (fun _ => 0))), (q17, .inl (c8, 200, .inl (fun _ => 0))), (q26, .inl (c8, 200, .inl (fun _ => 0))), (q35, .inl (c8, 200, .inl (fun _ => 0)))] := hD
  refine va_putF (D := D) (ci := 3) (v := .ref q35) (ty := .array .int) (C := R_R) (T := F_R) (N := 9) hx hb hts in_R t_R t_R_ok n_R hown hK hP hD hS 0 rfl rfl 3 (by decide) (hts _ tb_65) (fun _ h9 => h9) rfl hin rfl (by decide +kernel) rfl rfl (Nat.le_of_ble_eq_true rfl) d_R_init_37 (fun H locs hP hD hS => ?_)
  have hP : va_P D cls_ [(h0, .inr (3, [.ref q8, .ref q17, .ref q26, .ref q35, .null, .null, .null, .null, .int 0])), (q8, .inl (c8, 200, .inl (fun _ => 0))), (q17, .inl (c8, 200, .inl (fun _ => 0))), (q26, .inl (c8, 200, .inl (fun _ => 0))), (q35, .inl (c8, 200, .inl (fun _ => 0)))] H := hP
  have hD : va_D A [(h0, .inr (3, [.ref q8, .ref q17, .ref q26, .ref q35, .null, .null, .null, .null, .int 0])), (q8, .inl (c8, 200, .inl (fun _ => 0))), (q17, .inl (c8, 200, .inl (fun _ => 0))), (q26, .inl (c8, 200, .inl (fun _ => 0))), (q35, .inl (c8, 200, .inl (fun _ => 0)))] := hD
  refine lv_aload_n hx hb d_R_init_40 rfl (lv_at hl 0 rfl) ?_
  refine lv_sipush (v := 200) hx hb d_R_init_41 (by decide) ?_
  refine va_newa (atype := .int) (ty := .int) (N' := 200) (a0 := (200, .inl (fun _ => 0))) hx hb (hts _ tb_51) rfl hK hP hD hS hA (fun _ => rfl) (by decide) (by decide) (by decide) (Nat.le_of_ble_eq_true rfl) (Nat.le_of_ble_eq_true rfl) d_R_init_44 (fun q44 c44 H hK hP hD hS => ?_)
  refine W.widen (k := 5) (n := 1000) (by decide) (by decide) ?_
  have e44 : c8 = c44 := arr_eqI hK 0 1 rfl rfl
  subst e44
  have hK : va_K D cls_ [(c8, .int)] s := hK.sub [0] rfl
  have hP : va_P D cls_ [(h0, .inr (3, [.ref q8, .ref q17, .ref q26, .ref q35, .null, .null, .null, .null, .int 0])), (q8, .inl (c8, 200, .inl (fun _ => 0))), (q17, .inl (c8, 200, .inl (fun _ => 0))), (q26, .inl (c8, 200, .inl (fun _ => 0))), (q35, .inl (c8, 200, .inl (fun _ => 0))), (q44, .inl (c8, 200, .inl (fun _ => 0)))] H := hP
  have hD : va_D A [(h0, .inr (3, [.ref q8, .ref q17, .ref q26, .ref q35, .null, .null, .null, .null, .int 0])), (q8, .inl (c8, 200, .inl (fun _ => 0))), (q17, .inl (c8, 200, .inl (fun _ => 0))), (q26, .inl (c8, 200, .inl (fun _ => 0))), (q35, .inl (c8, 200, .inl (fun _ => 0))), (q44, .inl (c8, 200, .inl (fun _ => 0)))] := hD
  refine va_putF (D := D) (ci := 3) (v := .ref q44) (ty := .array .int) (C := R_R) (T := F_R) (N := 9) hx hb hts in_R t_R t_R_ok n_R hown hK hP hD hS 0 rfl rfl 4 (by decide) (hts _ tb_67) (fun _ h9 => h9) rfl hin rfl (by decide +kernel) rfl rfl (Nat.le_of_ble_eq_true rfl) d_R_init_46 (fun H locs hP hD hS => ?_)
  have hP : va_P D cls_ [(h0, .inr (3, [.ref q8, .ref q17, .ref q26, .ref q35, .ref q44, .null, .null, .null, .int 0])), (q8, .inl (c8, 200, .inl (fun _ => 0))), (q17, .inl (c8, 200, .inl (fun _ => 0))), (q26, .inl (c8, 200, .inl (fun _ => 0))), (q35, .inl (c8, 200, .inl (fun _ => 0))), (q44, .inl (c8, 200, .inl (fun _ => 0)))] H := hP
  have hD : va_D A [(h0, .inr (3, [.ref q8, .ref q17, .ref q26, .ref q35, .ref q44, .null, .null, .null, .int 0])), (q8, .inl (c8, 200, .inl (fun _ => 0))), (q17, .inl (c8, 200, .inl (fun _ => 0))), (q26, .inl (c8, 200, .inl (fun _ => 0))), (q35, .inl (c8, 200, .inl (fun _ => 0))), (q44, .inl (c8, 200, .inl (fun _ => 0)))] := hD
  refine lv_aload_n hx hb d_R_init_49 rfl (lv_at hl 0 rfl) ?_
  refine lv_sipush (v := 200) hx hb d_R_init_50 (by decide) ?_
  refine va_newa (atype := .int) (ty := .int) (N' := 200) (a0 := (200, .inl (fun _ => 0))) hx hb (hts _ tb_51) rfl hK hP hD hS hA (fun _ => rfl) (by decide) (by decide) (by decide) (Nat.le_of_ble_eq_true rfl) (Nat.le_of_ble_eq_true rfl) d_R_init_53 (fun q53 c53 H hK hP hD hS => ?_)
  refine W.widen (k := 6) (n := 1200) (by decide) (by decide) ?_
  have e53 : c8 = c53 := arr_eqI hK 0 1 rfl rfl
  subst e53
  have hK : va_K D cls_ [(c8, .int)] s := hK.sub [0] rfl
  have hP : va_P D cls_ [(h0, .inr (3, [.ref q8, .ref q17, .ref q26, .ref q35, .ref q44, .null, .null, .null, .int 0])), (q8, .inl (c8, 200, .inl (fun _ => 0))), (q17, .inl (c8, 200, .inl (fun _ => 0))), (q26, .inl (c8, 200, .inl (fun _ => 0))), (q35, .inl (c8, 200, .inl (fun _ => 0))), (q44, .inl (c8, 200, .inl (fun _ => 0))), (q53, .inl (c8, 200, .inl (fun _ => 0)))] H := hP
  have hD : va_D A [(h0, .inr (3, [.ref q8, .ref q17, .ref q26, .ref q35, .ref q44, .null, .null, .null, .int 0])), (q8, .inl (c8, 200, .inl (fun _ => 0))), (q17, .inl (c8, 200, .inl (fun _ => 0))), (q26, .inl (c8, 200, .inl (fun _ => 0))), (q35, .inl (c8, 200, .inl (fun _ => 0))), (q44, .inl (c8, 200, .inl (fun _ => 0))), (q53, .inl (c8, 200, .inl (fun _ => 0)))] := hD
  refine va_putF (D := D) (ci := 3) (v := .ref q53) (ty := .array .int) (C := R_R) (T := F_R) (N := 9) hx hb hts in_R t_R t_R_ok n_R hown hK hP hD hS 0 rfl rfl 5 (by decide) (hts _ tb_69) (fun _ h9 => h9) rfl hin rfl (by decide +kernel) rfl rfl (Nat.le_of_ble_eq_true rfl) d_R_init_55 (fun H locs hP hD hS => ?_)
  have hP : va_P D cls_ [(h0, .inr (3, [.ref q8, .ref q17, .ref q26, .ref q35, .ref q44, .ref q53, .null, .null, .int 0])), (q8, .inl (c8, 200, .inl (fun _ => 0))), (q17, .inl (c8, 200, .inl (fun _ => 0))), (q26, .inl (c8, 200, .inl (fun _ => 0))), (q35, .inl (c8, 200, .inl (fun _ => 0))), (q44, .inl (c8, 200, .inl (fun _ => 0))), (q53, .inl (c8, 200, .inl (fun _ => 0)))] H := hP
  have hD : va_D A [(h0, .inr (3, [.ref q8, .ref q17, .ref q26, .ref q35, .ref q44, .ref q53, .null, .null, .int 0])), (q8, .inl (c8, 200, .inl (fun _ => 0))), (q17, .inl (c8, 200, .inl (fun _ => 0))), (q26, .inl (c8, 200, .inl (fun _ => 0))), (q35, .inl (c8, 200, .inl (fun _ => 0))), (q44, .inl (c8, 200, .inl (fun _ => 0))), (q53, .inl (c8, 200, .inl (fun _ => 0)))] := hD
  refine lv_aload_n hx hb d_R_init_58 rfl (lv_at hl 0 rfl) ?_
  refine lv_sipush (v := 200) hx hb d_R_init_59 (by decide) ?_
  refine va_newa (atype := .boolean) (ty := .boolean) (N' := 200) (a0 := (200, .inl (fun _ => 0))) hx hb (hts _ tb_52) rfl hK hP hD hS hA (fun _ => rfl) (by decide) (by decide) (by decide) (Nat.le_of_ble_eq_true rfl) (Nat.le_of_ble_eq_true rfl) d_R_init_62 (fun q62 c62 H hK hP hD hS => ?_)
  refine W.widen (k := 7) (n := 1400) (by decide) (by decide) ?_
  have hK : va_K D cls_ [(c8, .int), (c62, .boolean)] s := hK
  have hP : va_P D cls_ [(h0, .inr (3, [.ref q8, .ref q17, .ref q26, .ref q35, .ref q44, .ref q53, .null, .null, .int 0])), (q8, .inl (c8, 200, .inl (fun _ => 0))), (q17, .inl (c8, 200, .inl (fun _ => 0))), (q26, .inl (c8, 200, .inl (fun _ => 0))), (q35, .inl (c8, 200, .inl (fun _ => 0))), (q44, .inl (c8, 200, .inl (fun _ => 0))), (q53, .inl (c8, 200, .inl (fun _ => 0))), (q62, .inl (c62, 200, .inl (fun _ => 0)))] H := hP
  have hD : va_D A [(h0, .inr (3, [.ref q8, .ref q17, .ref q26, .ref q35, .ref q44, .ref q53, .null, .null, .int 0])), (q8, .inl (c8, 200, .inl (fun _ => 0))), (q17, .inl (c8, 200, .inl (fun _ => 0))), (q26, .inl (c8, 200, .inl (fun _ => 0))), (q35, .inl (c8, 200, .inl (fun _ => 0))), (q44, .inl (c8, 200, .inl (fun _ => 0))), (q53, .inl (c8, 200, .inl (fun _ => 0))), (q62, .inl (c62, 200, .inl (fun _ => 0)))] := hD
  refine va_putF (D := D) (ci := 3) (v := .ref q62) (ty := .array .boolean) (C := R_R) (T := F_R) (N := 9) hx hb hts in_R t_R t_R_ok n_R hown hK hP hD hS 0 rfl rfl 6 (by decide) (hts _ tb_71) (fun _ h9 => h9) rfl hin rfl (by decide +kernel) rfl rfl (Nat.le_of_ble_eq_true rfl) d_R_init_64 (fun H locs hP hD hS => ?_)
  have hP : va_P D cls_ [(h0, .inr (3, [.ref q8, .ref q17, .ref q26, .ref q35, .ref q44, .ref q53, .ref q62, .null, .int 0])), (q8, .inl (c8, 200, .inl (fun _ => 0))), (q17, .inl (c8, 200, .inl (fun _ => 0))), (q26, .inl (c8, 200, .inl (fun _ => 0))), (q35, .inl (c8, 200, .inl (fun _ => 0))), (q44, .inl (c8, 200, .inl (fun _ => 0))), (q53, .inl (c8, 200, .inl (fun _ => 0))), (q62, .inl (c62, 200, .inl (fun _ => 0)))] H := hP
  have hD : va_D A [(h0, .inr (3, [.ref q8, .ref q17, .ref q26, .ref q35, .ref q44, .ref q53, .ref q62, .null, .int 0])), (q8, .inl (c8, 200, .inl (fun _ => 0))), (q17, .inl (c8, 200, .inl (fun _ => 0))), (q26, .inl (c8, 200, .inl (fun _ => 0))), (q35, .inl (c8, 200, .inl (fun _ => 0))), (q44, .inl (c8, 200, .inl (fun _ => 0))), (q53, .inl (c8, 200, .inl (fun _ => 0))), (q62, .inl (c62, 200, .inl (fun _ => 0)))] := hD
  refine lv_aload_n hx hb d_R_init_67 rfl (lv_at hl 0 rfl) ?_
  refine lv_bipush (v := 24) hx hb d_R_init_68 (by decide) ?_
  refine va_newa (atype := .int) (ty := .int) (N' := 24) (a0 := (24, .inl (fun _ => 0))) hx hb (hts _ tb_51) rfl hK hP hD hS hA (fun _ => rfl) (by decide) (by decide) (by decide) (Nat.le_of_ble_eq_true rfl) (Nat.le_of_ble_eq_true rfl) d_R_init_70 (fun q70 c70 H hK hP hD hS => ?_)
  refine W.widen (k := 8) (n := 1424) (by decide) (by decide) ?_
  have e70 : c8 = c70 := arr_eqI hK 0 2 rfl rfl
  subst e70
  have hK : va_K D cls_ [(c8, .int), (c62, .boolean)] s := hK.sub [0, 1] rfl
  have hP : va_P D cls_ [(h0, .inr (3, [.ref q8, .ref q17, .ref q26, .ref q35, .ref q44, .ref q53, .ref q62, .null, .int 0])), (q8, .inl (c8, 200, .inl (fun _ => 0))), (q17, .inl (c8, 200, .inl (fun _ => 0))), (q26, .inl (c8, 200, .inl (fun _ => 0))), (q35, .inl (c8, 200, .inl (fun _ => 0))), (q44, .inl (c8, 200, .inl (fun _ => 0))), (q53, .inl (c8, 200, .inl (fun _ => 0))), (q62, .inl (c62, 200, .inl (fun _ => 0))), (q70, .inl (c8, 24, .inl (fun _ => 0)))] H := hP
  have hD : va_D A [(h0, .inr (3, [.ref q8, .ref q17, .ref q26, .ref q35, .ref q44, .ref q53, .ref q62, .null, .int 0])), (q8, .inl (c8, 200, .inl (fun _ => 0))), (q17, .inl (c8, 200, .inl (fun _ => 0))), (q26, .inl (c8, 200, .inl (fun _ => 0))), (q35, .inl (c8, 200, .inl (fun _ => 0))), (q44, .inl (c8, 200, .inl (fun _ => 0))), (q53, .inl (c8, 200, .inl (fun _ => 0))), (q62, .inl (c62, 200, .inl (fun _ => 0))), (q70, .inl (c8, 24, .inl (fun _ => 0)))] := hD
  refine va_putF (D := D) (ci := 3) (v := .ref q70) (ty := .array .int) (C := R_R) (T := F_R) (N := 9) hx hb hts in_R t_R t_R_ok n_R hown hK hP hD hS 0 rfl rfl 7 (by decide) (hts _ tb_73) (fun _ h9 => h9) rfl hin rfl (by decide +kernel) rfl rfl (Nat.le_of_ble_eq_true rfl) d_R_init_72 (fun H locs hP hD hS => ?_)
  have hP : va_P D cls_ [(h0, .inr (3, [.ref q8, .ref q17, .ref q26, .ref q35, .ref q44, .ref q53, .ref q62, .ref q70, .int 0])), (q8, .inl (c8, 200, .inl (fun _ => 0))), (q17, .inl (c8, 200, .inl (fun _ => 0))), (q26, .inl (c8, 200, .inl (fun _ => 0))), (q35, .inl (c8, 200, .inl (fun _ => 0))), (q44, .inl (c8, 200, .inl (fun _ => 0))), (q53, .inl (c8, 200, .inl (fun _ => 0))), (q62, .inl (c62, 200, .inl (fun _ => 0))), (q70, .inl (c8, 24, .inl (fun _ => 0)))] H := hP
  have hD : va_D A [(h0, .inr (3, [.ref q8, .ref q17, .ref q26, .ref q35, .ref q44, .ref q53, .ref q62, .ref q70, .int 0])), (q8, .inl (c8, 200, .inl (fun _ => 0))), (q17, .inl (c8, 200, .inl (fun _ => 0))), (q26, .inl (c8, 200, .inl (fun _ => 0))), (q35, .inl (c8, 200, .inl (fun _ => 0))), (q44, .inl (c8, 200, .inl (fun _ => 0))), (q53, .inl (c8, 200, .inl (fun _ => 0))), (q62, .inl (c62, 200, .inl (fun _ => 0))), (q70, .inl (c8, 24, .inl (fun _ => 0)))] := hD
  refine lv_aload_n hx hb d_R_init_75 rfl (lv_at hl 0 rfl) ?_
  refine lv_iconst (v := 0) hx hb d_R_init_76 (by decide) ?_
  refine va_put (D := D) (ci := 3) (v := .int 0) (ty := .int) (C := R_R) (T := F_R) (N := 9) hx hb hts in_R t_R t_R_ok n_R hown hK hP hD hS 0 rfl rfl 8 (by decide) (hts _ tb_75) (fun _ h9 => h9) rfl (by decide +kernel) rfl rfl (Nat.le_of_ble_eq_true rfl) d_R_init_77 (fun H locs hP hD hS => ?_)
  have hP : va_P D cls_ [(h0, .inr (3, [.ref q8, .ref q17, .ref q26, .ref q35, .ref q44, .ref q53, .ref q62, .ref q70, .int 0])), (q8, .inl (c8, 200, .inl (fun _ => 0))), (q17, .inl (c8, 200, .inl (fun _ => 0))), (q26, .inl (c8, 200, .inl (fun _ => 0))), (q35, .inl (c8, 200, .inl (fun _ => 0))), (q44, .inl (c8, 200, .inl (fun _ => 0))), (q53, .inl (c8, 200, .inl (fun _ => 0))), (q62, .inl (c62, 200, .inl (fun _ => 0))), (q70, .inl (c8, 24, .inl (fun _ => 0)))] H := hP
  have hD : va_D A [(h0, .inr (3, [.ref q8, .ref q17, .ref q26, .ref q35, .ref q44, .ref q53, .ref q62, .ref q70, .int 0])), (q8, .inl (c8, 200, .inl (fun _ => 0))), (q17, .inl (c8, 200, .inl (fun _ => 0))), (q26, .inl (c8, 200, .inl (fun _ => 0))), (q35, .inl (c8, 200, .inl (fun _ => 0))), (q44, .inl (c8, 200, .inl (fun _ => 0))), (q53, .inl (c8, 200, .inl (fun _ => 0))), (q62, .inl (c62, 200, .inl (fun _ => 0))), (q70, .inl (c8, 24, .inl (fun _ => 0)))] := hD
  have hP9 := hP.sub (ws' := [(h0, .inr (3, [.ref q8, .ref q17, .ref q26, .ref q35, .ref q44, .ref q53, .ref q62, .ref q70, .int 0])), (q8, .inl (c8, 200, .inl (fun _ => 0))), (q17, .inl (c8, 200, .inl (fun _ => 0))), (q26, .inl (c8, 200, .inl (fun _ => 0))), (q35, .inl (c8, 200, .inl (fun _ => 0))), (q44, .inl (c8, 200, .inl (fun _ => 0))), (q53, .inl (c8, 200, .inl (fun _ => 0))), (q62, .inl (c62, 200, .inl (fun _ => 0))), (q70, .inl (c8, 24, .inl (fun _ => 0)))]) [0, 1, 2, 3, 4, 5, 6, 7, 8] rfl
  have hD9 := hD.sub (ws' := [(h0, .inr (3, [.ref q8, .ref q17, .ref q26, .ref q35, .ref q44, .ref q53, .ref q62, .ref q70, .int 0])), (q8, .inl (c8, 200, .inl (fun _ => 0))), (q17, .inl (c8, 200, .inl (fun _ => 0))), (q26, .inl (c8, 200, .inl (fun _ => 0))), (q35, .inl (c8, 200, .inl (fun _ => 0))), (q44, .inl (c8, 200, .inl (fun _ => 0))), (q53, .inl (c8, 200, .inl (fun _ => 0))), (q62, .inl (c62, 200, .inl (fun _ => 0))), (q70, .inl (c8, 24, .inl (fun _ => 0)))]) [0, 1, 2, 3, 4, 5, 6, 7, 8] (by decide) rfl
  have hK9 : va_K D cls_ (ty_ c8 c62) s := hK.sub [0, 1] rfl
  exact W.vret hx hb hr (fun t ht hW => ⟨⟨((fun k : Nat => match k with | 0 => q8 | 1 => q17 | 2 => q26 | 3 => q35 | 4 => q44 | 5 => q53 | 6 => q62 | _ => q70), c8, c62), rfl, trivial, by rw [ht]; exact hP9, va_K.moved hW.alike hK9, hD9⟩, hS.F ht⟩) hS.2.2 d_R_init_80
abbrev rm_E_init : Room := { frames := 2, cells := 19, slots := 4109, locals := 32 }
theorem good_E_init : GoodIn TB (.code y_E_init b_E_init 1 none :: TB) := good_of tb_13
theorem hd_E_init : y_E_init.cls ≠ "java/lang/invoke/MethodHandle" ∧ y_E_init.cls ≠ "java/lang/invoke/VarHandle" ∧ (parseMethodDescriptor y_E_init.desc).map (fun d => d.parameters.length) = some 0 := by decide +kernel
theorem d_E_init_0 : decode b_E_init 0 = .ok (.aload_n 0, 1) := by decide +kernel
theorem d_E_init_1 : decode b_E_init 1 = .ok (.invokespecial 1, 3) := by decide +kernel
theorem d_E_init_4 : decode b_E_init 4 = .ok (.aload_n 0, 1) := by decide +kernel
theorem d_E_init_5 : decode b_E_init 5 = .ok (.bipush 64, 2) := by decide +kernel
theorem d_E_init_7 : decode b_E_init 7 = .ok (.newarray .int, 2) := by decide +kernel
theorem d_E_init_9 : decode b_E_init 9 = .ok (.putfield 9, 3) := by decide +kernel
theorem d_E_init_12 : decode b_E_init 12 = .ok (.aload_n 0, 1) := by decide +kernel
theorem d_E_init_13 : decode b_E_init 13 = .ok (.new 13, 3) := by decide +kernel
theorem d_E_init_16 : decode b_E_init 16 = .ok (.dup, 1) := by decide +kernel
theorem d_E_init_17 : decode b_E_init 17 = .ok (.invokespecial 15, 3) := by decide +kernel
theorem d_E_init_20 : decode b_E_init 20 = .ok (.putfield 16, 3) := by decide +kernel
theorem d_E_init_23 : decode b_E_init 23 = .ok (.aload_n 0, 1) := by decide +kernel
theorem d_E_init_24 : decode b_E_init 24 = .ok (.new 20, 3) := by decide +kernel
theorem d_E_init_27 : decode b_E_init 27 = .ok (.dup, 1) := by decide +kernel
theorem d_E_init_28 : decode b_E_init 28 = .ok (.invokespecial 22, 3) := by decide +kernel
theorem d_E_init_31 : decode b_E_init 31 = .ok (.putfield 23, 3) := by decide +kernel
theorem d_E_init_34 : decode b_E_init 34 = .ok (.aload_n 0, 1) := by decide +kernel
theorem d_E_init_35 : decode b_E_init 35 = .ok (.new 27, 3) := by decide +kernel
theorem d_E_init_38 : decode b_E_init 38 = .ok (.dup, 1) := by decide +kernel
theorem d_E_init_39 : decode b_E_init 39 = .ok (.invokespecial 29, 3) := by decide +kernel
theorem d_E_init_42 : decode b_E_init 42 = .ok (.putfield 30, 3) := by decide +kernel
theorem d_E_init_45 : decode b_E_init 45 = .ok (.aload_n 0, 1) := by decide +kernel
theorem d_E_init_46 : decode b_E_init 46 = .ok (.new 34, 3) := by decide +kernel
theorem d_E_init_49 : decode b_E_init 49 = .ok (.dup, 1) := by decide +kernel
theorem d_E_init_50 : decode b_E_init 50 = .ok (.invokespecial 36, 3) := by decide +kernel
theorem d_E_init_53 : decode b_E_init 53 = .ok (.putfield 37, 3) := by decide +kernel
theorem d_E_init_56 : decode b_E_init 56 = .ok (.aload_n 0, 1) := by decide +kernel
theorem d_E_init_57 : decode b_E_init 57 = .ok (.bipush 50, 2) := by decide +kernel
theorem d_E_init_59 : decode b_E_init 59 = .ok (.putfield 41, 3) := by decide +kernel
theorem d_E_init_62 : decode b_E_init 62 = .ok (.aload_n 0, 1) := by decide +kernel
theorem d_E_init_63 : decode b_E_init 63 = .ok (.sipush 500, 3) := by decide +kernel
theorem d_E_init_66 : decode b_E_init 66 = .ok (.putfield 45, 3) := by decide +kernel
theorem d_E_init_69 : decode b_E_init 69 = .ok (.aload_n 0, 1) := by decide +kernel
theorem d_E_init_70 : decode b_E_init 70 = .ok (.iconst 0, 1) := by decide +kernel
theorem d_E_init_71 : decode b_E_init 71 = .ok (.putfield 48, 3) := by decide +kernel
theorem d_E_init_74 : decode b_E_init 74 = .ok (.aload_n 0, 1) := by decide +kernel
theorem d_E_init_75 : decode b_E_init 75 = .ok (.iconst 0, 1) := by decide +kernel
theorem d_E_init_76 : decode b_E_init 76 = .ok (.putfield 51, 3) := by decide +kernel
theorem d_E_init_79 : decode b_E_init 79 = .ok (.aload_n 0, 1) := by decide +kernel
theorem d_E_init_80 : decode b_E_init 80 = .ok (.iconst 0, 1) := by decide +kernel
theorem d_E_init_81 : decode b_E_init 81 = .ok (.putfield 54, 3) := by decide +kernel
theorem d_E_init_84 : decode b_E_init 84 = .ok (.aload_n 0, 1) := by decide +kernel
theorem d_E_init_85 : decode b_E_init 85 = .ok (.iconst (-1), 1) := by decide +kernel
theorem d_E_init_86 : decode b_E_init 86 = .ok (.putfield 57, 3) := by decide +kernel
theorem d_E_init_89 : decode b_E_init 89 = .ok (.return_, 1) := by decide +kernel
set_option maxHeartbeats 4000000 in
set_option maxRecDepth 100000 in
theorem c_E_init (l : Launch) (D : va_G) (h0 sz : Nat) : Met l y_E_init (.code y_E_init b_E_init 1 none :: TB) rm_E_init (va_Pc [.ref h0] (fun U => U.heap.size = sz ∧ va_P D cls_ [(h0, .inr (4, [.null, .null, .null, .null, .null, .int 0, .int 0, .int 0, .int 0, .int 0, .int 0]))] U.heap ∧ va_K D cls_ [] U ∧ va_D (fun _ => True) [(h0, .inr (4, [.null, .null, .null, .null, .null, .int 0, .int 0, .int 0, .int 0, .int 0, .int 0]))] ∧ NW U)) (va_Qv (fun u : (Nat → Nat) × ClassId × ClassId => u.1 0 = h0) (fun u t => va_P D cls_ (wE u.1 u.2.1 u.2.2 gE0) t.heap ∧ va_K D cls_ (ty_ u.2.1 u.2.2) t ∧ va_D (va_A [(h0, .inr (4, [.null, .null, .null, .null, .null, .int 0, .int 0, .int 0, .int 0, .int 0, .int 0]))] sz) (wE u.1 u.2.1 u.2.2 gE0)) (va_A [(h0, .inr (4, [.null, .null, .null, .null, .null, .int 0, .int 0, .int 0, .int 0, .int 0, .int 0]))] sz)) 19 4109 (va_A [(h0, .inr (4, [.null, .null, .null, .null, .null, .int 0, .int 0, .int 0, .int 0, .int 0, .int 0]))] sz) := by
  refine Met.ofW (cc := b_E_init) (maxL := 1) (ret := none) (by decide +kernel) rfl ?_
  intro p e s m args below meth c s₁ B hml hv
  obtain ⟨rfl, hsz, hP, hK, hD0, hN⟩ := hv
  have hx := B.exec
  have hb := B.bytes
  have hr := B.returns
  have hts0 := atoms_spec (ws := Cond.code y_E_init b_E_init 1 none :: TB) B.pre
  have hts : ∀ w ∈ TB, w.before _ s = true := fun w h => hts0 w (List.mem_cons_of_mem _ h)
  have hown : s.vm.findClass R_E = some m.cls := findClass_of_methodNamed B.named
  have hlocks := B.notSynchronized
  have hin : meth.name = "<init>" := (name_of_methodNamed B.named B.method).1
  subst hsz
  have hD := hD0.self (sz := s.heap.size)
  generalize hAe : va_A [(h0, .inr (4, [.null, .null, .null, .null, .null, .int 0, .int 0, .int 0, .int 0, .int 0, .int 0]))] s.heap.size = A at hD ⊢
  have hA : ∀ q : Nat, s.heap.size ≤ q → A q := fun q h => by rw [← hAe]; exact Or.inr h
  have hS : va_S A s.heap s.heap [] := va_S.rf
  have hl := lv_entry ([.ref h0]) (n := 1) (Nat.le_of_ble_eq_true rfl)
  rw [lg_entry_eq]
  generalize (lg_sl ([.ref h0]) ++ List.replicate (1 - (lg_sl ([.ref h0])).length) Slot.unset).toArray = ls at hl ⊢
  have hl : lv_has ls 1 [(0, .ref h0)] := hl
  refine lv_aload_n hx hb d_E_init_0 rfl (lv_at hl 0 rfl) ?_
  refine W.objInit hx hb hown (hts _ tb_14) (hts _ tb_15) (hts _ tb_16) rfl (by rw [hml]; exact hl.1) rfl d_E_init_1 (Nat.le_of_ble_eq_true rfl) (Nat.le_of_ble_eq_true rfl) ?_
  refine W.eq (g2 := F0 m 4 ls []) rfl ?_
  refine lv_aload_n hx hb d_E_init_4 rfl (lv_at hl 0 rfl) ?_
  refine lv_bipush (v := 64) hx hb d_E_init_5 (by decide) ?_
  refine va_newa (atype := .int) (ty := .int) (N' := 64) (a0 := (64, .inl (fun _ => 0))) hx hb (hts _ tb_51) rfl hK hP hD hS hA (fun _ => rfl) (by decide) (by decide) (by decide) (Nat.le_of_ble_eq_true rfl) (Nat.le_of_ble_eq_true rfl) d_E_init_7 (fun q7 c7 H hK hP hD hS => ?_)
  refine W.widen (k := 1) (n := 64) (by decide) (by decide) ?_
  have hK : va_K D cls_ [(c7, .int)] s := hK
  have hP : va_P D cls_ [(h0, .inr (4, [.null, .null, .null, .null, .null, .int 0, .int 0, .int 0, .int 0, .int 0, .int 0])), (q7, .inl (c7, 64, .inl (fun _ => 0)))] H := hP
  have hD : va_D A [(h0, .inr (4, [.null, .null, .null, .null, .null, .int 0, .int 0, .int 0, .int 0, .int 0, .int 0])), (q7, .inl (c7, 64, .inl (fun _ => 0)))] := hD
  refine va_putF (D := D) (ci := 4) (v := .ref q7) (ty := .array .int) (C := R_E) (T := F_E) (N := 11) hx hb hts in_E t_E t_E_ok n_E hown hK hP hD hS 0 rfl rfl 0 (by decide) (hts _ tb_128) (fun _ h9 => h9) rfl hin rfl (by decide +kernel) rfl rfl (Nat.le_of_ble_eq_true rfl) d_E_init_9 (fun H locs hP hD hS => ?_)
  have hP : va_P D cls_ [(h0, .inr (4, [.ref q7, .null, .null, .null, .null, .int 0, .int 0, .int 0, .int 0, .int 0, .int 0])), (q7, .inl (c7, 64, .inl (fun _ => 0)))] H := hP
  have hD : va_D A [(h0, .inr (4, [.ref q7, .null, .null, .null, .null, .int 0, .int 0, .int 0, .int 0, .int 0, .int 0])), (q7, .inl (c7, 64, .inl (fun _ => 0)))] := hD
  refine lv_aload_n hx hb d_E_init_12 rfl (lv_at hl 0 rfl) ?_
  refine va_new (ci := 2) (fs := [.null, .null, .null, .null, .null, .null, .int 0]) (C := R_P) (T := F_P) (N := 7) hx hb hts in_P t_P t_P_ok hown (hts _ tb_17) (hts _ tb_18) (hts _ tb_2) hK hP hD hS hA rfl (fun j hj => by rcases (show j = 0 ∨ j = 1 ∨ j = 2 ∨ j = 3 ∨ j = 4 ∨ j = 5 ∨ j = 6 by omega) with rfl | rfl | rfl | rfl | rfl | rfl | rfl <;> rfl) (Nat.le_of_ble_eq_true rfl) (Nat.le_of_ble_eq_true rfl) d_E_init_13 (fun q13 H hP hD hS => ?_)
  refine W.widen (k := 2) (n := 71) (by decide) (by decide) ?_
  have hP : va_P D cls_ [(h0, .inr (4, [.ref q7, .null, .null, .null, .null, .int 0, .int 0, .int 0, .int 0, .int 0, .int 0])), (q7, .inl (c7, 64, .inl (fun _ => 0))), (q13, .inr (2, [.null, .null, .null, .null, .null, .null, .int 0]))] H := hP
  have hD : va_D A [(h0, .inr (4, [.ref q7, .null, .null, .null, .null, .int 0, .int 0, .int 0, .int 0, .int 0, .int 0])), (q7, .inl (c7, 64, .inl (fun _ => 0))), (q13, .inr (2, [.null, .null, .null, .null, .null, .null, .int 0]))] := hD
  refine lv_dup hx hb d_E_init_16 rfl ?_
  have hPc := hP.sub (ws' := [(q13, .inr (2, [.null, .null, .null, .null, .null, .null, .int 0]))]) [2] rfl
  have hDc := hD.sub (ws' := [(q13, .inr (2, [.null, .null, .null, .null, .null, .null, .int 0]))]) [2] (by decide) rfl
  have hKc : va_K D cls_ [] s := hK.sub (tys' := []) [] rfl
  have hFc := va_free (wc := [(q13, .inr (2, [.null, .null, .null, .null, .null, .null, .int 0]))]) hD hS hA [2] rfl
  refine va_callv (va_runIN (As := []) (rest := [.ref q13, .ref h0]) ⟨hx, hb, hml, hown, hts⟩ (c_P_init l D q13 H.size) ⟨va_cnB 0 hts good_P_init rfl rfl rfl (hN _ tn_19) (hts _ tb_2) hd_P_init ⟨Nat.le_of_ble_eq_true rfl, Nat.le_of_ble_eq_true rfl⟩, rfl, hts _ tb_20⟩ (preI hPc hDc hKc hN) rfl rfl hl.1 rfl (lv_room (Nat.le_of_ble_eq_true rfl)) d_E_init_17 ⟨Nat.le_of_ble_eq_true rfl, Nat.le_of_ble_eq_true rfl⟩) hS (fun q _ h => hFc q h) hFc (fun u17 t H1 locs ht hvm hw hB hz1 hk1 hS => ?_)
  obtain ⟨hP1, hK1, hD1⟩ := hB
  rw [ht] at hP1
  have hK1 := va_K.moved hvm.symm hK1
  obtain ⟨hP, hD⟩ := va_join (wr := [(h0, .inr (4, [.ref q7, .null, .null, .null, .null, .int 0, .int 0, .int 0, .int 0, .int 0, .int 0])), (q7, .inl (c7, 64, .inl (fun _ => 0)))]) (w1 := [(q13, .inr (2, [.ref (u17.1 0), .ref (u17.1 1), .ref (u17.1 2), .ref (u17.1 3), .ref (u17.1 4), .ref (u17.1 5), .int 0])), ((u17.1 0), .inl (u17.2.1, 200, .inl (fun _ => 0))), ((u17.1 1), .inl (u17.2.1, 200, .inl (fun _ => 0))), ((u17.1 2), .inl (u17.2.1, 200, .inl (fun _ => 0))), ((u17.1 3), .inl (u17.2.1, 200, .inl (fun _ => 0))), ((u17.1 4), .inl (u17.2.2, 200, .inl (fun _ => 0))), ((u17.1 5), .inl (u17.2.1, 1600, .inl (fun _ => 0)))]) hP hD [2] [0, 1] rfl rfl (by decide) (by decide) hk1 hFc hP1 hD1
  generalize H1 = H at hP hS ⊢
  obtain ⟨u17a, u17I, u17Z⟩ := u17
  have hK := hK.app hK1
  have e17I : c7 = u17I := arr_eqI hK 0 1 rfl rfl
  subst e17I
  have hK : va_K D cls_ [(c7, .int), (u17Z, .boolean)] s := hK.sub [0, 2] rfl
  refine W.widen (k := 8) (n := 2671) (by decide) (by decide) ?_
  have hP : va_P D cls_ [(h0, .inr (4, [.ref q7, .null, .null, .null, .null, .int 0, .int 0, .int 0, .int 0, .int 0, .int 0])), (q7, .inl (c7, 64, .inl (fun _ => 0))), (q13, .inr (2, [.ref (u17a 0), .ref (u17a 1), .ref (u17a 2), .ref (u17a 3), .ref (u17a 4), .ref (u17a 5), .int 0])), ((u17a 0), .inl (c7, 200, .inl (fun _ => 0))), ((u17a 1), .inl (c7, 200, .inl (fun _ => 0))), ((u17a 2), .inl (c7, 200, .inl (fun _ => 0))), ((u17a 3), .inl (c7, 200, .inl (fun _ => 0))), ((u17a 4), .inl (u17Z, 200, .inl (fun _ => 0))), ((u17a 5), .inl (c7, 1600, .inl (fun _ => 0)))] H := hP
  have hD : va_D A [(h0, .inr (4, [.ref q7, .null, .null, .null, .null, .int 0, .int 0, .int 0, .int 0, .int 0, .int 0])), (q7, .inl (c7, 64, .inl (fun _ => 0))), (q13, .inr (2, [.ref (u17a 0), .ref (u17a 1), .ref (u17a 2), .ref (u17a 3), .ref (u17a 4), .ref (u17a 5), .int 0])), ((u17a 0), .inl (c7, 200, .inl (fun _ => 0))), ((u17a 1), .inl (c7, 200, .inl (fun _ => 0))), ((u17a 2), .inl (c7, 200, .inl (fun _ => 0))), ((u17a 3), .inl (c7, 200, .inl (fun _ => 0))), ((u17a 4), .inl (u17Z, 200, .inl (fun _ => 0))), ((u17a 5), .inl (c7, 1600, .inl (fun _ => 0)))] := hD
  refine va_putF (D := D) (ci := 4) (v := .ref q13) (ty := .object "DeadlineElevator$Parts") (C := R_E) (T := F_E) (N := 11) hx hb hts in_E t_E t_E_ok n_E hown hK hP hD hS 0 rfl rfl 1 (by decide) (hts _ tb_129) (fun _ h9 => h9) rfl hin rfl (by decide +kernel) rfl rfl (Nat.le_of_ble_eq_true rfl) d_E_init_20 (fun H locs hP hD hS => ?_)
  have hP : va_P D cls_ [(h0, .inr (4, [.ref q7, .ref q13, .null, .null, .null, .int 0, .int 0, .int 0, .int 0, .int 0, .int 0])), (q7, .inl (c7, 64, .inl (fun _ => 0))), (q13, .inr (2, [.ref (u17a 0), .ref (u17a 1), .ref (u17a 2), .ref (u17a 3), .ref (u17a 4), .ref (u17a 5), .int 0])), ((u17a 0), .inl (c7, 200, .inl (fun _ => 0))), ((u17a 1), .inl (c7, 200, .inl (fun _ => 0))), ((u17a 2), .inl (c7, 200, .inl (fun _ => 0))), ((u17a 3), .inl (c7, 200, .inl (fun _ => 0))), ((u17a 4), .inl (u17Z, 200, .inl (fun _ => 0))), ((u17a 5), .inl (c7, 1600, .inl (fun _ => 0)))] H := hP
  have hD : va_D A [(h0, .inr (4, [.ref q7, .ref q13, .null, .null, .null, .int 0, .int 0, .int 0, .int 0, .int 0, .int 0])), (q7, .inl (c7, 64, .inl (fun _ => 0))), (q13, .inr (2, [.ref (u17a 0), .ref (u17a 1), .ref (u17a 2), .ref (u17a 3), .ref (u17a 4), .ref (u17a 5), .int 0])), ((u17a 0), .inl (c7, 200, .inl (fun _ => 0))), ((u17a 1), .inl (c7, 200, .inl (fun _ => 0))), ((u17a 2), .inl (c7, 200, .inl (fun _ => 0))), ((u17a 3), .inl (c7, 200, .inl (fun _ => 0))), ((u17a 4), .inl (u17Z, 200, .inl (fun _ => 0))), ((u17a 5), .inl (c7, 1600, .inl (fun _ => 0)))] := hD
  refine lv_aload_n hx hb d_E_init_23 rfl (lv_at hl 0 rfl) ?_
  refine va_new (ci := 3) (fs := [.null, .null, .null, .null, .null, .null, .null, .null, .int 0]) (C := R_R) (T := F_R) (N := 9) hx hb hts in_R t_R t_R_ok hown (hts _ tb_53) (hts _ tb_54) (hts _ tb_3) hK hP hD hS hA rfl (fun j hj => by rcases (show j = 0 ∨ j = 1 ∨ j = 2 ∨ j = 3 ∨ j = 4 ∨ j = 5 ∨ j = 6 ∨ j = 7 ∨ j = 8 by omega) with rfl | rfl | rfl | rfl | rfl | rfl | rfl | rfl | rfl <;> rfl) (Nat.le_of_ble_eq_true rfl) (Nat.le_of_ble_eq_true rfl) d_E_init_24 (fun q24 H hP hD hS => ?_)
  refine W.widen (k := 9) (n := 2680) (by decide) (by decide) ?_
  have hP : va_P D cls_ [(h0, .inr (4, [.ref q7, .ref q13, .null, .null, .null, .int 0, .int 0, .int 0, .int 0, .int 0, .int 0])), (q7, .inl (c7, 64, .inl (fun _ => 0))), (q13, .inr (2, [.ref (u17a 0), .ref (u17a 1), .ref (u17a 2), .ref (u17a 3), .ref (u17a 4), .ref (u17a 5), .int 0])), ((u17a 0), .inl (c7, 200, .inl (fun _ => 0))), ((u17a 1), .inl (c7, 200, .inl (fun _ => 0))), ((u17a 2), .inl (c7, 200, .inl (fun _ => 0))), ((u17a 3), .inl (c7, 200, .inl (fun _ => 0))), ((u17a 4), .inl (u17Z, 200, .inl (fun _ => 0))), ((u17a 5), .inl (c7, 1600, .inl (fun _ => 0))), (q24, .inr (3, [.null, .null, .null, .null, .null, .null, .null, .null, .int 0]))] H := hP
  have hD : va_D A [(h0, .inr (4, [.ref q7, .ref q13, .null, .null, .null, .int 0, .int 0, .int 0, .int 0, .int 0, .int 0])), (q7, .inl (c7, 64, .inl (fun _ => 0))), (q13, .inr (2, [.ref (u17a 0), .ref (u17a 1), .ref (u17a 2), .ref (u17a 3), .ref (u17a 4), .ref (u17a 5), .int 0])), ((u17a 0), .inl (c7, 200, .inl (fun _ => 0))), ((u17a 1), .inl (c7, 200, .inl (fun _ => 0))), ((u17a 2), .inl (c7, 200, .inl (fun _ => 0))), ((u17a 3), .inl (c7, 200, .inl (fun _ => 0))), ((u17a 4), .inl (u17Z, 200, .inl (fun _ => 0))), ((u17a 5), .inl (c7, 1600, .inl (fun _ => 0))), (q24, .inr (3, [.null, .null, .null, .null, .null, .null, .null, .null, .int 0]))] := hD
  refine lv_dup hx hb d_E_init_27 rfl ?_
  have hPc := hP.sub (ws' := [(q24, .inr (3, [.null, .null, .null, .null, .null, .null, .null, .null, .int 0]))]) [9] rfl
  have hDc := hD.sub (ws' := [(q24, .inr (3, [.null, .null, .null, .null, .null, .null, .null, .null, .int 0]))]) [9] (by decide) rfl
  have hKc : va_K D cls_ [] s := hK.sub (tys' := []) [] rfl
  have hFc := va_free (wc := [(q24, .inr (3, [.null, .null, .null, .null, .null, .null, .null, .null, .int 0]))]) hD hS hA [9] rfl
  refine va_callv (va_runIN (As := []) (rest := [.ref q24, .ref h0]) ⟨hx, hb, hml, hown, hts⟩ (c_R_init l D q24 H.size) ⟨va_cnB 0 hts good_R_init rfl rfl rfl (hN _ tn_55) (hts _ tb_3) hd_R_init ⟨Nat.le_of_ble_eq_true rfl, Nat.le_of_ble_eq_true rfl⟩, rfl, hts _ tb_56⟩ (preI hPc hDc hKc hN) rfl rfl hl.1 rfl (lv_room (Nat.le_of_ble_eq_true rfl)) d_E_init_28 ⟨Nat.le_of_ble_eq_true rfl, Nat.le_of_ble_eq_true rfl⟩) hS (fun q _ h => hFc q h) hFc (fun u28 t H1 locs ht hvm hw hB hz1 hk1 hS => ?_)
  obtain ⟨hP1, hK1, hD1⟩ := hB
  rw [ht] at hP1
  have hK1 := va_K.moved hvm.symm hK1
  obtain ⟨hP, hD⟩ := va_join (wr := [(h0, .inr (4, [.ref q7, .ref q13, .null, .null, .null, .int 0, .int 0, .int 0, .int 0, .int 0, .int 0])), (q7, .inl (c7, 64, .inl (fun _ => 0))), (q13, .inr (2, [.ref (u17a 0), .ref (u17a 1), .ref (u17a 2), .ref (u17a 3), .ref (u17a 4), .ref (u17a 5), .int 0])), ((u17a 0), .inl (c7, 200, .inl (fun _ => 0))), ((u17a 1), .inl (c7, 200, .inl (fun _ => 0))), ((u17a 2), .inl (c7, 200, .inl (fun _ => 0))), ((u17a 3), .inl (c7, 200, .inl (fun _ => 0))), ((u17a 4), .inl (u17Z, 200, .inl (fun _ => 0))), ((u17a 5), .inl (c7, 1600, .inl (fun _ => 0)))]) (w1 := [(q24, .inr (3, [.ref (u28.1 0), .ref (u28.1 1), .ref (u28.1 2), .ref (u28.1 3), .ref (u28.1 4), .ref (u28.1 5), .ref (u28.1 6), .ref (u28.1 7), .int 0])), ((u28.1 0), .inl (u28.2.1, 200, .inl (fun _ => 0))), ((u28.1 1), .inl (u28.2.1, 200, .inl (fun _ => 0))), ((u28.1 2), .inl (u28.2.1, 200, .inl (fun _ => 0))), ((u28.1 3), .inl (u28.2.1, 200, .inl (fun _ => 0))), ((u28.1 4), .inl (u28.2.1, 200, .inl (fun _ => 0))), ((u28.1 5), .inl (u28.2.1, 200, .inl (fun _ => 0))), ((u28.1 6), .inl (u28.2.2, 200, .inl (fun _ => 0))), ((u28.1 7), .inl (u28.2.1, 24, .inl (fun _ => 0)))]) hP hD [9] [0, 1, 2, 3, 4, 5, 6, 7, 8] rfl rfl (by decide) (by decide) hk1 hFc hP1 hD1
  generalize H1 = H at hP hS ⊢
  obtain ⟨u28a, u28I, u28Z⟩ := u28
  have hK := hK.app hK1
  have e28I : c7 = u28I := arr_eqI hK 0 2 rfl rfl
  subst e28I
  have e28Z : u17Z = u28Z := arr_eqZ hK 1 3 rfl rfl
  subst e28Z
  have hK : va_K D cls_ [(c7, .int), (u17Z, .boolean)] s := hK.sub [0, 1] rfl
  refine W.widen (k := 17) (n := 4104) (by decide) (by decide) ?_
  have hP : va_P D cls_ [(h0, .inr (4, [.ref q7, .ref q13, .null, .null, .null, .int 0, .int 0, .int 0, .int 0, .int 0, .int 0])), (q7, .inl (c7, 64, .inl (fun _ => 0))), (q13, .inr (2, [.ref (u17a 0), .ref (u17a 1), .ref (u17a 2), .ref (u17a 3), .ref (u17a 4), .ref (u17a 5), .int 0])), ((u17a 0), .inl (c7, 200, .inl (fun _ => 0))), ((u17a 1), .inl (c7, 200, .inl (fun _ => 0))), ((u17a 2), .inl (c7, 200, .inl (fun _ => 0))), ((u17a 3), .inl (c7, 200, .inl (fun _ => 0))), ((u17a 4), .inl (u17Z, 200, .inl (fun _ => 0))), ((u17a 5), .inl (c7, 1600, .inl (fun _ => 0))), (q24, .inr (3, [.ref (u28a 0), .ref (u28a 1), .ref (u28a 2), .ref (u28a 3), .ref (u28a 4), .ref (u28a 5), .ref (u28a 6), .ref (u28a 7), .int 0])), ((u28a 0), .inl (c7, 200, .inl (fun _ => 0))), ((u28a 1), .inl (c7, 200, .inl (fun _ => 0))), ((u28a 2), .inl (c7, 200, .inl (fun _ => 0))), ((u28a 3), .inl (c7, 200, .inl (fun _ => 0))), ((u28a 4), .inl (c7, 200, .inl (fun _ => 0))), ((u28a 5), .inl (c7, 200, .inl (fun _ => 0))), ((u28a 6), .inl (u17Z, 200, .inl (fun _ => 0))), ((u28a 7), .inl (c7, 24, .inl (fun _ => 0)))] H := hP
  have hD : va_D A [(h0, .inr (4, [.ref q7, .ref q13, .null, .null, .null, .int 0, .int 0, .int 0, .int 0, .int 0, .int 0])), (q7, .inl (c7, 64, .inl (fun _ => 0))), (q13, .inr (2, [.ref (u17a 0), .ref (u17a 1), .ref (u17a 2), .ref (u17a 3), .ref (u17a 4), .ref (u17a 5), .int 0])), ((u17a 0), .inl (c7, 200, .inl (fun _ => 0))), ((u17a 1), .inl (c7, 200, .inl (fun _ => 0))), ((u17a 2), .inl (c7, 200, .inl (fun _ => 0))), ((u17a 3), .inl (c7, 200, .inl (fun _ => 0))), ((u17a 4), .inl (u17Z, 200, .inl (fun _ => 0))), ((u17a 5), .inl (c7, 1600, .inl (fun _ => 0))), (q24, .inr (3, [.ref (u28a 0), .ref (u28a 1), .ref (u28a 2), .ref (u28a 3), .ref (u28a 4), .ref (u28a 5), .ref (u28a 6), .ref (u28a 7), .int 0])), ((u28a 0), .inl (c7, 200, .inl (fun _ => 0))), ((u28a 1), .inl (c7, 200, .inl (fun _ => 0))), ((u28a 2), .inl (c7, 200, .inl (fun _ => 0))), ((u28a 3), .inl (c7, 200, .inl (fun _ => 0))), ((u28a 4), .inl (c7, 200, .inl (fun _ => 0))), ((u28a 5), .inl (c7, 200, .inl (fun _ => 0))), ((u28a 6), .inl (u17Z, 200, .inl (fun _ => 0))), ((u28a 7), .inl (c7, 24, .inl (fun _ => 0)))] := hD
  refine va_putF (D := D) (ci := 4) (v := .ref q24) (ty := .object "DeadlineElevator$Requests") (C := R_E) (T := F_E) (N := 11) hx hb hts in_E t_E t_E_ok n_E hown hK hP hD hS 0 rfl rfl 2 (by decide) (hts _ tb_130) (fun _ h9 => h9) rfl hin rfl (by decide +kernel) rfl rfl (Nat.le_of_ble_eq_true rfl) d_E_init_31 (fun H locs hP hD hS => ?_)
  have hP : va_P D cls_ [(h0, .inr (4, [.ref q7, .ref q13, .ref q24, .null, .null, .int 0, .int 0, .int 0, .int 0, .int 0, .int 0])), (q7, .inl (c7, 64, .inl (fun _ => 0))), (q13, .inr (2, [.ref (u17a 0), .ref (u17a 1), .ref (u17a 2), .ref (u17a 3), .ref (u17a 4), .ref (u17a 5), .int 0])), ((u17a 0), .inl (c7, 200, .inl (fun _ => 0))), ((u17a 1), .inl (c7, 200, .inl (fun _ => 0))), ((u17a 2), .inl (c7, 200, .inl (fun _ => 0))), ((u17a 3), .inl (c7, 200, .inl (fun _ => 0))), ((u17a 4), .inl (u17Z, 200, .inl (fun _ => 0))), ((u17a 5), .inl (c7, 1600, .inl (fun _ => 0))), (q24, .inr (3, [.ref (u28a 0), .ref (u28a 1), .ref (u28a 2), .ref (u28a 3), .ref (u28a 4), .ref (u28a 5), .ref (u28a 6), .ref (u28a 7), .int 0])), ((u28a 0), .inl (c7, 200, .inl (fun _ => 0))), ((u28a 1), .inl (c7, 200, .inl (fun _ => 0))), ((u28a 2), .inl (c7, 200, .inl (fun _ => 0))), ((u28a 3), .inl (c7, 200, .inl (fun _ => 0))), ((u28a 4), .inl (c7, 200, .inl (fun _ => 0))), ((u28a 5), .inl (c7, 200, .inl (fun _ => 0))), ((u28a 6), .inl (u17Z, 200, .inl (fun _ => 0))), ((u28a 7), .inl (c7, 24, .inl (fun _ => 0)))] H := hP
  have hD : va_D A [(h0, .inr (4, [.ref q7, .ref q13, .ref q24, .null, .null, .int 0, .int 0, .int 0, .int 0, .int 0, .int 0])), (q7, .inl (c7, 64, .inl (fun _ => 0))), (q13, .inr (2, [.ref (u17a 0), .ref (u17a 1), .ref (u17a 2), .ref (u17a 3), .ref (u17a 4), .ref (u17a 5), .int 0])), ((u17a 0), .inl (c7, 200, .inl (fun _ => 0))), ((u17a 1), .inl (c7, 200, .inl (fun _ => 0))), ((u17a 2), .inl (c7, 200, .inl (fun _ => 0))), ((u17a 3), .inl (c7, 200, .inl (fun _ => 0))), ((u17a 4), .inl (u17Z, 200, .inl (fun _ => 0))), ((u17a 5), .inl (c7, 1600, .inl (fun _ => 0))), (q24, .inr (3, [.ref (u28a 0), .ref (u28a 1), .ref (u28a 2), .ref (u28a 3), .ref (u28a 4), .ref (u28a 5), .ref (u28a 6), .ref (u28a 7), .int 0])), ((u28a 0), .inl (c7, 200, .inl (fun _ => 0))), ((u28a 1), .inl (c7, 200, .inl (fun _ => 0))), ((u28a 2), .inl (c7, 200, .inl (fun _ => 0))), ((u28a 3), .inl (c7, 200, .inl (fun _ => 0))), ((u28a 4), .inl (c7, 200, .inl (fun _ => 0))), ((u28a 5), .inl (c7, 200, .inl (fun _ => 0))), ((u28a 6), .inl (u17Z, 200, .inl (fun _ => 0))), ((u28a 7), .inl (c7, 24, .inl (fun _ => 0)))] := hD
  refine lv_aload_n hx hb d_E_init_34 rfl (lv_at hl 0 rfl) ?_
  refine va_new (ci := 1) (fs := [.long 0, .long 0]) (C := R_C) (T := F_C) (N := 2) hx hb hts in_C t_C t_C_ok hown (hts _ tb_96) (hts _ tb_97) (hts _ tb_4) hK hP hD hS hA rfl (fun j hj => by rcases (show j = 0 ∨ j = 1 by omega) with rfl | rfl <;> rfl) (Nat.le_of_ble_eq_true rfl) (Nat.le_of_ble_eq_true rfl) d_E_init_35 (fun q35 H hP hD hS => ?_)
  refine W.widen (k := 18) (n := 4106) (by decide) (by decide) ?_
  have hP : va_P D cls_ [(h0, .inr (4, [.ref q7, .ref q13, .ref q24, .null, .null, .int 0, .int 0, .int 0, .int 0, .int 0, .int 0])), (q7, .inl (c7, 64, .inl (fun _ => 0))), (q13, .inr (2, [.ref (u17a 0), .ref (u17a 1), .ref (u17a 2), .ref (u17a 3), .ref (u17a 4), .ref (u17a 5), .int 0])), ((u17a 0), .inl (c7, 200, .inl (fun _ => 0))), ((u17a 1), .inl (c7, 200, .inl (fun _ => 0))), ((u17a 2), .inl (c7, 200, .inl (fun _ => 0))), ((u17a 3), .inl (c7, 200, .inl (fun _ => 0))), ((u17a 4), .inl (u17Z, 200, .inl (fun _ => 0))), ((u17a 5), .inl (c7, 1600, .inl (fun _ => 0))), (q24, .inr (3, [.ref (u28a 0), .ref (u28a 1), .ref (u28a 2), .ref (u28a 3), .ref (u28a 4), .ref (u28a 5), .ref (u28a 6), .ref (u28a 7), .int 0])), ((u28a 0), .inl (c7, 200, .inl (fun _ => 0))), ((u28a 1), .inl (c7, 200, .inl (fun _ => 0))), ((u28a 2), .inl (c7, 200, .inl (fun _ => 0))), ((u28a 3), .inl (c7, 200, .inl (fun _ => 0))), ((u28a 4), .inl (c7, 200, .inl (fun _ => 0))), ((u28a 5), .inl (c7, 200, .inl (fun _ => 0))), ((u28a 6), .inl (u17Z, 200, .inl (fun _ => 0))), ((u28a 7), .inl (c7, 24, .inl (fun _ => 0))), (q35, .inr (1, [.long 0, .long 0]))] H := hP
  have hD : va_D A [(h0, .inr (4, [.ref q7, .ref q13, .ref q24, .null, .null, .int 0, .int 0, .int 0, .int 0, .int 0, .int 0])), (q7, .inl (c7, 64, .inl (fun _ => 0))), (q13, .inr (2, [.ref (u17a 0), .ref (u17a 1), .ref (u17a 2), .ref (u17a 3), .ref (u17a 4), .ref (u17a 5), .int 0])), ((u17a 0), .inl (c7, 200, .inl (fun _ => 0))), ((u17a 1), .inl (c7, 200, .inl (fun _ => 0))), ((u17a 2), .inl (c7, 200, .inl (fun _ => 0))), ((u17a 3), .inl (c7, 200, .inl (fun _ => 0))), ((u17a 4), .inl (u17Z, 200, .inl (fun _ => 0))), ((u17a 5), .inl (c7, 1600, .inl (fun _ => 0))), (q24, .inr (3, [.ref (u28a 0), .ref (u28a 1), .ref (u28a 2), .ref (u28a 3), .ref (u28a 4), .ref (u28a 5), .ref (u28a 6), .ref (u28a 7), .int 0])), ((u28a 0), .inl (c7, 200, .inl (fun _ => 0))), ((u28a 1), .inl (c7, 200, .inl (fun _ => 0))), ((u28a 2), .inl (c7, 200, .inl (fun _ => 0))), ((u28a 3), .inl (c7, 200, .inl (fun _ => 0))), ((u28a 4), .inl (c7, 200, .inl (fun _ => 0))), ((u28a 5), .inl (c7, 200, .inl (fun _ => 0))), ((u28a 6), .inl (u17Z, 200, .inl (fun _ => 0))), ((u28a 7), .inl (c7, 24, .inl (fun _ => 0))), (q35, .inr (1, [.long 0, .long 0]))] := hD
  refine lv_dup hx hb d_E_init_38 rfl ?_
  have hPc := hP.sub (ws' := [(q35, .inr (1, [.long 0, .long 0]))]) [18] rfl
  have hDc := hD.sub (ws' := [(q35, .inr (1, [.long 0, .long 0]))]) [18] (by decide) rfl
  have hKc : va_K D cls_ [] s := hK.sub (tys' := []) [] rfl
  have hFc := va_free (wc := [(q35, .inr (1, [.long 0, .long 0]))]) hD hS hA [18] rfl
  refine va_callv (va_runIN (As := []) (rest := [.ref q35, .ref h0]) ⟨hx, hb, hml, hown, hts⟩ (c_C_init l D q35 H.size) ⟨va_cnB 0 hts good_C_init rfl rfl rfl (hN _ tn_98) (hts _ tb_4) hd_C_init ⟨Nat.le_of_ble_eq_true rfl, Nat.le_of_ble_eq_true rfl⟩, rfl, hts _ tb_99⟩ (preI hPc hDc hKc hN) rfl rfl hl.1 rfl (lv_room (Nat.le_of_ble_eq_true rfl)) d_E_init_39 ⟨Nat.le_of_ble_eq_true rfl, Nat.le_of_ble_eq_true rfl⟩) hS (fun q _ h => hFc q h) hFc (fun u39 t H1 locs ht hvm hw hB hz1 hk1 hS => ?_)
  obtain ⟨hP1, hK1, hD1⟩ := hB
  rw [ht] at hP1
  have hK1 := va_K.moved hvm.symm hK1
  obtain ⟨hP, hD⟩ := va_join (wr := [(h0, .inr (4, [.ref q7, .ref q13, .ref q24, .null, .null, .int 0, .int 0, .int 0, .int 0, .int 0, .int 0])), (q7, .inl (c7, 64, .inl (fun _ => 0))), (q13, .inr (2, [.ref (u17a 0), .ref (u17a 1), .ref (u17a 2), .ref (u17a 3), .ref (u17a 4), .ref (u17a 5), .int 0])), ((u17a 0), .inl (c7, 200, .inl (fun _ => 0))), ((u17a 1), .inl (c7, 200, .inl (fun _ => 0))), ((u17a 2), .inl (c7, 200, .inl (fun _ => 0))), ((u17a 3), .inl (c7, 200, .inl (fun _ => 0))), ((u17a 4), .inl (u17Z, 200, .inl (fun _ => 0))), ((u17a 5), .inl (c7, 1600, .inl (fun _ => 0))), (q24, .inr (3, [.ref (u28a 0), .ref (u28a 1), .ref (u28a 2), .ref (u28a 3), .ref (u28a 4), .ref (u28a 5), .ref (u28a 6), .ref (u28a 7), .int 0])), ((u28a 0), .inl (c7, 200, .inl (fun _ => 0))), ((u28a 1), .inl (c7, 200, .inl (fun _ => 0))), ((u28a 2), .inl (c7, 200, .inl (fun _ => 0))), ((u28a 3), .inl (c7, 200, .inl (fun _ => 0))), ((u28a 4), .inl (c7, 200, .inl (fun _ => 0))), ((u28a 5), .inl (c7, 200, .inl (fun _ => 0))), ((u28a 6), .inl (u17Z, 200, .inl (fun _ => 0))), ((u28a 7), .inl (c7, 24, .inl (fun _ => 0)))]) (w1 := [(q35, .inr (1, [.long 0, .long 0]))]) hP hD [18] [0, 1, 2, 3, 4, 5, 6, 7, 8, 9, 10, 11, 12, 13, 14, 15, 16, 17] rfl rfl (by decide) (by decide) hk1 hFc hP1 hD1
  generalize H1 = H at hP hS ⊢
  refine W.widen (k := 18) (n := 4106) (by decide) (by decide) ?_
  have hP : va_P D cls_ [(h0, .inr (4, [.ref q7, .ref q13, .ref q24, .null, .null, .int 0, .int 0, .int 0, .int 0, .int 0, .int 0])), (q7, .inl (c7, 64, .inl (fun _ => 0))), (q13, .inr (2, [.ref (u17a 0), .ref (u17a 1), .ref (u17a 2), .ref (u17a 3), .ref (u17a 4), .ref (u17a 5), .int 0])), ((u17a 0), .inl (c7, 200, .inl (fun _ => 0))), ((u17a 1), .inl (c7, 200, .inl (fun _ => 0))), ((u17a 2), .inl (c7, 200, .inl (fun _ => 0))), ((u17a 3), .inl (c7, 200, .inl (fun _ => 0))), ((u17a 4), .inl (u17Z, 200, .inl (fun _ => 0))), ((u17a 5), .inl (c7, 1600, .inl (fun _ => 0))), (q24, .inr (3, [.ref (u28a 0), .ref (u28a 1), .ref (u28a 2), .ref (u28a 3), .ref (u28a 4), .ref (u28a 5), .ref (u28a 6), .ref (u28a 7), .int 0])), ((u28a 0), .inl (c7, 200, .inl (fun _ => 0))), ((u28a 1), .inl (c7, 200, .inl (fun _ => 0))), ((u28a 2), .inl (c7, 200, .inl (fun _ => 0))), ((u28a 3), .inl (c7, 200, .inl (fun _ => 0))), ((u28a 4), .inl (c7, 200, .inl (fun _ => 0))), ((u28a 5), .inl (c7, 200, .inl (fun _ => 0))), ((u28a 6), .inl (u17Z, 200, .inl (fun _ => 0))), ((u28a 7), .inl (c7, 24, .inl (fun _ => 0))), (q35, .inr (1, [.long 0, .long 0]))] H := hP
  have hD : va_D A [(h0, .inr (4, [.ref q7, .ref q13, .ref q24, .null, .null, .int 0, .int 0, .int 0, .int 0, .int 0, .int 0])), (q7, .inl (c7, 64, .inl (fun _ => 0))), (q13, .inr (2, [.ref (u17a 0), .ref (u17a 1), .ref (u17a 2), .ref (u17a 3), .ref (u17a 4), .ref (u17a 5), .int 0])), ((u17a 0), .inl (c7, 200, .inl (fun _ => 0))), ((u17a 1), .inl (c7, 200, .inl (fun _ => 0))), ((u17a 2), .inl (c7, 200, .inl (fun _ => 0))), ((u17a 3), .inl (c7, 200, .inl (fun _ => 0))), ((u17a 4), .inl (u17Z, 200, .inl (fun _ => 0))), ((u17a 5), .inl (c7, 1600, .inl (fun _ => 0))), (q24, .inr (3, [.ref (u28a 0), .ref (u28a 1), .ref (u28a 2), .ref (u28a 3), .ref (u28a 4), .ref (u28a 5), .ref (u28a 6), .ref (u28a 7), .int 0])), ((u28a 0), .inl (c7, 200, .inl (fun _ => 0))), ((u28a 1), .inl (c7, 200, .inl (fun _ => 0))), ((u28a 2), .inl (c7, 200, .inl (fun _ => 0))), ((u28a 3), .inl (c7, 200, .inl (fun _ => 0))), ((u28a 4), .inl (c7, 200, .inl (fun _ => 0))), ((u28a 5), .inl (c7, 200, .inl (fun _ => 0))), ((u28a 6), .inl (u17Z, 200, .inl (fun _ => 0))), ((u28a 7), .inl (c7, 24, .inl (fun _ => 0))), (q35, .inr (1, [.long 0, .long 0]))] := hD
  refine va_putF (D := D) (ci := 4) (v := .ref q35) (ty := .object "DeadlineElevator$Claims") (C := R_E) (T := F_E) (N := 11) hx hb hts in_E t_E t_E_ok n_E hown hK hP hD hS 0 rfl rfl 3 (by decide) (hts _ tb_131) (fun _ h9 => h9) rfl hin rfl (by decide +kernel) rfl rfl (Nat.le_of_ble_eq_true rfl) d_E_init_42 (fun H locs hP hD hS => ?_)
  have hP : va_P D cls_ [(h0, .inr (4, [.ref q7, .ref q13, .ref q24, .ref q35, .null, .int 0, .int 0, .int 0, .int 0, .int 0, .int 0])), (q7, .inl (c7, 64, .inl (fun _ => 0))), (q13, .inr (2, [.ref (u17a 0), .ref (u17a 1), .ref (u17a 2), .ref (u17a 3), .ref (u17a 4), .ref (u17a 5), .int 0])), ((u17a 0), .inl (c7, 200, .inl (fun _ => 0))), ((u17a 1), .inl (c7, 200, .inl (fun _ => 0))), ((u17a 2), .inl (c7, 200, .inl (fun _ => 0))), ((u17a 3), .inl (c7, 200, .inl (fun _ => 0))), ((u17a 4), .inl (u17Z, 200, .inl (fun _ => 0))), ((u17a 5), .inl (c7, 1600, .inl (fun _ => 0))), (q24, .inr (3, [.ref (u28a 0), .ref (u28a 1), .ref (u28a 2), .ref (u28a 3), .ref (u28a 4), .ref (u28a 5), .ref (u28a 6), .ref (u28a 7), .int 0])), ((u28a 0), .inl (c7, 200, .inl (fun _ => 0))), ((u28a 1), .inl (c7, 200, .inl (fun _ => 0))), ((u28a 2), .inl (c7, 200, .inl (fun _ => 0))), ((u28a 3), .inl (c7, 200, .inl (fun _ => 0))), ((u28a 4), .inl (c7, 200, .inl (fun _ => 0))), ((u28a 5), .inl (c7, 200, .inl (fun _ => 0))), ((u28a 6), .inl (u17Z, 200, .inl (fun _ => 0))), ((u28a 7), .inl (c7, 24, .inl (fun _ => 0))), (q35, .inr (1, [.long 0, .long 0]))] H := hP
  have hD : va_D A [(h0, .inr (4, [.ref q7, .ref q13, .ref q24, .ref q35, .null, .int 0, .int 0, .int 0, .int 0, .int 0, .int 0])), (q7, .inl (c7, 64, .inl (fun _ => 0))), (q13, .inr (2, [.ref (u17a 0), .ref (u17a 1), .ref (u17a 2), .ref (u17a 3), .ref (u17a 4), .ref (u17a 5), .int 0])), ((u17a 0), .inl (c7, 200, .inl (fun _ => 0))), ((u17a 1), .inl (c7, 200, .inl (fun _ => 0))), ((u17a 2), .inl (c7, 200, .inl (fun _ => 0))), ((u17a 3), .inl (c7, 200, .inl (fun _ => 0))), ((u17a 4), .inl (u17Z, 200, .inl (fun _ => 0))), ((u17a 5), .inl (c7, 1600, .inl (fun _ => 0))), (q24, .inr (3, [.ref (u28a 0), .ref (u28a 1), .ref (u28a 2), .ref (u28a 3), .ref (u28a 4), .ref (u28a 5), .ref (u28a 6), .ref (u28a 7), .int 0])), ((u28a 0), .inl (c7, 200, .inl (fun _ => 0))), ((u28a 1), .inl (c7, 200, .inl (fun _ => 0))), ((u28a 2), .inl (c7, 200, .inl (fun _ => 0))), ((u28a 3), .inl (c7, 200, .inl (fun _ => 0))), ((u28a 4), .inl (c7, 200, .inl (fun _ => 0))), ((u28a 5), .inl (c7, 200, .inl (fun _ => 0))), ((u28a 6), .inl (u17Z, 200, .inl (fun _ => 0))), ((u28a 7), .inl (c7, 24, .inl (fun _ => 0))), (q35, .inr (1, [.long 0, .long 0]))] := hD
  refine lv_aload_n hx hb d_E_init_45 rfl (lv_at hl 0 rfl) ?_
  refine va_new (ci := 0) (fs := [.int 0, .int 0, .int 0]) (C := R_B) (T := F_B) (N := 3) hx hb hts in_B t_B t_B_ok hown (hts _ tb_109) (hts _ tb_110) (hts _ tb_5) hK hP hD hS hA rfl (fun j hj => by rcases (show j = 0 ∨ j = 1 ∨ j = 2 by omega) with rfl | rfl | rfl <;> rfl) (Nat.le_of_ble_eq_true rfl) (Nat.le_of_ble_eq_true rfl) d_E_init_46 (fun q46 H hP hD hS => ?_)
  refine W.widen (k := 19) (n := 4109) (by decide) (by decide) ?_
  have hP : va_P D cls_ [(h0, .inr (4, [.ref q7, .ref q13, .ref q24, .ref q35, .null, .int 0, .int 0, .int 0, .int 0, .int 0, .int 0])), (q7, .inl (c7, 64, .inl (fun _ => 0))), (q13, .inr (2, [.ref (u17a 0), .ref (u17a 1), .ref (u17a 2), .ref (u17a 3), .ref (u17a 4), .ref (u17a 5), .int 0])), ((u17a 0), .inl (c7, 200, .inl (fun _ => 0))), ((u17a 1), .inl (c7, 200, .inl (fun _ => 0))), ((u17a 2), .inl (c7, 200, .inl (fun _ => 0))), ((u17a 3), .inl (c7, 200, .inl (fun _ => 0))), ((u17a 4), .inl (u17Z, 200, .inl (fun _ => 0))), ((u17a 5), .inl (c7, 1600, .inl (fun _ => 0))), (q24, .inr (3, [.ref (u28a 0), .ref (u28a 1), .ref (u28a 2), .ref (u28a 3), .ref (u28a 4), .ref (u28a 5), .ref (u28a 6), .ref (u28a 7), .int 0])), ((u28a 0), .inl (c7, 200, .inl (fun _ => 0))), ((u28a 1), .inl (c7, 200, .inl (fun _ => 0))), ((u28a 2), .inl (c7, 200, .inl (fun _ => 0))), ((u28a 3), .inl (c7, 200, .inl (fun _ => 0))), ((u28a 4), .inl (c7, 200, .inl (fun _ => 0))), ((u28a 5), .inl (c7, 200, .inl (fun _ => 0))), ((u28a 6), .inl (u17Z, 200, .inl (fun _ => 0))), ((u28a 7), .inl (c7, 24, .inl (fun _ => 0))), (q35, .inr (1, [.long 0, .long 0])), (q46, .inr (0, [.int 0, .int 0, .int 0]))] H := hP
  have hD : va_D A [(h0, .inr (4, [.ref q7, .ref q13, .ref q24, .ref q35, .null, .int 0, .int 0, .int 0, .int 0, .int 0, .int 0])), (q7, .inl (c7, 64, .inl (fun _ => 0))), (q13, .inr (2, [.ref (u17a 0), .ref (u17a 1), .ref (u17a 2), .ref (u17a 3), .ref (u17a 4), .ref (u17a 5), .int 0])), ((u17a 0), .inl (c7, 200, .inl (fun _ => 0))), ((u17a 1), .inl (c7, 200, .inl (fun _ => 0))), ((u17a 2), .inl (c7, 200, .inl (fun _ => 0))), ((u17a 3), .inl (c7, 200, .inl (fun _ => 0))), ((u17a 4), .inl (u17Z, 200, .inl (fun _ => 0))), ((u17a 5), .inl (c7, 1600, .inl (fun _ => 0))), (q24, .inr (3, [.ref (u28a 0), .ref (u28a 1), .ref (u28a 2), .ref (u28a 3), .ref (u28a 4), .ref (u28a 5), .ref (u28a 6), .ref (u28a 7), .int 0])), ((u28a 0), .inl (c7, 200, .inl (fun _ => 0))), ((u28a 1), .inl (c7, 200, .inl (fun _ => 0))), ((u28a 2), .inl (c7, 200, .inl (fun _ => 0))), ((u28a 3), .inl (c7, 200, .inl (fun _ => 0))), ((u28a 4), .inl (c7, 200, .inl (fun _ => 0))), ((u28a 5), .inl (c7, 200, .inl (fun _ => 0))), ((u28a 6), .inl (u17Z, 200, .inl (fun _ => 0))), ((u28a 7), .inl (c7, 24, .inl (fun _ => 0))), (q35, .inr (1, [.long 0, .long 0])), (q46, .inr (0, [.int 0, .int 0, .int 0]))] := hD
  refine lv_dup hx hb d_E_init_49 rfl ?_
  have hPc := hP.sub (ws' := [(q46, .inr (0, [.int 0, .int 0, .int 0]))]) [19] rfl
  have hDc := hD.sub (ws' := [(q46, .inr (0, [.int 0, .int 0, .int 0]))]) [19] (by decide) rfl
  have hKc : va_K D cls_ [] s := hK.sub (tys' := []) [] rfl
  have hFc := va_free (wc := [(q46, .inr (0, [.int 0, .int 0, .int 0]))]) hD hS hA [19] rfl
  refine va_callv (va_runIN (As := []) (rest := [.ref q46, .ref h0]) ⟨hx, hb, hml, hown, hts⟩ (c_B_init l D q46 H.size) ⟨va_cnB 0 hts good_B_init rfl rfl rfl (hN _ tn_111) (hts _ tb_5) hd_B_init ⟨Nat.le_of_ble_eq_true rfl, Nat.le_of_ble_eq_true rfl⟩, rfl, hts _ tb_112⟩ (preI hPc hDc hKc hN) rfl rfl hl.1 rfl (lv_room (Nat.le_of_ble_eq_true rfl)) d_E_init_50 ⟨Nat.le_of_ble_eq_true rfl, Nat.le_of_ble_eq_true rfl⟩) hS (fun q _ h => hFc q h) hFc (fun u50 t H1 locs ht hvm hw hB hz1 hk1 hS => ?_)
  obtain ⟨hP1, hK1, hD1⟩ := hB
  rw [ht] at hP1
  have hK1 := va_K.moved hvm.symm hK1
  obtain ⟨hP, hD⟩ := va_join (wr := [(h0, .inr (4, [.ref q7, .ref q13, .ref q24, .ref q35, .null, .int 0, .int 0, .int 0, .int 0, .int 0, .int 0])), (q7, .inl (c7, 64, .inl (fun _ => 0))), (q13, .inr (2, [.ref (u17a 0), .ref (u17a 1), .ref (u17a 2), .ref (u17a 3), .ref (u17a 4), .ref (u17a 5), .int 0])), ((u17a 0), .inl (c7, 200, .inl (fun _ => 0))), ((u17a 1), .inl (c7, 200, .inl (fun _ => 0))), ((u17a 2), .inl (c7, 200, .inl (fun _ => 0))), ((u17a 3), .inl (c7, 200, .inl (fun _ => 0))), ((u17a 4), .inl (u17Z, 200, .inl (fun _ => 0))), ((u17a 5), .inl (c7, 1600, .inl (fun _ => 0))), (q24, .inr (3, [.ref (u28a 0), .ref (u28a 1), .ref (u28a 2), .ref (u28a 3), .ref (u28a 4), .ref (u28a 5), .ref (u28a 6), .ref (u28a 7), .int 0])), ((u28a 0), .inl (c7, 200, .inl (fun _ => 0))), ((u28a 1), .inl (c7, 200, .inl (fun _ => 0))), ((u28a 2), .inl (c7, 200, .inl (fun _ => 0))), ((u28a 3), .inl (c7, 200, .inl (fun _ => 0))), ((u28a 4), .inl (c7, 200, .inl (fun _ => 0))), ((u28a 5), .inl (c7, 200, .inl (fun _ => 0))), ((u28a 6), .inl (u17Z, 200, .inl (fun _ => 0))), ((u28a 7), .inl (c7, 24, .inl (fun _ => 0))), (q35, .inr (1, [.long 0, .long 0]))]) (w1 := [(q46, .inr (0, [.int 0, .int 0, .int 0]))]) hP hD [19] [0, 1, 2, 3, 4, 5, 6, 7, 8, 9, 10, 11, 12, 13, 14, 15, 16, 17, 18] rfl rfl (by decide) (by decide) hk1 hFc hP1 hD1
  generalize H1 = H at hP hS ⊢
  refine W.widen (k := 19) (n := 4109) (by decide) (by decide) ?_
  have hP : va_P D cls_ [(h0, .inr (4, [.ref q7, .ref q13, .ref q24, .ref q35, .null, .int 0, .int 0, .int 0, .int 0, .int 0, .int 0])), (q7, .inl (c7, 64, .inl (fun _ => 0))), (q13, .inr (2, [.ref (u17a 0), .ref (u17a 1), .ref (u17a 2), .ref (u17a 3), .ref (u17a 4), .ref (u17a 5), .int 0])), ((u17a 0), .inl (c7, 200, .inl (fun _ => 0))), ((u17a 1), .inl (c7, 200, .inl (fun _ => 0))), ((u17a 2), .inl (c7, 200, .inl (fun _ => 0))), ((u17a 3), .inl (c7, 200, .inl (fun _ => 0))), ((u17a 4), .inl (u17Z, 200, .inl (fun _ => 0))), ((u17a 5), .inl (c7, 1600, .inl (fun _ => 0))), (q24, .inr (3, [.ref (u28a 0), .ref (u28a 1), .ref (u28a 2), .ref (u28a 3), .ref (u28a 4), .ref (u28a 5), .ref (u28a 6), .ref (u28a 7), .int 0])), ((u28a 0), .inl (c7, 200, .inl (fun _ => 0))), ((u28a 1), .inl (c7, 200, .inl (fun _ => 0))), ((u28a 2), .inl (c7, 200, .inl (fun _ => 0))), ((u28a 3), .inl (c7, 200, .inl (fun _ => 0))), ((u28a 4), .inl (c7, 200, .inl (fun _ => 0))), ((u28a 5), .inl (c7, 200, .inl (fun _ => 0))), ((u28a 6), .inl (u17Z, 200, .inl (fun _ => 0))), ((u28a 7), .inl (c7, 24, .inl (fun _ => 0))), (q35, .inr (1, [.long 0, .long 0])), (q46, .inr (0, [.int 0, .int 0, .int 0]))] H := hP
  have hD : va_D A [(h0, .inr (4, [.ref q7, .ref q13, .ref q24, .ref q35, .null, .int 0, .int 0, .int 0, .int 0, .int 0, .int 0])), (q7, .inl (c7, 64, .inl (fun _ => 0))), (q13, .inr (2, [.ref (u17a 0), .ref (u17a 1), .ref (u17a 2), .ref (u17a 3), .ref (u17a 4), .ref (u17a 5), .int 0])), ((u17a 0), .inl (c7, 200, .inl (fun _ => 0))), ((u17a 1), .inl (c7, 200, .inl (fun _ => 0))), ((u17a 2), .inl (c7, 200, .inl (fun _ => 0))), ((u17a 3), .inl (c7, 200, .inl (fun _ => 0))), ((u17a 4), .inl (u17Z, 200, .inl (fun _ => 0))), ((u17a 5), .inl (c7, 1600, .inl (fun _ => 0))), (q24, .inr (3, [.ref (u28a 0), .ref (u28a 1), .ref (u28a 2), .ref (u28a 3), .ref (u28a 4), .ref (u28a 5), .ref (u28a 6), .ref (u28a 7), .int 0])), ((u28a 0), .inl (c7, 200, .inl (fun _ => 0))), ((u28a 1), .inl (c7, 200, .inl (fun _ => 0))), ((u28a 2), .inl (c7, 200, .inl (fun _ => 0))), ((u28a 3), .inl (c7, 200, .inl (fun _ => 0))), ((u28a 4), .inl (c7, 200, .inl (fun _ => 0))), ((u28a 5), .inl (c7, 200, .inl (fun _ => 0))), ((u28a 6), .inl (u17Z, 200, .inl (fun _ => 0))), ((u28a 7), .inl (c7, 24, .inl (fun _ => 0))), (q35, .inr (1, [.long 0, .long 0])), (q46, .inr (0, [.int 0, .int 0, .int 0]))] := hD
  refine va_putF (D := D) (ci := 4) (v := .ref q46) (ty := .object "DeadlineElevator$Batch") (C := R_E) (T := F_E) (N := 11) hx hb hts in_E t_E t_E_ok n_E hown hK hP hD hS 0 rfl rfl 4 (by decide) (hts _ tb_132) (fun _ h9 => h9) rfl hin rfl (by decide +kernel) rfl rfl (Nat.le_of_ble_eq_true rfl) d_E_init_53 (fun H locs hP hD hS => ?_)
  have hP : va_P D cls_ [(h0, .inr (4, [.ref q7, .ref q13, .ref q24, .ref q35, .ref q46, .int 0, .int 0, .int 0, .int 0, .int 0, .int 0])), (q7, .inl (c7, 64, .inl (fun _ => 0))), (q13, .inr (2, [.ref (u17a 0), .ref (u17a 1), .ref (u17a 2), .ref (u17a 3), .ref (u17a 4), .ref (u17a 5), .int 0])), ((u17a 0), .inl (c7, 200, .inl (fun _ => 0))), ((u17a 1), .inl (c7, 200, .inl (fun _ => 0))), ((u17a 2), .inl (c7, 200, .inl (fun _ => 0))), ((u17a 3), .inl (c7, 200, .inl (fun _ => 0))), ((u17a 4), .inl (u17Z, 200, .inl (fun _ => 0))), ((u17a 5), .inl (c7, 1600, .inl (fun _ => 0))), (q24, .inr (3, [.ref (u28a 0), .ref (u28a 1), .ref (u28a 2), .ref (u28a 3), .ref (u28a 4), .ref (u28a 5), .ref (u28a 6), .ref (u28a 7), .int 0])), ((u28a 0), .inl (c7, 200, .inl (fun _ => 0))), ((u28a 1), .inl (c7, 200, .inl (fun _ => 0))), ((u28a 2), .inl (c7, 200, .inl (fun _ => 0))), ((u28a 3), .inl (c7, 200, .inl (fun _ => 0))), ((u28a 4), .inl (c7, 200, .inl (fun _ => 0))), ((u28a 5), .inl (c7, 200, .inl (fun _ => 0))), ((u28a 6), .inl (u17Z, 200, .inl (fun _ => 0))), ((u28a 7), .inl (c7, 24, .inl (fun _ => 0))), (q35, .inr (1, [.long 0, .long 0])), (q46, .inr (0, [.int 0, .int 0, .int 0]))] H := hP
  have hD : va_D A [(h0, .inr (4, [.ref q7, .ref q13, .ref q24, .ref q35, .ref q46, .int 0, .int 0, .int 0, .int 0, .int 0, .int 0])), (q7, .inl (c7, 64, .inl (fun _ => 0))), (q13, .inr (2, [.ref (u17a 0), .ref (u17a 1), .ref (u17a 2), .ref (u17a 3), .ref (u17a 4), .ref (u17a 5), .int 0])), ((u17a 0), .inl (c7, 200, .inl (fun _ => 0))), ((u17a 1), .inl (c7, 200, .inl (fun _ => 0))), ((u17a 2), .inl (c7, 200, .inl (fun _ => 0))), ((u17a 3), .inl (c7, 200, .inl (fun _ => 0))), ((u17a 4), .inl (u17Z, 200, .inl (fun _ => 0))), ((u17a 5), .inl (c7, 1600, .inl (fun _ => 0))), (q24, .inr (3, [.ref (u28a 0), .ref (u28a 1), .ref (u28a 2), .ref (u28a 3), .ref (u28a 4), .ref (u28a 5), .ref (u28a 6), .ref (u28a 7), .int 0])), ((u28a 0), .inl (c7, 200, .inl (fun _ => 0))), ((u28a 1), .inl (c7, 200, .inl (fun _ => 0))), ((u28a 2), .inl (c7, 200, .inl (fun _ => 0))), ((u28a 3), .inl (c7, 200, .inl (fun _ => 0))), ((u28a 4), .inl (c7, 200, .inl (fun _ => 0))), ((u28a 5), .inl (c7, 200, .inl (fun _ => 0))), ((u28a 6), .inl (u17Z, 200, .inl (fun _ => 0))), ((u28a 7), .inl (c7, 24, .inl (fun _ => 0))), (q35, .inr (1, [.long 0, .long 0])), (q46, .inr (0, [.int 0, .int 0, .int 0]))] := hD
  refine lv_aload_n hx hb d_E_init_56 rfl (lv_at hl 0 rfl) ?_
  refine lv_bipush (v := 50) hx hb d_E_init_57 (by decide) ?_
  refine va_put (D := D) (ci := 4) (v := .int 50) (ty := .int) (C := R_E) (T := F_E) (N := 11) hx hb hts in_E t_E t_E_ok n_E hown hK hP hD hS 0 rfl rfl 5 (by decide) (hts _ tb_133) (fun _ h9 => h9) rfl (by decide +kernel) rfl rfl (Nat.le_of_ble_eq_true rfl) d_E_init_59 (fun H locs hP hD hS => ?_)
  have hP : va_P D cls_ [(h0, .inr (4, [.ref q7, .ref q13, .ref q24, .ref q35, .ref q46, .int 50, .int 0, .int 0, .int 0, .int 0, .int 0])), (q7, .inl (c7, 64, .inl (fun _ => 0))), (q13, .inr (2, [.ref (u17a 0), .ref (u17a 1), .ref (u17a 2), .ref (u17a 3), .ref (u17a 4), .ref (u17a 5), .int 0])), ((u17a 0), .inl (c7, 200, .inl (fun _ => 0))), ((u17a 1), .inl (c7, 200, .inl (fun _ => 0))), ((u17a 2), .inl (c7, 200, .inl (fun _ => 0))), ((u17a 3), .inl (c7, 200, .inl (fun _ => 0))), ((u17a 4), .inl (u17Z, 200, .inl (fun _ => 0))), ((u17a 5), .inl (c7, 1600, .inl (fun _ => 0))), (q24, .inr (3, [.ref (u28a 0), .ref (u28a 1), .ref (u28a 2), .ref (u28a 3), .ref (u28a 4), .ref (u28a 5), .ref (u28a 6), .ref (u28a 7), .int 0])), ((u28a 0), .inl (c7, 200, .inl (fun _ => 0))), ((u28a 1), .inl (c7, 200, .inl (fun _ => 0))), ((u28a 2), .inl (c7, 200, .inl (fun _ => 0))), ((u28a 3), .inl (c7, 200, .inl (fun _ => 0))), ((u28a 4), .inl (c7, 200, .inl (fun _ => 0))), ((u28a 5), .inl (c7, 200, .inl (fun _ => 0))), ((u28a 6), .inl (u17Z, 200, .inl (fun _ => 0))), ((u28a 7), .inl (c7, 24, .inl (fun _ => 0))), (q35, .inr (1, [.long 0, .long 0])), (q46, .inr (0, [.int 0, .int 0, .int 0]))] H := hP
  have hD : va_D A [(h0, .inr (4, [.ref q7, .ref q13, .ref q24, .ref q35, .ref q46, .int 50, .int 0, .int 0, .int 0, .int 0, .int 0])), (q7, .inl (c7, 64, .inl (fun _ => 0))), (q13, .inr (2, [.ref (u17a 0), .ref (u17a 1), .ref (u17a 2), .ref (u17a 3), .ref (u17a 4), .ref (u17a 5), .int 0])), ((u17a 0), .inl (c7, 200, .inl (fun _ => 0))), ((u17a 1), .inl (c7, 200, .inl (fun _ => 0))), ((u17a 2), .inl (c7, 200, .inl (fun _ => 0))), ((u17a 3), .inl (c7, 200, .inl (fun _ => 0))), ((u17a 4), .inl (u17Z, 200, .inl (fun _ => 0))), ((u17a 5), .inl (c7, 1600, .inl (fun _ => 0))), (q24, .inr (3, [.ref (u28a 0), .ref (u28a 1), .ref (u28a 2), .ref (u28a 3), .ref (u28a 4), .ref (u28a 5), .ref (u28a 6), .ref (u28a 7), .int 0])), ((u28a 0), .inl (c7, 200, .inl (fun _ => 0))), ((u28a 1), .inl (c7, 200, .inl (fun _ => 0))), ((u28a 2), .inl (c7, 200, .inl (fun _ => 0))), ((u28a 3), .inl (c7, 200, .inl (fun _ => 0))), ((u28a 4), .inl (c7, 200, .inl (fun _ => 0))), ((u28a 5), .inl (c7, 200, .inl (fun _ => 0))), ((u28a 6), .inl (u17Z, 200, .inl (fun _ => 0))), ((u28a 7), .inl (c7, 24, .inl (fun _ => 0))), (q35, .inr (1, [.long 0, .long 0])), (q46, .inr (0, [.int 0, .int 0, .int 0]))] := hD
  refine lv_aload_n hx hb d_E_init_62 rfl (lv_at hl 0 rfl) ?_
  refine lv_sipush (v := 500) hx hb d_E_init_63 (by decide) ?_
  refine va_put (D := D) (ci := 4) (v := .int 500) (ty := .int) (C := R_E) (T := F_E) (N := 11) hx hb hts in_E t_E t_E_ok n_E hown hK hP hD hS 0 rfl rfl 6 (by decide) (hts _ tb_134) (fun _ h9 => h9) rfl (by decide +kernel) rfl rfl (Nat.le_of_ble_eq_true rfl) d_E_init_66 (fun H locs hP hD hS => ?_)
  have hP : va_P D cls_ [(h0, .inr (4, [.ref q7, .ref q13, .ref q24, .ref q35, .ref q46, .int 50, .int 500, .int 0, .int 0, .int 0, .int 0])), (q7, .inl (c7, 64, .inl (fun _ => 0))), (q13, .inr (2, [.ref (u17a 0), .ref (u17a 1), .ref (u17a 2), .ref (u17a 3), .ref (u17a 4), .ref (u17a 5), .int 0])), ((u17a 0), .inl (c7, 200, .inl (fun _ => 0))), ((u17a 1), .inl (c7, 200, .inl (fun _ => 0))), ((u17a 2), .inl (c7, 200, .inl (fun _ => 0))), ((u17a 3), .inl (c7, 200, .inl (fun _ => 0))), ((u17a 4), .inl (u17Z, 200, .inl (fun _ => 0))), ((u17a 5), .inl (c7, 1600, .inl (fun _ => 0))), (q24, .inr (3, [.ref (u28a 0), .ref (u28a 1), .ref (u28a 2), .ref (u28a 3), .ref (u28a 4), .ref (u28a 5), .ref (u28a 6), .ref (u28a 7), .int 0])), ((u28a 0), .inl (c7, 200, .inl (fun _ => 0))), ((u28a 1), .inl (c7, 200, .inl (fun _ => 0))), ((u28a 2), .inl (c7, 200, .inl (fun _ => 0))), ((u28a 3), .inl (c7, 200, .inl (fun _ => 0))), ((u28a 4), .inl (c7, 200, .inl (fun _ => 0))), ((u28a 5), .inl (c7, 200, .inl (fun _ => 0))), ((u28a 6), .inl (u17Z, 200, .inl (fun _ => 0))), ((u28a 7), .inl (c7, 24, .inl (fun _ => 0))), (q35, .inr (1, [.long 0, .long 0])), (q46, .inr (0, [.int 0, .int 0, .int 0]))] H := hP
  have hD : va_D A [(h0, .inr (4, [.ref q7, .ref q13, .ref q24, .ref q35, .ref q46, .int 50, .int 500, .int 0, .int 0, .int 0, .int 0])), (q7, .inl (c7, 64, .inl (fun _ => 0))), (q13, .inr (2, [.ref (u17a 0), .ref (u17a 1), .ref (u17a 2), .ref (u17a 3), .ref (u17a 4), .ref (u17a 5), .int 0])), ((u17a 0), .inl (c7, 200, .inl (fun _ => 0))), ((u17a 1), .inl (c7, 200, .inl (fun _ => 0))), ((u17a 2), .inl (c7, 200, .inl (fun _ => 0))), ((u17a 3), .inl (c7, 200, .inl (fun _ => 0))), ((u17a 4), .inl (u17Z, 200, .inl (fun _ => 0))), ((u17a 5), .inl (c7, 1600, .inl (fun _ => 0))), (q24, .inr (3, [.ref (u28a 0), .ref (u28a 1), .ref (u28a 2), .ref (u28a 3), .ref (u28a 4), .ref (u28a 5), .ref (u28a 6), .ref (u28a 7), .int 0])), ((u28a 0), .inl (c7, 200, .inl (fun _ => 0))), ((u28a 1), .inl (c7, 200, .inl (fun _ => 0))), ((u28a 2), .inl (c7, 200, .inl (fun _ => 0))), ((u28a 3), .inl (c7, 200, .inl (fun _ => 0))), ((u28a 4), .inl (c7, 200, .inl (fun _ => 0))), ((u28a 5), .inl (c7, 200, .inl (fun _ => 0))), ((u28a 6), .inl (u17Z, 200, .inl (fun _ => 0))), ((u28a 7), .inl (c7, 24, .inl (fun _ => 0))), (q35, .inr (1, [.long 0, .long 0])), (q46, .inr (0, [.int 0, .int 0, .int 0]))] := hD
  refine lv_aload_n hx hb d_E_init_69 rfl (lv_at hl 0 rfl) ?_
  refine lv_iconst (v := 0) hx hb d_E_init_70 (by decide) ?_
  refine va_put (D := D) (ci := 4) (v := .int 0) (ty := .int) (C := R_E) (T := F_E) (N := 11) hx hb hts in_E t_E t_E_ok n_E hown hK hP hD hS 0 rfl rfl 7 (by decide) (hts _ tb_135) (fun _ h9 => h9) rfl (by decide +kernel) rfl rfl (Nat.le_of_ble_eq_true rfl) d_E_init_71 (fun H locs hP hD hS => ?_)
  have hP : va_P D cls_ [(h0, .inr (4, [.ref q7, .ref q13, .ref q24, .ref q35, .ref q46, .int 50, .int 500, .int 0, .int 0, .int 0, .int 0])), (q7, .inl (c7, 64, .inl (fun _ => 0))), (q13, .inr (2, [.ref (u17a 0), .ref (u17a 1), .ref (u17a 2), .ref (u17a 3), .ref (u17a 4), .ref (u17a 5), .int 0])), ((u17a 0), .inl (c7, 200, .inl (fun _ => 0))), ((u17a 1), .inl (c7, 200, .inl (fun _ => 0))), ((u17a 2), .inl (c7, 200, .inl (fun _ => 0))), ((u17a 3), .inl (c7, 200, .inl (fun _ => 0))), ((u17a 4), .inl (u17Z, 200, .inl (fun _ => 0))), ((u17a 5), .inl (c7, 1600, .inl (fun _ => 0))), (q24, .inr (3, [.ref (u28a 0), .ref (u28a 1), .ref (u28a 2), .ref (u28a 3), .ref (u28a 4), .ref (u28a 5), .ref (u28a 6), .ref (u28a 7), .int 0])), ((u28a 0), .inl (c7, 200, .inl (fun _ => 0))), ((u28a 1), .inl (c7, 200, .inl (fun _ => 0))), ((u28a 2), .inl (c7, 200, .inl (fun _ => 0))), ((u28a 3), .inl (c7, 200, .inl (fun _ => 0))), ((u28a 4), .inl (c7, 200, .inl (fun _ => 0))), ((u28a 5), .inl (c7, 200, .inl (fun _ => 0))), ((u28a 6), .inl (u17Z, 200, .inl (fun _ => 0))), ((u28a 7), .inl (c7, 24, .inl (fun _ => 0))), (q35, .inr (1, [.long 0, .long 0])), (q46, .inr (0, [.int 0, .int 0, .int 0]))] H := hP
  have hD : va_D A [(h0, .inr (4, [.ref q7, .ref q13, .ref q24, .ref q35, .ref q46, .int 50, .int 500, .int 0, .int 0, .int 0, .int 0])), (q7, .inl (c7, 64, .inl (fun _ => 0))), (q13, .inr (2, [.ref (u17a 0), .ref (u17a 1), .ref (u17a 2), .ref (u17a 3), .ref (u17a 4), .ref (u17a 5), .int 0])), ((u17a 0), .inl (c7, 200, .inl (fun _ => 0))), ((u17a 1), .inl (c7, 200, .inl (fun _ => 0))), ((u17a 2), .inl (c7, 200, .inl (fun _ => 0))), ((u17a 3), .inl (c7, 200, .inl (fun _ => 0))), ((u17a 4), .inl (u17Z, 200, .inl (fun _ => 0))), ((u17a 5), .inl (c7, 1600, .inl (fun _ => 0))), (q24, .inr (3, [.ref (u28a 0), .ref (u28a 1), .ref (u28a 2), .ref (u28a 3), .ref (u28a 4), .ref (u28a 5), .ref (u28a 6), .ref (u28a 7), .int 0])), ((u28a 0), .inl (c7, 200, .inl (fun _ => 0))), ((u28a 1), .inl (c7, 200, .inl (fun _ => 0))), ((u28a 2), .inl (c7, 200, .inl (fun _ => 0))), ((u28a 3), .inl (c7, 200, .inl (fun _ => 0))), ((u28a 4), .inl (c7, 200, .inl (fun _ => 0))), ((u28a 5), .inl (c7, 200, .inl (fun _ => 0))), ((u28a 6), .inl (u17Z, 200, .inl (fun _ => 0))), ((u28a 7), .inl (c7, 24, .inl (fun _ => 0))), (q35, .inr (1, [.long 0, .long 0])), (q46, .inr (0, [.int 0, .int 0, .int 0]))] := hD
  refine lv_aload_n hx hb d_E_init_74 rfl (lv_at hl 0 rfl) ?_
  refine lv_iconst (v := 0) hx hb d_E_init_75 (by decide) ?_
  refine va_put (D := D) (ci := 4) (v := .int 0) (ty := .int) (C := R_E) (T := F_E) (N := 11) hx hb hts in_E t_E t_E_ok n_E hown hK hP hD hS 0 rfl rfl 8 (by decide) (hts _ tb_136) (fun _ h9 => h9) rfl (by decide +kernel) rfl rfl (Nat.le_of_ble_eq_true rfl) d_E_init_76 (fun H locs hP hD hS => ?_)
  have hP : va_P D cls_ [(h0, .inr (4, [.ref q7, .ref q13, .ref q24, .ref q35, .ref q46, .int 50, .int 500, .int 0, .int 0, .int 0, .int 0])), (q7, .inl (c7, 64, .inl (fun _ => 0))), (q13, .inr (2, [.ref (u17a 0), .ref (u17a 1), .ref (u17a 2), .ref (u17a 3), .ref (u17a 4), .ref (u17a 5), .int 0])), ((u17a 0), .inl (c7, 200, .inl (fun _ => 0))), ((u17a 1), .inl (c7, 200, .inl (fun _ => 0))), ((u17a 2), .inl (c7, 200, .inl (fun _ => 0))), ((u17a 3), .inl (c7, 200, .inl (fun _ => 0))), ((u17a 4), .inl (u17Z, 200, .inl (fun _ => 0))), ((u17a 5), .inl (c7, 1600, .inl (fun _ => 0))), (q24, .inr (3, [.ref (u28a 0), .ref (u28a 1), .ref (u28a 2), .ref (u28a 3), .ref (u28a 4), .ref (u28a 5), .ref (u28a 6), .ref (u28a 7), .int 0])), ((u28a 0), .inl (c7, 200, .inl (fun _ => 0))), ((u28a 1), .inl (c7, 200, .inl (fun _ => 0))), ((u28a 2), .inl (c7, 200, .inl (fun _ => 0))), ((u28a 3), .inl (c7, 200, .inl (fun _ => 0))), ((u28a 4), .inl (c7, 200, .inl (fun _ => 0))), ((u28a 5), .inl (c7, 200, .inl (fun _ => 0))), ((u28a 6), .inl (u17Z, 200, .inl (fun _ => 0))), ((u28a 7), .inl (c7, 24, .inl (fun _ => 0))), (q35, .inr (1, [.long 0, .long 0])), (q46, .inr (0, [.int 0, .int 0, .int 0]))] H := hP
  have hD : va_D A [(h0, .inr (4, [.ref q7, .ref q13, .ref q24, .ref q35, .ref q46, .int 50, .int 500, .int 0, .int 0, .int 0, .int 0])), (q7, .inl (c7, 64, .inl (fun _ => 0))), (q13, .inr (2, [.ref (u17a 0), .ref (u17a 1), .ref (u17a 2), .ref (u17a 3), .ref (u17a 4), .ref (u17a 5), .int 0])), ((u17a 0), .inl (c7, 200, .inl (fun _ => 0))), ((u17a 1), .inl (c7, 200, .inl (fun _ => 0))), ((u17a 2), .inl (c7, 200, .inl (fun _ => 0))), ((u17a 3), .inl (c7, 200, .inl (fun _ => 0))), ((u17a 4), .inl (u17Z, 200, .inl (fun _ => 0))), ((u17a 5), .inl (c7, 1600, .inl (fun _ => 0))), (q24, .inr (3, [.ref (u28a 0), .ref (u28a 1), .ref (u28a 2), .ref (u28a 3), .ref (u28a 4), .ref (u28a 5), .ref (u28a 6), .ref (u28a 7), .int 0])), ((u28a 0), .inl (c7, 200, .inl (fun _ => 0))), ((u28a 1), .inl (c7, 200, .inl (fun _ => 0))), ((u28a 2), .inl (c7, 200, .inl (fun _ => 0))), ((u28a 3), .inl (c7, 200, .inl (fun _ => 0))), ((u28a 4), .inl (c7, 200, .inl (fun _ => 0))), ((u28a 5), .inl (c7, 200, .inl (fun _ => 0))), ((u28a 6), .inl (u17Z, 200, .inl (fun _ => 0))), ((u28a 7), .inl (c7, 24, .inl (fun _ => 0))), (q35, .inr (1, [.long 0, .long 0])), (q46, .inr (0, [.int 0, .int 0, .int 0]))] := hD
  refine lv_aload_n hx hb d_E_init_79 rfl (lv_at hl 0 rfl) ?_
  refine lv_iconst (v := 0) hx hb d_E_init_80 (by decide) ?_
  refine va_put (D := D) (ci := 4) (v := .int 0) (ty := .int) (C := R_E) (T := F_E) (N := 11) hx hb hts in_E t_E t_E_ok n_E hown hK hP hD hS 0 rfl rfl 9 (by decide) (hts _ tb_137) (fun _ h9 => h9) rfl (by decide +kernel) rfl rfl (Nat.le_of_ble_eq_true rfl) d_E_init_81 (fun H locs hP hD hS => ?_)
  have hP : va_P D cls_ [(h0, .inr (4, [.ref q7, .ref q13, .ref q24, .ref q35, .ref q46, .int 50, .int 500, .int 0, .int 0, .int 0, .int 0])), (q7, .inl (c7, 64, .inl (fun _ => 0))), (q13, .inr (2, [.ref (u17a 0), .ref (u17a 1), .ref (u17a 2), .ref (u17a 3), .ref (u17a 4), .ref (u17a 5), .int 0])), ((u17a 0), .inl (c7, 200, .inl (fun _ => 0))), ((u17a 1), .inl (c7, 200, .inl (fun _ => 0))), ((u17a 2), .inl (c7, 200, .inl (fun _ => 0))), ((u17a 3), .inl (c7, 200, .inl (fun _ => 0))), ((u17a 4), .inl (u17Z, 200, .inl (fun _ => 0))), ((u17a 5), .inl (c7, 1600, .inl (fun _ => 0))), (q24, .inr (3, [.ref (u28a 0), .ref (u28a 1), .ref (u28a 2), .ref (u28a 3), .ref (u28a 4), .ref (u28a 5), .ref (u28a 6), .ref (u28a 7), .int 0])), ((u28a 0), .inl (c7, 200, .inl (fun _ => 0))), ((u28a 1), .inl (c7, 200, .inl (fun _ => 0))), ((u28a 2), .inl (c7, 200, .inl (fun _ => 0))), ((u28a 3), .inl (c7, 200, .inl (fun _ => 0))), ((u28a 4), .inl (c7, 200, .inl (fun _ => 0))), ((u28a 5), .inl (c7, 200, .inl (fun _ => 0))), ((u28a 6), .inl (u17Z, 200, .inl (fun _ => 0))), ((u28a 7), .inl (c7, 24, .inl (fun _ => 0))), (q35, .inr (1, [.long 0, .long 0])), (q46, .inr (0, [.int 0, .int 0, .int 0]))] H := hP
  have hD : va_D A [(h0, .inr (4, [.ref q7, .ref q13, .ref q24, .ref q35, .ref q46, .int 50, .int 500, .int 0, .int 0, .int 0, .int 0])), (q7, .inl (c7, 64, .inl (fun _ => 0))), (q13, .inr (2, [.ref (u17a 0), .ref (u17a 1), .ref (u17a 2), .ref (u17a 3), .ref (u17a 4), .ref (u17a 5), .int 0])), ((u17a 0), .inl (c7, 200, .inl (fun _ => 0))), ((u17a 1), .inl (c7, 200, .inl (fun _ => 0))), ((u17a 2), .inl (c7, 200, .inl (fun _ => 0))), ((u17a 3), .inl (c7, 200, .inl (fun _ => 0))), ((u17a 4), .inl (u17Z, 200, .inl (fun _ => 0))), ((u17a 5), .inl (c7, 1600, .inl (fun _ => 0))), (q24, .inr (3, [.ref (u28a 0), .ref (u28a 1), .ref (u28a 2), .ref (u28a 3), .ref (u28a 4), .ref (u28a 5), .ref (u28a 6), .ref (u28a 7), .int 0])), ((u28a 0), .inl (c7, 200, .inl (fun _ => 0))), ((u28a 1), .inl (c7, 200, .inl (fun _ => 0))), ((u28a 2), .inl (c7, 200, .inl (fun _ => 0))), ((u28a 3), .inl (c7, 200, .inl (fun _ => 0))), ((u28a 4), .inl (c7, 200, .inl (fun _ => 0))), ((u28a 5), .inl (c7, 200, .inl (fun _ => 0))), ((u28a 6), .inl (u17Z, 200, .inl (fun _ => 0))), ((u28a 7), .inl (c7, 24, .inl (fun _ => 0))), (q35, .inr (1, [.long 0, .long 0])), (q46, .inr (0, [.int 0, .int 0, .int 0]))] := hD
  refine lv_aload_n hx hb d_E_init_84 rfl (lv_at hl 0 rfl) ?_
  refine lv_iconst (v := (-1)) hx hb d_E_init_85 (by decide) ?_
  refine va_put (D := D) (ci := 4) (v := .int (-1)) (ty := .int) (C := R_E) (T := F_E) (N := 11) hx hb hts in_E t_E t_E_ok n_E hown hK hP hD hS 0 rfl rfl 10 (by decide) (hts _ tb_138) (fun _ h9 => h9) rfl (by decide +kernel) rfl rfl (Nat.le_of_ble_eq_true rfl) d_E_init_86 (fun H locs hP hD hS => ?_)
  have hP : va_P D cls_ [(h0, .inr (4, [.ref q7, .ref q13, .ref q24, .ref q35, .ref q46, .int 50, .int 500, .int 0, .int 0, .int 0, .int (-1)])), (q7, .inl (c7, 64, .inl (fun _ => 0))), (q13, .inr (2, [.ref (u17a 0), .ref (u17a 1), .ref (u17a 2), .ref (u17a 3), .ref (u17a 4), .ref (u17a 5), .int 0])), ((u17a 0), .inl (c7, 200, .inl (fun _ => 0))), ((u17a 1), .inl (c7, 200, .inl (fun _ => 0))), ((u17a 2), .inl (c7, 200, .inl (fun _ => 0))), ((u17a 3), .inl (c7, 200, .inl (fun _ => 0))), ((u17a 4), .inl (u17Z, 200, .inl (fun _ => 0))), ((u17a 5), .inl (c7, 1600, .inl (fun _ => 0))), (q24, .inr (3, [.ref (u28a 0), .ref (u28a 1), .ref (u28a 2), .ref (u28a 3), .ref (u28a 4), .ref (u28a 5), .ref (u28a 6), .ref (u28a 7), .int 0])), ((u28a 0), .inl (c7, 200, .inl (fun _ => 0))), ((u28a 1), .inl (c7, 200, .inl (fun _ => 0))), ((u28a 2), .inl (c7, 200, .inl (fun _ => 0))), ((u28a 3), .inl (c7, 200, .inl (fun _ => 0))), ((u28a 4), .inl (c7, 200, .inl (fun _ => 0))), ((u28a 5), .inl (c7, 200, .inl (fun _ => 0))), ((u28a 6), .inl (u17Z, 200, .inl (fun _ => 0))), ((u28a 7), .inl (c7, 24, .inl (fun _ => 0))), (q35, .inr (1, [.long 0, .long 0])), (q46, .inr (0, [.int 0, .int 0, .int 0]))] H := hP
  have hD : va_D A [(h0, .inr (4, [.ref q7, .ref q13, .ref q24, .ref q35, .ref q46, .int 50, .int 500, .int 0, .int 0, .int 0, .int (-1)])), (q7, .inl (c7, 64, .inl (fun _ => 0))), (q13, .inr (2, [.ref (u17a 0), .ref (u17a 1), .ref (u17a 2), .ref (u17a 3), .ref (u17a 4), .ref (u17a 5), .int 0])), ((u17a 0), .inl (c7, 200, .inl (fun _ => 0))), ((u17a 1), .inl (c7, 200, .inl (fun _ => 0))), ((u17a 2), .inl (c7, 200, .inl (fun _ => 0))), ((u17a 3), .inl (c7, 200, .inl (fun _ => 0))), ((u17a 4), .inl (u17Z, 200, .inl (fun _ => 0))), ((u17a 5), .inl (c7, 1600, .inl (fun _ => 0))), (q24, .inr (3, [.ref (u28a 0), .ref (u28a 1), .ref (u28a 2), .ref (u28a 3), .ref (u28a 4), .ref (u28a 5), .ref (u28a 6), .ref (u28a 7), .int 0])), ((u28a 0), .inl (c7, 200, .inl (fun _ => 0))), ((u28a 1), .inl (c7, 200, .inl (fun _ => 0))), ((u28a 2), .inl (c7, 200, .inl (fun _ => 0))), ((u28a 3), .inl (c7, 200, .inl (fun _ => 0))), ((u28a 4), .inl (c7, 200, .inl (fun _ => 0))), ((u28a 5), .inl (c7, 200, .inl (fun _ => 0))), ((u28a 6), .inl (u17Z, 200, .inl (fun _ => 0))), ((u28a 7), .inl (c7, 24, .inl (fun _ => 0))), (q35, .inr (1, [.long 0, .long 0])), (q46, .inr (0, [.int 0, .int 0, .int 0]))] := hD
  have hP9 := hP.sub (ws' := [(h0, .inr (4, [.ref q7, .ref q13, .ref q24, .ref q35, .ref q46, .int 50, .int 500, .int 0, .int 0, .int 0, .int (-1)])), (q7, .inl (c7, 64, .inl (fun _ => 0))), (q13, .inr (2, [.ref (u17a 0), .ref (u17a 1), .ref (u17a 2), .ref (u17a 3), .ref (u17a 4), .ref (u17a 5), .int 0])), ((u17a 0), .inl (c7, 200, .inl (fun _ => 0))), ((u17a 1), .inl (c7, 200, .inl (fun _ => 0))), ((u17a 2), .inl (c7, 200, .inl (fun _ => 0))), ((u17a 3), .inl (c7, 200, .inl (fun _ => 0))), ((u17a 4), .inl (u17Z, 200, .inl (fun _ => 0))), ((u17a 5), .inl (c7, 1600, .inl (fun _ => 0))), (q24, .inr (3, [.ref (u28a 0), .ref (u28a 1), .ref (u28a 2), .ref (u28a 3), .ref (u28a 4), .ref (u28a 5), .ref (u28a 6), .ref (u28a 7), .int 0])), ((u28a 0), .inl (c7, 200, .inl (fun _ => 0))), ((u28a 1), .inl (c7, 200, .inl (fun _ => 0))), ((u28a 2), .inl (c7, 200, .inl (fun _ => 0))), ((u28a 3), .inl (c7, 200, .inl (fun _ => 0))), ((u28a 4), .inl (c7, 200, .inl (fun _ => 0))), ((u28a 5), .inl (c7, 200, .inl (fun _ => 0))), ((u28a 6), .inl (u17Z, 200, .inl (fun _ => 0))), ((u28a 7), .inl (c7, 24, .inl (fun _ => 0))), (q35, .inr (1, [.long 0, .long 0])), (q46, .inr (0, [.int 0, .int 0, .int 0]))]) [0, 1, 2, 3, 4, 5, 6, 7, 8, 9, 10, 11, 12, 13, 14, 15, 16, 17, 18, 19] rfl
  have hD9 := hD.sub (ws' := [(h0, .inr (4, [.ref q7, .ref q13, .ref q24, .ref q35, .ref q46, .int 50, .int 500, .int 0, .int 0, .int 0, .int (-1)])), (q7, .inl (c7, 64, .inl (fun _ => 0))), (q13, .inr (2, [.ref (u17a 0), .ref (u17a 1), .ref (u17a 2), .ref (u17a 3), .ref (u17a 4), .ref (u17a 5), .int 0])), ((u17a 0), .inl (c7, 200, .inl (fun _ => 0))), ((u17a 1), .inl (c7, 200, .inl (fun _ => 0))), ((u17a 2), .inl (c7, 200, .inl (fun _ => 0))), ((u17a 3), .inl (c7, 200, .inl (fun _ => 0))), ((u17a 4), .inl (u17Z, 200, .inl (fun _ => 0))), ((u17a 5), .inl (c7, 1600, .inl (fun _ => 0))), (q24, .inr (3, [.ref (u28a 0), .ref (u28a 1), .ref (u28a 2), .ref (u28a 3), .ref (u28a 4), .ref (u28a 5), .ref (u28a 6), .ref (u28a 7), .int 0])), ((u28a 0), .inl (c7, 200, .inl (fun _ => 0))), ((u28a 1), .inl (c7, 200, .inl (fun _ => 0))), ((u28a 2), .inl (c7, 200, .inl (fun _ => 0))), ((u28a 3), .inl (c7, 200, .inl (fun _ => 0))), ((u28a 4), .inl (c7, 200, .inl (fun _ => 0))), ((u28a 5), .inl (c7, 200, .inl (fun _ => 0))), ((u28a 6), .inl (u17Z, 200, .inl (fun _ => 0))), ((u28a 7), .inl (c7, 24, .inl (fun _ => 0))), (q35, .inr (1, [.long 0, .long 0])), (q46, .inr (0, [.int 0, .int 0, .int 0]))]) [0, 1, 2, 3, 4, 5, 6, 7, 8, 9, 10, 11, 12, 13, 14, 15, 16, 17, 18, 19] (by decide) rfl
  have hK9 : va_K D cls_ (ty_ c7 u17Z) s := hK.sub [0, 1] rfl
  exact W.vret hx hb hr (fun t ht hW => ⟨⟨((fun k : Nat => match k with | 0 => h0 | 1 => q7 | 2 => q13 | 3 => (u17a 0) | 4 => (u17a 1) | 5 => (u17a 2) | 6 => (u17a 3) | 7 => (u17a 4) | 8 => (u17a 5) | 9 => q24 | 10 => (u28a 0) | 11 => (u28a 1) | 12 => (u28a 2) | 13 => (u28a 3) | 14 => (u28a 4) | 15 => (u28a 5) | 16 => (u28a 6) | 17 => (u28a 7) | 18 => q35 | _ => q46), c7, u17Z), rfl, rfl, by rw [ht]; exact hP9, va_K.moved hW.alike hK9, hD9⟩, hS.F ht⟩) hS.2.2 d_E_init_89
abbrev rm_M_init : Room := { frames := 1, cells := 11, slots := 3266, locals := 12 }
theorem good_M_init : GoodIn TB (.code y_M_init b_M_init 1 none :: TB) := good_of tb_367
theorem hd_M_init : y_M_init.cls ≠ "java/lang/invoke/MethodHandle" ∧ y_M_init.cls ≠ "java/lang/invoke/VarHandle" ∧ (parseMethodDescriptor y_M_init.desc).map (fun d => d.parameters.length) = some 0 := by decide +kernel
theorem d_M_init_0 : decode b_M_init 0 = .ok (.aload_n 0, 1) := by decide +kernel
theorem d_M_init_1 : decode b_M_init 1 = .ok (.invokespecial 1, 3) := by decide +kernel
theorem d_M_init_4 : decode b_M_init 4 = .ok (.aload_n 0, 1) := by decide +kernel
theorem d_M_init_5 : decode b_M_init 5 = .ok (.bipush 64, 2) := by decide +kernel
theorem d_M_init_7 : decode b_M_init 7 = .ok (.newarray .int, 2) := by decide +kernel
theorem d_M_init_9 : decode b_M_init 9 = .ok (.putfield 7, 3) := by decide +kernel
theorem d_M_init_12 : decode b_M_init 12 = .ok (.aload_n 0, 1) := by decide +kernel
theorem d_M_init_13 : decode b_M_init 13 = .ok (.sipush 200, 3) := by decide +kernel
theorem d_M_init_16 : decode b_M_init 16 = .ok (.newarray .int, 2) := by decide +kernel
theorem d_M_init_18 : decode b_M_init 18 = .ok (.putfield 13, 3) := by decide +kernel
theorem d_M_init_21 : decode b_M_init 21 = .ok (.aload_n 0, 1) := by decide +kernel
theorem d_M_init_22 : decode b_M_init 22 = .ok (.sipush 200, 3) := by decide +kernel
theorem d_M_init_25 : decode b_M_init 25 = .ok (.newarray .int, 2) := by decide +kernel
theorem d_M_init_27 : decode b_M_init 27 = .ok (.putfield 16, 3) := by decide +kernel
theorem d_M_init_30 : decode b_M_init 30 = .ok (.aload_n 0, 1) := by decide +kernel
theorem d_M_init_31 : decode b_M_init 31 = .ok (.sipush 200, 3) := by decide +kernel
theorem d_M_init_34 : decode b_M_init 34 = .ok (.newarray .int, 2) := by decide +kernel
theorem d_M_init_36 : decode b_M_init 36 = .ok (.putfield 19, 3) := by decide +kernel
theorem d_M_init_39 : decode b_M_init 39 = .ok (.aload_n 0, 1) := by decide +kernel
theorem d_M_init_40 : decode b_M_init 40 = .ok (.sipush 200, 3) := by decide +kernel
theorem d_M_init_43 : decode b_M_init 43 = .ok (.newarray .int, 2) := by decide +kernel
theorem d_M_init_45 : decode b_M_init 45 = .ok (.putfield 22, 3) := by decide +kernel
theorem d_M_init_48 : decode b_M_init 48 = .ok (.aload_n 0, 1) := by decide +kernel
theorem d_M_init_49 : decode b_M_init 49 = .ok (.sipush 200, 3) := by decide +kernel
theorem d_M_init_52 : decode b_M_init 52 = .ok (.newarray .int, 2) := by decide +kernel
theorem d_M_init_54 : decode b_M_init 54 = .ok (.putfield 25, 3) := by decide +kernel
theorem d_M_init_57 : decode b_M_init 57 = .ok (.aload_n 0, 1) := by decide +kernel
theorem d_M_init_58 : decode b_M_init 58 = .ok (.sipush 200, 3) := by decide +kernel
theorem d_M_init_61 : decode b_M_init 61 = .ok (.newarray .int, 2) := by decide +kernel
theorem d_M_init_63 : decode b_M_init 63 = .ok (.putfield 28, 3) := by decide +kernel
theorem d_M_init_66 : decode b_M_init 66 = .ok (.aload_n 0, 1) := by decide +kernel
theorem d_M_init_67 : decode b_M_init 67 = .ok (.sipush 1600, 3) := by decide +kernel
theorem d_M_init_70 : decode b_M_init 70 = .ok (.newarray .int, 2) := by decide +kernel
theorem d_M_init_72 : decode b_M_init 72 = .ok (.putfield 31, 3) := by decide +kernel
theorem d_M_init_75 : decode b_M_init 75 = .ok (.aload_n 0, 1) := by decide +kernel
theorem d_M_init_76 : decode b_M_init 76 = .ok (.sipush 200, 3) := by decide +kernel
theorem d_M_init_79 : decode b_M_init 79 = .ok (.newarray .int, 2) := by decide +kernel
theorem d_M_init_81 : decode b_M_init 81 = .ok (.putfield 34, 3) := by decide +kernel
theorem d_M_init_84 : decode b_M_init 84 = .ok (.aload_n 0, 1) := by decide +kernel
theorem d_M_init_85 : decode b_M_init 85 = .ok (.sipush 200, 3) := by decide +kernel
theorem d_M_init_88 : decode b_M_init 88 = .ok (.newarray .int, 2) := by decide +kernel
theorem d_M_init_90 : decode b_M_init 90 = .ok (.putfield 37, 3) := by decide +kernel
theorem d_M_init_93 : decode b_M_init 93 = .ok (.aload_n 0, 1) := by decide +kernel
theorem d_M_init_94 : decode b_M_init 94 = .ok (.iconst 2, 1) := by decide +kernel
theorem d_M_init_95 : decode b_M_init 95 = .ok (.newarray .int, 2) := by decide +kernel
theorem d_M_init_97 : decode b_M_init 97 = .ok (.putfield 40, 3) := by decide +kernel
theorem d_M_init_100 : decode b_M_init 100 = .ok (.aload_n 0, 1) := by decide +kernel
theorem d_M_init_101 : decode b_M_init 101 = .ok (.iconst (-1), 1) := by decide +kernel
theorem d_M_init_102 : decode b_M_init 102 = .ok (.putfield 43, 3) := by decide +kernel
theorem d_M_init_105 : decode b_M_init 105 = .ok (.aload_n 0, 1) := by decide +kernel
theorem d_M_init_106 : decode b_M_init 106 = .ok (.getfield 40, 3) := by decide +kernel
theorem d_M_init_109 : decode b_M_init 109 = .ok (.iconst 0, 1) := by decide +kernel
theorem d_M_init_110 : decode b_M_init 110 = .ok (.bipush 50, 2) := by decide +kernel
theorem d_M_init_112 : decode b_M_init 112 = .ok (.iastore, 1) := by decide +kernel
theorem d_M_init_113 : decode b_M_init 113 = .ok (.aload_n 0, 1) := by decide +kernel
theorem d_M_init_114 : decode b_M_init 114 = .ok (.getfield 40, 3) := by decide +kernel
theorem d_M_init_117 : decode b_M_init 117 = .ok (.iconst 1, 1) := by decide +kernel
theorem d_M_init_118 : decode b_M_init 118 = .ok (.sipush 500, 3) := by decide +kernel
theorem d_M_init_121 : decode b_M_init 121 = .ok (.iastore, 1) := by decide +kernel
theorem d_M_init_122 : decode b_M_init 122 = .ok (.return_, 1) := by decide +kernel
set_option maxHeartbeats 4000000 in
set_option maxRecDepth 100000 in
theorem c_M_init (l : Launch) (D : va_G) (h0 sz : Nat) : Met l y_M_init (.code y_M_init b_M_init 1 none :: TB) rm_M_init (va_Pc [.ref h0] (fun U => U.heap.size = sz ∧ va_P D cls_ [(h0, .inr (5, [.null, .int 0, .null, .null, .null, .null, .null, .null, .null, .null, .null, .int 0, .int 0, .null, .int 0, .int 0, .int 0, .int 0, .int 0]))] U.heap ∧ va_K D cls_ [] U ∧ va_D (fun _ => True) [(h0, .inr (5, [.null, .int 0, .null, .null, .null, .null, .null, .null, .null, .null, .null, .int 0, .int 0, .null, .int 0, .int 0, .int 0, .int 0, .int 0]))] ∧ NW U)) (va_Qv (fun u : (Nat → Nat) × ClassId × ClassId => u.1 0 = h0) (fun u t => va_P D cls_ (wM u.1 u.2.1 u.2.2 gM0) t.heap ∧ va_K D cls_ ([(u.2.1, .int)]) t ∧ va_D (va_A [(h0, .inr (5, [.null, .int 0, .null, .null, .null, .null, .null, .null, .null, .null, .null, .int 0, .int 0, .null, .int 0, .int 0, .int 0, .int 0, .int 0]))] sz) (wM u.1 u.2.1 u.2.2 gM0)) (va_A [(h0, .inr (5, [.null, .int 0, .null, .null, .null, .null, .null, .null, .null, .null, .null, .int 0, .int 0, .null, .int 0, .int 0, .int 0, .int 0, .int 0]))] sz)) 11 3266 (va_A [(h0, .inr (5, [.null, .int 0, .null, .null, .null, .null, .null, .null, .null, .null, .null, .int 0, .int 0, .null, .int 0, .int 0, .int 0, .int 0, .int 0]))] sz) := by
  refine Met.ofW (cc := b_M_init) (maxL := 1) (ret := none) (by decide +kernel) rfl ?_
  intro p e s m args below meth c s₁ B hml hv
  obtain ⟨rfl, hsz, hP, hK, hD0, hN⟩ := hv
  have hx := B.exec
  have hb := B.bytes
  have hr := B.returns
  have hts0 := atoms_spec (ws := Cond.code y_M_init b_M_init 1 none :: TB) B.pre
  have hts : ∀ w ∈ TB, w.before _ s = true := fun w h => hts0 w (List.mem_cons_of_mem _ h)
  have hown : s.vm.findClass R_M = some m.cls := findClass_of_methodNamed B.named
  have hlocks := B.notSynchronized
  have hin : meth.name = "<init>" := (name_of_methodNamed B.named B.method).1
  subst hsz
  have hD := hD0.self (sz := s.heap.size)
  generalize hAe : va_A [(h0, .inr (5, [.null, .int 0, .null, .null, .null, .null, .null, .null, .null, .null, .null, .int 0, .int 0, .null, .int 0, .int 0, .int 0, .int 0, .int 0]))] s.heap.size = A at hD ⊢
  have hA : ∀ q : Nat, s.heap.size ≤ q → A q := fun q h => by rw [← hAe]; exact Or.inr h
  have hS : va_S A s.heap s.heap [] := va_S.rf
  have hl := lv_entry ([.ref h0]) (n := 1) (Nat.le_of_ble_eq_true rfl)
  rw [lg_entry_eq]
  generalize (lg_sl ([.ref h0]) ++ List.replicate (1 - (lg_sl ([.ref h0])).length) Slot.unset).toArray = ls at hl ⊢
  have hl : lv_has ls 1 [(0, .ref h0)] := hl
  refine lv_aload_n hx hb d_M_init_0 rfl (lv_at hl 0 rfl) ?_
  refine W.objInit hx hb hown (hts _ tb_368) (hts _ tb_15) (hts _ tb_16) rfl (by rw [hml]; exact hl.1) rfl d_M_init_1 (Nat.le_of_ble_eq_true rfl) (Nat.le_of_ble_eq_true rfl) ?_
  refine W.eq (g2 := F0 m 4 ls []) rfl ?_
  refine lv_aload_n hx hb d_M_init_4 rfl (lv_at hl 0 rfl) ?_
  refine lv_bipush (v := 64) hx hb d_M_init_5 (by decide) ?_
  refine va_newa (atype := .int) (ty := .int) (N' := 64) (a0 := (64, .inl (fun _ => 0))) hx hb (hts _ tb_51) rfl hK hP hD hS hA (fun _ => rfl) (by decide) (by decide) (by decide) (Nat.le_of_ble_eq_true rfl) (Nat.le_of_ble_eq_true rfl) d_M_init_7 (fun q7 c7 H hK hP hD hS => ?_)
  refine W.widen (k := 1) (n := 64) (by decide) (by decide) ?_
  have hK : va_K D cls_ [(c7, .int)] s := hK
  have hP : va_P D cls_ [(h0, .inr (5, [.null, .int 0, .null, .null, .null, .null, .null, .null, .null, .null, .null, .int 0, .int 0, .null, .int 0, .int 0, .int 0, .int 0, .int 0])), (q7, .inl (c7, 64, .inl (fun _ => 0)))] H := hP
  have hD : va_D A [(h0, .inr (5, [.null, .int 0, .null, .null, .null, .null, .null, .null, .null, .null, .null, .int 0, .int 0, .null, .int 0, .int 0, .int 0, .int 0, .int 0])), (q7, .inl (c7, 64, .inl (fun _ => 0)))] := hD
  refine va_put (D := D) (ci := 5) (v := .ref q7) (ty := .array .int) (C := R_M) (T := F_M) (N := 19) hx hb hts in_M t_M t_M_ok n_M hown hK hP hD hS 0 rfl rfl 0 (by decide) (hts _ tb_369) (fun _ h9 => h9) rfl (by decide +kernel) rfl rfl (Nat.le_of_ble_eq_true rfl) d_M_init_9 (fun H locs hP hD hS => ?_)
  have hP : va_P D cls_ [(h0, .inr (5, [.ref q7, .int 0, .null, .null, .null, .null, .null, .null, .null, .null, .null, .int 0, .int 0, .null, .int 0, .int 0, .int 0, .int 0, .int 0])), (q7, .inl (c7, 64, .inl (fun _ => 0)))] H := hP
  have hD : va_D A [(h0, .inr (5, [.ref q7, .int 0, .null, .null, .null, .null, .null, .null, .null, .null, .null, .int 0, .int 0, .null, .int 0, .int 0, .int 0, .int 0, .int 0])), (q7, .inl (c7, 64, .inl (fun _ => 0)))] := hD
  refine lv_aload_n hx hb d_M_init_12 rfl (lv_at hl 0 rfl) ?_
  refine lv_sipush (v := 200) hx hb d_M_init_13 (by decide) ?_
  refine va_newa (atype := .int) (ty := .int) (N' := 200) (a0 := (200, .inl (fun _ => 0))) hx hb (hts _ tb_51) rfl hK hP hD hS hA (fun _ => rfl) (by decide) (by decide) (by decide) (Nat.le_of_ble_eq_true rfl) (Nat.le_of_ble_eq_true rfl) d_M_init_16 (fun q16 c16 H hK hP hD hS => ?_)
  refine W.widen (k := 2) (n := 264) (by decide) (by decide) ?_
  have e16 : c7 = c16 := arr_eqI hK 0 1 rfl rfl
  subst e16
  have hK : va_K D cls_ [(c7, .int)] s := hK.sub [0] rfl
  have hP : va_P D cls_ [(h0, .inr (5, [.ref q7, .int 0, .null, .null, .null, .null, .null, .null, .null, .null, .null, .int 0, .int 0, .null, .int 0, .int 0, .int 0, .int 0, .int 0])), (q7, .inl (c7, 64, .inl (fun _ => 0))), (q16, .inl (c7, 200, .inl (fun _ => 0)))] H := hP
  have hD : va_D A [(h0, .inr (5, [.ref q7, .int 0, .null, .null, .null, .null, .null, .null, .null, .null, .null, .int 0, .int 0, .null, .int 0, .int 0, .int 0, .int 0, .int 0])), (q7, .inl (c7, 64, .inl (fun _ => 0))), (q16, .inl (c7, 200, .inl (fun _ => 0)))] := hD
  refine va_put (D := D) (ci := 5) (v := .ref q16) (ty := .array .int) (C := R_M) (T := F_M) (N := 19) hx hb hts in_M t_M t_M_ok n_M hown hK hP hD hS 0 rfl rfl 2 (by decide) (hts _ tb_371) (fun _ h9 => h9) rfl (by decide +kernel) rfl rfl (Nat.le_of_ble_eq_true rfl) d_M_init_18 (fun H locs hP hD hS => ?_)
  have hP : va_P D cls_ [(h0, .inr (5, [.ref q7, .int 0, .ref q16, .null, .null, .null, .null, .null, .null, .null, .null, .int 0, .int 0, .null, .int 0, .int 0, .int 0, .int 0, .int 0])), (q7, .inl (c7, 64, .inl (fun _ => 0))), (q16, .inl (c7, 200, .inl (fun _ => 0)))] H := hP
  have hD : va_D A [(h0, .inr (5, [.ref q7, .int 0, .ref q16, .null, .null, .null, .null, .null, .null, .null, .null, .int 0, .int 0, .null, .int 0, .int 0, .int 0, .int 0, .int 0])), (q7, .inl (c7, 64, .inl (fun _ => 0))), (q16, .inl (c7, 200, .inl (fun _ => 0)))] := hD
  refine lv_aload_n hx hb d_M_init_21 rfl (lv_at hl 0 rfl) ?_
  refine lv_sipush (v := 200) hx hb d_M_init_22 (by decide) ?_
  refine va_newa (atype := .int) (ty := .int) (N' := 200) (a0 := (200, .inl (fun _ => 0))) hx hb (hts _ tb_51) rfl hK hP hD hS hA (fun _ => rfl) (by decide) (by decide) (by decide) (Nat.le_of_ble_eq_true rfl) (Nat.le_of_ble_eq_true rfl) d_M_init_25 (fun q25 c25 H hK hP hD hS => ?_)
  refine W.widen (k := 3) (n := 464) (by decide) (by decide) ?_
  have e25 : c7 = c25 := arr_eqI hK 0 1 rfl rfl
  subst e25
  have hK : va_K D cls_ [(c7, .int)] s := hK.sub [0] rfl
  have hP : va_P D cls_ [(h0, .inr (5, [.ref q7, .int 0, .ref q16, .null, .null, .null, .null, .null, .null, .null, .null, .int 0, .int 0, .null, .int 0, .int 0, .int 0, .int 0, .int 0])), (q7, .inl (c7, 64, .inl (fun _ => 0))), (q16, .inl (c7, 200, .inl (fun _ => 0))), (q25, .inl (c7, 200, .inl (fun _ => 0)))] H := hP
  have hD : va_D A [(h0, .inr (5, [.ref q7, .int 0, .ref q16, .null, .null, .null, .null, .null, .null, .null, .null, .int 0, .int 0, .null, .int 0, .int 0, .int 0, .int 0, .int 0])), (q7, .inl (c7, 64, .inl (fun _ => 0))), (q16, .inl (c7, 200, .inl (fun _ => 0))), (q25, .inl (c7, 200, .inl (fun _ => 0)))] := hD
  refine va_put (D := D) (ci := 5) (v := .ref q25) (ty := .array .int) (C := R_M) (T := F_M) (N := 19) hx hb hts in_M t_M t_M_ok n_M hown hK hP hD hS 0 rfl rfl 3 (by decide) (hts _ tb_372) (fun _ h9 => h9) rfl (by decide +kernel) rfl rfl (Nat.le_of_ble_eq_true rfl) d_M_init_27 (fun H locs hP hD hS => ?_)
  have hP : va_P D cls_ [(h0, .inr (5, [.ref q7, .int 0, .ref q16, .ref q25, .null, .null, .null, .null, .null, .null, .null, .int 0, .int 0, .null, .int 0, .int 0, .int 0, .int 0, .int 0])), (q7, .inl (c7, 64, .inl (fun _ => 0))), (q16, .inl (c7, 200, .inl (fun _ => 0))), (q25, .inl (c7, 200, .inl (fun _ => 0)))] H := hP
  have hD : va_D A [(h0, .inr (5, [.ref q7, .int 0, .ref q16, .ref q25, .null, .null, .null, .null, .null, .null, .null, .int 0, .int 0, .null, .int 0, .int 0, .int 0, .int 0, .int 0])), (q7, .inl (c7, 64, .inl (fun _ => 0))), (q16, .inl (c7, 200, .inl (fun _ => 0))), (q25, .inl (c7, 200, .inl (fun _ => 0)))] := hD
  refine lv_aload_n hx hb d_M_init_30 rfl (lv_at hl 0 rfl) ?_
  refine lv_sipush (v := 200) hx hb d_M_init_31 (by decide) ?_
  refine va_newa (atype := .int) (ty := .int) (N' := 200) (a0 := (200, .inl (fun _ => 0))) hx hb (hts _ tb_51) rfl hK hP hD hS hA (fun _ => rfl) (by decide) (by decide) (by decide) (Nat.le_of_ble_eq_true rfl) (Nat.le_of_ble_eq_true rfl) d_M_init_34 (fun q34 c34 H hK hP hD hS => ?_)
  refine W.widen (k := 4) (n := 664) (by decide) (by decide) ?_
  have e34 : c7 = c34 := arr_eqI hK 0 1 rfl rfl
  subst e34
  have hK : va_K D cls_ [(c7, .int)] s := hK.sub [0] rfl
  have hP : va_P D cls_ [(h0, .inr (5, [.ref q7, .int 0, .ref q16, .ref q25, .null, .null, .null, .null, .null, .null, .null, .int 0, .int 0, .null, .int 0, .int 0, .int 0, .int 0, .int 0])), (q7, .inl (c7, 64, .inl (fun _ => 0))), (q16, .inl (c7, 200, .inl (fun _ => 0))), (q25, .inl (c7, 200, .inl (fun _ => 0))), (q34, .inl (c7, 200, .inl (fun _ => 0)))] H := hP
  have hD : va_D A [(h0, .inr (5, [.ref q7, .int 0, .ref q16, .ref q25, .null, .null, .null, .null, .null, .null, .null, .int 0, .int 0, .null, .int 0, .int 0, .int 0, .int 0, .int 0])), (q7, .inl (c7, 64, .inl (fun _ => 0))), (q16, .inl (c7, 200, .inl (fun _ => 0))), (q25, .inl (c7, 200, .inl (fun _ => 0))), (q34, .inl (c7, 200, .inl (fun _ => 0)))] := hD
  refine va_put (D := D) (ci := 5) (v := .ref q34) (ty := .array .int) (C := R_M) (T := F_M) (N := 19) hx hb hts in_M t_M t_M_ok n_M hown hK hP hD hS 0 rfl rfl 4 (by decide) (hts _ tb_373) (fun _ h9 => h9) rfl (by decide +kernel) rfl rfl (Nat.le_of_ble_eq_true rfl) d_M_init_36 (fun H locs hP hD hS => ?_)
  have hP : va_P D cls_ [(h0, .inr (5, [.ref q7, .int 0, .ref q16, .ref q25, .ref q34, .null, .null, .null, .null, .null, .null, .int 0, .int 0, .null, .int 0, .int 0, .int 0, .int 0, .int 0])), (q7, .inl (c7, 64, .inl (fun _ => 0))), (q16, .inl (c7, 200, .inl (fun _ => 0))), (q25, .inl (c7, 200, .inl (fun _ => 0))), (q34, .inl (c7, 200, .inl (fun _ => 0)))] H := hP
  have hD : va_D A [(h0, .inr (5, [.ref q7, .int 0, .ref q16, .ref q25, .ref q34, .null, .null, .null, .null, .null, .null, .int 0, .int 0, .null, .int 0, .int 0, .int 0, .int 0, .int 0])), (q7, .inl (c7, 64, .inl (fun _ => 0))), (q16, .inl (c7, 200, .inl (fun _ => 0))), (q25, .inl (c7, 200, .inl (fun _ => 0))), (q34, .inl (c7, 200, .inl (fun _ => 0)))] := hD
  refine lv_aload_n hx hb d_M_init_39 rfl (lv_at hl 0 rfl) ?_
  refine lv_sipush (v := 200) hx hb d_M_init_40 (by decide) ?_
  refine va_newa (atype := .int) (ty := .int) (N' := 200) (a0 := (200, .inl (fun _ => 0))) hx hb (hts _ tb_51) rfl hK hP hD hS hA (fun _ => rfl) (by decide) (by decide) (by decide) (Nat.le_of_ble_eq_true rfl) (Nat.le_of_ble_eq_true rfl) d_M_init_43 (fun q43 c43 H hK hP hD hS => ?_)
  refine W.widen (k := 5) (n := 864) (by decide) (by decide) ?_
  have e43 : c7 = c43 := arr_eqI hK 0 1 rfl rfl
  subst e43
  have hK : va_K D cls_ [(c7, .int)] s := hK.sub [0] rfl
  have hP : va_P D cls_ [(h0, .inr (5, [.ref q7, .int 0, .ref q16, .ref q25, .ref q34, .null, .null, .null, .null, .null, .null, .int 0, .int 0, .null, .int 0, .int 0, .int 0, .int 0, .int 0])), (q7, .inl (c7, 64, .inl (fun _ => 0))), (q16, .inl (c7, 200, .inl (fun _ => 0))), (q25, .inl (c7, 200, .inl (fun _ => 0))), (q34, .inl (c7, 200, .inl (fun _ => 0))), (q43, .inl (c7, 200, .inl (fun _ => 0)))] H := hP
  have hD : va_D A [(h0, .inr (5, [.ref q7, .int 0, .ref q16, .ref q25, .ref q34, .null, .null, .null, .null, .null, .null, .int 0, .int 0, .null, .int 0, .int 0, .int 0, .int 0, .int 0])), (q7, .inl (c7, 64, .inl (fun _ => 0))), (q16, .inl (c7, 200, .inl (fun _ => 0))), (q25, .inl (c7, 200, .inl (fun _ => 0))), (q34, .inl (c7, 200, .inl (fun _ => 0))), (q43, .inl (c7, 200, .inl (fun _ => 0)))] := hD
  refine va_put (D := D) (ci := 5) (v := .ref q43) (ty := .array .int) (C := R_M) (T := F_M) (N := 19) hx hb hts in_M t_M t_M_ok n_M hown hK hP hD hS 0 rfl rfl 5 (by decide) (hts _ tb_374) (fun _ h9 => h9) rfl (by decide +kernel) rfl rfl (Nat.le_of_ble_eq_true rfl) d_M_init_45 (fun H locs hP hD hS => ?_)
  have hP : va_P D cls_ [(h0, .inr (5, [.ref q7, .int 0, .ref q16, .ref q25, .ref q34, .ref q43, .null, .null, .null, .null, .null, .int 0, .int 0, .null, .int 0, .int 0, .int 0, .int 0, .int 0])), (q7, .inl (c7, 64, .inl (fun _ => 0))), (q16, .inl (c7, 200, .inl (fun _ => 0))), (q25, .inl (c7, 200, .inl (fun _ => 0))), (q34, .inl (c7, 200, .inl (fun _ => 0))), (q43, .inl (c7, 200, .inl (fun _ => 0)))] H := hP
  have hD : va_D A [(h0, .inr (5, [.ref q7, .int 0, .ref q16, .ref q25, .ref q34, .ref q43, .null, .null, .null, .null, .null, .int 0, .int 0, .null, .int 0, .int 0, .int 0, .int 0, .int 0])), (q7, .inl (c7, 64, .inl (fun _ => 0))), (q16, .inl (c7, 200, .inl (fun _ => 0))), (q25, .inl (c7, 200, .inl (fun _ => 0))), (q34, .inl (c7, 200, .inl (fun _ => 0))), (q43, .inl (c7, 200, .inl (fun _ => 0)))] := hD
  refine lv_aload_n hx hb d_M_init_48 rfl (lv_at hl 0 rfl) ?_
  refine lv_sipush (v := 200) hx hb d_M_init_49 (by decide) ?_
  refine va_newa (atype := .int) (ty := .int) (N' := 200) (a0 := (200, .inl (fun _ => 0))) hx hb (hts _ tb_51) rfl hK hP hD hS hA (fun _ => rfl) (by decide) (by decide) (by decide) (Nat.le_of_ble_eq_true rfl) (Nat.le_of_ble_eq_true rfl) d_M_init_52 (fun q52 c52 H hK hP hD hS => ?_)
  refine W.widen (k := 6) (n := 1064) (by decide) (by decide) ?_
  have e52 : c7 = c52 := arr_eqI hK 0 1 rfl rfl
  subst e52
  have hK : va_K D cls_ [(c7, .int)] s := hK.sub [0] rfl
  have hP : va_P D cls_ [(h0, .inr (5, [.ref q7, .int 0, .ref q16, .ref q25, .ref q34, .ref q43, .null, .null, .null, .null, .null, .int 0, .int 0, .null, .int 0, .int 0, .int 0, .int 0, .int 0])), (q7, .inl (c7, 64, .inl (fun _ => 0))), (q16, .inl (c7, 200, .inl (fun _ => 0))), (q25, .inl (c7, 200, .inl (fun _ => 0))), (q34, .inl (c7, 200, .inl (fun _ => 0))), (q43, .inl (c7, 200, .inl (fun _ => 0))), (q52, .inl (c7, 200, .inl (fun _ => 0)))] H := hP
  have hD : va_D A [(h0, .inr (5, [.ref q7, .int 0, .ref q16, .ref q25, .ref q34, .ref q43, .null, .null, .null, .null, .null, .int 0, .int 0, .null, .int 0, .int 0, .int 0, .int 0, .int 0])), (q7, .inl (c7, 64, .inl (fun _ => 0))), (q16, .inl (c7, 200, .inl (fun _ => 0))), (q25, .inl (c7, 200, .inl (fun _ => 0))), (q34, .inl (c7, 200, .inl (fun _ => 0))), (q43, .inl (c7, 200, .inl (fun _ => 0))), (q52, .inl (c7, 200, .inl (fun _ => 0)))] := hD
  refine va_put (D := D) (ci := 5) (v := .ref q52) (ty := .array .int) (C := R_M) (T := F_M) (N := 19) hx hb hts in_M t_M t_M_ok n_M hown hK hP hD hS 0 rfl rfl 6 (by decide) (hts _ tb_375) (fun _ h9 => h9) rfl (by decide +kernel) rfl rfl (Nat.le_of_ble_eq_true rfl) d_M_init_54 (fun H locs hP hD hS => ?_)
  have hP : va_P D cls_ [(h0, .inr (5, [.ref q7, .int 0, .ref q16, .ref q25, .ref q34, .ref q43, .ref q52, .null, .null, .null, .null, .int 0, .int 0, .null, .int 0, .int 0, .int 0, .int 0, .int 0])), (q7, .inl (c7, 64, .inl (fun _ => 0))), (q16, .inl (c7, 200, .inl (fun _ => 0))), (q25, .inl (c7, 200, .inl (fun _ => 0))), (q34, .inl (c7, 200, .inl (fun _ => 0))), (q43, .inl (c7, 200, .inl (fun _ => 0))), (q52, .inl (c7, 200, .inl (fun _ => 0)))] H := hP
  have hD : va_D A [(h0, .inr (5, [.ref q7, .int 0, .ref q16, .ref q25, .ref q34, .ref q43, .ref q52, .null, .null, .null, .null, .int 0, .int 0, .null, .int 0, .int 0, .int 0, .int 0, .int 0])), (q7, .inl (c7, 64, .inl (fun _ => 0))), (q16, .inl (c7, 200, .inl (fun _ => 0))), (q25, .inl (c7, 200, .inl (fun _ => 0))), (q34, .inl (c7, 200, .inl (fun _ => 0))), (q43, .inl (c7, 200, .inl (fun _ => 0))), (q52, .inl (c7, 200, .inl (fun _ => 0)))] := hD
  refine lv_aload_n hx hb d_M_init_57 rfl (lv_at hl 0 rfl) ?_
  refine lv_sipush (v := 200) hx hb d_M_init_58 (by decide) ?_
  refine va_newa (atype := .int) (ty := .int) (N' := 200) (a0 := (200, .inl (fun _ => 0))) hx hb (hts _ tb_51) rfl hK hP hD hS hA (fun _ => rfl) (by decide) (by decide) (by decide) (Nat.le_of_ble_eq_true rfl) (Nat.le_of_ble_eq_true rfl) d_M_init_61 (fun q61 c61 H hK hP hD hS => ?_)
  refine W.widen (k := 7) (n := 1264) (by decide) (by decide) ?_
  have e61 : c7 = c61 := arr_eqI hK 0 1 rfl rfl
  subst e61
  have hK : va_K D cls_ [(c7, .int)] s := hK.sub [0] rfl
  have hP : va_P D cls_ [(h0, .inr (5, [.ref q7, .int 0, .ref q16, .ref q25, .ref q34, .ref q43, .ref q52, .null, .null, .null, .null, .int 0, .int 0, .null, .int 0, .int 0, .int 0, .int 0, .int 0])), (q7, .inl (c7, 64, .inl (fun _ => 0))), (q16, .inl (c7, 200, .inl (fun _ => 0))), (q25, .inl (c7, 200, .inl (fun _ => 0))), (q34, .inl (c7, 200, .inl (fun _ => 0))), (q43, .inl (c7, 200, .inl (fun _ => 0))), (q52, .inl (c7, 200, .inl (fun _ => 0))), (q61, .inl (c7, 200, .inl (fun _ => 0)))] H := hP
  have hD : va_D A [(h0, .inr (5, [.ref q7, .int 0, .ref q16, .ref q25, .ref q34, .ref q43, .ref q52, .null, .null, .null, .null, .int 0, .int 0, .null, .int 0, .int 0, .int 0, .int 0, .int 0])), (q7, .inl (c7, 64, .inl (fun _ => 0))), (q16, .inl (c7, 200, .inl (fun _ => 0))), (q25, .inl (c7, 200, .inl (fun _ => 0))), (q34, .inl (c7, 200, .inl (fun _ => 0))), (q43, .inl (c7, 200, .inl (fun _ => 0))), (q52, .inl (c7, 200, .inl (fun _ => 0))), (q61, .inl (c7, 200, .inl (fun _ => 0)))] := hD
  refine va_put (D := D) (ci := 5) (v := .ref q61) (ty := .array .int) (C := R_M) (T := F_M) (N := 19) hx hb hts in_M t_M t_M_ok n_M hown hK hP hD hS 0 rfl rfl 7 (by decide) (hts _ tb_376) (fun _ h9 => h9) rfl (by decide +kernel) rfl rfl (Nat.le_of_ble_eq_true rfl) d_M_init_63 (fun H locs hP hD hS => ?_)
  have hP : va_P D cls_ [(h0, .inr (5, [.ref q7, .int 0, .ref q16, .ref q25, .ref q34, .ref q43, .ref q52, .ref q61, .null, .null, .null, .int 0, .int 0, .null, .int 0, .int 0, .int 0, .int 0, .int 0])), (q7, .inl (c7, 64, .inl (fun _ => 0))), (q16, .inl (c7, 200, .inl (fun _ => 0))), (q25, .inl (c7, 200, .inl (fun _ => 0))), (q34, .inl (c7, 200, .inl (fun _ => 0))), (q43, .inl (c7, 200, .inl (fun _ => 0))), (q52, .inl (c7, 200, .inl (fun _ => 0))), (q61, .inl (c7, 200, .inl (fun _ => 0)))] H := hP
  have hD : va_D A [(h0, .inr (5, [.ref q7, .int 0, .ref q16, .ref q25, .ref q34, .ref q43, .ref q52, .ref q61, .null, .null, .null, .int 0, .int 0, .null, .int 0, .int 0, .int 0, .int 0, .int 0])), (q7, .inl (c7, 64, .inl (fun _ => 0))), (q16, .inl (c7, 200, .inl (fun _ => 0))), (q25, .inl (c7, 200, .inl (fun _ => 0))), (q34, .inl (c7, 200, .inl (fun _ => 0))), (q43, .inl (c7, 200, .inl (fun _ => 0))), (q52, .inl (c7, 200, .inl (fun _ => 0))), (q61, .inl (c7, 200, .inl (fun _ => 0)))] := hD
  refine lv_aload_n hx hb d_M_init_66 rfl (lv_at hl 0 rfl) ?_
  refine lv_sipush (v := 1600) hx hb d_M_init_67 (by decide) ?_
  refine va_newa (atype := .int) (ty := .int) (N' := 1600) (a0 := (1600, .inl (fun _ => 0))) hx hb (hts _ tb_51) rfl hK hP hD hS hA (fun _ => rfl) (by decide) (by decide) (by decide) (Nat.le_of_ble_eq_true rfl) (Nat.le_of_ble_eq_true rfl) d_M_init_70 (fun q70 c70 H hK hP hD hS => ?_)
  refine W.widen (k := 8) (n := 2864) (by decide) (by decide) ?_
  have e70 : c7 = c70 := arr_eqI hK 0 1 rfl rfl
  subst e70
  have hK : va_K D cls_ [(c7, .int)] s := hK.sub [0] rfl
  have hP : va_P D cls_ [(h0, .inr (5, [.ref q7, .int 0, .ref q16, .ref q25, .ref q34, .ref q43, .ref q52, .ref q61, .null, .null, .null, .int 0, .int 0, .null, .int 0, .int 0, .int 0, .int 0, .int 0])), (q7, .inl (c7, 64, .inl (fun _ => 0))), (q16, .inl (c7, 200, .inl (fun _ => 0))), (q25, .inl (c7, 200, .inl (fun _ => 0))), (q34, .inl (c7, 200, .inl (fun _ => 0))), (q43, .inl (c7, 200, .inl (fun _ => 0))), (q52, .inl (c7, 200, .inl (fun _ => 0))), (q61, .inl (c7, 200, .inl (fun _ => 0))), (q70, .inl (c7, 1600, .inl (fun _ => 0)))] H := hP
  have hD : va_D A [(h0, .inr (5, [.ref q7, .int 0, .ref q16, .ref q25, .ref q34, .ref q43, .ref q52, .ref q61, .null, .null, .null, .int 0, .int 0, .null, .int 0, .int 0, .int 0, .int 0, .int 0])), (q7, .inl (c7, 64, .inl (fun _ => 0))), (q16, .inl (c7, 200, .inl (fun _ => 0))), (q25, .inl (c7, 200, .inl (fun _ => 0))), (q34, .inl (c7, 200, .inl (fun _ => 0))), (q43, .inl (c7, 200, .inl (fun _ => 0))), (q52, .inl (c7, 200, .inl (fun _ => 0))), (q61, .inl (c7, 200, .inl (fun _ => 0))), (q70, .inl (c7, 1600, .inl (fun _ => 0)))] := hD
  refine va_put (D := D) (ci := 5) (v := .ref q70) (ty := .array .int) (C := R_M) (T := F_M) (N := 19) hx hb hts in_M t_M t_M_ok n_M hown hK hP hD hS 0 rfl rfl 8 (by decide) (hts _ tb_377) (fun _ h9 => h9) rfl (by decide +kernel) rfl rfl (Nat.le_of_ble_eq_true rfl) d_M_init_72 (fun H locs hP hD hS => ?_)
  have hP : va_P D cls_ [(h0, .inr (5, [.ref q7, .int 0, .ref q16, .ref q25, .ref q34, .ref q43, .ref q52, .ref q61, .ref q70, .null, .null, .int 0, .int 0, .null, .int 0, .int 0, .int 0, .int 0, .int 0])), (q7, .inl (c7, 64, .inl (fun _ => 0))), (q16, .inl (c7, 200, .inl (fun _ => 0))), (q25, .inl (c7, 200, .inl (fun _ => 0))), (q34, .inl (c7, 200, .inl (fun _ => 0))), (q43, .inl (c7, 200, .inl (fun _ => 0))), (q52, .inl (c7, 200, .inl (fun _ => 0))), (q61, .inl (c7, 200, .inl (fun _ => 0))), (q70, .inl (c7, 1600, .inl (fun _ => 0)))] H := hP
  have hD : va_D A [(h0, .inr (5, [.ref q7, .int 0, .ref q16, .ref q25, .ref q34, .ref q43, .ref q52, .ref q61, .ref q70, .null, .null, .int 0, .int 0, .null, .int 0, .int 0, .int 0, .int 0, .int 0])), (q7, .inl (c7, 64, .inl (fun _ => 0))), (q16, .inl (c7, 200, .inl (fun _ => 0))), (q25, .inl (c7, 200, .inl (fun _ => 0))), (q34, .inl (c7, 200, .inl (fun _ => 0))), (q43, .inl (c7, 200, .inl (fun _ => 0))), (q52, .inl (c7, 200, .inl (fun _ => 0))), (q61, .inl (c7, 200, .inl (fun _ => 0))), (q70, .inl (c7, 1600, .inl (fun _ => 0)))] := hD
  refine lv_aload_n hx hb d_M_init_75 rfl (lv_at hl 0 rfl) ?_
  refine lv_sipush (v := 200) hx hb d_M_init_76 (by decide) ?_
  refine va_newa (atype := .int) (ty := .int) (N' := 200) (a0 := (200, .inl (fun _ => 0))) hx hb (hts _ tb_51) rfl hK hP hD hS hA (fun _ => rfl) (by decide) (by decide) (by decide) (Nat.le_of_ble_eq_true rfl) (Nat.le_of_ble_eq_true rfl) d_M_init_79 (fun q79 c79 H hK hP hD hS => ?_)
  refine W.widen (k := 9) (n := 3064) (by decide) (by decide) ?_
  have e79 : c7 = c79 := arr_eqI hK 0 1 rfl rfl
  subst e79
  have hK : va_K D cls_ [(c7, .int)] s := hK.sub [0] rfl
  have hP : va_P D cls_ [(h0, .inr (5, [.ref q7, .int 0, .ref q16, .ref q25, .ref q34, .ref q43, .ref q52, .ref q61, .ref q70, .null, .null, .int 0, .int 0, .null, .int 0, .int 0, .int 0, .int 0, .int 0])), (q7, .inl (c7, 64, .inl (fun _ => 0))), (q16, .inl (c7, 200, .inl (fun _ => 0))), (q25, .inl (c7, 200, .inl (fun _ => 0))), (q34, .inl (c7, 200, .inl (fun _ => 0))), (q43, .inl (c7, 200, .inl (fun _ => 0))), (q52, .inl (c7, 200, .inl (fun _ => 0))), (q61, .inl (c7, 200, .inl (fun _ => 0))), (q70, .inl (c7, 1600, .inl (fun _ => 0))), (q79, .inl (c7, 200, .inl (fun _ => 0)))] H := hP
  have hD : va_D A [(h0, .inr (5, [.ref q7, .int 0, .ref q16, .ref q25, .ref q34, .ref q43, .ref q52, .ref q61, .ref q70, .null, .null, .int 0, .int 0, .null, .int 0, .int 0, .int 0, .int 0, .int 0])), (q7, .inl (c7, 64, .inl (fun _ => 0))), (q16, .inl (c7, 200, .inl (fun _ => 0))), (q25, .inl (c7, 200, .inl (fun _ => 0))), (q34, .inl (c7, 200, .inl (fun _ => 0))), (q43, .inl (c7, 200, .inl (fun _ => 0))), (q52, .inl (c7, 200, .inl (fun _ => 0))), (q61, .inl (c7, 200, .inl (fun _ => 0))), (q70, .inl (c7, 1600, .inl (fun _ => 0))), (q79, .inl (c7, 200, .inl (fun _ => 0)))] := hD
  refine va_put (D := D) (ci := 5) (v := .ref q79) (ty := .array .int) (C := R_M) (T := F_M) (N := 19) hx hb hts in_M t_M t_M_ok n_M hown hK hP hD hS 0 rfl rfl 9 (by decide) (hts _ tb_378) (fun _ h9 => h9) rfl (by decide +kernel) rfl rfl (Nat.le_of_ble_eq_true rfl) d_M_init_81 (fun H locs hP hD hS => ?_)
  have hP : va_P D cls_ [(h0, .inr (5, [.ref q7, .int 0, .ref q16, .ref q25, .ref q34, .ref q43, .ref q52, .ref q61, .ref q70, .ref q79, .null, .int 0, .int 0, .null, .int 0, .int 0, .int 0, .int 0, .int 0])), (q7, .inl (c7, 64, .inl (fun _ => 0))), (q16, .inl (c7, 200, .inl (fun _ => 0))), (q25, .inl (c7, 200, .inl (fun _ => 0))), (q34, .inl (c7, 200, .inl (fun _ => 0))), (q43, .inl (c7, 200, .inl (fun _ => 0))), (q52, .inl (c7, 200, .inl (fun _ => 0))), (q61, .inl (c7, 200, .inl (fun _ => 0))), (q70, .inl (c7, 1600, .inl (fun _ => 0))), (q79, .inl (c7, 200, .inl (fun _ => 0)))] H := hP
  have hD : va_D A [(h0, .inr (5, [.ref q7, .int 0, .ref q16, .ref q25, .ref q34, .ref q43, .ref q52, .ref q61, .ref q70, .ref q79, .null, .int 0, .int 0, .null, .int 0, .int 0, .int 0, .int 0, .int 0])), (q7, .inl (c7, 64, .inl (fun _ => 0))), (q16, .inl (c7, 200, .inl (fun _ => 0))), (q25, .inl (c7, 200, .inl (fun _ => 0))), (q34, .inl (c7, 200, .inl (fun _ => 0))), (q43, .inl (c7, 200, .inl (fun _ => 0))), (q52, .inl (c7, 200, .inl (fun _ => 0))), (q61, .inl (c7, 200, .inl (fun _ => 0))), (q70, .inl (c7, 1600, .inl (fun _ => 0))), (q79, .inl (c7, 200, .inl (fun _ => 0)))] := hD
  refine lv_aload_n hx hb d_M_init_84 rfl (lv_at hl 0 rfl) ?_
  refine lv_sipush (v := 200) hx hb d_M_init_85 (by decide) ?_
  refine va_newa (atype := .int) (ty := .int) (N' := 200) (a0 := (200, .inl (fun _ => 0))) hx hb (hts _ tb_51) rfl hK hP hD hS hA (fun _ => rfl) (by decide) (by decide) (by decide) (Nat.le_of_ble_eq_true rfl) (Nat.le_of_ble_eq_true rfl) d_M_init_88 (fun q88 c88 H hK hP hD hS => ?_)
  refine W.widen (k := 10) (n := 3264) (by decide) (by decide) ?_
  have e88 : c7 = c88 := arr_eqI hK 0 1 rfl rfl
  subst e88
  have hK : va_K D cls_ [(c7, .int)] s := hK.sub [0] rfl
  have hP : va_P D cls_ [(h0, .inr (5, [.ref q7, .int 0, .ref q16, .ref q25, .ref q34, .ref q43, .ref q52, .ref q61, .ref q70, .ref q79, .null, .int 0, .int 0, .null, .int 0, .int 0, .int 0, .int 0, .int 0])), (q7, .inl (c7, 64, .inl (fun _ => 0))), (q16, .inl (c7, 200, .inl (fun _ => 0))), (q25, .inl (c7, 200, .inl (fun _ => 0))), (q34, .inl (c7, 200, .inl (fun _ => 0))), (q43, .inl (c7, 200, .inl (fun _ => 0))), (q52, .inl (c7, 200, .inl (fun _ => 0))), (q61, .inl (c7, 200, .inl (fun _ => 0))), (q70, .inl (c7, 1600, .inl (fun _ => 0))), (q79, .inl (c7, 200, .inl (fun _ => 0))), (q88, .inl (c7, 200, .inl (fun _ => 0)))] H := hP
  have hD : va_D A [(h0, .inr (5, [.ref q7, .int 0, .ref q16, .ref q25, .ref q34, .ref q43, .ref q52, .ref q61, .ref q70, .ref q79, .null, .int 0, .int 0, .null, .int 0, .int 0, .int 0, .int 0, .int 0])), (q7, .inl (c7, 64, .inl (fun _ => 0))), (q16, .inl (c7, 200, .inl (fun _ => 0))), (q25, .inl (c7, 200, .inl (fun _ => 0))), (q34, .inl (c7, 200, .inl (fun _ => 0))), (q43, .inl (c7, 200, .inl (fun _ => 0))), (q52, .inl (c7, 200, .inl (fun _ => 0))), (q61, .inl (c7, 200, .inl (fun _ => 0))), (q70, .inl (c7, 1600, .inl (fun _ => 0))), (q79, .inl (c7, 200, .inl (fun _ => 0))), (q88, .inl (c7, 200, .inl (fun _ => 0)))] := hD
  refine va_put (D := D) (ci := 5) (v := .ref q88) (ty := .array .int) (C := R_M) (T := F_M) (N := 19) hx hb hts in_M t_M t_M_ok n_M hown hK hP hD hS 0 rfl rfl 10 (by decide) (hts _ tb_379) (fun _ h9 => h9) rfl (by decide +kernel) rfl rfl (Nat.le_of_ble_eq_true rfl) d_M_init_90 (fun H locs hP hD hS => ?_)
  have hP : va_P D cls_ [(h0, .inr (5, [.ref q7, .int 0, .ref q16, .ref q25, .ref q34, .ref q43, .ref q52, .ref q61, .ref q70, .ref q79, .ref q88, .int 0, .int 0, .null, .int 0, .int 0, .int 0, .int 0, .int 0])), (q7, .inl (c7, 64, .inl (fun _ => 0))), (q16, .inl (c7, 200, .inl (fun _ => 0))), (q25, .inl (c7, 200, .inl (fun _ => 0))), (q34, .inl (c7, 200, .inl (fun _ => 0))), (q43, .inl (c7, 200, .inl (fun _ => 0))), (q52, .inl (c7, 200, .inl (fun _ => 0))), (q61, .inl (c7, 200, .inl (fun _ => 0))), (q70, .inl (c7, 1600, .inl (fun _ => 0))), (q79, .inl (c7, 200, .inl (fun _ => 0))), (q88, .inl (c7, 200, .inl (fun _ => 0)))] H := hP
  have hD : va_D A [(h0, .inr (5, [.ref q7, .int 0, .ref q16, .ref q25, .ref q34, .ref q43, .ref q52, .ref q61, .ref q70, .ref q79, .ref q88, .int 0, .int 0, .null, .int 0, .int 0, .int 0, .int 0, .int 0])), (q7, .inl (c7, 64, .inl (fun _ => 0))), (q16, .inl (c7, 200, .inl (fun _ => 0))), (q25, .inl (c7, 200, .inl (fun _ => 0))), (q34, .inl (c7, 200, .inl (fun _ => 0))), (q43, .inl (c7, 200, .inl (fun _ => 0))), (q52, .inl (c7, 200, .inl (fun _ => 0))), (q61, .inl (c7, 200, .inl (fun _ => 0))), (q70, .inl (c7, 1600, .inl (fun _ => 0))), (q79, .inl (c7, 200, .inl (fun _ => 0))), (q88, .inl (c7, 200, .inl (fun _ => 0)))] := hD
  refine lv_aload_n hx hb d_M_init_93 rfl (lv_at hl 0 rfl) ?_
  refine lv_iconst (v := 2) hx hb d_M_init_94 (by decide) ?_
  refine va_newa (atype := .int) (ty := .int) (N' := 2) (a0 := (2, .inl (fun _ => 0))) hx hb (hts _ tb_51) rfl hK hP hD hS hA (fun _ => rfl) (by decide) (by decide) (by decide) (Nat.le_of_ble_eq_true rfl) (Nat.le_of_ble_eq_true rfl) d_M_init_95 (fun q95 c95 H hK hP hD hS => ?_)
  refine W.widen (k := 11) (n := 3266) (by decide) (by decide) ?_
  have e95 : c7 = c95 := arr_eqI hK 0 1 rfl rfl
  subst e95
  have hK : va_K D cls_ [(c7, .int)] s := hK.sub [0] rfl
  have hP : va_P D cls_ [(h0, .inr (5, [.ref q7, .int 0, .ref q16, .ref q25, .ref q34, .ref q43, .ref q52, .ref q61, .ref q70, .ref q79, .ref q88, .int 0, .int 0, .null, .int 0, .int 0, .int 0, .int 0, .int 0])), (q7, .inl (c7, 64, .inl (fun _ => 0))), (q16, .inl (c7, 200, .inl (fun _ => 0))), (q25, .inl (c7, 200, .inl (fun _ => 0))), (q34, .inl (c7, 200, .inl (fun _ => 0))), (q43, .inl (c7, 200, .inl (fun _ => 0))), (q52, .inl (c7, 200, .inl (fun _ => 0))), (q61, .inl (c7, 200, .inl (fun _ => 0))), (q70, .inl (c7, 1600, .inl (fun _ => 0))), (q79, .inl (c7, 200, .inl (fun _ => 0))), (q88, .inl (c7, 200, .inl (fun _ => 0))), (q95, .inl (c7, 2, .inl (fun _ => 0)))] H := hP
  have hD : va_D A [(h0, .inr (5, [.ref q7, .int 0, .ref q16, .ref q25, .ref q34, .ref q43, .ref q52, .ref q61, .ref q70, .ref q79, .ref q88, .int 0, .int 0, .null, .int 0, .int 0, .int 0, .int 0, .int 0])), (q7, .inl (c7, 64, .inl (fun _ => 0))), (q16, .inl (c7, 200, .inl (fun _ => 0))), (q25, .inl (c7, 200, .inl (fun _ => 0))), (q34, .inl (c7, 200, .inl (fun _ => 0))), (q43, .inl (c7, 200, .inl (fun _ => 0))), (q52, .inl (c7, 200, .inl (fun _ => 0))), (q61, .inl (c7, 200, .inl (fun _ => 0))), (q70, .inl (c7, 1600, .inl (fun _ => 0))), (q79, .inl (c7, 200, .inl (fun _ => 0))), (q88, .inl (c7, 200, .inl (fun _ => 0))), (q95, .inl (c7, 2, .inl (fun _ => 0)))] := hD
  refine va_put (D := D) (ci := 5) (v := .ref q95) (ty := .array .int) (C := R_M) (T := F_M) (N := 19) hx hb hts in_M t_M t_M_ok n_M hown hK hP hD hS 0 rfl rfl 13 (by decide) (hts _ tb_382) (fun _ h9 => h9) rfl (by decide +kernel) rfl rfl (Nat.le_of_ble_eq_true rfl) d_M_init_97 (fun H locs hP hD hS => ?_)
  have hP : va_P D cls_ [(h0, .inr (5, [.ref q7, .int 0, .ref q16, .ref q25, .ref q34, .ref q43, .ref q52, .ref q61, .ref q70, .ref q79, .ref q88, .int 0, .int 0, .ref q95, .int 0, .int 0, .int 0, .int 0, .int 0])), (q7, .inl (c7, 64, .inl (fun _ => 0))), (q16, .inl (c7, 200, .inl (fun _ => 0))), (q25, .inl (c7, 200, .inl (fun _ => 0))), (q34, .inl (c7, 200, .inl (fun _ => 0))), (q43, .inl (c7, 200, .inl (fun _ => 0))), (q52, .inl (c7, 200, .inl (fun _ => 0))), (q61, .inl (c7, 200, .inl (fun _ => 0))), (q70, .inl (c7, 1600, .inl (fun _ => 0))), (q79, .inl (c7, 200, .inl (fun _ => 0))), (q88, .inl (c7, 200, .inl (fun _ => 0))), (q95, .inl (c7, 2, .inl (fun _ => 0)))] H := hP
  have hD : va_D A [(h0, .inr (5, [.ref q7, .int 0, .ref q16, .ref q25, .ref q34, .ref q43, .ref q52, .ref q61, .ref q70, .ref q79, .ref q88, .int 0, .int 0, .ref q95, .int 0, .int 0, .int 0, .int 0, .int 0])), (q7, .inl (c7, 64, .inl (fun _ => 0))), (q16, .inl (c7, 200, .inl (fun _ => 0))), (q25, .inl (c7, 200, .inl (fun _ => 0))), (q34, .inl (c7, 200, .inl (fun _ => 0))), (q43, .inl (c7, 200, .inl (fun _ => 0))), (q52, .inl (c7, 200, .inl (fun _ => 0))), (q61, .inl (c7, 200, .inl (fun _ => 0))), (q70, .inl (c7, 1600, .inl (fun _ => 0))), (q79, .inl (c7, 200, .inl (fun _ => 0))), (q88, .inl (c7, 200, .inl (fun _ => 0))), (q95, .inl (c7, 2, .inl (fun _ => 0)))] := hD
  refine lv_aload_n hx hb d_M_init_100 rfl (lv_at hl 0 rfl) ?_
  refine lv_iconst (v := (-1)) hx hb d_M_init_101 (by decide) ?_
  refine va_put (D := D) (ci := 5) (v := .int (-1)) (ty := .int) (C := R_M) (T := F_M) (N := 19) hx hb hts in_M t_M t_M_ok n_M hown hK hP hD hS 0 rfl rfl 18 (by decide) (hts _ tb_387) (fun _ h9 => h9) rfl (by decide +kernel) rfl rfl (Nat.le_of_ble_eq_true rfl) d_M_init_102 (fun H locs hP hD hS => ?_)
  have hP : va_P D cls_ [(h0, .inr (5, [.ref q7, .int 0, .ref q16, .ref q25, .ref q34, .ref q43, .ref q52, .ref q61, .ref q70, .ref q79, .ref q88, .int 0, .int 0, .ref q95, .int 0, .int 0, .int 0, .int 0, .int (-1)])), (q7, .inl (c7, 64, .inl (fun _ => 0))), (q16, .inl (c7, 200, .inl (fun _ => 0))), (q25, .inl (c7, 200, .inl (fun _ => 0))), (q34, .inl (c7, 200, .inl (fun _ => 0))), (q43, .inl (c7, 200, .inl (fun _ => 0))), (q52, .inl (c7, 200, .inl (fun _ => 0))), (q61, .inl (c7, 200, .inl (fun _ => 0))), (q70, .inl (c7, 1600, .inl (fun _ => 0))), (q79, .inl (c7, 200, .inl (fun _ => 0))), (q88, .inl (c7, 200, .inl (fun _ => 0))), (q95, .inl (c7, 2, .inl (fun _ => 0)))] H := hP
  have hD : va_D A [(h0, .inr (5, [.ref q7, .int 0, .ref q16, .ref q25, .ref q34, .ref q43, .ref q52, .ref q61, .ref q70, .ref q79, .ref q88, .int 0, .int 0, .ref q95, .int 0, .int 0, .int 0, .int 0, .int (-1)])), (q7, .inl (c7, 64, .inl (fun _ => 0))), (q16, .inl (c7, 200, .inl (fun _ => 0))), (q25, .inl (c7, 200, .inl (fun _ => 0))), (q34, .inl (c7, 200, .inl (fun _ => 0))), (q43, .inl (c7, 200, .inl (fun _ => 0))), (q52, .inl (c7, 200, .inl (fun _ => 0))), (q61, .inl (c7, 200, .inl (fun _ => 0))), (q70, .inl (c7, 1600, .inl (fun _ => 0))), (q79, .inl (c7, 200, .inl (fun _ => 0))), (q88, .inl (c7, 200, .inl (fun _ => 0))), (q95, .inl (c7, 2, .inl (fun _ => 0)))] := hD
  refine lv_aload_n hx hb d_M_init_105 rfl (lv_at hl 0 rfl) ?_
  refine va_get (D := D) (ci := 5) (C := R_M) (T := F_M) (N := 19) hx hb hts in_M hown hK hP 0 rfl rfl 13 (by decide) (hts _ tb_382) (fun _ h9 => h9) rfl d_M_init_106 ?_
  refine lv_iconst (v := 0) hx hb d_M_init_109 (by decide) ?_
  refine lv_bipush (v := 50) hx hb d_M_init_110 (by decide) ?_
  refine va_iast hx hb hK hP hD hS 11 0 rfl rfl (vp_in_nI (n := 0) (by decide) (by decide)) d_M_init_112 (fun H locs hP hD hS => ?_)
  have hP : va_P D cls_ [(h0, .inr (5, [.ref q7, .int 0, .ref q16, .ref q25, .ref q34, .ref q43, .ref q52, .ref q61, .ref q70, .ref q79, .ref q88, .int 0, .int 0, .ref q95, .int 0, .int 0, .int 0, .int 0, .int (-1)])), (q7, .inl (c7, 64, .inl (fun _ => 0))), (q16, .inl (c7, 200, .inl (fun _ => 0))), (q25, .inl (c7, 200, .inl (fun _ => 0))), (q34, .inl (c7, 200, .inl (fun _ => 0))), (q43, .inl (c7, 200, .inl (fun _ => 0))), (q52, .inl (c7, 200, .inl (fun _ => 0))), (q61, .inl (c7, 200, .inl (fun _ => 0))), (q70, .inl (c7, 1600, .inl (fun _ => 0))), (q79, .inl (c7, 200, .inl (fun _ => 0))), (q88, .inl (c7, 200, .inl (fun _ => 0))), (q95, .inl (c7, 2, .inl (upd (fun _ => 0) (0 : Int32).toNatClampNeg 50)))] H := hP
  have hD : va_D A [(h0, .inr (5, [.ref q7, .int 0, .ref q16, .ref q25, .ref q34, .ref q43, .ref q52, .ref q61, .ref q70, .ref q79, .ref q88, .int 0, .int 0, .ref q95, .int 0, .int 0, .int 0, .int 0, .int (-1)])), (q7, .inl (c7, 64, .inl (fun _ => 0))), (q16, .inl (c7, 200, .inl (fun _ => 0))), (q25, .inl (c7, 200, .inl (fun _ => 0))), (q34, .inl (c7, 200, .inl (fun _ => 0))), (q43, .inl (c7, 200, .inl (fun _ => 0))), (q52, .inl (c7, 200, .inl (fun _ => 0))), (q61, .inl (c7, 200, .inl (fun _ => 0))), (q70, .inl (c7, 1600, .inl (fun _ => 0))), (q79, .inl (c7, 200, .inl (fun _ => 0))), (q88, .inl (c7, 200, .inl (fun _ => 0))), (q95, .inl (c7, 2, .inl (upd (fun _ => 0) (0 : Int32).toNatClampNeg 50)))] := hD
  refine lv_aload_n hx hb d_M_init_113 rfl (lv_at hl 0 rfl) ?_
  refine va_get (D := D) (ci := 5) (C := R_M) (T := F_M) (N := 19) hx hb hts in_M hown hK hP 0 rfl rfl 13 (by decide) (hts _ tb_382) (fun _ h9 => h9) rfl d_M_init_114 ?_
  refine lv_iconst (v := 1) hx hb d_M_init_117 (by decide) ?_
  refine lv_sipush (v := 500) hx hb d_M_init_118 (by decide) ?_
  refine va_iast hx hb hK hP hD hS 11 0 rfl rfl (vp_in_nI (n := 1) (by decide) (by decide)) d_M_init_121 (fun H locs hP hD hS => ?_)
  have hP : va_P D cls_ [(h0, .inr (5, [.ref q7, .int 0, .ref q16, .ref q25, .ref q34, .ref q43, .ref q52, .ref q61, .ref q70, .ref q79, .ref q88, .int 0, .int 0, .ref q95, .int 0, .int 0, .int 0, .int 0, .int (-1)])), (q7, .inl (c7, 64, .inl (fun _ => 0))), (q16, .inl (c7, 200, .inl (fun _ => 0))), (q25, .inl (c7, 200, .inl (fun _ => 0))), (q34, .inl (c7, 200, .inl (fun _ => 0))), (q43, .inl (c7, 200, .inl (fun _ => 0))), (q52, .inl (c7, 200, .inl (fun _ => 0))), (q61, .inl (c7, 200, .inl (fun _ => 0))), (q70, .inl (c7, 1600, .inl (fun _ => 0))), (q79, .inl (c7, 200, .inl (fun _ => 0))), (q88, .inl (c7, 200, .inl (fun _ => 0))), (q95, .inl (c7, 2, .inl (upd (upd (fun _ => 0) (0 : Int32).toNatClampNeg 50) (1 : Int32).toNatClampNeg 500)))] H := hP
  have hD : va_D A [(h0, .inr (5, [.ref q7, .int 0, .ref q16, .ref q25, .ref q34, .ref q43, .ref q52, .ref q61, .ref q70, .ref q79, .ref q88, .int 0, .int 0, .ref q95, .int 0, .int 0, .int 0, .int 0, .int (-1)])), (q7, .inl (c7, 64, .inl (fun _ => 0))), (q16, .inl (c7, 200, .inl (fun _ => 0))), (q25, .inl (c7, 200, .inl (fun _ => 0))), (q34, .inl (c7, 200, .inl (fun _ => 0))), (q43, .inl (c7, 200, .inl (fun _ => 0))), (q52, .inl (c7, 200, .inl (fun _ => 0))), (q61, .inl (c7, 200, .inl (fun _ => 0))), (q70, .inl (c7, 1600, .inl (fun _ => 0))), (q79, .inl (c7, 200, .inl (fun _ => 0))), (q88, .inl (c7, 200, .inl (fun _ => 0))), (q95, .inl (c7, 2, .inl (upd (upd (fun _ => 0) (0 : Int32).toNatClampNeg 50) (1 : Int32).toNatClampNeg 500)))] := hD
  have hP9 := hP.sub (ws' := [(h0, .inr (5, [.ref q7, .int 0, .ref q16, .ref q25, .ref q34, .ref q43, .ref q52, .ref q61, .ref q70, .ref q79, .ref q88, .int 0, .int 0, .ref q95, .int 0, .int 0, .int 0, .int 0, .int (-1)])), (q7, .inl (c7, 64, .inl (fun _ => 0))), (q16, .inl (c7, 200, .inl (fun _ => 0))), (q25, .inl (c7, 200, .inl (fun _ => 0))), (q34, .inl (c7, 200, .inl (fun _ => 0))), (q43, .inl (c7, 200, .inl (fun _ => 0))), (q52, .inl (c7, 200, .inl (fun _ => 0))), (q61, .inl (c7, 200, .inl (fun _ => 0))), (q70, .inl (c7, 1600, .inl (fun _ => 0))), (q79, .inl (c7, 200, .inl (fun _ => 0))), (q88, .inl (c7, 200, .inl (fun _ => 0))), (q95, .inl (c7, 2, .inl (upd (upd (fun _ => 0) (0 : Int32).toNatClampNeg 50) (1 : Int32).toNatClampNeg 500)))]) [0, 1, 2, 3, 4, 5, 6, 7, 8, 9, 10, 11] rfl
  have hD9 := hD.sub (ws' := [(h0, .inr (5, [.ref q7, .int 0, .ref q16, .ref q25, .ref q34, .ref q43, .ref q52, .ref q61, .ref q70, .ref q79, .ref q88, .int 0, .int 0, .ref q95, .int 0, .int 0, .int 0, .int 0, .int (-1)])), (q7, .inl (c7, 64, .inl (fun _ => 0))), (q16, .inl (c7, 200, .inl (fun _ => 0))), (q25, .inl (c7, 200, .inl (fun _ => 0))), (q34, .inl (c7, 200, .inl (fun _ => 0))), (q43, .inl (c7, 200, .inl (fun _ => 0))), (q52, .inl (c7, 200, .inl (fun _ => 0))), (q61, .inl (c7, 200, .inl (fun _ => 0))), (q70, .inl (c7, 1600, .inl (fun _ => 0))), (q79, .inl (c7, 200, .inl (fun _ => 0))), (q88, .inl (c7, 200, .inl (fun _ => 0))), (q95, .inl (c7, 2, .inl (upd (upd (fun _ => 0) (0 : Int32).toNatClampNeg 50) (1 : Int32).toNatClampNeg 500)))]) [0, 1, 2, 3, 4, 5, 6, 7, 8, 9, 10, 11] (by decide) rfl
  have hK9 : va_K D cls_ [(c7, .int)] s := hK
  exact W.vret hx hb hr (fun t ht hW => ⟨⟨((fun k : Nat => match k with | 0 => h0 | 1 => q7 | 2 => q16 | 3 => q25 | 4 => q34 | 5 => q43 | 6 => q52 | 7 => q61 | 8 => q70 | 9 => q79 | 10 => q88 | _ => q95), c7, c7), rfl, rfl, by rw [ht]; exact hP9, va_K.moved hW.alike hK9, hD9⟩, hS.F ht⟩) hS.2.2 d_M_init_122
end
