abbrev rm_B_mayGoOn : Room := { frames := 0, cells := 0, slots := 0, locals := 0 }
theorem good_B_mayGoOn : GoodIn TB (.code y_B_mayGoOn b_B_mayGoOn 1 (some .boolean) :: TB) := good_of tb_267
theorem hd_B_mayGoOn : y_B_mayGoOn.cls ≠ "java/lang/invoke/MethodHandle" ∧ y_B_mayGoOn.cls ≠ "java/lang/invoke/VarHandle" ∧ (parseMethodDescriptor y_B_mayGoOn.desc).map (fun d => d.parameters.length) = some 0 := by decide +kernel
theorem d_B_mayGoOn_0 : decode b_B_mayGoOn 0 = .ok (.aload_n 0, 1) := by decide +kernel
theorem d_B_mayGoOn_1 : decode b_B_mayGoOn 1 = .ok (.getfield 15, 3) := by decide +kernel
theorem d_B_mayGoOn_4 : decode b_B_mayGoOn 4 = .ok (.ifCond .le 15, 3) := by decide +kernel
theorem d_B_mayGoOn_7 : decode b_B_mayGoOn 7 = .ok (.aload_n 0, 1) := by decide +kernel
theorem d_B_mayGoOn_8 : decode b_B_mayGoOn 8 = .ok (.getfield 15, 3) := by decide +kernel
theorem d_B_mayGoOn_11 : decode b_B_mayGoOn 11 = .ok (.iconst 4, 1) := by decide +kernel
theorem d_B_mayGoOn_12 : decode b_B_mayGoOn 12 = .ok (.if_icmp .ge 7, 3) := by decide +kernel
theorem d_B_mayGoOn_15 : decode b_B_mayGoOn 15 = .ok (.iconst 1, 1) := by decide +kernel
theorem d_B_mayGoOn_16 : decode b_B_mayGoOn 16 = .ok (.goto 4, 3) := by decide +kernel
theorem d_B_mayGoOn_19 : decode b_B_mayGoOn 19 = .ok (.iconst 0, 1) := by decide +kernel
theorem d_B_mayGoOn_20 : decode b_B_mayGoOn 20 = .ok (.ireturn, 1) := by decide +kernel
abbrev rm_B_begin : Room := { frames := 0, cells := 0, slots := 0, locals := 0 }
theorem good_B_begin : GoodIn TB (.code y_B_begin b_B_begin 3 none :: TB) := good_of tb_284
theorem hd_B_begin : y_B_begin.cls ≠ "java/lang/invoke/MethodHandle" ∧ y_B_begin.cls ≠ "java/lang/invoke/VarHandle" ∧ (parseMethodDescriptor y_B_begin.desc).map (fun d => d.parameters.length) = some 2 := by decide +kernel
theorem d_B_begin_0 : decode b_B_begin 0 = .ok (.aload_n 0, 1) := by decide +kernel
theorem d_B_begin_1 : decode b_B_begin 1 = .ok (.iconst 1, 1) := by decide +kernel
theorem d_B_begin_2 : decode b_B_begin 2 = .ok (.putfield 15, 3) := by decide +kernel
theorem d_B_begin_5 : decode b_B_begin 5 = .ok (.iload_n 1, 1) := by decide +kernel
theorem d_B_begin_6 : decode b_B_begin 6 = .ok (.ifCond .eq 37, 3) := by decide +kernel
theorem d_B_begin_9 : decode b_B_begin 9 = .ok (.iload_n 2, 1) := by decide +kernel
theorem d_B_begin_10 : decode b_B_begin 10 = .ok (.ifCond .eq 11, 3) := by decide +kernel
theorem d_B_begin_13 : decode b_B_begin 13 = .ok (.aload_n 0, 1) := by decide +kernel
theorem d_B_begin_14 : decode b_B_begin 14 = .ok (.getfield 18, 3) := by decide +kernel
theorem d_B_begin_17 : decode b_B_begin 17 = .ok (.iconst 2, 1) := by decide +kernel
theorem d_B_begin_18 : decode b_B_begin 18 = .ok (.if_icmp .ge 25, 3) := by decide +kernel
theorem d_B_begin_21 : decode b_B_begin 21 = .ok (.aload_n 0, 1) := by decide +kernel
theorem d_B_begin_22 : decode b_B_begin 22 = .ok (.iconst 0, 1) := by decide +kernel
theorem d_B_begin_23 : decode b_B_begin 23 = .ok (.putfield 9, 3) := by decide +kernel
theorem d_B_begin_26 : decode b_B_begin 26 = .ok (.iload_n 2, 1) := by decide +kernel
theorem d_B_begin_27 : decode b_B_begin 27 = .ok (.ifCond .eq 26, 3) := by decide +kernel
theorem d_B_begin_30 : decode b_B_begin 30 = .ok (.aload_n 0, 1) := by decide +kernel
theorem d_B_begin_31 : decode b_B_begin 31 = .ok (.dup, 1) := by decide +kernel
theorem d_B_begin_32 : decode b_B_begin 32 = .ok (.getfield 18, 3) := by decide +kernel
theorem d_B_begin_35 : decode b_B_begin 35 = .ok (.iconst 1, 1) := by decide +kernel
theorem d_B_begin_36 : decode b_B_begin 36 = .ok (.iadd, 1) := by decide +kernel
theorem d_B_begin_37 : decode b_B_begin 37 = .ok (.putfield 18, 3) := by decide +kernel
theorem d_B_begin_40 : decode b_B_begin 40 = .ok (.goto 13, 3) := by decide +kernel
theorem d_B_begin_43 : decode b_B_begin 43 = .ok (.aload_n 0, 1) := by decide +kernel
theorem d_B_begin_44 : decode b_B_begin 44 = .ok (.iconst 1, 1) := by decide +kernel
theorem d_B_begin_45 : decode b_B_begin 45 = .ok (.putfield 9, 3) := by decide +kernel
theorem d_B_begin_48 : decode b_B_begin 48 = .ok (.aload_n 0, 1) := by decide +kernel
theorem d_B_begin_49 : decode b_B_begin 49 = .ok (.iconst 0, 1) := by decide +kernel
theorem d_B_begin_50 : decode b_B_begin 50 = .ok (.putfield 18, 3) := by decide +kernel
theorem d_B_begin_53 : decode b_B_begin 53 = .ok (.return_, 1) := by decide +kernel
abbrev rm_C_clear : Room := { frames := 0, cells := 0, slots := 0, locals := 0 }
theorem good_C_clear : GoodIn TB (.code y_C_clear b_C_clear 1 none :: TB) := good_of tb_184
theorem hd_C_clear : y_C_clear.cls ≠ "java/lang/invoke/MethodHandle" ∧ y_C_clear.cls ≠ "java/lang/invoke/VarHandle" ∧ (parseMethodDescriptor y_C_clear.desc).map (fun d => d.parameters.length) = some 0 := by decide +kernel
theorem d_C_clear_0 : decode b_C_clear 0 = .ok (.aload_n 0, 1) := by decide +kernel
theorem d_C_clear_1 : decode b_C_clear 1 = .ok (.lconst 0, 1) := by decide +kernel
theorem d_C_clear_2 : decode b_C_clear 2 = .ok (.putfield 9, 3) := by decide +kernel
theorem d_C_clear_5 : decode b_C_clear 5 = .ok (.aload_n 0, 1) := by decide +kernel
theorem d_C_clear_6 : decode b_C_clear 6 = .ok (.lconst 0, 1) := by decide +kernel
theorem d_C_clear_7 : decode b_C_clear 7 = .ok (.putfield 15, 3) := by decide +kernel
theorem d_C_clear_10 : decode b_C_clear 10 = .ok (.return_, 1) := by decide +kernel
abbrev rm_C_add : Room := { frames := 0, cells := 0, slots := 0, locals := 0 }
theorem good_C_add : GoodIn TB (.code y_C_add b_C_add 4 none :: TB) := good_of tb_195
theorem hd_C_add : y_C_add.cls ≠ "java/lang/invoke/MethodHandle" ∧ y_C_add.cls ≠ "java/lang/invoke/VarHandle" ∧ (parseMethodDescriptor y_C_add.desc).map (fun d => d.parameters.length) = some 2 := by decide +kernel
theorem d_C_add_0 : decode b_C_add 0 = .ok (.iload_n 1, 1) := by decide +kernel
theorem d_C_add_1 : decode b_C_add 1 = .ok (.iconst 1, 1) := by decide +kernel
theorem d_C_add_2 : decode b_C_add 2 = .ok (.if_icmp .ne 16, 3) := by decide +kernel
theorem d_C_add_5 : decode b_C_add 5 = .ok (.aload_n 0, 1) := by decide +kernel
theorem d_C_add_6 : decode b_C_add 6 = .ok (.dup, 1) := by decide +kernel
theorem d_C_add_7 : decode b_C_add 7 = .ok (.getfield 15, 3) := by decide +kernel
theorem d_C_add_10 : decode b_C_add 10 = .ok (.lload_n 2, 1) := by decide +kernel
theorem d_C_add_11 : decode b_C_add 11 = .ok (.lor, 1) := by decide +kernel
theorem d_C_add_12 : decode b_C_add 12 = .ok (.putfield 15, 3) := by decide +kernel
theorem d_C_add_15 : decode b_C_add 15 = .ok (.goto 13, 3) := by decide +kernel
theorem d_C_add_18 : decode b_C_add 18 = .ok (.aload_n 0, 1) := by decide +kernel
theorem d_C_add_19 : decode b_C_add 19 = .ok (.dup, 1) := by decide +kernel
theorem d_C_add_20 : decode b_C_add 20 = .ok (.getfield 9, 3) := by decide +kernel
theorem d_C_add_23 : decode b_C_add 23 = .ok (.lload_n 2, 1) := by decide +kernel
theorem d_C_add_24 : decode b_C_add 24 = .ok (.lor, 1) := by decide +kernel
theorem d_C_add_25 : decode b_C_add 25 = .ok (.putfield 9, 3) := by decide +kernel
theorem d_C_add_28 : decode b_C_add 28 = .ok (.return_, 1) := by decide +kernel
abbrev rm_C_conflictWith : Room := { frames := 0, cells := 0, slots := 0, locals := 0 }
theorem good_C_conflictWith : GoodIn TB (.code y_C_conflictWith b_C_conflictWith 6 (some .boolean) :: TB) := good_of tb_200
theorem hd_C_conflictWith : y_C_conflictWith.cls ≠ "java/lang/invoke/MethodHandle" ∧ y_C_conflictWith.cls ≠ "java/lang/invoke/VarHandle" ∧ (parseMethodDescriptor y_C_conflictWith.desc).map (fun d => d.parameters.length) = some 2 := by decide +kernel
theorem d_C_conflictWith_0 : decode b_C_conflictWith 0 = .ok (.iload_n 1, 1) := by decide +kernel
theorem d_C_conflictWith_1 : decode b_C_conflictWith 1 = .ok (.iconst 1, 1) := by decide +kernel
theorem d_C_conflictWith_2 : decode b_C_conflictWith 2 = .ok (.if_icmp .ne 15, 3) := by decide +kernel
theorem d_C_conflictWith_5 : decode b_C_conflictWith 5 = .ok (.aload_n 0, 1) := by decide +kernel
theorem d_C_conflictWith_6 : decode b_C_conflictWith 6 = .ok (.getfield 9, 3) := by decide +kernel
theorem d_C_conflictWith_9 : decode b_C_conflictWith 9 = .ok (.aload_n 0, 1) := by decide +kernel
theorem d_C_conflictWith_10 : decode b_C_conflictWith 10 = .ok (.getfield 15, 3) := by decide +kernel
theorem d_C_conflictWith_13 : decode b_C_conflictWith 13 = .ok (.lor, 1) := by decide +kernel
theorem d_C_conflictWith_14 : decode b_C_conflictWith 14 = .ok (.goto 7, 3) := by decide +kernel
theorem d_C_conflictWith_17 : decode b_C_conflictWith 17 = .ok (.aload_n 0, 1) := by decide +kernel
theorem d_C_conflictWith_18 : decode b_C_conflictWith 18 = .ok (.getfield 15, 3) := by decide +kernel
theorem d_C_conflictWith_21 : decode b_C_conflictWith 21 = .ok (.lstore 4, 2) := by decide +kernel
theorem d_C_conflictWith_23 : decode b_C_conflictWith 23 = .ok (.lload 4, 2) := by decide +kernel
theorem d_C_conflictWith_25 : decode b_C_conflictWith 25 = .ok (.lload_n 2, 1) := by decide +kernel
theorem d_C_conflictWith_26 : decode b_C_conflictWith 26 = .ok (.land, 1) := by decide +kernel
theorem d_C_conflictWith_27 : decode b_C_conflictWith 27 = .ok (.lconst 0, 1) := by decide +kernel
theorem d_C_conflictWith_28 : decode b_C_conflictWith 28 = .ok (.lcmp, 1) := by decide +kernel
theorem d_C_conflictWith_29 : decode b_C_conflictWith 29 = .ok (.ifCond .eq 7, 3) := by decide +kernel
theorem d_C_conflictWith_32 : decode b_C_conflictWith 32 = .ok (.iconst 1, 1) := by decide +kernel
theorem d_C_conflictWith_33 : decode b_C_conflictWith 33 = .ok (.goto 4, 3) := by decide +kernel
theorem d_C_conflictWith_36 : decode b_C_conflictWith 36 = .ok (.iconst 0, 1) := by decide +kernel
theorem d_C_conflictWith_37 : decode b_C_conflictWith 37 = .ok (.ireturn, 1) := by decide +kernel
abbrev rm_P_has : Room := { frames := 0, cells := 0, slots := 0, locals := 0 }
theorem good_P_has : GoodIn TB (.code y_P_has b_P_has 2 (some .boolean) :: TB) := good_of tb_316
theorem hd_P_has : y_P_has.cls ≠ "java/lang/invoke/MethodHandle" ∧ y_P_has.cls ≠ "java/lang/invoke/VarHandle" ∧ (parseMethodDescriptor y_P_has.desc).map (fun d => d.parameters.length) = some 1 := by decide +kernel
theorem d_P_has_0 : decode b_P_has 0 = .ok (.iload_n 1, 1) := by decide +kernel
theorem d_P_has_1 : decode b_P_has 1 = .ok (.ifCond .lt 15, 3) := by decide +kernel
theorem d_P_has_4 : decode b_P_has 4 = .ok (.iload_n 1, 1) := by decide +kernel
theorem d_P_has_5 : decode b_P_has 5 = .ok (.aload_n 0, 1) := by decide +kernel
theorem d_P_has_6 : decode b_P_has 6 = .ok (.getfield 31, 3) := by decide +kernel
theorem d_P_has_9 : decode b_P_has 9 = .ok (.if_icmp .ge 7, 3) := by decide +kernel
theorem d_P_has_12 : decode b_P_has 12 = .ok (.iconst 1, 1) := by decide +kernel
theorem d_P_has_13 : decode b_P_has 13 = .ok (.goto 4, 3) := by decide +kernel
theorem d_P_has_16 : decode b_P_has 16 = .ok (.iconst 0, 1) := by decide +kernel
theorem d_P_has_17 : decode b_P_has 17 = .ok (.ireturn, 1) := by decide +kernel
abbrev rm_P_isWaiting : Room := { frames := 1, cells := 0, slots := 0, locals := 21 }
theorem good_P_isWaiting : GoodIn TB (.code y_P_isWaiting b_P_isWaiting 2 (some .boolean) :: TB) := good_of tb_341
theorem hd_P_isWaiting : y_P_isWaiting.cls ≠ "java/lang/invoke/MethodHandle" ∧ y_P_isWaiting.cls ≠ "java/lang/invoke/VarHandle" ∧ (parseMethodDescriptor y_P_isWaiting.desc).map (fun d => d.parameters.length) = some 1 := by decide +kernel
theorem d_P_isWaiting_0 : decode b_P_isWaiting 0 = .ok (.aload_n 0, 1) := by decide +kernel
theorem d_P_isWaiting_1 : decode b_P_isWaiting 1 = .ok (.iload_n 1, 1) := by decide +kernel
theorem d_P_isWaiting_2 : decode b_P_isWaiting 2 = .ok (.invokevirtual 35, 3) := by decide +kernel
theorem d_P_isWaiting_5 : decode b_P_isWaiting 5 = .ok (.ifCond .eq 16, 3) := by decide +kernel
theorem d_P_isWaiting_8 : decode b_P_isWaiting 8 = .ok (.aload_n 0, 1) := by decide +kernel
theorem d_P_isWaiting_9 : decode b_P_isWaiting 9 = .ok (.getfield 24, 3) := by decide +kernel
theorem d_P_isWaiting_12 : decode b_P_isWaiting 12 = .ok (.iload_n 1, 1) := by decide +kernel
theorem d_P_isWaiting_13 : decode b_P_isWaiting 13 = .ok (.baload, 1) := by decide +kernel
theorem d_P_isWaiting_14 : decode b_P_isWaiting 14 = .ok (.ifCond .ne 7, 3) := by decide +kernel
theorem d_P_isWaiting_17 : decode b_P_isWaiting 17 = .ok (.iconst 1, 1) := by decide +kernel
theorem d_P_isWaiting_18 : decode b_P_isWaiting 18 = .ok (.goto 4, 3) := by decide +kernel
theorem d_P_isWaiting_21 : decode b_P_isWaiting 21 = .ok (.iconst 0, 1) := by decide +kernel
theorem d_P_isWaiting_22 : decode b_P_isWaiting 22 = .ok (.ireturn, 1) := by decide +kernel
abbrev rm_E_sectorsFrom : Room := { frames := 0, cells := 0, slots := 0, locals := 0 }
theorem good_E_sectorsFrom : GoodIn TB (.code y_E_sectorsFrom b_E_sectorsFrom 2 (some .long) :: TB) := good_of tb_191
theorem hd_E_sectorsFrom : y_E_sectorsFrom.cls ≠ "java/lang/invoke/MethodHandle" ∧ y_E_sectorsFrom.cls ≠ "java/lang/invoke/VarHandle" ∧ (parseMethodDescriptor y_E_sectorsFrom.desc).map (fun d => d.parameters.length) = some 2 := by decide +kernel
theorem d_E_sectorsFrom_0 : decode b_E_sectorsFrom 0 = .ok (.lconst 1, 1) := by decide +kernel
theorem d_E_sectorsFrom_1 : decode b_E_sectorsFrom 1 = .ok (.iload_n 1, 1) := by decide +kernel
theorem d_E_sectorsFrom_2 : decode b_E_sectorsFrom 2 = .ok (.lshl, 1) := by decide +kernel
theorem d_E_sectorsFrom_3 : decode b_E_sectorsFrom 3 = .ok (.lconst 1, 1) := by decide +kernel
theorem d_E_sectorsFrom_4 : decode b_E_sectorsFrom 4 = .ok (.lsub, 1) := by decide +kernel
theorem d_E_sectorsFrom_5 : decode b_E_sectorsFrom 5 = .ok (.iload_n 0, 1) := by decide +kernel
theorem d_E_sectorsFrom_6 : decode b_E_sectorsFrom 6 = .ok (.lshl, 1) := by decide +kernel
theorem d_E_sectorsFrom_7 : decode b_E_sectorsFrom 7 = .ok (.lreturn, 1) := by decide +kernel
abbrev rm_P_sectors : Room := { frames := 1, cells := 0, slots := 0, locals := 21 }
theorem good_P_sectors : GoodIn TB (.code y_P_sectors b_P_sectors 2 (some .long) :: TB) := good_of tb_188
theorem hd_P_sectors : y_P_sectors.cls ≠ "java/lang/invoke/MethodHandle" ∧ y_P_sectors.cls ≠ "java/lang/invoke/VarHandle" ∧ (parseMethodDescriptor y_P_sectors.desc).map (fun d => d.parameters.length) = some 1 := by decide +kernel
theorem d_P_sectors_0 : decode b_P_sectors 0 = .ok (.aload_n 0, 1) := by decide +kernel
theorem d_P_sectors_1 : decode b_P_sectors 1 = .ok (.getfield 15, 3) := by decide +kernel
theorem d_P_sectors_4 : decode b_P_sectors 4 = .ok (.iload_n 1, 1) := by decide +kernel
theorem d_P_sectors_5 : decode b_P_sectors 5 = .ok (.iaload, 1) := by decide +kernel
theorem d_P_sectors_6 : decode b_P_sectors 6 = .ok (.aload_n 0, 1) := by decide +kernel
theorem d_P_sectors_7 : decode b_P_sectors 7 = .ok (.getfield 18, 3) := by decide +kernel
theorem d_P_sectors_10 : decode b_P_sectors 10 = .ok (.iload_n 1, 1) := by decide +kernel
theorem d_P_sectors_11 : decode b_P_sectors 11 = .ok (.iaload, 1) := by decide +kernel
theorem d_P_sectors_12 : decode b_P_sectors 12 = .ok (.invokestatic 39, 3) := by decide +kernel
theorem d_P_sectors_15 : decode b_P_sectors 15 = .ok (.lreturn, 1) := by decide +kernel
abbrev rm_P_add : Room := { frames := 0, cells := 0, slots := 0, locals := 0 }
theorem good_P_add : GoodIn TB (.code y_P_add b_P_add 7 (some .int) :: TB) := good_of tb_216
theorem hd_P_add : y_P_add.cls ≠ "java/lang/invoke/MethodHandle" ∧ y_P_add.cls ≠ "java/lang/invoke/VarHandle" ∧ (parseMethodDescriptor y_P_add.desc).map (fun d => d.parameters.length) = some 4 := by decide +kernel
theorem d_P_add_0 : decode b_P_add 0 = .ok (.aload_n 0, 1) := by decide +kernel
theorem d_P_add_1 : decode b_P_add 1 = .ok (.getfield 31, 3) := by decide +kernel
theorem d_P_add_4 : decode b_P_add 4 = .ok (.istore 5, 2) := by decide +kernel
theorem d_P_add_6 : decode b_P_add 6 = .ok (.aload_n 0, 1) := by decide +kernel
theorem d_P_add_7 : decode b_P_add 7 = .ok (.getfield 9, 3) := by decide +kernel
theorem d_P_add_10 : decode b_P_add 10 = .ok (.iload 5, 2) := by decide +kernel
theorem d_P_add_12 : decode b_P_add 12 = .ok (.iload_n 1, 1) := by decide +kernel
theorem d_P_add_13 : decode b_P_add 13 = .ok (.iastore, 1) := by decide +kernel
theorem d_P_add_14 : decode b_P_add 14 = .ok (.aload_n 0, 1) := by decide +kernel
theorem d_P_add_15 : decode b_P_add 15 = .ok (.getfield 15, 3) := by decide +kernel
theorem d_P_add_18 : decode b_P_add 18 = .ok (.iload 5, 2) := by decide +kernel
theorem d_P_add_20 : decode b_P_add 20 = .ok (.iload_n 2, 1) := by decide +kernel
theorem d_P_add_21 : decode b_P_add 21 = .ok (.iastore, 1) := by decide +kernel
theorem d_P_add_22 : decode b_P_add 22 = .ok (.aload_n 0, 1) := by decide +kernel
theorem d_P_add_23 : decode b_P_add 23 = .ok (.getfield 18, 3) := by decide +kernel
theorem d_P_add_26 : decode b_P_add 26 = .ok (.iload 5, 2) := by decide +kernel
theorem d_P_add_28 : decode b_P_add 28 = .ok (.iload_n 3, 1) := by decide +kernel
theorem d_P_add_29 : decode b_P_add 29 = .ok (.iastore, 1) := by decide +kernel
theorem d_P_add_30 : decode b_P_add 30 = .ok (.iconst 0, 1) := by decide +kernel
theorem d_P_add_31 : decode b_P_add 31 = .ok (.istore 6, 2) := by decide +kernel
theorem d_P_add_33 : decode b_P_add 33 = .ok (.iload 6, 2) := by decide +kernel
theorem d_P_add_35 : decode b_P_add 35 = .ok (.iload_n 3, 1) := by decide +kernel
theorem d_P_add_36 : decode b_P_add 36 = .ok (.if_icmp .ge 27, 3) := by decide +kernel
theorem d_P_add_39 : decode b_P_add 39 = .ok (.aload_n 0, 1) := by decide +kernel
theorem d_P_add_40 : decode b_P_add 40 = .ok (.getfield 28, 3) := by decide +kernel
theorem d_P_add_43 : decode b_P_add 43 = .ok (.iload 5, 2) := by decide +kernel
theorem d_P_add_45 : decode b_P_add 45 = .ok (.bipush 8, 2) := by decide +kernel
theorem d_P_add_47 : decode b_P_add 47 = .ok (.imul, 1) := by decide +kernel
theorem d_P_add_48 : decode b_P_add 48 = .ok (.iload 6, 2) := by decide +kernel
theorem d_P_add_50 : decode b_P_add 50 = .ok (.iadd, 1) := by decide +kernel
theorem d_P_add_51 : decode b_P_add 51 = .ok (.iload 4, 2) := by decide +kernel
theorem d_P_add_53 : decode b_P_add 53 = .ok (.iload 6, 2) := by decide +kernel
theorem d_P_add_55 : decode b_P_add 55 = .ok (.iadd, 1) := by decide +kernel
theorem d_P_add_56 : decode b_P_add 56 = .ok (.iastore, 1) := by decide +kernel
theorem d_P_add_57 : decode b_P_add 57 = .ok (.iinc 6 1, 3) := by decide +kernel
theorem d_P_add_60 : decode b_P_add 60 = .ok (.goto (-27), 3) := by decide +kernel
theorem d_P_add_63 : decode b_P_add 63 = .ok (.aload_n 0, 1) := by decide +kernel
theorem d_P_add_64 : decode b_P_add 64 = .ok (.dup, 1) := by decide +kernel
theorem d_P_add_65 : decode b_P_add 65 = .ok (.getfield 31, 3) := by decide +kernel
theorem d_P_add_68 : decode b_P_add 68 = .ok (.iconst 1, 1) := by decide +kernel
theorem d_P_add_69 : decode b_P_add 69 = .ok (.iadd, 1) := by decide +kernel
theorem d_P_add_70 : decode b_P_add 70 = .ok (.putfield 31, 3) := by decide +kernel
theorem d_P_add_73 : decode b_P_add 73 = .ok (.iload 5, 2) := by decide +kernel
theorem d_P_add_75 : decode b_P_add 75 = .ok (.ireturn, 1) := by decide +kernel
abbrev rm_P_carryOut : Room := { frames := 1, cells := 0, slots := 0, locals := 60 }
theorem good_P_carryOut : GoodIn TB (.code y_P_carryOut b_P_carryOut 4 none :: TB) := good_of tb_300
theorem hd_P_carryOut : y_P_carryOut.cls ≠ "java/lang/invoke/MethodHandle" ∧ y_P_carryOut.cls ≠ "java/lang/invoke/VarHandle" ∧ (parseMethodDescriptor y_P_carryOut.desc).map (fun d => d.parameters.length) = some 2 := by decide +kernel
theorem d_P_carryOut_0 : decode b_P_carryOut 0 = .ok (.iload_n 1, 1) := by decide +kernel
theorem d_P_carryOut_1 : decode b_P_carryOut 1 = .ok (.bipush 8, 2) := by decide +kernel
theorem d_P_carryOut_3 : decode b_P_carryOut 3 = .ok (.imul, 1) := by decide +kernel
theorem d_P_carryOut_4 : decode b_P_carryOut 4 = .ok (.istore_n 3, 1) := by decide +kernel
theorem d_P_carryOut_5 : decode b_P_carryOut 5 = .ok (.aload_n 0, 1) := by decide +kernel
theorem d_P_carryOut_6 : decode b_P_carryOut 6 = .ok (.getfield 9, 3) := by decide +kernel
theorem d_P_carryOut_9 : decode b_P_carryOut 9 = .ok (.iload_n 1, 1) := by decide +kernel
theorem d_P_carryOut_10 : decode b_P_carryOut 10 = .ok (.iaload, 1) := by decide +kernel
theorem d_P_carryOut_11 : decode b_P_carryOut 11 = .ok (.iconst 1, 1) := by decide +kernel
theorem d_P_carryOut_12 : decode b_P_carryOut 12 = .ok (.if_icmp .ne 27, 3) := by decide +kernel
theorem d_P_carryOut_15 : decode b_P_carryOut 15 = .ok (.aload_n 0, 1) := by decide +kernel
theorem d_P_carryOut_16 : decode b_P_carryOut 16 = .ok (.getfield 28, 3) := by decide +kernel
theorem d_P_carryOut_19 : decode b_P_carryOut 19 = .ok (.iload_n 3, 1) := by decide +kernel
theorem d_P_carryOut_20 : decode b_P_carryOut 20 = .ok (.aload_n 2, 1) := by decide +kernel
theorem d_P_carryOut_21 : decode b_P_carryOut 21 = .ok (.aload_n 0, 1) := by decide +kernel
theorem d_P_carryOut_22 : decode b_P_carryOut 22 = .ok (.getfield 15, 3) := by decide +kernel
theorem d_P_carryOut_25 : decode b_P_carryOut 25 = .ok (.iload_n 1, 1) := by decide +kernel
theorem d_P_carryOut_26 : decode b_P_carryOut 26 = .ok (.iaload, 1) := by decide +kernel
theorem d_P_carryOut_27 : decode b_P_carryOut 27 = .ok (.aload_n 0, 1) := by decide +kernel
theorem d_P_carryOut_28 : decode b_P_carryOut 28 = .ok (.getfield 18, 3) := by decide +kernel
theorem d_P_carryOut_31 : decode b_P_carryOut 31 = .ok (.iload_n 1, 1) := by decide +kernel
theorem d_P_carryOut_32 : decode b_P_carryOut 32 = .ok (.iaload, 1) := by decide +kernel
theorem d_P_carryOut_33 : decode b_P_carryOut 33 = .ok (.invokestatic 43, 3) := by decide +kernel
theorem d_P_carryOut_36 : decode b_P_carryOut 36 = .ok (.goto 24, 3) := by decide +kernel
theorem d_P_carryOut_39 : decode b_P_carryOut 39 = .ok (.aload_n 2, 1) := by decide +kernel
theorem d_P_carryOut_40 : decode b_P_carryOut 40 = .ok (.aload_n 0, 1) := by decide +kernel
theorem d_P_carryOut_41 : decode b_P_carryOut 41 = .ok (.getfield 15, 3) := by decide +kernel
theorem d_P_carryOut_44 : decode b_P_carryOut 44 = .ok (.iload_n 1, 1) := by decide +kernel
theorem d_P_carryOut_45 : decode b_P_carryOut 45 = .ok (.iaload, 1) := by decide +kernel
theorem d_P_carryOut_46 : decode b_P_carryOut 46 = .ok (.aload_n 0, 1) := by decide +kernel
theorem d_P_carryOut_47 : decode b_P_carryOut 47 = .ok (.getfield 28, 3) := by decide +kernel
theorem d_P_carryOut_50 : decode b_P_carryOut 50 = .ok (.iload_n 3, 1) := by decide +kernel
theorem d_P_carryOut_51 : decode b_P_carryOut 51 = .ok (.aload_n 0, 1) := by decide +kernel
theorem d_P_carryOut_52 : decode b_P_carryOut 52 = .ok (.getfield 18, 3) := by decide +kernel
theorem d_P_carryOut_55 : decode b_P_carryOut 55 = .ok (.iload_n 1, 1) := by decide +kernel
theorem d_P_carryOut_56 : decode b_P_carryOut 56 = .ok (.iaload, 1) := by decide +kernel
theorem d_P_carryOut_57 : decode b_P_carryOut 57 = .ok (.invokestatic 43, 3) := by decide +kernel
theorem d_P_carryOut_60 : decode b_P_carryOut 60 = .ok (.aload_n 0, 1) := by decide +kernel
theorem d_P_carryOut_61 : decode b_P_carryOut 61 = .ok (.getfield 24, 3) := by decide +kernel
theorem d_P_carryOut_64 : decode b_P_carryOut 64 = .ok (.iload_n 1, 1) := by decide +kernel
theorem d_P_carryOut_65 : decode b_P_carryOut 65 = .ok (.iconst 1, 1) := by decide +kernel
theorem d_P_carryOut_66 : decode b_P_carryOut 66 = .ok (.bastore, 1) := by decide +kernel
theorem d_P_carryOut_67 : decode b_P_carryOut 67 = .ok (.return_, 1) := by decide +kernel
abbrev rm_R_end : Room := { frames := 0, cells := 0, slots := 0, locals := 0 }
theorem good_R_end : GoodIn TB (.code y_R_end b_R_end 2 (some .int) :: TB) := good_of tb_212
theorem hd_R_end : y_R_end.cls ≠ "java/lang/invoke/MethodHandle" ∧ y_R_end.cls ≠ "java/lang/invoke/VarHandle" ∧ (parseMethodDescriptor y_R_end.desc).map (fun d => d.parameters.length) = some 1 := by decide +kernel
theorem d_R_end_0 : decode b_R_end 0 = .ok (.aload_n 0, 1) := by decide +kernel
theorem d_R_end_1 : decode b_R_end 1 = .ok (.getfield 15, 3) := by decide +kernel
theorem d_R_end_4 : decode b_R_end 4 = .ok (.iload_n 1, 1) := by decide +kernel
theorem d_R_end_5 : decode b_R_end 5 = .ok (.iaload, 1) := by decide +kernel
theorem d_R_end_6 : decode b_R_end 6 = .ok (.aload_n 0, 1) := by decide +kernel
theorem d_R_end_7 : decode b_R_end 7 = .ok (.getfield 18, 3) := by decide +kernel
theorem d_R_end_10 : decode b_R_end 10 = .ok (.iload_n 1, 1) := by decide +kernel
theorem d_R_end_11 : decode b_R_end 11 = .ok (.iaload, 1) := by decide +kernel
theorem d_R_end_12 : decode b_R_end 12 = .ok (.iadd, 1) := by decide +kernel
theorem d_R_end_13 : decode b_R_end 13 = .ok (.ireturn, 1) := by decide +kernel
abbrev rm_R_isReady : Room := { frames := 0, cells := 0, slots := 0, locals := 0 }
theorem good_R_isReady : GoodIn TB (.code y_R_isReady b_R_isReady 3 (some .boolean) :: TB) := good_of tb_275
theorem hd_R_isReady : y_R_isReady.cls ≠ "java/lang/invoke/MethodHandle" ∧ y_R_isReady.cls ≠ "java/lang/invoke/VarHandle" ∧ (parseMethodDescriptor y_R_isReady.desc).map (fun d => d.parameters.length) = some 2 := by decide +kernel
theorem d_R_isReady_0 : decode b_R_isReady 0 = .ok (.aload_n 0, 1) := by decide +kernel
theorem d_R_isReady_1 : decode b_R_isReady 1 = .ok (.getfield 30, 3) := by decide +kernel
theorem d_R_isReady_4 : decode b_R_isReady 4 = .ok (.iload_n 1, 1) := by decide +kernel
theorem d_R_isReady_5 : decode b_R_isReady 5 = .ok (.baload, 1) := by decide +kernel
theorem d_R_isReady_6 : decode b_R_isReady 6 = .ok (.ifCond .eq 17, 3) := by decide +kernel
theorem d_R_isReady_9 : decode b_R_isReady 9 = .ok (.aload_n 0, 1) := by decide +kernel
theorem d_R_isReady_10 : decode b_R_isReady 10 = .ok (.getfield 9, 3) := by decide +kernel
theorem d_R_isReady_13 : decode b_R_isReady 13 = .ok (.iload_n 1, 1) := by decide +kernel
theorem d_R_isReady_14 : decode b_R_isReady 14 = .ok (.iaload, 1) := by decide +kernel
theorem d_R_isReady_15 : decode b_R_isReady 15 = .ok (.iload_n 2, 1) := by decide +kernel
theorem d_R_isReady_16 : decode b_R_isReady 16 = .ok (.if_icmp .ne 7, 3) := by decide +kernel
theorem d_R_isReady_19 : decode b_R_isReady 19 = .ok (.iconst 1, 1) := by decide +kernel
theorem d_R_isReady_20 : decode b_R_isReady 20 = .ok (.goto 4, 3) := by decide +kernel
theorem d_R_isReady_23 : decode b_R_isReady 23 = .ok (.iconst 0, 1) := by decide +kernel
theorem d_R_isReady_24 : decode b_R_isReady 24 = .ok (.ireturn, 1) := by decide +kernel
abbrev rm_R_open : Room := { frames := 0, cells := 0, slots := 0, locals := 0 }
theorem good_R_open : GoodIn TB (.code y_R_open b_R_open 7 none :: TB) := good_of tb_220
theorem hd_R_open : y_R_open.cls ≠ "java/lang/invoke/MethodHandle" ∧ y_R_open.cls ≠ "java/lang/invoke/VarHandle" ∧ (parseMethodDescriptor y_R_open.desc).map (fun d => d.parameters.length) = some 6 := by decide +kernel
theorem d_R_open_0 : decode b_R_open 0 = .ok (.aload_n 0, 1) := by decide +kernel
theorem d_R_open_1 : decode b_R_open 1 = .ok (.getfield 9, 3) := by decide +kernel
theorem d_R_open_4 : decode b_R_open 4 = .ok (.iload_n 1, 1) := by decide +kernel
theorem d_R_open_5 : decode b_R_open 5 = .ok (.iload_n 2, 1) := by decide +kernel
theorem d_R_open_6 : decode b_R_open 6 = .ok (.iastore, 1) := by decide +kernel
theorem d_R_open_7 : decode b_R_open 7 = .ok (.aload_n 0, 1) := by decide +kernel
theorem d_R_open_8 : decode b_R_open 8 = .ok (.getfield 15, 3) := by decide +kernel
theorem d_R_open_11 : decode b_R_open 11 = .ok (.iload_n 1, 1) := by decide +kernel
theorem d_R_open_12 : decode b_R_open 12 = .ok (.iload_n 3, 1) := by decide +kernel
theorem d_R_open_13 : decode b_R_open 13 = .ok (.iastore, 1) := by decide +kernel
theorem d_R_open_14 : decode b_R_open 14 = .ok (.aload_n 0, 1) := by decide +kernel
theorem d_R_open_15 : decode b_R_open 15 = .ok (.getfield 18, 3) := by decide +kernel
theorem d_R_open_18 : decode b_R_open 18 = .ok (.iload_n 1, 1) := by decide +kernel
theorem d_R_open_19 : decode b_R_open 19 = .ok (.iload 4, 2) := by decide +kernel
theorem d_R_open_21 : decode b_R_open 21 = .ok (.iastore, 1) := by decide +kernel
theorem d_R_open_22 : decode b_R_open 22 = .ok (.aload_n 0, 1) := by decide +kernel
theorem d_R_open_23 : decode b_R_open 23 = .ok (.getfield 21, 3) := by decide +kernel
theorem d_R_open_26 : decode b_R_open 26 = .ok (.iload_n 1, 1) := by decide +kernel
theorem d_R_open_27 : decode b_R_open 27 = .ok (.iconst 1, 1) := by decide +kernel
theorem d_R_open_28 : decode b_R_open 28 = .ok (.iastore, 1) := by decide +kernel
theorem d_R_open_29 : decode b_R_open 29 = .ok (.aload_n 0, 1) := by decide +kernel
theorem d_R_open_30 : decode b_R_open 30 = .ok (.getfield 24, 3) := by decide +kernel
theorem d_R_open_33 : decode b_R_open 33 = .ok (.iload_n 1, 1) := by decide +kernel
theorem d_R_open_34 : decode b_R_open 34 = .ok (.iload 5, 2) := by decide +kernel
theorem d_R_open_36 : decode b_R_open 36 = .ok (.iastore, 1) := by decide +kernel
theorem d_R_open_37 : decode b_R_open 37 = .ok (.aload_n 0, 1) := by decide +kernel
theorem d_R_open_38 : decode b_R_open 38 = .ok (.getfield 27, 3) := by decide +kernel
theorem d_R_open_41 : decode b_R_open 41 = .ok (.iload_n 1, 1) := by decide +kernel
theorem d_R_open_42 : decode b_R_open 42 = .ok (.iload 6, 2) := by decide +kernel
theorem d_R_open_44 : decode b_R_open 44 = .ok (.iastore, 1) := by decide +kernel
theorem d_R_open_45 : decode b_R_open 45 = .ok (.aload_n 0, 1) := by decide +kernel
theorem d_R_open_46 : decode b_R_open 46 = .ok (.getfield 34, 3) := by decide +kernel
theorem d_R_open_49 : decode b_R_open 49 = .ok (.aload_n 0, 1) := by decide +kernel
theorem d_R_open_50 : decode b_R_open 50 = .ok (.getfield 37, 3) := by decide +kernel
theorem d_R_open_53 : decode b_R_open 53 = .ok (.iload_n 1, 1) := by decide +kernel
theorem d_R_open_54 : decode b_R_open 54 = .ok (.iastore, 1) := by decide +kernel
theorem d_R_open_55 : decode b_R_open 55 = .ok (.aload_n 0, 1) := by decide +kernel
theorem d_R_open_56 : decode b_R_open 56 = .ok (.dup, 1) := by decide +kernel
theorem d_R_open_57 : decode b_R_open 57 = .ok (.getfield 37, 3) := by decide +kernel
theorem d_R_open_60 : decode b_R_open 60 = .ok (.iconst 1, 1) := by decide +kernel
theorem d_R_open_61 : decode b_R_open 61 = .ok (.iadd, 1) := by decide +kernel
theorem d_R_open_62 : decode b_R_open 62 = .ok (.putfield 37, 3) := by decide +kernel
theorem d_R_open_65 : decode b_R_open 65 = .ok (.return_, 1) := by decide +kernel
abbrev rm_R_extend : Room := { frames := 1, cells := 0, slots := 0, locals := 30 }
theorem good_R_extend : GoodIn TB (.code y_R_extend b_R_extend 4 none :: TB) := good_of tb_224
theorem hd_R_extend : y_R_extend.cls ≠ "java/lang/invoke/MethodHandle" ∧ y_R_extend.cls ≠ "java/lang/invoke/VarHandle" ∧ (parseMethodDescriptor y_R_extend.desc).map (fun d => d.parameters.length) = some 3 := by decide +kernel
theorem d_R_extend_0 : decode b_R_extend 0 = .ok (.aload_n 0, 1) := by decide +kernel
theorem d_R_extend_1 : decode b_R_extend 1 = .ok (.getfield 15, 3) := by decide +kernel
theorem d_R_extend_4 : decode b_R_extend 4 = .ok (.iload_n 1, 1) := by decide +kernel
theorem d_R_extend_5 : decode b_R_extend 5 = .ok (.aload_n 0, 1) := by decide +kernel
theorem d_R_extend_6 : decode b_R_extend 6 = .ok (.getfield 15, 3) := by decide +kernel
theorem d_R_extend_9 : decode b_R_extend 9 = .ok (.iload_n 1, 1) := by decide +kernel
theorem d_R_extend_10 : decode b_R_extend 10 = .ok (.iaload, 1) := by decide +kernel
theorem d_R_extend_11 : decode b_R_extend 11 = .ok (.iload_n 2, 1) := by decide +kernel
theorem d_R_extend_12 : decode b_R_extend 12 = .ok (.invokestatic 41, 3) := by decide +kernel
theorem d_R_extend_15 : decode b_R_extend 15 = .ok (.iastore, 1) := by decide +kernel
theorem d_R_extend_16 : decode b_R_extend 16 = .ok (.aload_n 0, 1) := by decide +kernel
theorem d_R_extend_17 : decode b_R_extend 17 = .ok (.getfield 18, 3) := by decide +kernel
theorem d_R_extend_20 : decode b_R_extend 20 = .ok (.iload_n 1, 1) := by decide +kernel
theorem d_R_extend_21 : decode b_R_extend 21 = .ok (.dup2, 1) := by decide +kernel
theorem d_R_extend_22 : decode b_R_extend 22 = .ok (.iaload, 1) := by decide +kernel
theorem d_R_extend_23 : decode b_R_extend 23 = .ok (.iload_n 3, 1) := by decide +kernel
theorem d_R_extend_24 : decode b_R_extend 24 = .ok (.iadd, 1) := by decide +kernel
theorem d_R_extend_25 : decode b_R_extend 25 = .ok (.iastore, 1) := by decide +kernel
theorem d_R_extend_26 : decode b_R_extend 26 = .ok (.aload_n 0, 1) := by decide +kernel
theorem d_R_extend_27 : decode b_R_extend 27 = .ok (.getfield 21, 3) := by decide +kernel
theorem d_R_extend_30 : decode b_R_extend 30 = .ok (.iload_n 1, 1) := by decide +kernel
theorem d_R_extend_31 : decode b_R_extend 31 = .ok (.dup2, 1) := by decide +kernel
theorem d_R_extend_32 : decode b_R_extend 32 = .ok (.iaload, 1) := by decide +kernel
theorem d_R_extend_33 : decode b_R_extend 33 = .ok (.iconst 1, 1) := by decide +kernel
theorem d_R_extend_34 : decode b_R_extend 34 = .ok (.iadd, 1) := by decide +kernel
theorem d_R_extend_35 : decode b_R_extend 35 = .ok (.iastore, 1) := by decide +kernel
theorem d_R_extend_36 : decode b_R_extend 36 = .ok (.return_, 1) := by decide +kernel
abbrev rm_R_remove : Room := { frames := 0, cells := 0, slots := 0, locals := 0 }
theorem good_R_remove : GoodIn TB (.code y_R_remove b_R_remove 4 none :: TB) := good_of tb_307
theorem hd_R_remove : y_R_remove.cls ≠ "java/lang/invoke/MethodHandle" ∧ y_R_remove.cls ≠ "java/lang/invoke/VarHandle" ∧ (parseMethodDescriptor y_R_remove.desc).map (fun d => d.parameters.length) = some 1 := by decide +kernel
theorem d_R_remove_0 : decode b_R_remove 0 = .ok (.iconst 0, 1) := by decide +kernel
theorem d_R_remove_1 : decode b_R_remove 1 = .ok (.istore_n 2, 1) := by decide +kernel
theorem d_R_remove_2 : decode b_R_remove 2 = .ok (.iconst 0, 1) := by decide +kernel
theorem d_R_remove_3 : decode b_R_remove 3 = .ok (.istore_n 3, 1) := by decide +kernel
theorem d_R_remove_4 : decode b_R_remove 4 = .ok (.iload_n 3, 1) := by decide +kernel
theorem d_R_remove_5 : decode b_R_remove 5 = .ok (.aload_n 0, 1) := by decide +kernel
theorem d_R_remove_6 : decode b_R_remove 6 = .ok (.getfield 37, 3) := by decide +kernel
theorem d_R_remove_9 : decode b_R_remove 9 = .ok (.if_icmp .ge 34, 3) := by decide +kernel
theorem d_R_remove_12 : decode b_R_remove 12 = .ok (.aload_n 0, 1) := by decide +kernel
theorem d_R_remove_13 : decode b_R_remove 13 = .ok (.getfield 34, 3) := by decide +kernel
theorem d_R_remove_16 : decode b_R_remove 16 = .ok (.iload_n 3, 1) := by decide +kernel
theorem d_R_remove_17 : decode b_R_remove 17 = .ok (.iaload, 1) := by decide +kernel
theorem d_R_remove_18 : decode b_R_remove 18 = .ok (.iload_n 1, 1) := by decide +kernel
theorem d_R_remove_19 : decode b_R_remove 19 = .ok (.if_icmp .eq 18, 3) := by decide +kernel
theorem d_R_remove_22 : decode b_R_remove 22 = .ok (.aload_n 0, 1) := by decide +kernel
theorem d_R_remove_23 : decode b_R_remove 23 = .ok (.getfield 34, 3) := by decide +kernel
theorem d_R_remove_26 : decode b_R_remove 26 = .ok (.iload_n 2, 1) := by decide +kernel
theorem d_R_remove_27 : decode b_R_remove 27 = .ok (.aload_n 0, 1) := by decide +kernel
theorem d_R_remove_28 : decode b_R_remove 28 = .ok (.getfield 34, 3) := by decide +kernel
theorem d_R_remove_31 : decode b_R_remove 31 = .ok (.iload_n 3, 1) := by decide +kernel
theorem d_R_remove_32 : decode b_R_remove 32 = .ok (.iaload, 1) := by decide +kernel
theorem d_R_remove_33 : decode b_R_remove 33 = .ok (.iastore, 1) := by decide +kernel
theorem d_R_remove_34 : decode b_R_remove 34 = .ok (.iinc 2 1, 3) := by decide +kernel
theorem d_R_remove_37 : decode b_R_remove 37 = .ok (.iinc 3 1, 3) := by decide +kernel
theorem d_R_remove_40 : decode b_R_remove 40 = .ok (.goto (-36), 3) := by decide +kernel
theorem d_R_remove_43 : decode b_R_remove 43 = .ok (.aload_n 0, 1) := by decide +kernel
theorem d_R_remove_44 : decode b_R_remove 44 = .ok (.iload_n 2, 1) := by decide +kernel
theorem d_R_remove_45 : decode b_R_remove 45 = .ok (.putfield 37, 3) := by decide +kernel
theorem d_R_remove_48 : decode b_R_remove 48 = .ok (.return_, 1) := by decide +kernel
abbrev rm_R_hasRoom : Room := { frames := 0, cells := 0, slots := 0, locals := 0 }
theorem good_R_hasRoom : GoodIn TB (.code y_R_hasRoom b_R_hasRoom 3 (some .boolean) :: TB) := good_of tb_208
theorem hd_R_hasRoom : y_R_hasRoom.cls ≠ "java/lang/invoke/MethodHandle" ∧ y_R_hasRoom.cls ≠ "java/lang/invoke/VarHandle" ∧ (parseMethodDescriptor y_R_hasRoom.desc).map (fun d => d.parameters.length) = some 2 := by decide +kernel
theorem d_R_hasRoom_0 : decode b_R_hasRoom 0 = .ok (.aload_n 0, 1) := by decide +kernel
theorem d_R_hasRoom_1 : decode b_R_hasRoom 1 = .ok (.getfield 21, 3) := by decide +kernel
theorem d_R_hasRoom_4 : decode b_R_hasRoom 4 = .ok (.iload_n 1, 1) := by decide +kernel
theorem d_R_hasRoom_5 : decode b_R_hasRoom 5 = .ok (.iaload, 1) := by decide +kernel
theorem d_R_hasRoom_6 : decode b_R_hasRoom 6 = .ok (.iconst 4, 1) := by decide +kernel
theorem d_R_hasRoom_7 : decode b_R_hasRoom 7 = .ok (.if_icmp .ge 20, 3) := by decide +kernel
theorem d_R_hasRoom_10 : decode b_R_hasRoom 10 = .ok (.aload_n 0, 1) := by decide +kernel
theorem d_R_hasRoom_11 : decode b_R_hasRoom 11 = .ok (.getfield 18, 3) := by decide +kernel
theorem d_R_hasRoom_14 : decode b_R_hasRoom 14 = .ok (.iload_n 1, 1) := by decide +kernel
theorem d_R_hasRoom_15 : decode b_R_hasRoom 15 = .ok (.iaload, 1) := by decide +kernel
theorem d_R_hasRoom_16 : decode b_R_hasRoom 16 = .ok (.iload_n 2, 1) := by decide +kernel
theorem d_R_hasRoom_17 : decode b_R_hasRoom 17 = .ok (.iadd, 1) := by decide +kernel
theorem d_R_hasRoom_18 : decode b_R_hasRoom 18 = .ok (.bipush 16, 2) := by decide +kernel
theorem d_R_hasRoom_20 : decode b_R_hasRoom 20 = .ok (.if_icmp .gt 7, 3) := by decide +kernel
theorem d_R_hasRoom_23 : decode b_R_hasRoom 23 = .ok (.iconst 1, 1) := by decide +kernel
theorem d_R_hasRoom_24 : decode b_R_hasRoom 24 = .ok (.goto 4, 3) := by decide +kernel
theorem d_R_hasRoom_27 : decode b_R_hasRoom 27 = .ok (.iconst 0, 1) := by decide +kernel
theorem d_R_hasRoom_28 : decode b_R_hasRoom 28 = .ok (.ireturn, 1) := by decide +kernel
abbrev rm_R_neighbourOf : Room := { frames := 1, cells := 0, slots := 0, locals := 22 }
theorem good_R_neighbourOf : GoodIn TB (.code y_R_neighbourOf b_R_neighbourOf 8 (some .int) :: TB) := good_of tb_204
theorem hd_R_neighbourOf : y_R_neighbourOf.cls ≠ "java/lang/invoke/MethodHandle" ∧ y_R_neighbourOf.cls ≠ "java/lang/invoke/VarHandle" ∧ (parseMethodDescriptor y_R_neighbourOf.desc).map (fun d => d.parameters.length) = some 4 := by decide +kernel
theorem d_R_neighbourOf_0 : decode b_R_neighbourOf 0 = .ok (.iconst (-1), 1) := by decide +kernel
theorem d_R_neighbourOf_1 : decode b_R_neighbourOf 1 = .ok (.istore 5, 2) := by decide +kernel
theorem d_R_neighbourOf_3 : decode b_R_neighbourOf 3 = .ok (.iconst 0, 1) := by decide +kernel
theorem d_R_neighbourOf_4 : decode b_R_neighbourOf 4 = .ok (.istore 6, 2) := by decide +kernel
theorem d_R_neighbourOf_6 : decode b_R_neighbourOf 6 = .ok (.iload 6, 2) := by decide +kernel
theorem d_R_neighbourOf_8 : decode b_R_neighbourOf 8 = .ok (.aload_n 0, 1) := by decide +kernel
theorem d_R_neighbourOf_9 : decode b_R_neighbourOf 9 = .ok (.getfield 37, 3) := by decide +kernel
theorem d_R_neighbourOf_12 : decode b_R_neighbourOf 12 = .ok (.if_icmp .ge 87, 3) := by decide +kernel
theorem d_R_neighbourOf_15 : decode b_R_neighbourOf 15 = .ok (.aload_n 0, 1) := by decide +kernel
theorem d_R_neighbourOf_16 : decode b_R_neighbourOf 16 = .ok (.getfield 34, 3) := by decide +kernel
theorem d_R_neighbourOf_19 : decode b_R_neighbourOf 19 = .ok (.iload 6, 2) := by decide +kernel
theorem d_R_neighbourOf_21 : decode b_R_neighbourOf 21 = .ok (.iaload, 1) := by decide +kernel
theorem d_R_neighbourOf_22 : decode b_R_neighbourOf 22 = .ok (.istore 7, 2) := by decide +kernel
theorem d_R_neighbourOf_24 : decode b_R_neighbourOf 24 = .ok (.aload_n 0, 1) := by decide +kernel
theorem d_R_neighbourOf_25 : decode b_R_neighbourOf 25 = .ok (.getfield 9, 3) := by decide +kernel
theorem d_R_neighbourOf_28 : decode b_R_neighbourOf 28 = .ok (.iload 7, 2) := by decide +kernel
theorem d_R_neighbourOf_30 : decode b_R_neighbourOf 30 = .ok (.iaload, 1) := by decide +kernel
theorem d_R_neighbourOf_31 : decode b_R_neighbourOf 31 = .ok (.iload_n 1, 1) := by decide +kernel
theorem d_R_neighbourOf_32 : decode b_R_neighbourOf 32 = .ok (.if_icmp .ne 61, 3) := by decide +kernel
theorem d_R_neighbourOf_35 : decode b_R_neighbourOf 35 = .ok (.aload_n 0, 1) := by decide +kernel
theorem d_R_neighbourOf_36 : decode b_R_neighbourOf 36 = .ok (.getfield 27, 3) := by decide +kernel
theorem d_R_neighbourOf_39 : decode b_R_neighbourOf 39 = .ok (.iload 7, 2) := by decide +kernel
theorem d_R_neighbourOf_41 : decode b_R_neighbourOf 41 = .ok (.iaload, 1) := by decide +kernel
theorem d_R_neighbourOf_42 : decode b_R_neighbourOf 42 = .ok (.iload 4, 2) := by decide +kernel
theorem d_R_neighbourOf_44 : decode b_R_neighbourOf 44 = .ok (.if_icmp .ne 49, 3) := by decide +kernel
theorem d_R_neighbourOf_47 : decode b_R_neighbourOf 47 = .ok (.aload_n 0, 1) := by decide +kernel
theorem d_R_neighbourOf_48 : decode b_R_neighbourOf 48 = .ok (.iload 7, 2) := by decide +kernel
theorem d_R_neighbourOf_50 : decode b_R_neighbourOf 50 = .ok (.iload_n 3, 1) := by decide +kernel
theorem d_R_neighbourOf_51 : decode b_R_neighbourOf 51 = .ok (.invokevirtual 47, 3) := by decide +kernel
theorem d_R_neighbourOf_54 : decode b_R_neighbourOf 54 = .ok (.ifCond .eq 39, 3) := by decide +kernel
theorem d_R_neighbourOf_57 : decode b_R_neighbourOf 57 = .ok (.aload_n 0, 1) := by decide +kernel
theorem d_R_neighbourOf_58 : decode b_R_neighbourOf 58 = .ok (.iload 7, 2) := by decide +kernel
theorem d_R_neighbourOf_60 : decode b_R_neighbourOf 60 = .ok (.invokevirtual 51, 3) := by decide +kernel
theorem d_R_neighbourOf_63 : decode b_R_neighbourOf 63 = .ok (.iload_n 2, 1) := by decide +kernel
theorem d_R_neighbourOf_64 : decode b_R_neighbourOf 64 = .ok (.if_icmp .ne 6, 3) := by decide +kernel
theorem d_R_neighbourOf_67 : decode b_R_neighbourOf 67 = .ok (.iload 7, 2) := by decide +kernel
theorem d_R_neighbourOf_69 : decode b_R_neighbourOf 69 = .ok (.ireturn, 1) := by decide +kernel
theorem d_R_neighbourOf_70 : decode b_R_neighbourOf 70 = .ok (.iload 5, 2) := by decide +kernel
theorem d_R_neighbourOf_72 : decode b_R_neighbourOf 72 = .ok (.iconst (-1), 1) := by decide +kernel
theorem d_R_neighbourOf_73 : decode b_R_neighbourOf 73 = .ok (.if_icmp .ne 20, 3) := by decide +kernel
theorem d_R_neighbourOf_76 : decode b_R_neighbourOf 76 = .ok (.aload_n 0, 1) := by decide +kernel
theorem d_R_neighbourOf_77 : decode b_R_neighbourOf 77 = .ok (.getfield 15, 3) := by decide +kernel
theorem d_R_neighbourOf_80 : decode b_R_neighbourOf 80 = .ok (.iload 7, 2) := by decide +kernel
theorem d_R_neighbourOf_82 : decode b_R_neighbourOf 82 = .ok (.iaload, 1) := by decide +kernel
theorem d_R_neighbourOf_83 : decode b_R_neighbourOf 83 = .ok (.iload_n 2, 1) := by decide +kernel
theorem d_R_neighbourOf_84 : decode b_R_neighbourOf 84 = .ok (.iload_n 3, 1) := by decide +kernel
theorem d_R_neighbourOf_85 : decode b_R_neighbourOf 85 = .ok (.iadd, 1) := by decide +kernel
theorem d_R_neighbourOf_86 : decode b_R_neighbourOf 86 = .ok (.if_icmp .ne 7, 3) := by decide +kernel
theorem d_R_neighbourOf_89 : decode b_R_neighbourOf 89 = .ok (.iload 7, 2) := by decide +kernel
theorem d_R_neighbourOf_91 : decode b_R_neighbourOf 91 = .ok (.istore 5, 2) := by decide +kernel
theorem d_R_neighbourOf_93 : decode b_R_neighbourOf 93 = .ok (.iinc 6 1, 3) := by decide +kernel
theorem d_R_neighbourOf_96 : decode b_R_neighbourOf 96 = .ok (.goto (-90), 3) := by decide +kernel
theorem d_R_neighbourOf_99 : decode b_R_neighbourOf 99 = .ok (.iload 5, 2) := by decide +kernel
theorem d_R_neighbourOf_101 : decode b_R_neighbourOf 101 = .ok (.ireturn, 1) := by decide +kernel
abbrev rm_R_markLeastGroup : Room := { frames := 0, cells := 0, slots := 0, locals := 0 }
theorem good_R_markLeastGroup : GoodIn TB (.code y_R_markLeastGroup b_R_markLeastGroup 2 none :: TB) := good_of tb_259
theorem hd_R_markLeastGroup : y_R_markLeastGroup.cls ≠ "java/lang/invoke/MethodHandle" ∧ y_R_markLeastGroup.cls ≠ "java/lang/invoke/VarHandle" ∧ (parseMethodDescriptor y_R_markLeastGroup.desc).map (fun d => d.parameters.length) = some 0 := by decide +kernel
theorem d_R_markLeastGroup_0 : decode b_R_markLeastGroup 0 = .ok (.iconst 0, 1) := by decide +kernel
theorem d_R_markLeastGroup_1 : decode b_R_markLeastGroup 1 = .ok (.istore_n 1, 1) := by decide +kernel
theorem d_R_markLeastGroup_2 : decode b_R_markLeastGroup 2 = .ok (.iload_n 1, 1) := by decide +kernel
theorem d_R_markLeastGroup_3 : decode b_R_markLeastGroup 3 = .ok (.aload_n 0, 1) := by decide +kernel
theorem d_R_markLeastGroup_4 : decode b_R_markLeastGroup 4 = .ok (.getfield 37, 3) := by decide +kernel
theorem d_R_markLeastGroup_7 : decode b_R_markLeastGroup 7 = .ok (.if_icmp .ge 50, 3) := by decide +kernel
theorem d_R_markLeastGroup_10 : decode b_R_markLeastGroup 10 = .ok (.aload_n 0, 1) := by decide +kernel
theorem d_R_markLeastGroup_11 : decode b_R_markLeastGroup 11 = .ok (.getfield 30, 3) := by decide +kernel
theorem d_R_markLeastGroup_14 : decode b_R_markLeastGroup 14 = .ok (.aload_n 0, 1) := by decide +kernel
theorem d_R_markLeastGroup_15 : decode b_R_markLeastGroup 15 = .ok (.getfield 34, 3) := by decide +kernel
theorem d_R_markLeastGroup_18 : decode b_R_markLeastGroup 18 = .ok (.iload_n 1, 1) := by decide +kernel
theorem d_R_markLeastGroup_19 : decode b_R_markLeastGroup 19 = .ok (.iaload, 1) := by decide +kernel
theorem d_R_markLeastGroup_20 : decode b_R_markLeastGroup 20 = .ok (.aload_n 0, 1) := by decide +kernel
theorem d_R_markLeastGroup_21 : decode b_R_markLeastGroup 21 = .ok (.getfield 27, 3) := by decide +kernel
theorem d_R_markLeastGroup_24 : decode b_R_markLeastGroup 24 = .ok (.aload_n 0, 1) := by decide +kernel
theorem d_R_markLeastGroup_25 : decode b_R_markLeastGroup 25 = .ok (.getfield 34, 3) := by decide +kernel
theorem d_R_markLeastGroup_28 : decode b_R_markLeastGroup 28 = .ok (.iload_n 1, 1) := by decide +kernel
theorem d_R_markLeastGroup_29 : decode b_R_markLeastGroup 29 = .ok (.iaload, 1) := by decide +kernel
theorem d_R_markLeastGroup_30 : decode b_R_markLeastGroup 30 = .ok (.iaload, 1) := by decide +kernel
theorem d_R_markLeastGroup_31 : decode b_R_markLeastGroup 31 = .ok (.aload_n 0, 1) := by decide +kernel
theorem d_R_markLeastGroup_32 : decode b_R_markLeastGroup 32 = .ok (.getfield 27, 3) := by decide +kernel
theorem d_R_markLeastGroup_35 : decode b_R_markLeastGroup 35 = .ok (.aload_n 0, 1) := by decide +kernel
theorem d_R_markLeastGroup_36 : decode b_R_markLeastGroup 36 = .ok (.getfield 34, 3) := by decide +kernel
theorem d_R_markLeastGroup_39 : decode b_R_markLeastGroup 39 = .ok (.iconst 0, 1) := by decide +kernel
theorem d_R_markLeastGroup_40 : decode b_R_markLeastGroup 40 = .ok (.iaload, 1) := by decide +kernel
theorem d_R_markLeastGroup_41 : decode b_R_markLeastGroup 41 = .ok (.iaload, 1) := by decide +kernel
theorem d_R_markLeastGroup_42 : decode b_R_markLeastGroup 42 = .ok (.if_icmp .ne 7, 3) := by decide +kernel
theorem d_R_markLeastGroup_45 : decode b_R_markLeastGroup 45 = .ok (.iconst 1, 1) := by decide +kernel
theorem d_R_markLeastGroup_46 : decode b_R_markLeastGroup 46 = .ok (.goto 4, 3) := by decide +kernel
theorem d_R_markLeastGroup_49 : decode b_R_markLeastGroup 49 = .ok (.iconst 0, 1) := by decide +kernel
theorem d_R_markLeastGroup_50 : decode b_R_markLeastGroup 50 = .ok (.bastore, 1) := by decide +kernel
theorem d_R_markLeastGroup_51 : decode b_R_markLeastGroup 51 = .ok (.iinc 1 1, 3) := by decide +kernel
theorem d_R_markLeastGroup_54 : decode b_R_markLeastGroup 54 = .ok (.goto (-52), 3) := by decide +kernel
theorem d_R_markLeastGroup_57 : decode b_R_markLeastGroup 57 = .ok (.return_, 1) := by decide +kernel
abbrev rm_R_leastStart : Room := { frames := 1, cells := 0, slots := 0, locals := 22 }
theorem good_R_leastStart : GoodIn TB (.code y_R_leastStart b_R_leastStart 6 (some .int) :: TB) := good_of tb_271
theorem hd_R_leastStart : y_R_leastStart.cls ≠ "java/lang/invoke/MethodHandle" ∧ y_R_leastStart.cls ≠ "java/lang/invoke/VarHandle" ∧ (parseMethodDescriptor y_R_leastStart.desc).map (fun d => d.parameters.length) = some 2 := by decide +kernel
theorem d_R_leastStart_0 : decode b_R_leastStart 0 = .ok (.iconst (-1), 1) := by decide +kernel
theorem d_R_leastStart_1 : decode b_R_leastStart 1 = .ok (.istore_n 3, 1) := by decide +kernel
theorem d_R_leastStart_2 : decode b_R_leastStart 2 = .ok (.iconst 0, 1) := by decide +kernel
theorem d_R_leastStart_3 : decode b_R_leastStart 3 = .ok (.istore 4, 2) := by decide +kernel
theorem d_R_leastStart_5 : decode b_R_leastStart 5 = .ok (.iload 4, 2) := by decide +kernel
theorem d_R_leastStart_7 : decode b_R_leastStart 7 = .ok (.aload_n 0, 1) := by decide +kernel
theorem d_R_leastStart_8 : decode b_R_leastStart 8 = .ok (.getfield 37, 3) := by decide +kernel
theorem d_R_leastStart_11 : decode b_R_leastStart 11 = .ok (.if_icmp .ge 63, 3) := by decide +kernel
theorem d_R_leastStart_14 : decode b_R_leastStart 14 = .ok (.aload_n 0, 1) := by decide +kernel
theorem d_R_leastStart_15 : decode b_R_leastStart 15 = .ok (.getfield 34, 3) := by decide +kernel
theorem d_R_leastStart_18 : decode b_R_leastStart 18 = .ok (.iload 4, 2) := by decide +kernel
theorem d_R_leastStart_20 : decode b_R_leastStart 20 = .ok (.iaload, 1) := by decide +kernel
theorem d_R_leastStart_21 : decode b_R_leastStart 21 = .ok (.istore 5, 2) := by decide +kernel
theorem d_R_leastStart_23 : decode b_R_leastStart 23 = .ok (.aload_n 0, 1) := by decide +kernel
theorem d_R_leastStart_24 : decode b_R_leastStart 24 = .ok (.iload 5, 2) := by decide +kernel
theorem d_R_leastStart_26 : decode b_R_leastStart 26 = .ok (.iload_n 1, 1) := by decide +kernel
theorem d_R_leastStart_27 : decode b_R_leastStart 27 = .ok (.invokevirtual 58, 3) := by decide +kernel
theorem d_R_leastStart_30 : decode b_R_leastStart 30 = .ok (.ifCond .eq 38, 3) := by decide +kernel
theorem d_R_leastStart_33 : decode b_R_leastStart 33 = .ok (.aload_n 0, 1) := by decide +kernel
theorem d_R_leastStart_34 : decode b_R_leastStart 34 = .ok (.getfield 15, 3) := by decide +kernel
theorem d_R_leastStart_37 : decode b_R_leastStart 37 = .ok (.iload 5, 2) := by decide +kernel
theorem d_R_leastStart_39 : decode b_R_leastStart 39 = .ok (.iaload, 1) := by decide +kernel
theorem d_R_leastStart_40 : decode b_R_leastStart 40 = .ok (.iload_n 2, 1) := by decide +kernel
theorem d_R_leastStart_41 : decode b_R_leastStart 41 = .ok (.if_icmp .lt 27, 3) := by decide +kernel
theorem d_R_leastStart_44 : decode b_R_leastStart 44 = .ok (.iload_n 3, 1) := by decide +kernel
theorem d_R_leastStart_45 : decode b_R_leastStart 45 = .ok (.iconst (-1), 1) := by decide +kernel
theorem d_R_leastStart_46 : decode b_R_leastStart 46 = .ok (.if_icmp .eq 19, 3) := by decide +kernel
theorem d_R_leastStart_49 : decode b_R_leastStart 49 = .ok (.aload_n 0, 1) := by decide +kernel
theorem d_R_leastStart_50 : decode b_R_leastStart 50 = .ok (.getfield 15, 3) := by decide +kernel
theorem d_R_leastStart_53 : decode b_R_leastStart 53 = .ok (.iload 5, 2) := by decide +kernel
theorem d_R_leastStart_55 : decode b_R_leastStart 55 = .ok (.iaload, 1) := by decide +kernel
theorem d_R_leastStart_56 : decode b_R_leastStart 56 = .ok (.aload_n 0, 1) := by decide +kernel
theorem d_R_leastStart_57 : decode b_R_leastStart 57 = .ok (.getfield 15, 3) := by decide +kernel
theorem d_R_leastStart_60 : decode b_R_leastStart 60 = .ok (.iload_n 3, 1) := by decide +kernel
theorem d_R_leastStart_61 : decode b_R_leastStart 61 = .ok (.iaload, 1) := by decide +kernel
theorem d_R_leastStart_62 : decode b_R_leastStart 62 = .ok (.if_icmp .ge 6, 3) := by decide +kernel
theorem d_R_leastStart_65 : decode b_R_leastStart 65 = .ok (.iload 5, 2) := by decide +kernel
theorem d_R_leastStart_67 : decode b_R_leastStart 67 = .ok (.istore_n 3, 1) := by decide +kernel
theorem d_R_leastStart_68 : decode b_R_leastStart 68 = .ok (.iinc 4 1, 3) := by decide +kernel
theorem d_R_leastStart_71 : decode b_R_leastStart 71 = .ok (.goto (-66), 3) := by decide +kernel
theorem d_R_leastStart_74 : decode b_R_leastStart 74 = .ok (.iload_n 3, 1) := by decide +kernel
theorem d_R_leastStart_75 : decode b_R_leastStart 75 = .ok (.ireturn, 1) := by decide +kernel
abbrev rm_R_hasReady : Room := { frames := 2, cells := 0, slots := 0, locals := 47 }
theorem good_R_hasReady : GoodIn TB (.code y_R_hasReady b_R_hasReady 2 (some .boolean) :: TB) := good_of tb_279
theorem hd_R_hasReady : y_R_hasReady.cls ≠ "java/lang/invoke/MethodHandle" ∧ y_R_hasReady.cls ≠ "java/lang/invoke/VarHandle" ∧ (parseMethodDescriptor y_R_hasReady.desc).map (fun d => d.parameters.length) = some 1 := by decide +kernel
theorem d_R_hasReady_0 : decode b_R_hasReady 0 = .ok (.aload_n 0, 1) := by decide +kernel
theorem d_R_hasReady_1 : decode b_R_hasReady 1 = .ok (.iload_n 1, 1) := by decide +kernel
theorem d_R_hasReady_2 : decode b_R_hasReady 2 = .ok (.iconst 0, 1) := by decide +kernel
theorem d_R_hasReady_3 : decode b_R_hasReady 3 = .ok (.invokevirtual 55, 3) := by decide +kernel
theorem d_R_hasReady_6 : decode b_R_hasReady 6 = .ok (.iconst (-1), 1) := by decide +kernel
theorem d_R_hasReady_7 : decode b_R_hasReady 7 = .ok (.if_icmp .eq 7, 3) := by decide +kernel
theorem d_R_hasReady_10 : decode b_R_hasReady 10 = .ok (.iconst 1, 1) := by decide +kernel
theorem d_R_hasReady_11 : decode b_R_hasReady 11 = .ok (.goto 4, 3) := by decide +kernel
theorem d_R_hasReady_14 : decode b_R_hasReady 14 = .ok (.iconst 0, 1) := by decide +kernel
theorem d_R_hasReady_15 : decode b_R_hasReady 15 = .ok (.ireturn, 1) := by decide +kernel
abbrev rm_R_leastExpired : Room := { frames := 1, cells := 0, slots := 0, locals := 22 }
theorem good_R_leastExpired : GoodIn TB (.code y_R_leastExpired b_R_leastExpired 6 (some .int) :: TB) := good_of tb_292
theorem hd_R_leastExpired : y_R_leastExpired.cls ≠ "java/lang/invoke/MethodHandle" ∧ y_R_leastExpired.cls ≠ "java/lang/invoke/VarHandle" ∧ (parseMethodDescriptor y_R_leastExpired.desc).map (fun d => d.parameters.length) = some 2 := by decide +kernel
theorem d_R_leastExpired_0 : decode b_R_leastExpired 0 = .ok (.iconst (-1), 1) := by decide +kernel
theorem d_R_leastExpired_1 : decode b_R_leastExpired 1 = .ok (.istore_n 3, 1) := by decide +kernel
theorem d_R_leastExpired_2 : decode b_R_leastExpired 2 = .ok (.iconst 0, 1) := by decide +kernel
theorem d_R_leastExpired_3 : decode b_R_leastExpired 3 = .ok (.istore 4, 2) := by decide +kernel
theorem d_R_leastExpired_5 : decode b_R_leastExpired 5 = .ok (.iload 4, 2) := by decide +kernel
theorem d_R_leastExpired_7 : decode b_R_leastExpired 7 = .ok (.aload_n 0, 1) := by decide +kernel
theorem d_R_leastExpired_8 : decode b_R_leastExpired 8 = .ok (.getfield 37, 3) := by decide +kernel
theorem d_R_leastExpired_11 : decode b_R_leastExpired 11 = .ok (.if_icmp .ge 63, 3) := by decide +kernel
theorem d_R_leastExpired_14 : decode b_R_leastExpired 14 = .ok (.aload_n 0, 1) := by decide +kernel
theorem d_R_leastExpired_15 : decode b_R_leastExpired 15 = .ok (.getfield 34, 3) := by decide +kernel
theorem d_R_leastExpired_18 : decode b_R_leastExpired 18 = .ok (.iload 4, 2) := by decide +kernel
theorem d_R_leastExpired_20 : decode b_R_leastExpired 20 = .ok (.iaload, 1) := by decide +kernel
theorem d_R_leastExpired_21 : decode b_R_leastExpired 21 = .ok (.istore 5, 2) := by decide +kernel
theorem d_R_leastExpired_23 : decode b_R_leastExpired 23 = .ok (.aload_n 0, 1) := by decide +kernel
theorem d_R_leastExpired_24 : decode b_R_leastExpired 24 = .ok (.iload 5, 2) := by decide +kernel
theorem d_R_leastExpired_26 : decode b_R_leastExpired 26 = .ok (.iload_n 1, 1) := by decide +kernel
theorem d_R_leastExpired_27 : decode b_R_leastExpired 27 = .ok (.invokevirtual 58, 3) := by decide +kernel
theorem d_R_leastExpired_30 : decode b_R_leastExpired 30 = .ok (.ifCond .eq 38, 3) := by decide +kernel
theorem d_R_leastExpired_33 : decode b_R_leastExpired 33 = .ok (.aload_n 0, 1) := by decide +kernel
theorem d_R_leastExpired_34 : decode b_R_leastExpired 34 = .ok (.getfield 24, 3) := by decide +kernel
theorem d_R_leastExpired_37 : decode b_R_leastExpired 37 = .ok (.iload 5, 2) := by decide +kernel
theorem d_R_leastExpired_39 : decode b_R_leastExpired 39 = .ok (.iaload, 1) := by decide +kernel
theorem d_R_leastExpired_40 : decode b_R_leastExpired 40 = .ok (.iload_n 2, 1) := by decide +kernel
theorem d_R_leastExpired_41 : decode b_R_leastExpired 41 = .ok (.if_icmp .gt 27, 3) := by decide +kernel
theorem d_R_leastExpired_44 : decode b_R_leastExpired 44 = .ok (.iload_n 3, 1) := by decide +kernel
theorem d_R_leastExpired_45 : decode b_R_leastExpired 45 = .ok (.iconst (-1), 1) := by decide +kernel
theorem d_R_leastExpired_46 : decode b_R_leastExpired 46 = .ok (.if_icmp .eq 19, 3) := by decide +kernel
theorem d_R_leastExpired_49 : decode b_R_leastExpired 49 = .ok (.aload_n 0, 1) := by decide +kernel
theorem d_R_leastExpired_50 : decode b_R_leastExpired 50 = .ok (.getfield 24, 3) := by decide +kernel
theorem d_R_leastExpired_53 : decode b_R_leastExpired 53 = .ok (.iload 5, 2) := by decide +kernel
theorem d_R_leastExpired_55 : decode b_R_leastExpired 55 = .ok (.iaload, 1) := by decide +kernel
theorem d_R_leastExpired_56 : decode b_R_leastExpired 56 = .ok (.aload_n 0, 1) := by decide +kernel
theorem d_R_leastExpired_57 : decode b_R_leastExpired 57 = .ok (.getfield 24, 3) := by decide +kernel
theorem d_R_leastExpired_60 : decode b_R_leastExpired 60 = .ok (.iload_n 3, 1) := by decide +kernel
theorem d_R_leastExpired_61 : decode b_R_leastExpired 61 = .ok (.iaload, 1) := by decide +kernel
theorem d_R_leastExpired_62 : decode b_R_leastExpired 62 = .ok (.if_icmp .ge 6, 3) := by decide +kernel
theorem d_R_leastExpired_65 : decode b_R_leastExpired 65 = .ok (.iload 5, 2) := by decide +kernel
theorem d_R_leastExpired_67 : decode b_R_leastExpired 67 = .ok (.istore_n 3, 1) := by decide +kernel
theorem d_R_leastExpired_68 : decode b_R_leastExpired 68 = .ok (.iinc 4 1, 3) := by decide +kernel
theorem d_R_leastExpired_71 : decode b_R_leastExpired 71 = .ok (.goto (-66), 3) := by decide +kernel
theorem d_R_leastExpired_74 : decode b_R_leastExpired 74 = .ok (.iload_n 3, 1) := by decide +kernel
theorem d_R_leastExpired_75 : decode b_R_leastExpired 75 = .ok (.ireturn, 1) := by decide +kernel
abbrev rm_E_isOnDisk : Room := { frames := 0, cells := 0, slots := 0, locals := 0 }
theorem good_E_isOnDisk : GoodIn TB (.code y_E_isOnDisk b_E_isOnDisk 2 (some .boolean) :: TB) := good_of tb_172
theorem hd_E_isOnDisk : y_E_isOnDisk.cls ≠ "java/lang/invoke/MethodHandle" ∧ y_E_isOnDisk.cls ≠ "java/lang/invoke/VarHandle" ∧ (parseMethodDescriptor y_E_isOnDisk.desc).map (fun d => d.parameters.length) = some 2 := by decide +kernel
theorem d_E_isOnDisk_0 : decode b_E_isOnDisk 0 = .ok (.iload_n 1, 1) := by decide +kernel
theorem d_E_isOnDisk_1 : decode b_E_isOnDisk 1 = .ok (.iconst 1, 1) := by decide +kernel
theorem d_E_isOnDisk_2 : decode b_E_isOnDisk 2 = .ok (.if_icmp .lt 25, 3) := by decide +kernel
theorem d_E_isOnDisk_5 : decode b_E_isOnDisk 5 = .ok (.iload_n 1, 1) := by decide +kernel
theorem d_E_isOnDisk_6 : decode b_E_isOnDisk 6 = .ok (.bipush 8, 2) := by decide +kernel
theorem d_E_isOnDisk_8 : decode b_E_isOnDisk 8 = .ok (.if_icmp .gt 19, 3) := by decide +kernel
theorem d_E_isOnDisk_11 : decode b_E_isOnDisk 11 = .ok (.iload_n 0, 1) := by decide +kernel
theorem d_E_isOnDisk_12 : decode b_E_isOnDisk 12 = .ok (.ifCond .lt 15, 3) := by decide +kernel
theorem d_E_isOnDisk_15 : decode b_E_isOnDisk 15 = .ok (.iload_n 0, 1) := by decide +kernel
theorem d_E_isOnDisk_16 : decode b_E_isOnDisk 16 = .ok (.bipush 64, 2) := by decide +kernel
theorem d_E_isOnDisk_18 : decode b_E_isOnDisk 18 = .ok (.iload_n 1, 1) := by decide +kernel
theorem d_E_isOnDisk_19 : decode b_E_isOnDisk 19 = .ok (.isub, 1) := by decide +kernel
theorem d_E_isOnDisk_20 : decode b_E_isOnDisk 20 = .ok (.if_icmp .gt 7, 3) := by decide +kernel
theorem d_E_isOnDisk_23 : decode b_E_isOnDisk 23 = .ok (.iconst 1, 1) := by decide +kernel
theorem d_E_isOnDisk_24 : decode b_E_isOnDisk 24 = .ok (.goto 4, 3) := by decide +kernel
theorem d_E_isOnDisk_27 : decode b_E_isOnDisk 27 = .ok (.iconst 0, 1) := by decide +kernel
theorem d_E_isOnDisk_28 : decode b_E_isOnDisk 28 = .ok (.ireturn, 1) := by decide +kernel
abbrev rm_E_claimAllWaiting : Room := { frames := 2, cells := 0, slots := 0, locals := 42 }
theorem good_E_claimAllWaiting : GoodIn TB (.code y_E_claimAllWaiting b_E_claimAllWaiting 2 none :: TB) := good_of tb_180
theorem hd_E_claimAllWaiting : y_E_claimAllWaiting.cls ≠ "java/lang/invoke/MethodHandle" ∧ y_E_claimAllWaiting.cls ≠ "java/lang/invoke/VarHandle" ∧ (parseMethodDescriptor y_E_claimAllWaiting.desc).map (fun d => d.parameters.length) = some 0 := by decide +kernel
theorem d_E_claimAllWaiting_0 : decode b_E_claimAllWaiting 0 = .ok (.aload_n 0, 1) := by decide +kernel
theorem d_E_claimAllWaiting_1 : decode b_E_claimAllWaiting 1 = .ok (.getfield 30, 3) := by decide +kernel
theorem d_E_claimAllWaiting_4 : decode b_E_claimAllWaiting 4 = .ok (.invokevirtual 164, 3) := by decide +kernel
theorem d_E_claimAllWaiting_7 : decode b_E_claimAllWaiting 7 = .ok (.iconst 0, 1) := by decide +kernel
theorem d_E_claimAllWaiting_8 : decode b_E_claimAllWaiting 8 = .ok (.istore_n 1, 1) := by decide +kernel
theorem d_E_claimAllWaiting_9 : decode b_E_claimAllWaiting 9 = .ok (.iload_n 1, 1) := by decide +kernel
theorem d_E_claimAllWaiting_10 : decode b_E_claimAllWaiting 10 = .ok (.aload_n 0, 1) := by decide +kernel
theorem d_E_claimAllWaiting_11 : decode b_E_claimAllWaiting 11 = .ok (.getfield 16, 3) := by decide +kernel
theorem d_E_claimAllWaiting_14 : decode b_E_claimAllWaiting 14 = .ok (.getfield 134, 3) := by decide +kernel
theorem d_E_claimAllWaiting_17 : decode b_E_claimAllWaiting 17 = .ok (.if_icmp .ge 45, 3) := by decide +kernel
theorem d_E_claimAllWaiting_20 : decode b_E_claimAllWaiting 20 = .ok (.aload_n 0, 1) := by decide +kernel
theorem d_E_claimAllWaiting_21 : decode b_E_claimAllWaiting 21 = .ok (.getfield 16, 3) := by decide +kernel
theorem d_E_claimAllWaiting_24 : decode b_E_claimAllWaiting 24 = .ok (.getfield 89, 3) := by decide +kernel
theorem d_E_claimAllWaiting_27 : decode b_E_claimAllWaiting 27 = .ok (.iload_n 1, 1) := by decide +kernel
theorem d_E_claimAllWaiting_28 : decode b_E_claimAllWaiting 28 = .ok (.baload, 1) := by decide +kernel
theorem d_E_claimAllWaiting_29 : decode b_E_claimAllWaiting 29 = .ok (.ifCond .ne 27, 3) := by decide +kernel
theorem d_E_claimAllWaiting_32 : decode b_E_claimAllWaiting 32 = .ok (.aload_n 0, 1) := by decide +kernel
theorem d_E_claimAllWaiting_33 : decode b_E_claimAllWaiting 33 = .ok (.getfield 30, 3) := by decide +kernel
theorem d_E_claimAllWaiting_36 : decode b_E_claimAllWaiting 36 = .ok (.aload_n 0, 1) := by decide +kernel
theorem d_E_claimAllWaiting_37 : decode b_E_claimAllWaiting 37 = .ok (.getfield 16, 3) := by decide +kernel
theorem d_E_claimAllWaiting_40 : decode b_E_claimAllWaiting 40 = .ok (.getfield 93, 3) := by decide +kernel
theorem d_E_claimAllWaiting_43 : decode b_E_claimAllWaiting 43 = .ok (.iload_n 1, 1) := by decide +kernel
theorem d_E_claimAllWaiting_44 : decode b_E_claimAllWaiting 44 = .ok (.iaload, 1) := by decide +kernel
theorem d_E_claimAllWaiting_45 : decode b_E_claimAllWaiting 45 = .ok (.aload_n 0, 1) := by decide +kernel
theorem d_E_claimAllWaiting_46 : decode b_E_claimAllWaiting 46 = .ok (.getfield 16, 3) := by decide +kernel
theorem d_E_claimAllWaiting_49 : decode b_E_claimAllWaiting 49 = .ok (.iload_n 1, 1) := by decide +kernel
theorem d_E_claimAllWaiting_50 : decode b_E_claimAllWaiting 50 = .ok (.invokevirtual 167, 3) := by decide +kernel
theorem d_E_claimAllWaiting_53 : decode b_E_claimAllWaiting 53 = .ok (.invokevirtual 171, 3) := by decide +kernel
theorem d_E_claimAllWaiting_56 : decode b_E_claimAllWaiting 56 = .ok (.iinc 1 1, 3) := by decide +kernel
theorem d_E_claimAllWaiting_59 : decode b_E_claimAllWaiting 59 = .ok (.goto (-50), 3) := by decide +kernel
theorem d_E_claimAllWaiting_62 : decode b_E_claimAllWaiting 62 = .ok (.return_, 1) := by decide +kernel
abbrev rm_E_hostFor : Room := { frames := 3, cells := 0, slots := 0, locals := 63 }
theorem good_E_hostFor : GoodIn TB (.code y_E_hostFor b_E_hostFor 4 (some .int) :: TB) := good_of tb_176
theorem hd_E_hostFor : y_E_hostFor.cls ≠ "java/lang/invoke/MethodHandle" ∧ y_E_hostFor.cls ≠ "java/lang/invoke/VarHandle" ∧ (parseMethodDescriptor y_E_hostFor.desc).map (fun d => d.parameters.length) = some 3 := by decide +kernel
theorem d_E_hostFor_0 : decode b_E_hostFor 0 = .ok (.aload_n 0, 1) := by decide +kernel
theorem d_E_hostFor_1 : decode b_E_hostFor 1 = .ok (.invokevirtual 150, 3) := by decide +kernel
theorem d_E_hostFor_4 : decode b_E_hostFor 4 = .ok (.aload_n 0, 1) := by decide +kernel
theorem d_E_hostFor_5 : decode b_E_hostFor 5 = .ok (.getfield 30, 3) := by decide +kernel
theorem d_E_hostFor_8 : decode b_E_hostFor 8 = .ok (.iload_n 1, 1) := by decide +kernel
theorem d_E_hostFor_9 : decode b_E_hostFor 9 = .ok (.iload_n 2, 1) := by decide +kernel
theorem d_E_hostFor_10 : decode b_E_hostFor 10 = .ok (.iload_n 3, 1) := by decide +kernel
theorem d_E_hostFor_11 : decode b_E_hostFor 11 = .ok (.invokestatic 153, 3) := by decide +kernel
theorem d_E_hostFor_14 : decode b_E_hostFor 14 = .ok (.invokevirtual 157, 3) := by decide +kernel
theorem d_E_hostFor_17 : decode b_E_hostFor 17 = .ok (.ifCond .eq 5, 3) := by decide +kernel
theorem d_E_hostFor_20 : decode b_E_hostFor 20 = .ok (.iconst (-1), 1) := by decide +kernel
theorem d_E_hostFor_21 : decode b_E_hostFor 21 = .ok (.ireturn, 1) := by decide +kernel
theorem d_E_hostFor_22 : decode b_E_hostFor 22 = .ok (.aload_n 0, 1) := by decide +kernel
theorem d_E_hostFor_23 : decode b_E_hostFor 23 = .ok (.getfield 23, 3) := by decide +kernel
theorem d_E_hostFor_26 : decode b_E_hostFor 26 = .ok (.iload_n 1, 1) := by decide +kernel
theorem d_E_hostFor_27 : decode b_E_hostFor 27 = .ok (.iload_n 2, 1) := by decide +kernel
theorem d_E_hostFor_28 : decode b_E_hostFor 28 = .ok (.iload_n 3, 1) := by decide +kernel
theorem d_E_hostFor_29 : decode b_E_hostFor 29 = .ok (.aload_n 0, 1) := by decide +kernel
theorem d_E_hostFor_30 : decode b_E_hostFor 30 = .ok (.getfield 48, 3) := by decide +kernel
theorem d_E_hostFor_33 : decode b_E_hostFor 33 = .ok (.invokevirtual 161, 3) := by decide +kernel
theorem d_E_hostFor_36 : decode b_E_hostFor 36 = .ok (.ireturn, 1) := by decide +kernel
abbrev rm_E_take : Room := { frames := 4, cells := 0, slots := 0, locals := 86 }
theorem good_E_take : GoodIn TB (.code y_E_take b_E_take 8 (some .int) :: TB) := good_of tb_169
theorem hd_E_take : y_E_take.cls ≠ "java/lang/invoke/MethodHandle" ∧ y_E_take.cls ≠ "java/lang/invoke/VarHandle" ∧ (parseMethodDescriptor y_E_take.desc).map (fun d => d.parameters.length) = some 4 := by decide +kernel
theorem d_E_take_0 : decode b_E_take 0 = .ok (.iload_n 2, 1) := by decide +kernel
theorem d_E_take_1 : decode b_E_take 1 = .ok (.iload_n 3, 1) := by decide +kernel
theorem d_E_take_2 : decode b_E_take 2 = .ok (.invokestatic 131, 3) := by decide +kernel
theorem d_E_take_5 : decode b_E_take 5 = .ok (.ifCond .ne 5, 3) := by decide +kernel
theorem d_E_take_8 : decode b_E_take 8 = .ok (.iconst (-1), 1) := by decide +kernel
theorem d_E_take_9 : decode b_E_take 9 = .ok (.ireturn, 1) := by decide +kernel
theorem d_E_take_10 : decode b_E_take 10 = .ok (.aload_n 0, 1) := by decide +kernel
theorem d_E_take_11 : decode b_E_take 11 = .ok (.getfield 16, 3) := by decide +kernel
theorem d_E_take_14 : decode b_E_take 14 = .ok (.getfield 134, 3) := by decide +kernel
theorem d_E_take_17 : decode b_E_take 17 = .ok (.sipush 200, 3) := by decide +kernel
theorem d_E_take_20 : decode b_E_take 20 = .ok (.if_icmp .eq 15, 3) := by decide +kernel
theorem d_E_take_23 : decode b_E_take 23 = .ok (.aload_n 0, 1) := by decide +kernel
theorem d_E_take_24 : decode b_E_take 24 = .ok (.getfield 23, 3) := by decide +kernel
theorem d_E_take_27 : decode b_E_take 27 = .ok (.getfield 68, 3) := by decide +kernel
theorem d_E_take_30 : decode b_E_take 30 = .ok (.bipush 24, 2) := by decide +kernel
theorem d_E_take_32 : decode b_E_take 32 = .ok (.if_icmp .ne 6, 3) := by decide +kernel
theorem d_E_take_35 : decode b_E_take 35 = .ok (.bipush (-2), 2) := by decide +kernel
theorem d_E_take_37 : decode b_E_take 37 = .ok (.ireturn, 1) := by decide +kernel
theorem d_E_take_38 : decode b_E_take 38 = .ok (.aload_n 0, 1) := by decide +kernel
theorem d_E_take_39 : decode b_E_take 39 = .ok (.iload_n 1, 1) := by decide +kernel
theorem d_E_take_40 : decode b_E_take 40 = .ok (.iload_n 2, 1) := by decide +kernel
theorem d_E_take_41 : decode b_E_take 41 = .ok (.iload_n 3, 1) := by decide +kernel
theorem d_E_take_42 : decode b_E_take 42 = .ok (.invokevirtual 135, 3) := by decide +kernel
theorem d_E_take_45 : decode b_E_take 45 = .ok (.istore 5, 2) := by decide +kernel
theorem d_E_take_47 : decode b_E_take 47 = .ok (.aload_n 0, 1) := by decide +kernel
theorem d_E_take_48 : decode b_E_take 48 = .ok (.getfield 16, 3) := by decide +kernel
theorem d_E_take_51 : decode b_E_take 51 = .ok (.iload_n 1, 1) := by decide +kernel
theorem d_E_take_52 : decode b_E_take 52 = .ok (.iload_n 2, 1) := by decide +kernel
theorem d_E_take_53 : decode b_E_take 53 = .ok (.iload_n 3, 1) := by decide +kernel
theorem d_E_take_54 : decode b_E_take 54 = .ok (.iload 4, 2) := by decide +kernel
theorem d_E_take_56 : decode b_E_take 56 = .ok (.invokevirtual 139, 3) := by decide +kernel
theorem d_E_take_59 : decode b_E_take 59 = .ok (.istore 6, 2) := by decide +kernel
theorem d_E_take_61 : decode b_E_take 61 = .ok (.iload 5, 2) := by decide +kernel
theorem d_E_take_63 : decode b_E_take 63 = .ok (.iconst (-1), 1) := by decide +kernel
theorem d_E_take_64 : decode b_E_take 64 = .ok (.if_icmp .ne 58, 3) := by decide +kernel
theorem d_E_take_67 : decode b_E_take 67 = .ok (.aload_n 0, 1) := by decide +kernel
theorem d_E_take_68 : decode b_E_take 68 = .ok (.getfield 16, 3) := by decide +kernel
theorem d_E_take_71 : decode b_E_take 71 = .ok (.getfield 112, 3) := by decide +kernel
theorem d_E_take_74 : decode b_E_take 74 = .ok (.iload 6, 2) := by decide +kernel
theorem d_E_take_76 : decode b_E_take 76 = .ok (.iload 6, 2) := by decide +kernel
theorem d_E_take_78 : decode b_E_take 78 = .ok (.iastore, 1) := by decide +kernel
theorem d_E_take_79 : decode b_E_take 79 = .ok (.iload_n 1, 1) := by decide +kernel
theorem d_E_take_80 : decode b_E_take 80 = .ok (.ifCond .ne 10, 3) := by decide +kernel
theorem d_E_take_83 : decode b_E_take 83 = .ok (.aload_n 0, 1) := by decide +kernel
theorem d_E_take_84 : decode b_E_take 84 = .ok (.getfield 41, 3) := by decide +kernel
theorem d_E_take_87 : decode b_E_take 87 = .ok (.goto 7, 3) := by decide +kernel
theorem d_E_take_90 : decode b_E_take 90 = .ok (.aload_n 0, 1) := by decide +kernel
theorem d_E_take_91 : decode b_E_take 91 = .ok (.getfield 45, 3) := by decide +kernel
theorem d_E_take_94 : decode b_E_take 94 = .ok (.istore 7, 2) := by decide +kernel
theorem d_E_take_96 : decode b_E_take 96 = .ok (.aload_n 0, 1) := by decide +kernel
theorem d_E_take_97 : decode b_E_take 97 = .ok (.getfield 23, 3) := by decide +kernel
theorem d_E_take_100 : decode b_E_take 100 = .ok (.iload 6, 2) := by decide +kernel
theorem d_E_take_102 : decode b_E_take 102 = .ok (.iload_n 1, 1) := by decide +kernel
theorem d_E_take_103 : decode b_E_take 103 = .ok (.iload_n 2, 1) := by decide +kernel
theorem d_E_take_104 : decode b_E_take 104 = .ok (.iload_n 3, 1) := by decide +kernel
theorem d_E_take_105 : decode b_E_take 105 = .ok (.aload_n 0, 1) := by decide +kernel
theorem d_E_take_106 : decode b_E_take 106 = .ok (.getfield 51, 3) := by decide +kernel
theorem d_E_take_109 : decode b_E_take 109 = .ok (.iload 7, 2) := by decide +kernel
theorem d_E_take_111 : decode b_E_take 111 = .ok (.iadd, 1) := by decide +kernel
theorem d_E_take_112 : decode b_E_take 112 = .ok (.aload_n 0, 1) := by decide +kernel
theorem d_E_take_113 : decode b_E_take 113 = .ok (.getfield 48, 3) := by decide +kernel
theorem d_E_take_116 : decode b_E_take 116 = .ok (.invokevirtual 142, 3) := by decide +kernel
theorem d_E_take_119 : decode b_E_take 119 = .ok (.goto 26, 3) := by decide +kernel
theorem d_E_take_122 : decode b_E_take 122 = .ok (.aload_n 0, 1) := by decide +kernel
theorem d_E_take_123 : decode b_E_take 123 = .ok (.getfield 16, 3) := by decide +kernel
theorem d_E_take_126 : decode b_E_take 126 = .ok (.getfield 112, 3) := by decide +kernel
theorem d_E_take_129 : decode b_E_take 129 = .ok (.iload 6, 2) := by decide +kernel
theorem d_E_take_131 : decode b_E_take 131 = .ok (.iload 5, 2) := by decide +kernel
theorem d_E_take_133 : decode b_E_take 133 = .ok (.iastore, 1) := by decide +kernel
theorem d_E_take_134 : decode b_E_take 134 = .ok (.aload_n 0, 1) := by decide +kernel
theorem d_E_take_135 : decode b_E_take 135 = .ok (.getfield 23, 3) := by decide +kernel
theorem d_E_take_138 : decode b_E_take 138 = .ok (.iload 5, 2) := by decide +kernel
theorem d_E_take_140 : decode b_E_take 140 = .ok (.iload_n 2, 1) := by decide +kernel
theorem d_E_take_141 : decode b_E_take 141 = .ok (.iload_n 3, 1) := by decide +kernel
theorem d_E_take_142 : decode b_E_take 142 = .ok (.invokevirtual 146, 3) := by decide +kernel
theorem d_E_take_145 : decode b_E_take 145 = .ok (.iload 6, 2) := by decide +kernel
theorem d_E_take_147 : decode b_E_take 147 = .ok (.ireturn, 1) := by decide +kernel
abbrev rm_E_read : Room := { frames := 5, cells := 0, slots := 0, locals := 113 }
theorem good_E_read : GoodIn TB (.code y_E_read b_E_read 3 (some .int) :: TB) := good_of tb_165
theorem hd_E_read : y_E_read.cls ≠ "java/lang/invoke/MethodHandle" ∧ y_E_read.cls ≠ "java/lang/invoke/VarHandle" ∧ (parseMethodDescriptor y_E_read.desc).map (fun d => d.parameters.length) = some 2 := by decide +kernel
theorem d_E_read_0 : decode b_E_read 0 = .ok (.aload_n 0, 1) := by decide +kernel
theorem d_E_read_1 : decode b_E_read 1 = .ok (.iconst 0, 1) := by decide +kernel
theorem d_E_read_2 : decode b_E_read 2 = .ok (.iload_n 1, 1) := by decide +kernel
theorem d_E_read_3 : decode b_E_read 3 = .ok (.iload_n 2, 1) := by decide +kernel
theorem d_E_read_4 : decode b_E_read 4 = .ok (.iconst 0, 1) := by decide +kernel
theorem d_E_read_5 : decode b_E_read 5 = .ok (.invokevirtual 60, 3) := by decide +kernel
theorem d_E_read_8 : decode b_E_read 8 = .ok (.ireturn, 1) := by decide +kernel
abbrev rm_E_write : Room := { frames := 5, cells := 0, slots := 0, locals := 113 }
theorem good_E_write : GoodIn TB (.code y_E_write b_E_write 4 (some .int) :: TB) := good_of tb_231
theorem hd_E_write : y_E_write.cls ≠ "java/lang/invoke/MethodHandle" ∧ y_E_write.cls ≠ "java/lang/invoke/VarHandle" ∧ (parseMethodDescriptor y_E_write.desc).map (fun d => d.parameters.length) = some 3 := by decide +kernel
theorem d_E_write_0 : decode b_E_write 0 = .ok (.aload_n 0, 1) := by decide +kernel
theorem d_E_write_1 : decode b_E_write 1 = .ok (.iconst 1, 1) := by decide +kernel
theorem d_E_write_2 : decode b_E_write 2 = .ok (.iload_n 1, 1) := by decide +kernel
theorem d_E_write_3 : decode b_E_write 3 = .ok (.iload_n 2, 1) := by decide +kernel
theorem d_E_write_4 : decode b_E_write 4 = .ok (.iload_n 3, 1) := by decide +kernel
theorem d_E_write_5 : decode b_E_write 5 = .ok (.invokevirtual 60, 3) := by decide +kernel
theorem d_E_write_8 : decode b_E_write 8 = .ok (.ireturn, 1) := by decide +kernel
abbrev rm_E_barrier : Room := { frames := 0, cells := 0, slots := 0, locals := 0 }
theorem good_E_barrier : GoodIn TB (.code y_E_barrier b_E_barrier 1 (some .int) :: TB) := good_of tb_235
theorem hd_E_barrier : y_E_barrier.cls ≠ "java/lang/invoke/MethodHandle" ∧ y_E_barrier.cls ≠ "java/lang/invoke/VarHandle" ∧ (parseMethodDescriptor y_E_barrier.desc).map (fun d => d.parameters.length) = some 0 := by decide +kernel
theorem d_E_barrier_0 : decode b_E_barrier 0 = .ok (.aload_n 0, 1) := by decide +kernel
theorem d_E_barrier_1 : decode b_E_barrier 1 = .ok (.dup, 1) := by decide +kernel
theorem d_E_barrier_2 : decode b_E_barrier 2 = .ok (.getfield 48, 3) := by decide +kernel
theorem d_E_barrier_5 : decode b_E_barrier 5 = .ok (.iconst 1, 1) := by decide +kernel
theorem d_E_barrier_6 : decode b_E_barrier 6 = .ok (.iadd, 1) := by decide +kernel
theorem d_E_barrier_7 : decode b_E_barrier 7 = .ok (.putfield 48, 3) := by decide +kernel
theorem d_E_barrier_10 : decode b_E_barrier 10 = .ok (.aload_n 0, 1) := by decide +kernel
theorem d_E_barrier_11 : decode b_E_barrier 11 = .ok (.getfield 48, 3) := by decide +kernel
theorem d_E_barrier_14 : decode b_E_barrier 14 = .ok (.ireturn, 1) := by decide +kernel
abbrev rm_E_isWithin : Room := { frames := 0, cells := 0, slots := 0, locals := 0 }
theorem good_E_isWithin : GoodIn TB (.code y_E_isWithin b_E_isWithin 2 (some .boolean) :: TB) := good_of tb_242
theorem hd_E_isWithin : y_E_isWithin.cls ≠ "java/lang/invoke/MethodHandle" ∧ y_E_isWithin.cls ≠ "java/lang/invoke/VarHandle" ∧ (parseMethodDescriptor y_E_isWithin.desc).map (fun d => d.parameters.length) = some 2 := by decide +kernel
theorem d_E_isWithin_0 : decode b_E_isWithin 0 = .ok (.iload_n 0, 1) := by decide +kernel
theorem d_E_isWithin_1 : decode b_E_isWithin 1 = .ok (.ifCond .lt 12, 3) := by decide +kernel
theorem d_E_isWithin_4 : decode b_E_isWithin 4 = .ok (.iload_n 0, 1) := by decide +kernel
theorem d_E_isWithin_5 : decode b_E_isWithin 5 = .ok (.iload_n 1, 1) := by decide +kernel
theorem d_E_isWithin_6 : decode b_E_isWithin 6 = .ok (.if_icmp .gt 7, 3) := by decide +kernel
theorem d_E_isWithin_9 : decode b_E_isWithin 9 = .ok (.iconst 1, 1) := by decide +kernel
theorem d_E_isWithin_10 : decode b_E_isWithin 10 = .ok (.goto 4, 3) := by decide +kernel
theorem d_E_isWithin_13 : decode b_E_isWithin 13 = .ok (.iconst 0, 1) := by decide +kernel
theorem d_E_isWithin_14 : decode b_E_isWithin 14 = .ok (.ireturn, 1) := by decide +kernel
abbrev rm_E_expire : Room := { frames := 1, cells := 0, slots := 0, locals := 21 }
theorem good_E_expire : GoodIn TB (.code y_E_expire b_E_expire 4 (some .boolean) :: TB) := good_of tb_239
theorem hd_E_expire : y_E_expire.cls ≠ "java/lang/invoke/MethodHandle" ∧ y_E_expire.cls ≠ "java/lang/invoke/VarHandle" ∧ (parseMethodDescriptor y_E_expire.desc).map (fun d => d.parameters.length) = some 2 := by decide +kernel
theorem d_E_expire_0 : decode b_E_expire 0 = .ok (.iload_n 1, 1) := by decide +kernel
theorem d_E_expire_1 : decode b_E_expire 1 = .ok (.sipush 10000, 3) := by decide +kernel
theorem d_E_expire_4 : decode b_E_expire 4 = .ok (.invokestatic 64, 3) := by decide +kernel
theorem d_E_expire_7 : decode b_E_expire 7 = .ok (.ifCond .eq 17, 3) := by decide +kernel
theorem d_E_expire_10 : decode b_E_expire 10 = .ok (.iload_n 2, 1) := by decide +kernel
theorem d_E_expire_11 : decode b_E_expire 11 = .ok (.sipush 10000, 3) := by decide +kernel
theorem d_E_expire_14 : decode b_E_expire 14 = .ok (.invokestatic 64, 3) := by decide +kernel
theorem d_E_expire_17 : decode b_E_expire 17 = .ok (.ifCond .eq 7, 3) := by decide +kernel
theorem d_E_expire_20 : decode b_E_expire 20 = .ok (.iconst 1, 1) := by decide +kernel
theorem d_E_expire_21 : decode b_E_expire 21 = .ok (.goto 4, 3) := by decide +kernel
theorem d_E_expire_24 : decode b_E_expire 24 = .ok (.iconst 0, 1) := by decide +kernel
theorem d_E_expire_25 : decode b_E_expire 25 = .ok (.istore_n 3, 1) := by decide +kernel
theorem d_E_expire_26 : decode b_E_expire 26 = .ok (.aload_n 0, 1) := by decide +kernel
theorem d_E_expire_27 : decode b_E_expire 27 = .ok (.getfield 23, 3) := by decide +kernel
theorem d_E_expire_30 : decode b_E_expire 30 = .ok (.getfield 68, 3) := by decide +kernel
theorem d_E_expire_33 : decode b_E_expire 33 = .ok (.ifCond .gt 7, 3) := by decide +kernel
theorem d_E_expire_36 : decode b_E_expire 36 = .ok (.iload_n 3, 1) := by decide +kernel
theorem d_E_expire_37 : decode b_E_expire 37 = .ok (.ifCond .ne 5, 3) := by decide +kernel
theorem d_E_expire_40 : decode b_E_expire 40 = .ok (.iconst 0, 1) := by decide +kernel
theorem d_E_expire_41 : decode b_E_expire 41 = .ok (.ireturn, 1) := by decide +kernel
theorem d_E_expire_42 : decode b_E_expire 42 = .ok (.aload_n 0, 1) := by decide +kernel
theorem d_E_expire_43 : decode b_E_expire 43 = .ok (.iload_n 1, 1) := by decide +kernel
theorem d_E_expire_44 : decode b_E_expire 44 = .ok (.putfield 41, 3) := by decide +kernel
theorem d_E_expire_47 : decode b_E_expire 47 = .ok (.aload_n 0, 1) := by decide +kernel
theorem d_E_expire_48 : decode b_E_expire 48 = .ok (.iload_n 2, 1) := by decide +kernel
theorem d_E_expire_49 : decode b_E_expire 49 = .ok (.putfield 45, 3) := by decide +kernel
theorem d_E_expire_52 : decode b_E_expire 52 = .ok (.iconst 1, 1) := by decide +kernel
theorem d_E_expire_53 : decode b_E_expire 53 = .ok (.ireturn, 1) := by decide +kernel
abbrev rm_E_tick : Room := { frames := 1, cells := 0, slots := 0, locals := 21 }
theorem good_E_tick : GoodIn TB (.code y_E_tick b_E_tick 2 (some .boolean) :: TB) := good_of tb_246
theorem hd_E_tick : y_E_tick.cls ≠ "java/lang/invoke/MethodHandle" ∧ y_E_tick.cls ≠ "java/lang/invoke/VarHandle" ∧ (parseMethodDescriptor y_E_tick.desc).map (fun d => d.parameters.length) = some 1 := by decide +kernel
theorem d_E_tick_0 : decode b_E_tick 0 = .ok (.iload_n 1, 1) := by decide +kernel
theorem d_E_tick_1 : decode b_E_tick 1 = .ok (.ldc 71, 2) := by decide +kernel
theorem d_E_tick_3 : decode b_E_tick 3 = .ok (.invokestatic 64, 3) := by decide +kernel
theorem d_E_tick_6 : decode b_E_tick 6 = .ok (.ifCond .ne 5, 3) := by decide +kernel
theorem d_E_tick_9 : decode b_E_tick 9 = .ok (.iconst 0, 1) := by decide +kernel
theorem d_E_tick_10 : decode b_E_tick 10 = .ok (.ireturn, 1) := by decide +kernel
theorem d_E_tick_11 : decode b_E_tick 11 = .ok (.aload_n 0, 1) := by decide +kernel
theorem d_E_tick_12 : decode b_E_tick 12 = .ok (.dup, 1) := by decide +kernel
theorem d_E_tick_13 : decode b_E_tick 13 = .ok (.getfield 51, 3) := by decide +kernel
theorem d_E_tick_16 : decode b_E_tick 16 = .ok (.iload_n 1, 1) := by decide +kernel
theorem d_E_tick_17 : decode b_E_tick 17 = .ok (.iadd, 1) := by decide +kernel
theorem d_E_tick_18 : decode b_E_tick 18 = .ok (.putfield 51, 3) := by decide +kernel
theorem d_E_tick_21 : decode b_E_tick 21 = .ok (.iconst 1, 1) := by decide +kernel
theorem d_E_tick_22 : decode b_E_tick 22 = .ok (.ireturn, 1) := by decide +kernel
