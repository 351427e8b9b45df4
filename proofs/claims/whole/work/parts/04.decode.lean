abbrev rm_E_markReady : Room := { frames := 2, cells := 0, slots := 0, locals := 42 }
theorem good_E_markReady : GoodIn TB (.code y_E_markReady b_E_markReady 4 none :: TB) := good_of tb_255
theorem hd_E_markReady : y_E_markReady.cls ≠ "java/lang/invoke/MethodHandle" ∧ y_E_markReady.cls ≠ "java/lang/invoke/VarHandle" ∧ (parseMethodDescriptor y_E_markReady.desc).map (fun d => d.parameters.length) = some 0 := by decide +kernel
theorem d_E_markReady_0 : decode b_E_markReady 0 = .ok (.aload_n 0, 1) := by decide +kernel
theorem d_E_markReady_1 : decode b_E_markReady 1 = .ok (.getfield 23, 3) := by decide +kernel
theorem d_E_markReady_4 : decode b_E_markReady 4 = .ok (.invokevirtual 174, 3) := by decide +kernel
theorem d_E_markReady_7 : decode b_E_markReady 7 = .ok (.aload_n 0, 1) := by decide +kernel
theorem d_E_markReady_8 : decode b_E_markReady 8 = .ok (.getfield 30, 3) := by decide +kernel
theorem d_E_markReady_11 : decode b_E_markReady 11 = .ok (.invokevirtual 164, 3) := by decide +kernel
theorem d_E_markReady_14 : decode b_E_markReady 14 = .ok (.iconst 0, 1) := by decide +kernel
theorem d_E_markReady_15 : decode b_E_markReady 15 = .ok (.istore_n 1, 1) := by decide +kernel
theorem d_E_markReady_16 : decode b_E_markReady 16 = .ok (.iload_n 1, 1) := by decide +kernel
theorem d_E_markReady_17 : decode b_E_markReady 17 = .ok (.aload_n 0, 1) := by decide +kernel
theorem d_E_markReady_18 : decode b_E_markReady 18 = .ok (.getfield 16, 3) := by decide +kernel
theorem d_E_markReady_21 : decode b_E_markReady 21 = .ok (.getfield 134, 3) := by decide +kernel
theorem d_E_markReady_24 : decode b_E_markReady 24 = .ok (.if_icmp .ge 85, 3) := by decide +kernel
theorem d_E_markReady_27 : decode b_E_markReady 27 = .ok (.aload_n 0, 1) := by decide +kernel
theorem d_E_markReady_28 : decode b_E_markReady 28 = .ok (.getfield 16, 3) := by decide +kernel
theorem d_E_markReady_31 : decode b_E_markReady 31 = .ok (.getfield 89, 3) := by decide +kernel
theorem d_E_markReady_34 : decode b_E_markReady 34 = .ok (.iload_n 1, 1) := by decide +kernel
theorem d_E_markReady_35 : decode b_E_markReady 35 = .ok (.baload, 1) := by decide +kernel
theorem d_E_markReady_36 : decode b_E_markReady 36 = .ok (.ifCond .ne 67, 3) := by decide +kernel
theorem d_E_markReady_39 : decode b_E_markReady 39 = .ok (.aload_n 0, 1) := by decide +kernel
theorem d_E_markReady_40 : decode b_E_markReady 40 = .ok (.getfield 16, 3) := by decide +kernel
theorem d_E_markReady_43 : decode b_E_markReady 43 = .ok (.iload_n 1, 1) := by decide +kernel
theorem d_E_markReady_44 : decode b_E_markReady 44 = .ok (.invokevirtual 167, 3) := by decide +kernel
theorem d_E_markReady_47 : decode b_E_markReady 47 = .ok (.lstore_n 2, 1) := by decide +kernel
theorem d_E_markReady_48 : decode b_E_markReady 48 = .ok (.aload_n 0, 1) := by decide +kernel
theorem d_E_markReady_49 : decode b_E_markReady 49 = .ok (.getfield 30, 3) := by decide +kernel
theorem d_E_markReady_52 : decode b_E_markReady 52 = .ok (.aload_n 0, 1) := by decide +kernel
theorem d_E_markReady_53 : decode b_E_markReady 53 = .ok (.getfield 16, 3) := by decide +kernel
theorem d_E_markReady_56 : decode b_E_markReady 56 = .ok (.getfield 93, 3) := by decide +kernel
theorem d_E_markReady_59 : decode b_E_markReady 59 = .ok (.iload_n 1, 1) := by decide +kernel
theorem d_E_markReady_60 : decode b_E_markReady 60 = .ok (.iaload, 1) := by decide +kernel
theorem d_E_markReady_61 : decode b_E_markReady 61 = .ok (.lload_n 2, 1) := by decide +kernel
theorem d_E_markReady_62 : decode b_E_markReady 62 = .ok (.invokevirtual 157, 3) := by decide +kernel
theorem d_E_markReady_65 : decode b_E_markReady 65 = .ok (.ifCond .eq 21, 3) := by decide +kernel
theorem d_E_markReady_68 : decode b_E_markReady 68 = .ok (.aload_n 0, 1) := by decide +kernel
theorem d_E_markReady_69 : decode b_E_markReady 69 = .ok (.getfield 23, 3) := by decide +kernel
theorem d_E_markReady_72 : decode b_E_markReady 72 = .ok (.getfield 177, 3) := by decide +kernel
theorem d_E_markReady_75 : decode b_E_markReady 75 = .ok (.aload_n 0, 1) := by decide +kernel
theorem d_E_markReady_76 : decode b_E_markReady 76 = .ok (.getfield 16, 3) := by decide +kernel
theorem d_E_markReady_79 : decode b_E_markReady 79 = .ok (.getfield 112, 3) := by decide +kernel
theorem d_E_markReady_82 : decode b_E_markReady 82 = .ok (.iload_n 1, 1) := by decide +kernel
theorem d_E_markReady_83 : decode b_E_markReady 83 = .ok (.iaload, 1) := by decide +kernel
theorem d_E_markReady_84 : decode b_E_markReady 84 = .ok (.iconst 0, 1) := by decide +kernel
theorem d_E_markReady_85 : decode b_E_markReady 85 = .ok (.bastore, 1) := by decide +kernel
theorem d_E_markReady_86 : decode b_E_markReady 86 = .ok (.aload_n 0, 1) := by decide +kernel
theorem d_E_markReady_87 : decode b_E_markReady 87 = .ok (.getfield 30, 3) := by decide +kernel
theorem d_E_markReady_90 : decode b_E_markReady 90 = .ok (.aload_n 0, 1) := by decide +kernel
theorem d_E_markReady_91 : decode b_E_markReady 91 = .ok (.getfield 16, 3) := by decide +kernel
theorem d_E_markReady_94 : decode b_E_markReady 94 = .ok (.getfield 93, 3) := by decide +kernel
theorem d_E_markReady_97 : decode b_E_markReady 97 = .ok (.iload_n 1, 1) := by decide +kernel
theorem d_E_markReady_98 : decode b_E_markReady 98 = .ok (.iaload, 1) := by decide +kernel
theorem d_E_markReady_99 : decode b_E_markReady 99 = .ok (.lload_n 2, 1) := by decide +kernel
theorem d_E_markReady_100 : decode b_E_markReady 100 = .ok (.invokevirtual 171, 3) := by decide +kernel
theorem d_E_markReady_103 : decode b_E_markReady 103 = .ok (.iinc 1 1, 3) := by decide +kernel
theorem d_E_markReady_106 : decode b_E_markReady 106 = .ok (.goto (-90), 3) := by decide +kernel
theorem d_E_markReady_109 : decode b_E_markReady 109 = .ok (.return_, 1) := by decide +kernel
abbrev rm_E_firstOfBatch : Room := { frames := 2, cells := 0, slots := 0, locals := 47 }
theorem good_E_firstOfBatch : GoodIn TB (.code y_E_firstOfBatch b_E_firstOfBatch 4 (some .int) :: TB) := good_of tb_288
theorem hd_E_firstOfBatch : y_E_firstOfBatch.cls ≠ "java/lang/invoke/MethodHandle" ∧ y_E_firstOfBatch.cls ≠ "java/lang/invoke/VarHandle" ∧ (parseMethodDescriptor y_E_firstOfBatch.desc).map (fun d => d.parameters.length) = some 1 := by decide +kernel
theorem d_E_firstOfBatch_0 : decode b_E_firstOfBatch 0 = .ok (.aload_n 0, 1) := by decide +kernel
theorem d_E_firstOfBatch_1 : decode b_E_firstOfBatch 1 = .ok (.getfield 23, 3) := by decide +kernel
theorem d_E_firstOfBatch_4 : decode b_E_firstOfBatch 4 = .ok (.iload_n 1, 1) := by decide +kernel
theorem d_E_firstOfBatch_5 : decode b_E_firstOfBatch 5 = .ok (.aload_n 0, 1) := by decide +kernel
theorem d_E_firstOfBatch_6 : decode b_E_firstOfBatch 6 = .ok (.getfield 51, 3) := by decide +kernel
theorem d_E_firstOfBatch_9 : decode b_E_firstOfBatch 9 = .ok (.invokevirtual 199, 3) := by decide +kernel
theorem d_E_firstOfBatch_12 : decode b_E_firstOfBatch 12 = .ok (.istore_n 2, 1) := by decide +kernel
theorem d_E_firstOfBatch_13 : decode b_E_firstOfBatch 13 = .ok (.iload_n 2, 1) := by decide +kernel
theorem d_E_firstOfBatch_14 : decode b_E_firstOfBatch 14 = .ok (.iconst (-1), 1) := by decide +kernel
theorem d_E_firstOfBatch_15 : decode b_E_firstOfBatch 15 = .ok (.if_icmp .eq 5, 3) := by decide +kernel
theorem d_E_firstOfBatch_18 : decode b_E_firstOfBatch 18 = .ok (.iload_n 2, 1) := by decide +kernel
theorem d_E_firstOfBatch_19 : decode b_E_firstOfBatch 19 = .ok (.ireturn, 1) := by decide +kernel
theorem d_E_firstOfBatch_20 : decode b_E_firstOfBatch 20 = .ok (.aload_n 0, 1) := by decide +kernel
theorem d_E_firstOfBatch_21 : decode b_E_firstOfBatch 21 = .ok (.getfield 23, 3) := by decide +kernel
theorem d_E_firstOfBatch_24 : decode b_E_firstOfBatch 24 = .ok (.iload_n 1, 1) := by decide +kernel
theorem d_E_firstOfBatch_25 : decode b_E_firstOfBatch 25 = .ok (.aload_n 0, 1) := by decide +kernel
theorem d_E_firstOfBatch_26 : decode b_E_firstOfBatch 26 = .ok (.getfield 54, 3) := by decide +kernel
theorem d_E_firstOfBatch_29 : decode b_E_firstOfBatch 29 = .ok (.invokevirtual 184, 3) := by decide +kernel
theorem d_E_firstOfBatch_32 : decode b_E_firstOfBatch 32 = .ok (.istore_n 3, 1) := by decide +kernel
theorem d_E_firstOfBatch_33 : decode b_E_firstOfBatch 33 = .ok (.iload_n 3, 1) := by decide +kernel
theorem d_E_firstOfBatch_34 : decode b_E_firstOfBatch 34 = .ok (.iconst (-1), 1) := by decide +kernel
theorem d_E_firstOfBatch_35 : decode b_E_firstOfBatch 35 = .ok (.if_icmp .eq 7, 3) := by decide +kernel
theorem d_E_firstOfBatch_38 : decode b_E_firstOfBatch 38 = .ok (.iload_n 3, 1) := by decide +kernel
theorem d_E_firstOfBatch_39 : decode b_E_firstOfBatch 39 = .ok (.goto 12, 3) := by decide +kernel
theorem d_E_firstOfBatch_42 : decode b_E_firstOfBatch 42 = .ok (.aload_n 0, 1) := by decide +kernel
theorem d_E_firstOfBatch_43 : decode b_E_firstOfBatch 43 = .ok (.getfield 23, 3) := by decide +kernel
theorem d_E_firstOfBatch_46 : decode b_E_firstOfBatch 46 = .ok (.iload_n 1, 1) := by decide +kernel
theorem d_E_firstOfBatch_47 : decode b_E_firstOfBatch 47 = .ok (.iconst 0, 1) := by decide +kernel
theorem d_E_firstOfBatch_48 : decode b_E_firstOfBatch 48 = .ok (.invokevirtual 184, 3) := by decide +kernel
theorem d_E_firstOfBatch_51 : decode b_E_firstOfBatch 51 = .ok (.ireturn, 1) := by decide +kernel
abbrev rm_E_pick : Room := { frames := 3, cells := 0, slots := 0, locals := 70 }
theorem good_E_pick : GoodIn TB (.code y_E_pick b_E_pick 3 (some .int) :: TB) := good_of tb_263
theorem hd_E_pick : y_E_pick.cls ≠ "java/lang/invoke/MethodHandle" ∧ y_E_pick.cls ≠ "java/lang/invoke/VarHandle" ∧ (parseMethodDescriptor y_E_pick.desc).map (fun d => d.parameters.length) = some 0 := by decide +kernel
theorem d_E_pick_0 : decode b_E_pick 0 = .ok (.aload_n 0, 1) := by decide +kernel
theorem d_E_pick_1 : decode b_E_pick 1 = .ok (.getfield 37, 3) := by decide +kernel
theorem d_E_pick_4 : decode b_E_pick 4 = .ok (.invokevirtual 180, 3) := by decide +kernel
theorem d_E_pick_7 : decode b_E_pick 7 = .ok (.ifCond .eq 42, 3) := by decide +kernel
theorem d_E_pick_10 : decode b_E_pick 10 = .ok (.aload_n 0, 1) := by decide +kernel
theorem d_E_pick_11 : decode b_E_pick 11 = .ok (.getfield 23, 3) := by decide +kernel
theorem d_E_pick_14 : decode b_E_pick 14 = .ok (.aload_n 0, 1) := by decide +kernel
theorem d_E_pick_15 : decode b_E_pick 15 = .ok (.getfield 37, 3) := by decide +kernel
theorem d_E_pick_18 : decode b_E_pick 18 = .ok (.getfield 128, 3) := by decide +kernel
theorem d_E_pick_21 : decode b_E_pick 21 = .ok (.aload_n 0, 1) := by decide +kernel
theorem d_E_pick_22 : decode b_E_pick 22 = .ok (.getfield 54, 3) := by decide +kernel
theorem d_E_pick_25 : decode b_E_pick 25 = .ok (.invokevirtual 184, 3) := by decide +kernel
theorem d_E_pick_28 : decode b_E_pick 28 = .ok (.istore_n 1, 1) := by decide +kernel
theorem d_E_pick_29 : decode b_E_pick 29 = .ok (.iload_n 1, 1) := by decide +kernel
theorem d_E_pick_30 : decode b_E_pick 30 = .ok (.iconst (-1), 1) := by decide +kernel
theorem d_E_pick_31 : decode b_E_pick 31 = .ok (.if_icmp .eq 18, 3) := by decide +kernel
theorem d_E_pick_34 : decode b_E_pick 34 = .ok (.aload_n 0, 1) := by decide +kernel
theorem d_E_pick_35 : decode b_E_pick 35 = .ok (.getfield 37, 3) := by decide +kernel
theorem d_E_pick_38 : decode b_E_pick 38 = .ok (.dup, 1) := by decide +kernel
theorem d_E_pick_39 : decode b_E_pick 39 = .ok (.getfield 130, 3) := by decide +kernel
theorem d_E_pick_42 : decode b_E_pick 42 = .ok (.iconst 1, 1) := by decide +kernel
theorem d_E_pick_43 : decode b_E_pick 43 = .ok (.iadd, 1) := by decide +kernel
theorem d_E_pick_44 : decode b_E_pick 44 = .ok (.putfield 130, 3) := by decide +kernel
theorem d_E_pick_47 : decode b_E_pick 47 = .ok (.iload_n 1, 1) := by decide +kernel
theorem d_E_pick_48 : decode b_E_pick 48 = .ok (.ireturn, 1) := by decide +kernel
theorem d_E_pick_49 : decode b_E_pick 49 = .ok (.aload_n 0, 1) := by decide +kernel
theorem d_E_pick_50 : decode b_E_pick 50 = .ok (.getfield 23, 3) := by decide +kernel
theorem d_E_pick_53 : decode b_E_pick 53 = .ok (.iconst 0, 1) := by decide +kernel
theorem d_E_pick_54 : decode b_E_pick 54 = .ok (.invokevirtual 188, 3) := by decide +kernel
theorem d_E_pick_57 : decode b_E_pick 57 = .ok (.istore_n 1, 1) := by decide +kernel
theorem d_E_pick_58 : decode b_E_pick 58 = .ok (.aload_n 0, 1) := by decide +kernel
theorem d_E_pick_59 : decode b_E_pick 59 = .ok (.getfield 23, 3) := by decide +kernel
theorem d_E_pick_62 : decode b_E_pick 62 = .ok (.iconst 1, 1) := by decide +kernel
theorem d_E_pick_63 : decode b_E_pick 63 = .ok (.invokevirtual 188, 3) := by decide +kernel
theorem d_E_pick_66 : decode b_E_pick 66 = .ok (.istore_n 2, 1) := by decide +kernel
theorem d_E_pick_67 : decode b_E_pick 67 = .ok (.iload_n 1, 1) := by decide +kernel
theorem d_E_pick_68 : decode b_E_pick 68 = .ok (.ifCond .ne 9, 3) := by decide +kernel
theorem d_E_pick_71 : decode b_E_pick 71 = .ok (.iload_n 2, 1) := by decide +kernel
theorem d_E_pick_72 : decode b_E_pick 72 = .ok (.ifCond .ne 5, 3) := by decide +kernel
theorem d_E_pick_75 : decode b_E_pick 75 = .ok (.iconst (-1), 1) := by decide +kernel
theorem d_E_pick_76 : decode b_E_pick 76 = .ok (.ireturn, 1) := by decide +kernel
theorem d_E_pick_77 : decode b_E_pick 77 = .ok (.aload_n 0, 1) := by decide +kernel
theorem d_E_pick_78 : decode b_E_pick 78 = .ok (.getfield 37, 3) := by decide +kernel
theorem d_E_pick_81 : decode b_E_pick 81 = .ok (.iload_n 1, 1) := by decide +kernel
theorem d_E_pick_82 : decode b_E_pick 82 = .ok (.iload_n 2, 1) := by decide +kernel
theorem d_E_pick_83 : decode b_E_pick 83 = .ok (.invokevirtual 191, 3) := by decide +kernel
theorem d_E_pick_86 : decode b_E_pick 86 = .ok (.aload_n 0, 1) := by decide +kernel
theorem d_E_pick_87 : decode b_E_pick 87 = .ok (.aload_n 0, 1) := by decide +kernel
theorem d_E_pick_88 : decode b_E_pick 88 = .ok (.getfield 37, 3) := by decide +kernel
theorem d_E_pick_91 : decode b_E_pick 91 = .ok (.getfield 128, 3) := by decide +kernel
theorem d_E_pick_94 : decode b_E_pick 94 = .ok (.invokevirtual 195, 3) := by decide +kernel
theorem d_E_pick_97 : decode b_E_pick 97 = .ok (.ireturn, 1) := by decide +kernel
abbrev rm_E_carryOut : Room := { frames := 2, cells := 0, slots := 0, locals := 83 }
theorem good_E_carryOut : GoodIn TB (.code y_E_carryOut b_E_carryOut 3 none :: TB) := good_of tb_296
theorem hd_E_carryOut : y_E_carryOut.cls ≠ "java/lang/invoke/MethodHandle" ∧ y_E_carryOut.cls ≠ "java/lang/invoke/VarHandle" ∧ (parseMethodDescriptor y_E_carryOut.desc).map (fun d => d.parameters.length) = some 1 := by decide +kernel
theorem d_E_carryOut_0 : decode b_E_carryOut 0 = .ok (.iload_n 1, 1) := by decide +kernel
theorem d_E_carryOut_1 : decode b_E_carryOut 1 = .ok (.istore_n 2, 1) := by decide +kernel
theorem d_E_carryOut_2 : decode b_E_carryOut 2 = .ok (.iload_n 2, 1) := by decide +kernel
theorem d_E_carryOut_3 : decode b_E_carryOut 3 = .ok (.aload_n 0, 1) := by decide +kernel
theorem d_E_carryOut_4 : decode b_E_carryOut 4 = .ok (.getfield 16, 3) := by decide +kernel
theorem d_E_carryOut_7 : decode b_E_carryOut 7 = .ok (.getfield 134, 3) := by decide +kernel
theorem d_E_carryOut_10 : decode b_E_carryOut 10 = .ok (.if_icmp .ge 34, 3) := by decide +kernel
theorem d_E_carryOut_13 : decode b_E_carryOut 13 = .ok (.aload_n 0, 1) := by decide +kernel
theorem d_E_carryOut_14 : decode b_E_carryOut 14 = .ok (.getfield 16, 3) := by decide +kernel
theorem d_E_carryOut_17 : decode b_E_carryOut 17 = .ok (.getfield 112, 3) := by decide +kernel
theorem d_E_carryOut_20 : decode b_E_carryOut 20 = .ok (.iload_n 2, 1) := by decide +kernel
theorem d_E_carryOut_21 : decode b_E_carryOut 21 = .ok (.iaload, 1) := by decide +kernel
theorem d_E_carryOut_22 : decode b_E_carryOut 22 = .ok (.iload_n 1, 1) := by decide +kernel
theorem d_E_carryOut_23 : decode b_E_carryOut 23 = .ok (.if_icmp .ne 15, 3) := by decide +kernel
theorem d_E_carryOut_26 : decode b_E_carryOut 26 = .ok (.aload_n 0, 1) := by decide +kernel
theorem d_E_carryOut_27 : decode b_E_carryOut 27 = .ok (.getfield 16, 3) := by decide +kernel
theorem d_E_carryOut_30 : decode b_E_carryOut 30 = .ok (.iload_n 2, 1) := by decide +kernel
theorem d_E_carryOut_31 : decode b_E_carryOut 31 = .ok (.aload_n 0, 1) := by decide +kernel
theorem d_E_carryOut_32 : decode b_E_carryOut 32 = .ok (.getfield 9, 3) := by decide +kernel
theorem d_E_carryOut_35 : decode b_E_carryOut 35 = .ok (.invokevirtual 202, 3) := by decide +kernel
theorem d_E_carryOut_38 : decode b_E_carryOut 38 = .ok (.iinc 2 1, 3) := by decide +kernel
theorem d_E_carryOut_41 : decode b_E_carryOut 41 = .ok (.goto (-39), 3) := by decide +kernel
theorem d_E_carryOut_44 : decode b_E_carryOut 44 = .ok (.aload_n 0, 1) := by decide +kernel
theorem d_E_carryOut_45 : decode b_E_carryOut 45 = .ok (.getfield 23, 3) := by decide +kernel
theorem d_E_carryOut_48 : decode b_E_carryOut 48 = .ok (.iload_n 1, 1) := by decide +kernel
theorem d_E_carryOut_49 : decode b_E_carryOut 49 = .ok (.invokevirtual 205, 3) := by decide +kernel
theorem d_E_carryOut_52 : decode b_E_carryOut 52 = .ok (.aload_n 0, 1) := by decide +kernel
theorem d_E_carryOut_53 : decode b_E_carryOut 53 = .ok (.aload_n 0, 1) := by decide +kernel
theorem d_E_carryOut_54 : decode b_E_carryOut 54 = .ok (.getfield 23, 3) := by decide +kernel
theorem d_E_carryOut_57 : decode b_E_carryOut 57 = .ok (.iload_n 1, 1) := by decide +kernel
theorem d_E_carryOut_58 : decode b_E_carryOut 58 = .ok (.invokevirtual 208, 3) := by decide +kernel
theorem d_E_carryOut_61 : decode b_E_carryOut 61 = .ok (.putfield 54, 3) := by decide +kernel
theorem d_E_carryOut_64 : decode b_E_carryOut 64 = .ok (.aload_n 0, 1) := by decide +kernel
theorem d_E_carryOut_65 : decode b_E_carryOut 65 = .ok (.iload_n 1, 1) := by decide +kernel
theorem d_E_carryOut_66 : decode b_E_carryOut 66 = .ok (.putfield 57, 3) := by decide +kernel
theorem d_E_carryOut_69 : decode b_E_carryOut 69 = .ok (.return_, 1) := by decide +kernel
abbrev rm_E_dispatch : Room := { frames := 4, cells := 0, slots := 0, locals := 105 }
theorem good_E_dispatch : GoodIn TB (.code y_E_dispatch b_E_dispatch 2 (some .int) :: TB) := good_of tb_251
theorem hd_E_dispatch : y_E_dispatch.cls ≠ "java/lang/invoke/MethodHandle" ∧ y_E_dispatch.cls ≠ "java/lang/invoke/VarHandle" ∧ (parseMethodDescriptor y_E_dispatch.desc).map (fun d => d.parameters.length) = some 0 := by decide +kernel
theorem d_E_dispatch_0 : decode b_E_dispatch 0 = .ok (.aload_n 0, 1) := by decide +kernel
theorem d_E_dispatch_1 : decode b_E_dispatch 1 = .ok (.invokevirtual 72, 3) := by decide +kernel
theorem d_E_dispatch_4 : decode b_E_dispatch 4 = .ok (.aload_n 0, 1) := by decide +kernel
theorem d_E_dispatch_5 : decode b_E_dispatch 5 = .ok (.invokevirtual 75, 3) := by decide +kernel
theorem d_E_dispatch_8 : decode b_E_dispatch 8 = .ok (.istore_n 1, 1) := by decide +kernel
theorem d_E_dispatch_9 : decode b_E_dispatch 9 = .ok (.iload_n 1, 1) := by decide +kernel
theorem d_E_dispatch_10 : decode b_E_dispatch 10 = .ok (.iconst (-1), 1) := by decide +kernel
theorem d_E_dispatch_11 : decode b_E_dispatch 11 = .ok (.if_icmp .ne 5, 3) := by decide +kernel
theorem d_E_dispatch_14 : decode b_E_dispatch 14 = .ok (.iconst 0, 1) := by decide +kernel
theorem d_E_dispatch_15 : decode b_E_dispatch 15 = .ok (.ireturn, 1) := by decide +kernel
theorem d_E_dispatch_16 : decode b_E_dispatch 16 = .ok (.aload_n 0, 1) := by decide +kernel
theorem d_E_dispatch_17 : decode b_E_dispatch 17 = .ok (.iload_n 1, 1) := by decide +kernel
theorem d_E_dispatch_18 : decode b_E_dispatch 18 = .ok (.invokevirtual 79, 3) := by decide +kernel
theorem d_E_dispatch_21 : decode b_E_dispatch 21 = .ok (.aload_n 0, 1) := by decide +kernel
theorem d_E_dispatch_22 : decode b_E_dispatch 22 = .ok (.getfield 23, 3) := by decide +kernel
theorem d_E_dispatch_25 : decode b_E_dispatch 25 = .ok (.getfield 83, 3) := by decide +kernel
theorem d_E_dispatch_28 : decode b_E_dispatch 28 = .ok (.iload_n 1, 1) := by decide +kernel
theorem d_E_dispatch_29 : decode b_E_dispatch 29 = .ok (.iaload, 1) := by decide +kernel
theorem d_E_dispatch_30 : decode b_E_dispatch 30 = .ok (.ireturn, 1) := by decide +kernel
abbrev rm_E_state : Room := { frames := 1, cells := 0, slots := 0, locals := 21 }
theorem good_E_state : GoodIn TB (.code y_E_state b_E_state 2 (some .int) :: TB) := good_of tb_312
theorem hd_E_state : y_E_state.cls ≠ "java/lang/invoke/MethodHandle" ∧ y_E_state.cls ≠ "java/lang/invoke/VarHandle" ∧ (parseMethodDescriptor y_E_state.desc).map (fun d => d.parameters.length) = some 1 := by decide +kernel
theorem d_E_state_0 : decode b_E_state 0 = .ok (.aload_n 0, 1) := by decide +kernel
theorem d_E_state_1 : decode b_E_state 1 = .ok (.getfield 16, 3) := by decide +kernel
theorem d_E_state_4 : decode b_E_state 4 = .ok (.iload_n 1, 1) := by decide +kernel
theorem d_E_state_5 : decode b_E_state 5 = .ok (.invokevirtual 85, 3) := by decide +kernel
theorem d_E_state_8 : decode b_E_state 8 = .ok (.ifCond .ne 5, 3) := by decide +kernel
theorem d_E_state_11 : decode b_E_state 11 = .ok (.iconst 0, 1) := by decide +kernel
theorem d_E_state_12 : decode b_E_state 12 = .ok (.ireturn, 1) := by decide +kernel
theorem d_E_state_13 : decode b_E_state 13 = .ok (.aload_n 0, 1) := by decide +kernel
theorem d_E_state_14 : decode b_E_state 14 = .ok (.getfield 16, 3) := by decide +kernel
theorem d_E_state_17 : decode b_E_state 17 = .ok (.getfield 89, 3) := by decide +kernel
theorem d_E_state_20 : decode b_E_state 20 = .ok (.iload_n 1, 1) := by decide +kernel
theorem d_E_state_21 : decode b_E_state 21 = .ok (.baload, 1) := by decide +kernel
theorem d_E_state_22 : decode b_E_state 22 = .ok (.ifCond .eq 7, 3) := by decide +kernel
theorem d_E_state_25 : decode b_E_state 25 = .ok (.iconst 2, 1) := by decide +kernel
theorem d_E_state_26 : decode b_E_state 26 = .ok (.goto 4, 3) := by decide +kernel
theorem d_E_state_29 : decode b_E_state 29 = .ok (.iconst 1, 1) := by decide +kernel
theorem d_E_state_30 : decode b_E_state 30 = .ok (.ireturn, 1) := by decide +kernel
abbrev rm_E_value : Room := { frames := 1, cells := 0, slots := 0, locals := 21 }
theorem good_E_value : GoodIn TB (.code y_E_value b_E_value 3 (some .int) :: TB) := good_of tb_320
theorem hd_E_value : y_E_value.cls ≠ "java/lang/invoke/MethodHandle" ∧ y_E_value.cls ≠ "java/lang/invoke/VarHandle" ∧ (parseMethodDescriptor y_E_value.desc).map (fun d => d.parameters.length) = some 2 := by decide +kernel
theorem d_E_value_0 : decode b_E_value 0 = .ok (.aload_n 0, 1) := by decide +kernel
theorem d_E_value_1 : decode b_E_value 1 = .ok (.getfield 16, 3) := by decide +kernel
theorem d_E_value_4 : decode b_E_value 4 = .ok (.iload_n 1, 1) := by decide +kernel
theorem d_E_value_5 : decode b_E_value 5 = .ok (.invokevirtual 85, 3) := by decide +kernel
theorem d_E_value_8 : decode b_E_value 8 = .ok (.ifCond .eq 27, 3) := by decide +kernel
theorem d_E_value_11 : decode b_E_value 11 = .ok (.aload_n 0, 1) := by decide +kernel
theorem d_E_value_12 : decode b_E_value 12 = .ok (.getfield 16, 3) := by decide +kernel
theorem d_E_value_15 : decode b_E_value 15 = .ok (.getfield 89, 3) := by decide +kernel
theorem d_E_value_18 : decode b_E_value 18 = .ok (.iload_n 1, 1) := by decide +kernel
theorem d_E_value_19 : decode b_E_value 19 = .ok (.baload, 1) := by decide +kernel
theorem d_E_value_20 : decode b_E_value 20 = .ok (.ifCond .eq 15, 3) := by decide +kernel
theorem d_E_value_23 : decode b_E_value 23 = .ok (.aload_n 0, 1) := by decide +kernel
theorem d_E_value_24 : decode b_E_value 24 = .ok (.getfield 16, 3) := by decide +kernel
theorem d_E_value_27 : decode b_E_value 27 = .ok (.getfield 93, 3) := by decide +kernel
theorem d_E_value_30 : decode b_E_value 30 = .ok (.iload_n 1, 1) := by decide +kernel
theorem d_E_value_31 : decode b_E_value 31 = .ok (.iaload, 1) := by decide +kernel
theorem d_E_value_32 : decode b_E_value 32 = .ok (.ifCond .eq 5, 3) := by decide +kernel
theorem d_E_value_35 : decode b_E_value 35 = .ok (.iconst 0, 1) := by decide +kernel
theorem d_E_value_36 : decode b_E_value 36 = .ok (.ireturn, 1) := by decide +kernel
theorem d_E_value_37 : decode b_E_value 37 = .ok (.iload_n 2, 1) := by decide +kernel
theorem d_E_value_38 : decode b_E_value 38 = .ok (.ifCond .lt 16, 3) := by decide +kernel
theorem d_E_value_41 : decode b_E_value 41 = .ok (.iload_n 2, 1) := by decide +kernel
theorem d_E_value_42 : decode b_E_value 42 = .ok (.aload_n 0, 1) := by decide +kernel
theorem d_E_value_43 : decode b_E_value 43 = .ok (.getfield 16, 3) := by decide +kernel
theorem d_E_value_46 : decode b_E_value 46 = .ok (.getfield 96, 3) := by decide +kernel
theorem d_E_value_49 : decode b_E_value 49 = .ok (.iload_n 1, 1) := by decide +kernel
theorem d_E_value_50 : decode b_E_value 50 = .ok (.iaload, 1) := by decide +kernel
theorem d_E_value_51 : decode b_E_value 51 = .ok (.if_icmp .lt 5, 3) := by decide +kernel
theorem d_E_value_54 : decode b_E_value 54 = .ok (.iconst 0, 1) := by decide +kernel
theorem d_E_value_55 : decode b_E_value 55 = .ok (.ireturn, 1) := by decide +kernel
theorem d_E_value_56 : decode b_E_value 56 = .ok (.aload_n 0, 1) := by decide +kernel
theorem d_E_value_57 : decode b_E_value 57 = .ok (.getfield 16, 3) := by decide +kernel
theorem d_E_value_60 : decode b_E_value 60 = .ok (.getfield 99, 3) := by decide +kernel
theorem d_E_value_63 : decode b_E_value 63 = .ok (.iload_n 1, 1) := by decide +kernel
theorem d_E_value_64 : decode b_E_value 64 = .ok (.bipush 8, 2) := by decide +kernel
theorem d_E_value_66 : decode b_E_value 66 = .ok (.imul, 1) := by decide +kernel
theorem d_E_value_67 : decode b_E_value 67 = .ok (.iload_n 2, 1) := by decide +kernel
theorem d_E_value_68 : decode b_E_value 68 = .ok (.iadd, 1) := by decide +kernel
theorem d_E_value_69 : decode b_E_value 69 = .ok (.iaload, 1) := by decide +kernel
theorem d_E_value_70 : decode b_E_value 70 = .ok (.ireturn, 1) := by decide +kernel
abbrev rm_E_sector : Room := { frames := 1, cells := 0, slots := 0, locals := 21 }
theorem good_E_sector : GoodIn TB (.code y_E_sector b_E_sector 2 (some .int) :: TB) := good_of tb_324
theorem hd_E_sector : y_E_sector.cls ≠ "java/lang/invoke/MethodHandle" ∧ y_E_sector.cls ≠ "java/lang/invoke/VarHandle" ∧ (parseMethodDescriptor y_E_sector.desc).map (fun d => d.parameters.length) = some 1 := by decide +kernel
theorem d_E_sector_0 : decode b_E_sector 0 = .ok (.iload_n 1, 1) := by decide +kernel
theorem d_E_sector_1 : decode b_E_sector 1 = .ok (.bipush 63, 2) := by decide +kernel
theorem d_E_sector_3 : decode b_E_sector 3 = .ok (.invokestatic 64, 3) := by decide +kernel
theorem d_E_sector_6 : decode b_E_sector 6 = .ok (.ifCond .eq 12, 3) := by decide +kernel
theorem d_E_sector_9 : decode b_E_sector 9 = .ok (.aload_n 0, 1) := by decide +kernel
theorem d_E_sector_10 : decode b_E_sector 10 = .ok (.getfield 9, 3) := by decide +kernel
theorem d_E_sector_13 : decode b_E_sector 13 = .ok (.iload_n 1, 1) := by decide +kernel
theorem d_E_sector_14 : decode b_E_sector 14 = .ok (.iaload, 1) := by decide +kernel
theorem d_E_sector_15 : decode b_E_sector 15 = .ok (.goto 4, 3) := by decide +kernel
theorem d_E_sector_18 : decode b_E_sector 18 = .ok (.iconst 0, 1) := by decide +kernel
theorem d_E_sector_19 : decode b_E_sector 19 = .ok (.ireturn, 1) := by decide +kernel
abbrev rm_E_waiting : Room := { frames := 1, cells := 0, slots := 0, locals := 21 }
theorem good_E_waiting : GoodIn TB (.code y_E_waiting b_E_waiting 4 (some .int) :: TB) := good_of tb_328
theorem hd_E_waiting : y_E_waiting.cls ≠ "java/lang/invoke/MethodHandle" ∧ y_E_waiting.cls ≠ "java/lang/invoke/VarHandle" ∧ (parseMethodDescriptor y_E_waiting.desc).map (fun d => d.parameters.length) = some 1 := by decide +kernel
theorem d_E_waiting_0 : decode b_E_waiting 0 = .ok (.iload_n 1, 1) := by decide +kernel
theorem d_E_waiting_1 : decode b_E_waiting 1 = .ok (.iconst 1, 1) := by decide +kernel
theorem d_E_waiting_2 : decode b_E_waiting 2 = .ok (.invokestatic 64, 3) := by decide +kernel
theorem d_E_waiting_5 : decode b_E_waiting 5 = .ok (.ifCond .ne 5, 3) := by decide +kernel
theorem d_E_waiting_8 : decode b_E_waiting 8 = .ok (.iconst (-1), 1) := by decide +kernel
theorem d_E_waiting_9 : decode b_E_waiting 9 = .ok (.ireturn, 1) := by decide +kernel
theorem d_E_waiting_10 : decode b_E_waiting 10 = .ok (.iconst 0, 1) := by decide +kernel
theorem d_E_waiting_11 : decode b_E_waiting 11 = .ok (.istore_n 2, 1) := by decide +kernel
theorem d_E_waiting_12 : decode b_E_waiting 12 = .ok (.iconst 0, 1) := by decide +kernel
theorem d_E_waiting_13 : decode b_E_waiting 13 = .ok (.istore_n 3, 1) := by decide +kernel
theorem d_E_waiting_14 : decode b_E_waiting 14 = .ok (.iload_n 3, 1) := by decide +kernel
theorem d_E_waiting_15 : decode b_E_waiting 15 = .ok (.aload_n 0, 1) := by decide +kernel
theorem d_E_waiting_16 : decode b_E_waiting 16 = .ok (.getfield 23, 3) := by decide +kernel
theorem d_E_waiting_19 : decode b_E_waiting 19 = .ok (.getfield 68, 3) := by decide +kernel
theorem d_E_waiting_22 : decode b_E_waiting 22 = .ok (.if_icmp .ge 33, 3) := by decide +kernel
theorem d_E_waiting_25 : decode b_E_waiting 25 = .ok (.aload_n 0, 1) := by decide +kernel
theorem d_E_waiting_26 : decode b_E_waiting 26 = .ok (.getfield 23, 3) := by decide +kernel
theorem d_E_waiting_29 : decode b_E_waiting 29 = .ok (.getfield 102, 3) := by decide +kernel
theorem d_E_waiting_32 : decode b_E_waiting 32 = .ok (.aload_n 0, 1) := by decide +kernel
theorem d_E_waiting_33 : decode b_E_waiting 33 = .ok (.getfield 23, 3) := by decide +kernel
theorem d_E_waiting_36 : decode b_E_waiting 36 = .ok (.getfield 103, 3) := by decide +kernel
theorem d_E_waiting_39 : decode b_E_waiting 39 = .ok (.iload_n 3, 1) := by decide +kernel
theorem d_E_waiting_40 : decode b_E_waiting 40 = .ok (.iaload, 1) := by decide +kernel
theorem d_E_waiting_41 : decode b_E_waiting 41 = .ok (.iaload, 1) := by decide +kernel
theorem d_E_waiting_42 : decode b_E_waiting 42 = .ok (.iload_n 1, 1) := by decide +kernel
theorem d_E_waiting_43 : decode b_E_waiting 43 = .ok (.if_icmp .ne 6, 3) := by decide +kernel
theorem d_E_waiting_46 : decode b_E_waiting 46 = .ok (.iinc 2 1, 3) := by decide +kernel
theorem d_E_waiting_49 : decode b_E_waiting 49 = .ok (.iinc 3 1, 3) := by decide +kernel
theorem d_E_waiting_52 : decode b_E_waiting 52 = .ok (.goto (-38), 3) := by decide +kernel
theorem d_E_waiting_55 : decode b_E_waiting 55 = .ok (.iload_n 2, 1) := by decide +kernel
theorem d_E_waiting_56 : decode b_E_waiting 56 = .ok (.ireturn, 1) := by decide +kernel
abbrev rm_E_ready : Room := { frames := 3, cells := 0, slots := 0, locals := 65 }
theorem good_E_ready : GoodIn TB (.code y_E_ready b_E_ready 4 (some .int) :: TB) := good_of tb_332
theorem hd_E_ready : y_E_ready.cls ≠ "java/lang/invoke/MethodHandle" ∧ y_E_ready.cls ≠ "java/lang/invoke/VarHandle" ∧ (parseMethodDescriptor y_E_ready.desc).map (fun d => d.parameters.length) = some 1 := by decide +kernel
theorem d_E_ready_0 : decode b_E_ready 0 = .ok (.iload_n 1, 1) := by decide +kernel
theorem d_E_ready_1 : decode b_E_ready 1 = .ok (.iconst 1, 1) := by decide +kernel
theorem d_E_ready_2 : decode b_E_ready 2 = .ok (.invokestatic 64, 3) := by decide +kernel
theorem d_E_ready_5 : decode b_E_ready 5 = .ok (.ifCond .ne 5, 3) := by decide +kernel
theorem d_E_ready_8 : decode b_E_ready 8 = .ok (.iconst (-1), 1) := by decide +kernel
theorem d_E_ready_9 : decode b_E_ready 9 = .ok (.ireturn, 1) := by decide +kernel
theorem d_E_ready_10 : decode b_E_ready 10 = .ok (.aload_n 0, 1) := by decide +kernel
theorem d_E_ready_11 : decode b_E_ready 11 = .ok (.invokevirtual 72, 3) := by decide +kernel
theorem d_E_ready_14 : decode b_E_ready 14 = .ok (.iconst 0, 1) := by decide +kernel
theorem d_E_ready_15 : decode b_E_ready 15 = .ok (.istore_n 2, 1) := by decide +kernel
theorem d_E_ready_16 : decode b_E_ready 16 = .ok (.iconst 0, 1) := by decide +kernel
theorem d_E_ready_17 : decode b_E_ready 17 = .ok (.istore_n 3, 1) := by decide +kernel
theorem d_E_ready_18 : decode b_E_ready 18 = .ok (.iload_n 3, 1) := by decide +kernel
theorem d_E_ready_19 : decode b_E_ready 19 = .ok (.aload_n 0, 1) := by decide +kernel
theorem d_E_ready_20 : decode b_E_ready 20 = .ok (.getfield 23, 3) := by decide +kernel
theorem d_E_ready_23 : decode b_E_ready 23 = .ok (.getfield 68, 3) := by decide +kernel
theorem d_E_ready_26 : decode b_E_ready 26 = .ok (.if_icmp .ge 32, 3) := by decide +kernel
theorem d_E_ready_29 : decode b_E_ready 29 = .ok (.aload_n 0, 1) := by decide +kernel
theorem d_E_ready_30 : decode b_E_ready 30 = .ok (.getfield 23, 3) := by decide +kernel
theorem d_E_ready_33 : decode b_E_ready 33 = .ok (.aload_n 0, 1) := by decide +kernel
theorem d_E_ready_34 : decode b_E_ready 34 = .ok (.getfield 23, 3) := by decide +kernel
theorem d_E_ready_37 : decode b_E_ready 37 = .ok (.getfield 103, 3) := by decide +kernel
theorem d_E_ready_40 : decode b_E_ready 40 = .ok (.iload_n 3, 1) := by decide +kernel
theorem d_E_ready_41 : decode b_E_ready 41 = .ok (.iaload, 1) := by decide +kernel
theorem d_E_ready_42 : decode b_E_ready 42 = .ok (.iload_n 1, 1) := by decide +kernel
theorem d_E_ready_43 : decode b_E_ready 43 = .ok (.invokevirtual 106, 3) := by decide +kernel
theorem d_E_ready_46 : decode b_E_ready 46 = .ok (.ifCond .eq 6, 3) := by decide +kernel
theorem d_E_ready_49 : decode b_E_ready 49 = .ok (.iinc 2 1, 3) := by decide +kernel
theorem d_E_ready_52 : decode b_E_ready 52 = .ok (.iinc 3 1, 3) := by decide +kernel
theorem d_E_ready_55 : decode b_E_ready 55 = .ok (.goto (-37), 3) := by decide +kernel
theorem d_E_ready_58 : decode b_E_ready 58 = .ok (.iload_n 2, 1) := by decide +kernel
theorem d_E_ready_59 : decode b_E_ready 59 = .ok (.ireturn, 1) := by decide +kernel
abbrev rm_E_requestOf : Room := { frames := 2, cells := 0, slots := 0, locals := 42 }
theorem good_E_requestOf : GoodIn TB (.code y_E_requestOf b_E_requestOf 2 (some .int) :: TB) := good_of tb_337
theorem hd_E_requestOf : y_E_requestOf.cls ≠ "java/lang/invoke/MethodHandle" ∧ y_E_requestOf.cls ≠ "java/lang/invoke/VarHandle" ∧ (parseMethodDescriptor y_E_requestOf.desc).map (fun d => d.parameters.length) = some 1 := by decide +kernel
theorem d_E_requestOf_0 : decode b_E_requestOf 0 = .ok (.aload_n 0, 1) := by decide +kernel
theorem d_E_requestOf_1 : decode b_E_requestOf 1 = .ok (.getfield 16, 3) := by decide +kernel
theorem d_E_requestOf_4 : decode b_E_requestOf 4 = .ok (.iload_n 1, 1) := by decide +kernel
theorem d_E_requestOf_5 : decode b_E_requestOf 5 = .ok (.invokevirtual 109, 3) := by decide +kernel
theorem d_E_requestOf_8 : decode b_E_requestOf 8 = .ok (.ifCond .eq 15, 3) := by decide +kernel
theorem d_E_requestOf_11 : decode b_E_requestOf 11 = .ok (.aload_n 0, 1) := by decide +kernel
theorem d_E_requestOf_12 : decode b_E_requestOf 12 = .ok (.getfield 16, 3) := by decide +kernel
theorem d_E_requestOf_15 : decode b_E_requestOf 15 = .ok (.getfield 112, 3) := by decide +kernel
theorem d_E_requestOf_18 : decode b_E_requestOf 18 = .ok (.iload_n 1, 1) := by decide +kernel
theorem d_E_requestOf_19 : decode b_E_requestOf 19 = .ok (.iaload, 1) := by decide +kernel
theorem d_E_requestOf_20 : decode b_E_requestOf 20 = .ok (.goto 4, 3) := by decide +kernel
theorem d_E_requestOf_23 : decode b_E_requestOf 23 = .ok (.iconst (-1), 1) := by decide +kernel
theorem d_E_requestOf_24 : decode b_E_requestOf 24 = .ok (.ireturn, 1) := by decide +kernel
abbrev rm_E_about : Room := { frames := 2, cells := 0, slots := 0, locals := 42 }
theorem good_E_about : GoodIn TB (.code y_E_about b_E_about 4 (some .int) :: TB) := good_of tb_346
theorem hd_E_about : y_E_about.cls ≠ "java/lang/invoke/MethodHandle" ∧ y_E_about.cls ≠ "java/lang/invoke/VarHandle" ∧ (parseMethodDescriptor y_E_about.desc).map (fun d => d.parameters.length) = some 2 := by decide +kernel
theorem d_E_about_0 : decode b_E_about 0 = .ok (.aload_n 0, 1) := by decide +kernel
theorem d_E_about_1 : decode b_E_about 1 = .ok (.getfield 16, 3) := by decide +kernel
theorem d_E_about_4 : decode b_E_about 4 = .ok (.iload_n 1, 1) := by decide +kernel
theorem d_E_about_5 : decode b_E_about 5 = .ok (.invokevirtual 109, 3) := by decide +kernel
theorem d_E_about_8 : decode b_E_about 8 = .ok (.ifCond .ne 5, 3) := by decide +kernel
theorem d_E_about_11 : decode b_E_about 11 = .ok (.iconst (-1), 1) := by decide +kernel
theorem d_E_about_12 : decode b_E_about 12 = .ok (.ireturn, 1) := by decide +kernel
theorem d_E_about_13 : decode b_E_about 13 = .ok (.aload_n 0, 1) := by decide +kernel
theorem d_E_about_14 : decode b_E_about 14 = .ok (.getfield 16, 3) := by decide +kernel
theorem d_E_about_17 : decode b_E_about 17 = .ok (.getfield 112, 3) := by decide +kernel
theorem d_E_about_20 : decode b_E_about 20 = .ok (.iload_n 1, 1) := by decide +kernel
theorem d_E_about_21 : decode b_E_about 21 = .ok (.iaload, 1) := by decide +kernel
theorem d_E_about_22 : decode b_E_about 22 = .ok (.istore_n 3, 1) := by decide +kernel
theorem d_E_about_23 : decode b_E_about 23 = .ok (.iload_n 2, 1) := by decide +kernel
theorem d_E_about_24 : decode b_E_about 24 = .ok (.tableswitch 86 0 4 #[36, 46, 56, 66, 76], 36) := by decide +kernel
theorem d_E_about_60 : decode b_E_about 60 = .ok (.aload_n 0, 1) := by decide +kernel
theorem d_E_about_61 : decode b_E_about 61 = .ok (.getfield 23, 3) := by decide +kernel
theorem d_E_about_64 : decode b_E_about 64 = .ok (.getfield 115, 3) := by decide +kernel
theorem d_E_about_67 : decode b_E_about 67 = .ok (.iload_n 3, 1) := by decide +kernel
theorem d_E_about_68 : decode b_E_about 68 = .ok (.iaload, 1) := by decide +kernel
theorem d_E_about_69 : decode b_E_about 69 = .ok (.ireturn, 1) := by decide +kernel
theorem d_E_about_70 : decode b_E_about 70 = .ok (.aload_n 0, 1) := by decide +kernel
theorem d_E_about_71 : decode b_E_about 71 = .ok (.getfield 23, 3) := by decide +kernel
theorem d_E_about_74 : decode b_E_about 74 = .ok (.getfield 118, 3) := by decide +kernel
theorem d_E_about_77 : decode b_E_about 77 = .ok (.iload_n 3, 1) := by decide +kernel
theorem d_E_about_78 : decode b_E_about 78 = .ok (.iaload, 1) := by decide +kernel
theorem d_E_about_79 : decode b_E_about 79 = .ok (.ireturn, 1) := by decide +kernel
theorem d_E_about_80 : decode b_E_about 80 = .ok (.aload_n 0, 1) := by decide +kernel
theorem d_E_about_81 : decode b_E_about 81 = .ok (.getfield 23, 3) := by decide +kernel
theorem d_E_about_84 : decode b_E_about 84 = .ok (.getfield 119, 3) := by decide +kernel
theorem d_E_about_87 : decode b_E_about 87 = .ok (.iload_n 3, 1) := by decide +kernel
theorem d_E_about_88 : decode b_E_about 88 = .ok (.iaload, 1) := by decide +kernel
theorem d_E_about_89 : decode b_E_about 89 = .ok (.ireturn, 1) := by decide +kernel
theorem d_E_about_90 : decode b_E_about 90 = .ok (.aload_n 0, 1) := by decide +kernel
theorem d_E_about_91 : decode b_E_about 91 = .ok (.getfield 23, 3) := by decide +kernel
theorem d_E_about_94 : decode b_E_about 94 = .ok (.getfield 122, 3) := by decide +kernel
theorem d_E_about_97 : decode b_E_about 97 = .ok (.iload_n 3, 1) := by decide +kernel
theorem d_E_about_98 : decode b_E_about 98 = .ok (.iaload, 1) := by decide +kernel
theorem d_E_about_99 : decode b_E_about 99 = .ok (.ireturn, 1) := by decide +kernel
theorem d_E_about_100 : decode b_E_about 100 = .ok (.aload_n 0, 1) := by decide +kernel
theorem d_E_about_101 : decode b_E_about 101 = .ok (.getfield 23, 3) := by decide +kernel
theorem d_E_about_104 : decode b_E_about 104 = .ok (.getfield 102, 3) := by decide +kernel
theorem d_E_about_107 : decode b_E_about 107 = .ok (.iload_n 3, 1) := by decide +kernel
theorem d_E_about_108 : decode b_E_about 108 = .ok (.iaload, 1) := by decide +kernel
theorem d_E_about_109 : decode b_E_about 109 = .ok (.ireturn, 1) := by decide +kernel
theorem d_E_about_110 : decode b_E_about 110 = .ok (.iconst (-1), 1) := by decide +kernel
theorem d_E_about_111 : decode b_E_about 111 = .ok (.ireturn, 1) := by decide +kernel
abbrev rm_E_latest : Room := { frames := 0, cells := 0, slots := 0, locals := 0 }
theorem good_E_latest : GoodIn TB (.code y_E_latest b_E_latest 1 (some .int) :: TB) := good_of tb_350
theorem hd_E_latest : y_E_latest.cls ≠ "java/lang/invoke/MethodHandle" ∧ y_E_latest.cls ≠ "java/lang/invoke/VarHandle" ∧ (parseMethodDescriptor y_E_latest.desc).map (fun d => d.parameters.length) = some 0 := by decide +kernel
theorem d_E_latest_0 : decode b_E_latest 0 = .ok (.aload_n 0, 1) := by decide +kernel
theorem d_E_latest_1 : decode b_E_latest 1 = .ok (.getfield 57, 3) := by decide +kernel
theorem d_E_latest_4 : decode b_E_latest 4 = .ok (.ireturn, 1) := by decide +kernel
abbrev rm_E_head : Room := { frames := 0, cells := 0, slots := 0, locals := 0 }
theorem good_E_head : GoodIn TB (.code y_E_head b_E_head 1 (some .int) :: TB) := good_of tb_354
theorem hd_E_head : y_E_head.cls ≠ "java/lang/invoke/MethodHandle" ∧ y_E_head.cls ≠ "java/lang/invoke/VarHandle" ∧ (parseMethodDescriptor y_E_head.desc).map (fun d => d.parameters.length) = some 0 := by decide +kernel
theorem d_E_head_0 : decode b_E_head 0 = .ok (.aload_n 0, 1) := by decide +kernel
theorem d_E_head_1 : decode b_E_head 1 = .ok (.getfield 54, 3) := by decide +kernel
theorem d_E_head_4 : decode b_E_head 4 = .ok (.ireturn, 1) := by decide +kernel
abbrev rm_E_now : Room := { frames := 0, cells := 0, slots := 0, locals := 0 }
theorem good_E_now : GoodIn TB (.code y_E_now b_E_now 1 (some .int) :: TB) := good_of tb_358
theorem hd_E_now : y_E_now.cls ≠ "java/lang/invoke/MethodHandle" ∧ y_E_now.cls ≠ "java/lang/invoke/VarHandle" ∧ (parseMethodDescriptor y_E_now.desc).map (fun d => d.parameters.length) = some 0 := by decide +kernel
theorem d_E_now_0 : decode b_E_now 0 = .ok (.aload_n 0, 1) := by decide +kernel
theorem d_E_now_1 : decode b_E_now 1 = .ok (.getfield 51, 3) := by decide +kernel
theorem d_E_now_4 : decode b_E_now 4 = .ok (.ireturn, 1) := by decide +kernel
abbrev rm_E_batch : Room := { frames := 0, cells := 0, slots := 0, locals := 0 }
theorem good_E_batch : GoodIn TB (.code y_E_batch b_E_batch 1 (some .int) :: TB) := good_of tb_362
theorem hd_E_batch : y_E_batch.cls ≠ "java/lang/invoke/MethodHandle" ∧ y_E_batch.cls ≠ "java/lang/invoke/VarHandle" ∧ (parseMethodDescriptor y_E_batch.desc).map (fun d => d.parameters.length) = some 0 := by decide +kernel
theorem d_E_batch_0 : decode b_E_batch 0 = .ok (.bipush 10, 2) := by decide +kernel
theorem d_E_batch_2 : decode b_E_batch 2 = .ok (.aload_n 0, 1) := by decide +kernel
theorem d_E_batch_3 : decode b_E_batch 3 = .ok (.getfield 37, 3) := by decide +kernel
theorem d_E_batch_6 : decode b_E_batch 6 = .ok (.getfield 125, 3) := by decide +kernel
theorem d_E_batch_9 : decode b_E_batch 9 = .ok (.imul, 1) := by decide +kernel
theorem d_E_batch_10 : decode b_E_batch 10 = .ok (.iconst 5, 1) := by decide +kernel
theorem d_E_batch_11 : decode b_E_batch 11 = .ok (.aload_n 0, 1) := by decide +kernel
theorem d_E_batch_12 : decode b_E_batch 12 = .ok (.getfield 37, 3) := by decide +kernel
theorem d_E_batch_15 : decode b_E_batch 15 = .ok (.getfield 128, 3) := by decide +kernel
theorem d_E_batch_18 : decode b_E_batch 18 = .ok (.imul, 1) := by decide +kernel
theorem d_E_batch_19 : decode b_E_batch 19 = .ok (.iadd, 1) := by decide +kernel
theorem d_E_batch_20 : decode b_E_batch 20 = .ok (.aload_n 0, 1) := by decide +kernel
theorem d_E_batch_21 : decode b_E_batch 21 = .ok (.getfield 37, 3) := by decide +kernel
theorem d_E_batch_24 : decode b_E_batch 24 = .ok (.getfield 130, 3) := by decide +kernel
theorem d_E_batch_27 : decode b_E_batch 27 = .ok (.iadd, 1) := by decide +kernel
theorem d_E_batch_28 : decode b_E_batch 28 = .ok (.ireturn, 1) := by decide +kernel
abbrev rm_M_waits : Room := { frames := 0, cells := 0, slots := 0, locals := 0 }
theorem good_M_waits : GoodIn TB (.code y_M_waits b_M_waits 2 (some .boolean) :: TB) := good_of tb_442
theorem hd_M_waits : y_M_waits.cls ≠ "java/lang/invoke/MethodHandle" ∧ y_M_waits.cls ≠ "java/lang/invoke/VarHandle" ∧ (parseMethodDescriptor y_M_waits.desc).map (fun d => d.parameters.length) = some 1 := by decide +kernel
theorem d_M_waits_0 : decode b_M_waits 0 = .ok (.aload_n 0, 1) := by decide +kernel
theorem d_M_waits_1 : decode b_M_waits 1 = .ok (.getfield 28, 3) := by decide +kernel
theorem d_M_waits_4 : decode b_M_waits 4 = .ok (.iload_n 1, 1) := by decide +kernel
theorem d_M_waits_5 : decode b_M_waits 5 = .ok (.iaload, 1) := by decide +kernel
theorem d_M_waits_6 : decode b_M_waits 6 = .ok (.iconst 1, 1) := by decide +kernel
theorem d_M_waits_7 : decode b_M_waits 7 = .ok (.if_icmp .ne 17, 3) := by decide +kernel
theorem d_M_waits_10 : decode b_M_waits 10 = .ok (.aload_n 0, 1) := by decide +kernel
theorem d_M_waits_11 : decode b_M_waits 11 = .ok (.getfield 25, 3) := by decide +kernel
theorem d_M_waits_14 : decode b_M_waits 14 = .ok (.iload_n 1, 1) := by decide +kernel
theorem d_M_waits_15 : decode b_M_waits 15 = .ok (.iaload, 1) := by decide +kernel
theorem d_M_waits_16 : decode b_M_waits 16 = .ok (.iload_n 1, 1) := by decide +kernel
theorem d_M_waits_17 : decode b_M_waits 17 = .ok (.if_icmp .ne 7, 3) := by decide +kernel
theorem d_M_waits_20 : decode b_M_waits 20 = .ok (.iconst 1, 1) := by decide +kernel
theorem d_M_waits_21 : decode b_M_waits 21 = .ok (.goto 4, 3) := by decide +kernel
theorem d_M_waits_24 : decode b_M_waits 24 = .ok (.iconst 0, 1) := by decide +kernel
theorem d_M_waits_25 : decode b_M_waits 25 = .ok (.ireturn, 1) := by decide +kernel
abbrev rm_M_start : Room := { frames := 0, cells := 0, slots := 0, locals := 0 }
theorem good_M_start : GoodIn TB (.code y_M_start b_M_start 4 (some .int) :: TB) := good_of tb_462
theorem hd_M_start : y_M_start.cls ≠ "java/lang/invoke/MethodHandle" ∧ y_M_start.cls ≠ "java/lang/invoke/VarHandle" ∧ (parseMethodDescriptor y_M_start.desc).map (fun d => d.parameters.length) = some 1 := by decide +kernel
theorem d_M_start_0 : decode b_M_start 0 = .ok (.bipush 64, 2) := by decide +kernel
theorem d_M_start_2 : decode b_M_start 2 = .ok (.istore_n 2, 1) := by decide +kernel
theorem d_M_start_3 : decode b_M_start 3 = .ok (.iconst 0, 1) := by decide +kernel
theorem d_M_start_4 : decode b_M_start 4 = .ok (.istore_n 3, 1) := by decide +kernel
theorem d_M_start_5 : decode b_M_start 5 = .ok (.iload_n 3, 1) := by decide +kernel
theorem d_M_start_6 : decode b_M_start 6 = .ok (.aload_n 0, 1) := by decide +kernel
theorem d_M_start_7 : decode b_M_start 7 = .ok (.getfield 47, 3) := by decide +kernel
theorem d_M_start_10 : decode b_M_start 10 = .ok (.if_icmp .ge 36, 3) := by decide +kernel
theorem d_M_start_13 : decode b_M_start 13 = .ok (.aload_n 0, 1) := by decide +kernel
theorem d_M_start_14 : decode b_M_start 14 = .ok (.getfield 25, 3) := by decide +kernel
theorem d_M_start_17 : decode b_M_start 17 = .ok (.iload_n 3, 1) := by decide +kernel
theorem d_M_start_18 : decode b_M_start 18 = .ok (.iaload, 1) := by decide +kernel
theorem d_M_start_19 : decode b_M_start 19 = .ok (.iload_n 1, 1) := by decide +kernel
theorem d_M_start_20 : decode b_M_start 20 = .ok (.if_icmp .ne 20, 3) := by decide +kernel
theorem d_M_start_23 : decode b_M_start 23 = .ok (.aload_n 0, 1) := by decide +kernel
theorem d_M_start_24 : decode b_M_start 24 = .ok (.getfield 16, 3) := by decide +kernel
theorem d_M_start_27 : decode b_M_start 27 = .ok (.iload_n 3, 1) := by decide +kernel
theorem d_M_start_28 : decode b_M_start 28 = .ok (.iaload, 1) := by decide +kernel
theorem d_M_start_29 : decode b_M_start 29 = .ok (.iload_n 2, 1) := by decide +kernel
theorem d_M_start_30 : decode b_M_start 30 = .ok (.if_icmp .ge 10, 3) := by decide +kernel
theorem d_M_start_33 : decode b_M_start 33 = .ok (.aload_n 0, 1) := by decide +kernel
theorem d_M_start_34 : decode b_M_start 34 = .ok (.getfield 16, 3) := by decide +kernel
theorem d_M_start_37 : decode b_M_start 37 = .ok (.iload_n 3, 1) := by decide +kernel
theorem d_M_start_38 : decode b_M_start 38 = .ok (.iaload, 1) := by decide +kernel
theorem d_M_start_39 : decode b_M_start 39 = .ok (.istore_n 2, 1) := by decide +kernel
theorem d_M_start_40 : decode b_M_start 40 = .ok (.iinc 3 1, 3) := by decide +kernel
theorem d_M_start_43 : decode b_M_start 43 = .ok (.goto (-38), 3) := by decide +kernel
theorem d_M_start_46 : decode b_M_start 46 = .ok (.iload_n 2, 1) := by decide +kernel
theorem d_M_start_47 : decode b_M_start 47 = .ok (.ireturn, 1) := by decide +kernel
abbrev rm_M_length : Room := { frames := 0, cells := 0, slots := 0, locals := 0 }
theorem good_M_length : GoodIn TB (.code y_M_length b_M_length 4 (some .int) :: TB) := good_of tb_458
theorem hd_M_length : y_M_length.cls ≠ "java/lang/invoke/MethodHandle" ∧ y_M_length.cls ≠ "java/lang/invoke/VarHandle" ∧ (parseMethodDescriptor y_M_length.desc).map (fun d => d.parameters.length) = some 1 := by decide +kernel
theorem d_M_length_0 : decode b_M_length 0 = .ok (.iconst 0, 1) := by decide +kernel
theorem d_M_length_1 : decode b_M_length 1 = .ok (.istore_n 2, 1) := by decide +kernel
theorem d_M_length_2 : decode b_M_length 2 = .ok (.iconst 0, 1) := by decide +kernel
theorem d_M_length_3 : decode b_M_length 3 = .ok (.istore_n 3, 1) := by decide +kernel
theorem d_M_length_4 : decode b_M_length 4 = .ok (.iload_n 3, 1) := by decide +kernel
theorem d_M_length_5 : decode b_M_length 5 = .ok (.aload_n 0, 1) := by decide +kernel
theorem d_M_length_6 : decode b_M_length 6 = .ok (.getfield 47, 3) := by decide +kernel
theorem d_M_length_9 : decode b_M_length 9 = .ok (.if_icmp .ge 32, 3) := by decide +kernel
theorem d_M_length_12 : decode b_M_length 12 = .ok (.aload_n 0, 1) := by decide +kernel
theorem d_M_length_13 : decode b_M_length 13 = .ok (.getfield 25, 3) := by decide +kernel
theorem d_M_length_16 : decode b_M_length 16 = .ok (.iload_n 3, 1) := by decide +kernel
theorem d_M_length_17 : decode b_M_length 17 = .ok (.iaload, 1) := by decide +kernel
theorem d_M_length_18 : decode b_M_length 18 = .ok (.iload_n 1, 1) := by decide +kernel
theorem d_M_length_19 : decode b_M_length 19 = .ok (.if_icmp .ne 14, 3) := by decide +kernel
theorem d_M_length_22 : decode b_M_length 22 = .ok (.iload_n 2, 1) := by decide +kernel
theorem d_M_length_23 : decode b_M_length 23 = .ok (.aload_n 0, 1) := by decide +kernel
theorem d_M_length_24 : decode b_M_length 24 = .ok (.getfield 19, 3) := by decide +kernel
theorem d_M_length_27 : decode b_M_length 27 = .ok (.iload_n 3, 1) := by decide +kernel
theorem d_M_length_28 : decode b_M_length 28 = .ok (.iaload, 1) := by decide +kernel
theorem d_M_length_29 : decode b_M_length 29 = .ok (.iadd, 1) := by decide +kernel
theorem d_M_length_30 : decode b_M_length 30 = .ok (.goto 4, 3) := by decide +kernel
theorem d_M_length_33 : decode b_M_length 33 = .ok (.iload_n 2, 1) := by decide +kernel
theorem d_M_length_34 : decode b_M_length 34 = .ok (.istore_n 2, 1) := by decide +kernel
theorem d_M_length_35 : decode b_M_length 35 = .ok (.iinc 3 1, 3) := by decide +kernel
theorem d_M_length_38 : decode b_M_length 38 = .ok (.goto (-34), 3) := by decide +kernel
theorem d_M_length_41 : decode b_M_length 41 = .ok (.iload_n 2, 1) := by decide +kernel
theorem d_M_length_42 : decode b_M_length 42 = .ok (.ireturn, 1) := by decide +kernel
abbrev rm_M_members : Room := { frames := 0, cells := 0, slots := 0, locals := 0 }
theorem good_M_members : GoodIn TB (.code y_M_members b_M_members 4 (some .int) :: TB) := good_of tb_454
theorem hd_M_members : y_M_members.cls ≠ "java/lang/invoke/MethodHandle" ∧ y_M_members.cls ≠ "java/lang/invoke/VarHandle" ∧ (parseMethodDescriptor y_M_members.desc).map (fun d => d.parameters.length) = some 1 := by decide +kernel
theorem d_M_members_0 : decode b_M_members 0 = .ok (.iconst 0, 1) := by decide +kernel
theorem d_M_members_1 : decode b_M_members 1 = .ok (.istore_n 2, 1) := by decide +kernel
theorem d_M_members_2 : decode b_M_members 2 = .ok (.iconst 0, 1) := by decide +kernel
theorem d_M_members_3 : decode b_M_members 3 = .ok (.istore_n 3, 1) := by decide +kernel
theorem d_M_members_4 : decode b_M_members 4 = .ok (.iload_n 3, 1) := by decide +kernel
theorem d_M_members_5 : decode b_M_members 5 = .ok (.aload_n 0, 1) := by decide +kernel
theorem d_M_members_6 : decode b_M_members 6 = .ok (.getfield 47, 3) := by decide +kernel
theorem d_M_members_9 : decode b_M_members 9 = .ok (.if_icmp .ge 27, 3) := by decide +kernel
theorem d_M_members_12 : decode b_M_members 12 = .ok (.aload_n 0, 1) := by decide +kernel
theorem d_M_members_13 : decode b_M_members 13 = .ok (.getfield 25, 3) := by decide +kernel
theorem d_M_members_16 : decode b_M_members 16 = .ok (.iload_n 3, 1) := by decide +kernel
theorem d_M_members_17 : decode b_M_members 17 = .ok (.iaload, 1) := by decide +kernel
theorem d_M_members_18 : decode b_M_members 18 = .ok (.iload_n 1, 1) := by decide +kernel
theorem d_M_members_19 : decode b_M_members 19 = .ok (.if_icmp .ne 9, 3) := by decide +kernel
theorem d_M_members_22 : decode b_M_members 22 = .ok (.iload_n 2, 1) := by decide +kernel
theorem d_M_members_23 : decode b_M_members 23 = .ok (.iconst 1, 1) := by decide +kernel
theorem d_M_members_24 : decode b_M_members 24 = .ok (.iadd, 1) := by decide +kernel
theorem d_M_members_25 : decode b_M_members 25 = .ok (.goto 4, 3) := by decide +kernel
theorem d_M_members_28 : decode b_M_members 28 = .ok (.iload_n 2, 1) := by decide +kernel
theorem d_M_members_29 : decode b_M_members 29 = .ok (.istore_n 2, 1) := by decide +kernel
theorem d_M_members_30 : decode b_M_members 30 = .ok (.iinc 3 1, 3) := by decide +kernel
theorem d_M_members_33 : decode b_M_members 33 = .ok (.goto (-29), 3) := by decide +kernel
theorem d_M_members_36 : decode b_M_members 36 = .ok (.iload_n 2, 1) := by decide +kernel
theorem d_M_members_37 : decode b_M_members 37 = .ok (.ireturn, 1) := by decide +kernel
abbrev rm_M_conflict : Room := { frames := 0, cells := 0, slots := 0, locals := 0 }
theorem good_M_conflict : GoodIn TB (.code y_M_conflict b_M_conflict 3 (some .boolean) :: TB) := good_of tb_450
theorem hd_M_conflict : y_M_conflict.cls ≠ "java/lang/invoke/MethodHandle" ∧ y_M_conflict.cls ≠ "java/lang/invoke/VarHandle" ∧ (parseMethodDescriptor y_M_conflict.desc).map (fun d => d.parameters.length) = some 2 := by decide +kernel
theorem d_M_conflict_0 : decode b_M_conflict 0 = .ok (.aload_n 0, 1) := by decide +kernel
theorem d_M_conflict_1 : decode b_M_conflict 1 = .ok (.getfield 13, 3) := by decide +kernel
theorem d_M_conflict_4 : decode b_M_conflict 4 = .ok (.iload_n 1, 1) := by decide +kernel
theorem d_M_conflict_5 : decode b_M_conflict 5 = .ok (.iaload, 1) := by decide +kernel
theorem d_M_conflict_6 : decode b_M_conflict 6 = .ok (.iconst 1, 1) := by decide +kernel
theorem d_M_conflict_7 : decode b_M_conflict 7 = .ok (.if_icmp .eq 13, 3) := by decide +kernel
theorem d_M_conflict_10 : decode b_M_conflict 10 = .ok (.aload_n 0, 1) := by decide +kernel
theorem d_M_conflict_11 : decode b_M_conflict 11 = .ok (.getfield 13, 3) := by decide +kernel
theorem d_M_conflict_14 : decode b_M_conflict 14 = .ok (.iload_n 2, 1) := by decide +kernel
theorem d_M_conflict_15 : decode b_M_conflict 15 = .ok (.iaload, 1) := by decide +kernel
theorem d_M_conflict_16 : decode b_M_conflict 16 = .ok (.iconst 1, 1) := by decide +kernel
theorem d_M_conflict_17 : decode b_M_conflict 17 = .ok (.if_icmp .ne 51, 3) := by decide +kernel
theorem d_M_conflict_20 : decode b_M_conflict 20 = .ok (.aload_n 0, 1) := by decide +kernel
theorem d_M_conflict_21 : decode b_M_conflict 21 = .ok (.getfield 16, 3) := by decide +kernel
theorem d_M_conflict_24 : decode b_M_conflict 24 = .ok (.iload_n 1, 1) := by decide +kernel
theorem d_M_conflict_25 : decode b_M_conflict 25 = .ok (.iaload, 1) := by decide +kernel
theorem d_M_conflict_26 : decode b_M_conflict 26 = .ok (.aload_n 0, 1) := by decide +kernel
theorem d_M_conflict_27 : decode b_M_conflict 27 = .ok (.getfield 16, 3) := by decide +kernel
theorem d_M_conflict_30 : decode b_M_conflict 30 = .ok (.iload_n 2, 1) := by decide +kernel
theorem d_M_conflict_31 : decode b_M_conflict 31 = .ok (.iaload, 1) := by decide +kernel
theorem d_M_conflict_32 : decode b_M_conflict 32 = .ok (.aload_n 0, 1) := by decide +kernel
theorem d_M_conflict_33 : decode b_M_conflict 33 = .ok (.getfield 19, 3) := by decide +kernel
theorem d_M_conflict_36 : decode b_M_conflict 36 = .ok (.iload_n 2, 1) := by decide +kernel
theorem d_M_conflict_37 : decode b_M_conflict 37 = .ok (.iaload, 1) := by decide +kernel
theorem d_M_conflict_38 : decode b_M_conflict 38 = .ok (.iadd, 1) := by decide +kernel
theorem d_M_conflict_39 : decode b_M_conflict 39 = .ok (.if_icmp .ge 29, 3) := by decide +kernel
theorem d_M_conflict_42 : decode b_M_conflict 42 = .ok (.aload_n 0, 1) := by decide +kernel
theorem d_M_conflict_43 : decode b_M_conflict 43 = .ok (.getfield 16, 3) := by decide +kernel
theorem d_M_conflict_46 : decode b_M_conflict 46 = .ok (.iload_n 2, 1) := by decide +kernel
theorem d_M_conflict_47 : decode b_M_conflict 47 = .ok (.iaload, 1) := by decide +kernel
theorem d_M_conflict_48 : decode b_M_conflict 48 = .ok (.aload_n 0, 1) := by decide +kernel
theorem d_M_conflict_49 : decode b_M_conflict 49 = .ok (.getfield 16, 3) := by decide +kernel
theorem d_M_conflict_52 : decode b_M_conflict 52 = .ok (.iload_n 1, 1) := by decide +kernel
theorem d_M_conflict_53 : decode b_M_conflict 53 = .ok (.iaload, 1) := by decide +kernel
theorem d_M_conflict_54 : decode b_M_conflict 54 = .ok (.aload_n 0, 1) := by decide +kernel
theorem d_M_conflict_55 : decode b_M_conflict 55 = .ok (.getfield 19, 3) := by decide +kernel
theorem d_M_conflict_58 : decode b_M_conflict 58 = .ok (.iload_n 1, 1) := by decide +kernel
theorem d_M_conflict_59 : decode b_M_conflict 59 = .ok (.iaload, 1) := by decide +kernel
theorem d_M_conflict_60 : decode b_M_conflict 60 = .ok (.iadd, 1) := by decide +kernel
theorem d_M_conflict_61 : decode b_M_conflict 61 = .ok (.if_icmp .ge 7, 3) := by decide +kernel
theorem d_M_conflict_64 : decode b_M_conflict 64 = .ok (.iconst 1, 1) := by decide +kernel
theorem d_M_conflict_65 : decode b_M_conflict 65 = .ok (.goto 4, 3) := by decide +kernel
theorem d_M_conflict_68 : decode b_M_conflict 68 = .ok (.iconst 0, 1) := by decide +kernel
theorem d_M_conflict_69 : decode b_M_conflict 69 = .ok (.ireturn, 1) := by decide +kernel
abbrev rm_M_isReady : Room := { frames := 1, cells := 0, slots := 0, locals := 22 }
theorem good_M_isReady : GoodIn TB (.code y_M_isReady b_M_isReady 4 (some .boolean) :: TB) := good_of tb_491
theorem hd_M_isReady : y_M_isReady.cls ≠ "java/lang/invoke/MethodHandle" ∧ y_M_isReady.cls ≠ "java/lang/invoke/VarHandle" ∧ (parseMethodDescriptor y_M_isReady.desc).map (fun d => d.parameters.length) = some 1 := by decide +kernel
theorem d_M_isReady_0 : decode b_M_isReady 0 = .ok (.aload_n 0, 1) := by decide +kernel
theorem d_M_isReady_1 : decode b_M_isReady 1 = .ok (.iload_n 1, 1) := by decide +kernel
theorem d_M_isReady_2 : decode b_M_isReady 2 = .ok (.invokevirtual 50, 3) := by decide +kernel
theorem d_M_isReady_5 : decode b_M_isReady 5 = .ok (.ifCond .ne 5, 3) := by decide +kernel
theorem d_M_isReady_8 : decode b_M_isReady 8 = .ok (.iconst 0, 1) := by decide +kernel
theorem d_M_isReady_9 : decode b_M_isReady 9 = .ok (.ireturn, 1) := by decide +kernel
theorem d_M_isReady_10 : decode b_M_isReady 10 = .ok (.iconst 0, 1) := by decide +kernel
theorem d_M_isReady_11 : decode b_M_isReady 11 = .ok (.istore_n 2, 1) := by decide +kernel
theorem d_M_isReady_12 : decode b_M_isReady 12 = .ok (.iload_n 2, 1) := by decide +kernel
theorem d_M_isReady_13 : decode b_M_isReady 13 = .ok (.aload_n 0, 1) := by decide +kernel
theorem d_M_isReady_14 : decode b_M_isReady 14 = .ok (.getfield 47, 3) := by decide +kernel
theorem d_M_isReady_17 : decode b_M_isReady 17 = .ok (.if_icmp .ge 90, 3) := by decide +kernel
theorem d_M_isReady_20 : decode b_M_isReady 20 = .ok (.aload_n 0, 1) := by decide +kernel
theorem d_M_isReady_21 : decode b_M_isReady 21 = .ok (.getfield 28, 3) := by decide +kernel
theorem d_M_isReady_24 : decode b_M_isReady 24 = .ok (.iload_n 2, 1) := by decide +kernel
theorem d_M_isReady_25 : decode b_M_isReady 25 = .ok (.iaload, 1) := by decide +kernel
theorem d_M_isReady_26 : decode b_M_isReady 26 = .ok (.iconst 1, 1) := by decide +kernel
theorem d_M_isReady_27 : decode b_M_isReady 27 = .ok (.if_icmp .ne 74, 3) := by decide +kernel
theorem d_M_isReady_30 : decode b_M_isReady 30 = .ok (.aload_n 0, 1) := by decide +kernel
theorem d_M_isReady_31 : decode b_M_isReady 31 = .ok (.getfield 25, 3) := by decide +kernel
theorem d_M_isReady_34 : decode b_M_isReady 34 = .ok (.iload_n 2, 1) := by decide +kernel
theorem d_M_isReady_35 : decode b_M_isReady 35 = .ok (.iaload, 1) := by decide +kernel
theorem d_M_isReady_36 : decode b_M_isReady 36 = .ok (.iload_n 1, 1) := by decide +kernel
theorem d_M_isReady_37 : decode b_M_isReady 37 = .ok (.if_icmp .eq 64, 3) := by decide +kernel
theorem d_M_isReady_40 : decode b_M_isReady 40 = .ok (.aload_n 0, 1) := by decide +kernel
theorem d_M_isReady_41 : decode b_M_isReady 41 = .ok (.getfield 37, 3) := by decide +kernel
theorem d_M_isReady_44 : decode b_M_isReady 44 = .ok (.aload_n 0, 1) := by decide +kernel
theorem d_M_isReady_45 : decode b_M_isReady 45 = .ok (.getfield 25, 3) := by decide +kernel
theorem d_M_isReady_48 : decode b_M_isReady 48 = .ok (.iload_n 2, 1) := by decide +kernel
theorem d_M_isReady_49 : decode b_M_isReady 49 = .ok (.iaload, 1) := by decide +kernel
theorem d_M_isReady_50 : decode b_M_isReady 50 = .ok (.iaload, 1) := by decide +kernel
theorem d_M_isReady_51 : decode b_M_isReady 51 = .ok (.aload_n 0, 1) := by decide +kernel
theorem d_M_isReady_52 : decode b_M_isReady 52 = .ok (.getfield 37, 3) := by decide +kernel
theorem d_M_isReady_55 : decode b_M_isReady 55 = .ok (.iload_n 1, 1) := by decide +kernel
theorem d_M_isReady_56 : decode b_M_isReady 56 = .ok (.iaload, 1) := by decide +kernel
theorem d_M_isReady_57 : decode b_M_isReady 57 = .ok (.if_icmp .ge 5, 3) := by decide +kernel
theorem d_M_isReady_60 : decode b_M_isReady 60 = .ok (.iconst 0, 1) := by decide +kernel
theorem d_M_isReady_61 : decode b_M_isReady 61 = .ok (.ireturn, 1) := by decide +kernel
theorem d_M_isReady_62 : decode b_M_isReady 62 = .ok (.iload_n 2, 1) := by decide +kernel
theorem d_M_isReady_63 : decode b_M_isReady 63 = .ok (.iconst 1, 1) := by decide +kernel
theorem d_M_isReady_64 : decode b_M_isReady 64 = .ok (.iadd, 1) := by decide +kernel
theorem d_M_isReady_65 : decode b_M_isReady 65 = .ok (.istore_n 3, 1) := by decide +kernel
theorem d_M_isReady_66 : decode b_M_isReady 66 = .ok (.iload_n 3, 1) := by decide +kernel
theorem d_M_isReady_67 : decode b_M_isReady 67 = .ok (.aload_n 0, 1) := by decide +kernel
theorem d_M_isReady_68 : decode b_M_isReady 68 = .ok (.getfield 47, 3) := by decide +kernel
theorem d_M_isReady_71 : decode b_M_isReady 71 = .ok (.if_icmp .ge 30, 3) := by decide +kernel
theorem d_M_isReady_74 : decode b_M_isReady 74 = .ok (.aload_n 0, 1) := by decide +kernel
theorem d_M_isReady_75 : decode b_M_isReady 75 = .ok (.getfield 25, 3) := by decide +kernel
theorem d_M_isReady_78 : decode b_M_isReady 78 = .ok (.iload_n 3, 1) := by decide +kernel
theorem d_M_isReady_79 : decode b_M_isReady 79 = .ok (.iaload, 1) := by decide +kernel
theorem d_M_isReady_80 : decode b_M_isReady 80 = .ok (.iload_n 1, 1) := by decide +kernel
theorem d_M_isReady_81 : decode b_M_isReady 81 = .ok (.if_icmp .ne 14, 3) := by decide +kernel
theorem d_M_isReady_84 : decode b_M_isReady 84 = .ok (.aload_n 0, 1) := by decide +kernel
theorem d_M_isReady_85 : decode b_M_isReady 85 = .ok (.iload_n 3, 1) := by decide +kernel
theorem d_M_isReady_86 : decode b_M_isReady 86 = .ok (.iload_n 2, 1) := by decide +kernel
theorem d_M_isReady_87 : decode b_M_isReady 87 = .ok (.invokevirtual 54, 3) := by decide +kernel
theorem d_M_isReady_90 : decode b_M_isReady 90 = .ok (.ifCond .eq 5, 3) := by decide +kernel
theorem d_M_isReady_93 : decode b_M_isReady 93 = .ok (.iconst 0, 1) := by decide +kernel
theorem d_M_isReady_94 : decode b_M_isReady 94 = .ok (.ireturn, 1) := by decide +kernel
theorem d_M_isReady_95 : decode b_M_isReady 95 = .ok (.iinc 3 1, 3) := by decide +kernel
theorem d_M_isReady_98 : decode b_M_isReady 98 = .ok (.goto (-32), 3) := by decide +kernel
theorem d_M_isReady_101 : decode b_M_isReady 101 = .ok (.iinc 2 1, 3) := by decide +kernel
theorem d_M_isReady_104 : decode b_M_isReady 104 = .ok (.goto (-92), 3) := by decide +kernel
theorem d_M_isReady_107 : decode b_M_isReady 107 = .ok (.iconst 1, 1) := by decide +kernel
theorem d_M_isReady_108 : decode b_M_isReady 108 = .ok (.ireturn, 1) := by decide +kernel
abbrev rm_M_joined : Room := { frames := 1, cells := 0, slots := 0, locals := 23 }
theorem good_M_joined : GoodIn TB (.code y_M_joined b_M_joined 5 (some .int) :: TB) := good_of tb_446
theorem hd_M_joined : y_M_joined.cls ≠ "java/lang/invoke/MethodHandle" ∧ y_M_joined.cls ≠ "java/lang/invoke/VarHandle" ∧ (parseMethodDescriptor y_M_joined.desc).map (fun d => d.parameters.length) = some 1 := by decide +kernel
theorem d_M_joined_0 : decode b_M_joined 0 = .ok (.iconst 0, 1) := by decide +kernel
theorem d_M_joined_1 : decode b_M_joined 1 = .ok (.istore_n 2, 1) := by decide +kernel
theorem d_M_joined_2 : decode b_M_joined 2 = .ok (.iload_n 2, 1) := by decide +kernel
theorem d_M_joined_3 : decode b_M_joined 3 = .ok (.iload_n 1, 1) := by decide +kernel
theorem d_M_joined_4 : decode b_M_joined 4 = .ok (.if_icmp .ge 30, 3) := by decide +kernel
theorem d_M_joined_7 : decode b_M_joined 7 = .ok (.aload_n 0, 1) := by decide +kernel
theorem d_M_joined_8 : decode b_M_joined 8 = .ok (.getfield 28, 3) := by decide +kernel
theorem d_M_joined_11 : decode b_M_joined 11 = .ok (.iload_n 2, 1) := by decide +kernel
theorem d_M_joined_12 : decode b_M_joined 12 = .ok (.iaload, 1) := by decide +kernel
theorem d_M_joined_13 : decode b_M_joined 13 = .ok (.iconst 1, 1) := by decide +kernel
theorem d_M_joined_14 : decode b_M_joined 14 = .ok (.if_icmp .ne 14, 3) := by decide +kernel
theorem d_M_joined_17 : decode b_M_joined 17 = .ok (.aload_n 0, 1) := by decide +kernel
theorem d_M_joined_18 : decode b_M_joined 18 = .ok (.iload_n 1, 1) := by decide +kernel
theorem d_M_joined_19 : decode b_M_joined 19 = .ok (.iload_n 2, 1) := by decide +kernel
theorem d_M_joined_20 : decode b_M_joined 20 = .ok (.invokevirtual 54, 3) := by decide +kernel
theorem d_M_joined_23 : decode b_M_joined 23 = .ok (.ifCond .eq 5, 3) := by decide +kernel
theorem d_M_joined_26 : decode b_M_joined 26 = .ok (.iload_n 1, 1) := by decide +kernel
theorem d_M_joined_27 : decode b_M_joined 27 = .ok (.ireturn, 1) := by decide +kernel
theorem d_M_joined_28 : decode b_M_joined 28 = .ok (.iinc 2 1, 3) := by decide +kernel
theorem d_M_joined_31 : decode b_M_joined 31 = .ok (.goto (-29), 3) := by decide +kernel
theorem d_M_joined_34 : decode b_M_joined 34 = .ok (.iconst 0, 1) := by decide +kernel
theorem d_M_joined_35 : decode b_M_joined 35 = .ok (.istore_n 2, 1) := by decide +kernel
theorem d_M_joined_36 : decode b_M_joined 36 = .ok (.iload_n 2, 1) := by decide +kernel
theorem d_M_joined_37 : decode b_M_joined 37 = .ok (.iconst 2, 1) := by decide +kernel
theorem d_M_joined_38 : decode b_M_joined 38 = .ok (.if_icmp .ge 151, 3) := by decide +kernel
theorem d_M_joined_41 : decode b_M_joined 41 = .ok (.iconst 0, 1) := by decide +kernel
theorem d_M_joined_42 : decode b_M_joined 42 = .ok (.istore_n 3, 1) := by decide +kernel
theorem d_M_joined_43 : decode b_M_joined 43 = .ok (.iload_n 3, 1) := by decide +kernel
theorem d_M_joined_44 : decode b_M_joined 44 = .ok (.iload_n 1, 1) := by decide +kernel
theorem d_M_joined_45 : decode b_M_joined 45 = .ok (.if_icmp .ge 138, 3) := by decide +kernel
theorem d_M_joined_48 : decode b_M_joined 48 = .ok (.aload_n 0, 1) := by decide +kernel
theorem d_M_joined_49 : decode b_M_joined 49 = .ok (.iload_n 3, 1) := by decide +kernel
theorem d_M_joined_50 : decode b_M_joined 50 = .ok (.invokevirtual 50, 3) := by decide +kernel
theorem d_M_joined_53 : decode b_M_joined 53 = .ok (.ifCond .eq 124, 3) := by decide +kernel
theorem d_M_joined_56 : decode b_M_joined 56 = .ok (.aload_n 0, 1) := by decide +kernel
theorem d_M_joined_57 : decode b_M_joined 57 = .ok (.getfield 13, 3) := by decide +kernel
theorem d_M_joined_60 : decode b_M_joined 60 = .ok (.iload_n 3, 1) := by decide +kernel
theorem d_M_joined_61 : decode b_M_joined 61 = .ok (.iaload, 1) := by decide +kernel
theorem d_M_joined_62 : decode b_M_joined 62 = .ok (.aload_n 0, 1) := by decide +kernel
theorem d_M_joined_63 : decode b_M_joined 63 = .ok (.getfield 13, 3) := by decide +kernel
theorem d_M_joined_66 : decode b_M_joined 66 = .ok (.iload_n 1, 1) := by decide +kernel
theorem d_M_joined_67 : decode b_M_joined 67 = .ok (.iaload, 1) := by decide +kernel
theorem d_M_joined_68 : decode b_M_joined 68 = .ok (.if_icmp .ne 109, 3) := by decide +kernel
theorem d_M_joined_71 : decode b_M_joined 71 = .ok (.aload_n 0, 1) := by decide +kernel
theorem d_M_joined_72 : decode b_M_joined 72 = .ok (.getfield 37, 3) := by decide +kernel
theorem d_M_joined_75 : decode b_M_joined 75 = .ok (.iload_n 3, 1) := by decide +kernel
theorem d_M_joined_76 : decode b_M_joined 76 = .ok (.iaload, 1) := by decide +kernel
theorem d_M_joined_77 : decode b_M_joined 77 = .ok (.aload_n 0, 1) := by decide +kernel
theorem d_M_joined_78 : decode b_M_joined 78 = .ok (.getfield 58, 3) := by decide +kernel
theorem d_M_joined_81 : decode b_M_joined 81 = .ok (.if_icmp .ne 96, 3) := by decide +kernel
theorem d_M_joined_84 : decode b_M_joined 84 = .ok (.aload_n 0, 1) := by decide +kernel
theorem d_M_joined_85 : decode b_M_joined 85 = .ok (.iload_n 3, 1) := by decide +kernel
theorem d_M_joined_86 : decode b_M_joined 86 = .ok (.invokevirtual 61, 3) := by decide +kernel
theorem d_M_joined_89 : decode b_M_joined 89 = .ok (.iconst 4, 1) := by decide +kernel
theorem d_M_joined_90 : decode b_M_joined 90 = .ok (.if_icmp .ge 87, 3) := by decide +kernel
theorem d_M_joined_93 : decode b_M_joined 93 = .ok (.aload_n 0, 1) := by decide +kernel
theorem d_M_joined_94 : decode b_M_joined 94 = .ok (.iload_n 3, 1) := by decide +kernel
theorem d_M_joined_95 : decode b_M_joined 95 = .ok (.invokevirtual 65, 3) := by decide +kernel
theorem d_M_joined_98 : decode b_M_joined 98 = .ok (.aload_n 0, 1) := by decide +kernel
theorem d_M_joined_99 : decode b_M_joined 99 = .ok (.getfield 19, 3) := by decide +kernel
theorem d_M_joined_102 : decode b_M_joined 102 = .ok (.iload_n 1, 1) := by decide +kernel
theorem d_M_joined_103 : decode b_M_joined 103 = .ok (.iaload, 1) := by decide +kernel
theorem d_M_joined_104 : decode b_M_joined 104 = .ok (.iadd, 1) := by decide +kernel
theorem d_M_joined_105 : decode b_M_joined 105 = .ok (.bipush 16, 2) := by decide +kernel
theorem d_M_joined_107 : decode b_M_joined 107 = .ok (.if_icmp .gt 70, 3) := by decide +kernel
theorem d_M_joined_110 : decode b_M_joined 110 = .ok (.iload_n 2, 1) := by decide +kernel
theorem d_M_joined_111 : decode b_M_joined 111 = .ok (.ifCond .ne 31, 3) := by decide +kernel
theorem d_M_joined_114 : decode b_M_joined 114 = .ok (.aload_n 0, 1) := by decide +kernel
theorem d_M_joined_115 : decode b_M_joined 115 = .ok (.iload_n 3, 1) := by decide +kernel
theorem d_M_joined_116 : decode b_M_joined 116 = .ok (.invokevirtual 68, 3) := by decide +kernel
theorem d_M_joined_119 : decode b_M_joined 119 = .ok (.aload_n 0, 1) := by decide +kernel
theorem d_M_joined_120 : decode b_M_joined 120 = .ok (.iload_n 3, 1) := by decide +kernel
theorem d_M_joined_121 : decode b_M_joined 121 = .ok (.invokevirtual 65, 3) := by decide +kernel
theorem d_M_joined_124 : decode b_M_joined 124 = .ok (.iadd, 1) := by decide +kernel
theorem d_M_joined_125 : decode b_M_joined 125 = .ok (.aload_n 0, 1) := by decide +kernel
theorem d_M_joined_126 : decode b_M_joined 126 = .ok (.getfield 16, 3) := by decide +kernel
theorem d_M_joined_129 : decode b_M_joined 129 = .ok (.iload_n 1, 1) := by decide +kernel
theorem d_M_joined_130 : decode b_M_joined 130 = .ok (.iaload, 1) := by decide +kernel
theorem d_M_joined_131 : decode b_M_joined 131 = .ok (.if_icmp .ne 7, 3) := by decide +kernel
theorem d_M_joined_134 : decode b_M_joined 134 = .ok (.iconst 1, 1) := by decide +kernel
theorem d_M_joined_135 : decode b_M_joined 135 = .ok (.goto 33, 3) := by decide +kernel
theorem d_M_joined_138 : decode b_M_joined 138 = .ok (.iconst 0, 1) := by decide +kernel
theorem d_M_joined_139 : decode b_M_joined 139 = .ok (.goto 29, 3) := by decide +kernel
theorem d_M_joined_142 : decode b_M_joined 142 = .ok (.aload_n 0, 1) := by decide +kernel
theorem d_M_joined_143 : decode b_M_joined 143 = .ok (.iload_n 3, 1) := by decide +kernel
theorem d_M_joined_144 : decode b_M_joined 144 = .ok (.invokevirtual 68, 3) := by decide +kernel
theorem d_M_joined_147 : decode b_M_joined 147 = .ok (.aload_n 0, 1) := by decide +kernel
theorem d_M_joined_148 : decode b_M_joined 148 = .ok (.getfield 16, 3) := by decide +kernel
theorem d_M_joined_151 : decode b_M_joined 151 = .ok (.iload_n 1, 1) := by decide +kernel
theorem d_M_joined_152 : decode b_M_joined 152 = .ok (.iaload, 1) := by decide +kernel
theorem d_M_joined_153 : decode b_M_joined 153 = .ok (.aload_n 0, 1) := by decide +kernel
theorem d_M_joined_154 : decode b_M_joined 154 = .ok (.getfield 19, 3) := by decide +kernel
theorem d_M_joined_157 : decode b_M_joined 157 = .ok (.iload_n 1, 1) := by decide +kernel
theorem d_M_joined_158 : decode b_M_joined 158 = .ok (.iaload, 1) := by decide +kernel
theorem d_M_joined_159 : decode b_M_joined 159 = .ok (.iadd, 1) := by decide +kernel
theorem d_M_joined_160 : decode b_M_joined 160 = .ok (.if_icmp .ne 7, 3) := by decide +kernel
theorem d_M_joined_163 : decode b_M_joined 163 = .ok (.iconst 1, 1) := by decide +kernel
theorem d_M_joined_164 : decode b_M_joined 164 = .ok (.goto 4, 3) := by decide +kernel
theorem d_M_joined_167 : decode b_M_joined 167 = .ok (.iconst 0, 1) := by decide +kernel
theorem d_M_joined_168 : decode b_M_joined 168 = .ok (.istore 4, 2) := by decide +kernel
theorem d_M_joined_170 : decode b_M_joined 170 = .ok (.iload 4, 2) := by decide +kernel
theorem d_M_joined_172 : decode b_M_joined 172 = .ok (.ifCond .eq 5, 3) := by decide +kernel
theorem d_M_joined_175 : decode b_M_joined 175 = .ok (.iload_n 3, 1) := by decide +kernel
theorem d_M_joined_176 : decode b_M_joined 176 = .ok (.ireturn, 1) := by decide +kernel
theorem d_M_joined_177 : decode b_M_joined 177 = .ok (.iinc 3 1, 3) := by decide +kernel
theorem d_M_joined_180 : decode b_M_joined 180 = .ok (.goto (-137), 3) := by decide +kernel
theorem d_M_joined_183 : decode b_M_joined 183 = .ok (.iinc 2 1, 3) := by decide +kernel
theorem d_M_joined_186 : decode b_M_joined 186 = .ok (.goto (-150), 3) := by decide +kernel
theorem d_M_joined_189 : decode b_M_joined 189 = .ok (.iload_n 1, 1) := by decide +kernel
theorem d_M_joined_190 : decode b_M_joined 190 = .ok (.ireturn, 1) := by decide +kernel
abbrev rm_M_waiting : Room := { frames := 1, cells := 0, slots := 0, locals := 21 }
theorem good_M_waiting : GoodIn TB (.code y_M_waiting b_M_waiting 4 (some .int) :: TB) := good_of tb_438
theorem hd_M_waiting : y_M_waiting.cls ≠ "java/lang/invoke/MethodHandle" ∧ y_M_waiting.cls ≠ "java/lang/invoke/VarHandle" ∧ (parseMethodDescriptor y_M_waiting.desc).map (fun d => d.parameters.length) = some 1 := by decide +kernel
theorem d_M_waiting_0 : decode b_M_waiting 0 = .ok (.iconst 0, 1) := by decide +kernel
theorem d_M_waiting_1 : decode b_M_waiting 1 = .ok (.istore_n 2, 1) := by decide +kernel
theorem d_M_waiting_2 : decode b_M_waiting 2 = .ok (.iconst 0, 1) := by decide +kernel
theorem d_M_waiting_3 : decode b_M_waiting 3 = .ok (.istore_n 3, 1) := by decide +kernel
theorem d_M_waiting_4 : decode b_M_waiting 4 = .ok (.iload_n 3, 1) := by decide +kernel
theorem d_M_waiting_5 : decode b_M_waiting 5 = .ok (.aload_n 0, 1) := by decide +kernel
theorem d_M_waiting_6 : decode b_M_waiting 6 = .ok (.getfield 47, 3) := by decide +kernel
theorem d_M_waiting_9 : decode b_M_waiting 9 = .ok (.if_icmp .ge 35, 3) := by decide +kernel
theorem d_M_waiting_12 : decode b_M_waiting 12 = .ok (.aload_n 0, 1) := by decide +kernel
theorem d_M_waiting_13 : decode b_M_waiting 13 = .ok (.iload_n 3, 1) := by decide +kernel
theorem d_M_waiting_14 : decode b_M_waiting 14 = .ok (.invokevirtual 50, 3) := by decide +kernel
theorem d_M_waiting_17 : decode b_M_waiting 17 = .ok (.ifCond .eq 19, 3) := by decide +kernel
theorem d_M_waiting_20 : decode b_M_waiting 20 = .ok (.aload_n 0, 1) := by decide +kernel
theorem d_M_waiting_21 : decode b_M_waiting 21 = .ok (.getfield 13, 3) := by decide +kernel
theorem d_M_waiting_24 : decode b_M_waiting 24 = .ok (.iload_n 3, 1) := by decide +kernel
theorem d_M_waiting_25 : decode b_M_waiting 25 = .ok (.iaload, 1) := by decide +kernel
theorem d_M_waiting_26 : decode b_M_waiting 26 = .ok (.iload_n 1, 1) := by decide +kernel
theorem d_M_waiting_27 : decode b_M_waiting 27 = .ok (.if_icmp .ne 9, 3) := by decide +kernel
theorem d_M_waiting_30 : decode b_M_waiting 30 = .ok (.iload_n 2, 1) := by decide +kernel
theorem d_M_waiting_31 : decode b_M_waiting 31 = .ok (.iconst 1, 1) := by decide +kernel
theorem d_M_waiting_32 : decode b_M_waiting 32 = .ok (.iadd, 1) := by decide +kernel
theorem d_M_waiting_33 : decode b_M_waiting 33 = .ok (.goto 4, 3) := by decide +kernel
theorem d_M_waiting_36 : decode b_M_waiting 36 = .ok (.iload_n 2, 1) := by decide +kernel
theorem d_M_waiting_37 : decode b_M_waiting 37 = .ok (.istore_n 2, 1) := by decide +kernel
theorem d_M_waiting_38 : decode b_M_waiting 38 = .ok (.iinc 3 1, 3) := by decide +kernel
theorem d_M_waiting_41 : decode b_M_waiting 41 = .ok (.goto (-37), 3) := by decide +kernel
theorem d_M_waiting_44 : decode b_M_waiting 44 = .ok (.iload_n 1, 1) := by decide +kernel
theorem d_M_waiting_45 : decode b_M_waiting 45 = .ok (.ifCond .lt 8, 3) := by decide +kernel
theorem d_M_waiting_48 : decode b_M_waiting 48 = .ok (.iload_n 1, 1) := by decide +kernel
theorem d_M_waiting_49 : decode b_M_waiting 49 = .ok (.iconst 1, 1) := by decide +kernel
theorem d_M_waiting_50 : decode b_M_waiting 50 = .ok (.if_icmp .le 7, 3) := by decide +kernel
theorem d_M_waiting_53 : decode b_M_waiting 53 = .ok (.iconst (-1), 1) := by decide +kernel
theorem d_M_waiting_54 : decode b_M_waiting 54 = .ok (.goto 4, 3) := by decide +kernel
theorem d_M_waiting_57 : decode b_M_waiting 57 = .ok (.iload_n 2, 1) := by decide +kernel
theorem d_M_waiting_58 : decode b_M_waiting 58 = .ok (.ireturn, 1) := by decide +kernel
