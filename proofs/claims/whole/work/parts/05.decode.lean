abbrev rm_M_come : Room := { frames := 2, cells := 0, slots := 0, locals := 47 }
theorem good_M_come : GoodIn TB (.code y_M_come b_M_come 7 (some .int) :: TB) := good_of tb_434
theorem hd_M_come : y_M_come.cls ≠ "java/lang/invoke/MethodHandle" ∧ y_M_come.cls ≠ "java/lang/invoke/VarHandle" ∧ (parseMethodDescriptor y_M_come.desc).map (fun d => d.parameters.length) = some 4 := by decide +kernel
theorem d_M_come_0 : decode b_M_come 0 = .ok (.iload_n 3, 1) := by decide +kernel
theorem d_M_come_1 : decode b_M_come 1 = .ok (.iconst 1, 1) := by decide +kernel
theorem d_M_come_2 : decode b_M_come 2 = .ok (.if_icmp .lt 21, 3) := by decide +kernel
theorem d_M_come_5 : decode b_M_come 5 = .ok (.iload_n 3, 1) := by decide +kernel
theorem d_M_come_6 : decode b_M_come 6 = .ok (.bipush 8, 2) := by decide +kernel
theorem d_M_come_8 : decode b_M_come 8 = .ok (.if_icmp .gt 15, 3) := by decide +kernel
theorem d_M_come_11 : decode b_M_come 11 = .ok (.iload_n 2, 1) := by decide +kernel
theorem d_M_come_12 : decode b_M_come 12 = .ok (.ifCond .lt 11, 3) := by decide +kernel
theorem d_M_come_15 : decode b_M_come 15 = .ok (.iload_n 2, 1) := by decide +kernel
theorem d_M_come_16 : decode b_M_come 16 = .ok (.bipush 64, 2) := by decide +kernel
theorem d_M_come_18 : decode b_M_come 18 = .ok (.iload_n 3, 1) := by decide +kernel
theorem d_M_come_19 : decode b_M_come 19 = .ok (.isub, 1) := by decide +kernel
theorem d_M_come_20 : decode b_M_come 20 = .ok (.if_icmp .le 5, 3) := by decide +kernel
theorem d_M_come_23 : decode b_M_come 23 = .ok (.iconst (-1), 1) := by decide +kernel
theorem d_M_come_24 : decode b_M_come 24 = .ok (.ireturn, 1) := by decide +kernel
theorem d_M_come_25 : decode b_M_come 25 = .ok (.aload_n 0, 1) := by decide +kernel
theorem d_M_come_26 : decode b_M_come 26 = .ok (.getfield 47, 3) := by decide +kernel
theorem d_M_come_29 : decode b_M_come 29 = .ok (.sipush 200, 3) := by decide +kernel
theorem d_M_come_32 : decode b_M_come 32 = .ok (.if_icmp .eq 19, 3) := by decide +kernel
theorem d_M_come_35 : decode b_M_come 35 = .ok (.aload_n 0, 1) := by decide +kernel
theorem d_M_come_36 : decode b_M_come 36 = .ok (.iconst 0, 1) := by decide +kernel
theorem d_M_come_37 : decode b_M_come 37 = .ok (.invokevirtual 71, 3) := by decide +kernel
theorem d_M_come_40 : decode b_M_come 40 = .ok (.aload_n 0, 1) := by decide +kernel
theorem d_M_come_41 : decode b_M_come 41 = .ok (.iconst 1, 1) := by decide +kernel
theorem d_M_come_42 : decode b_M_come 42 = .ok (.invokevirtual 71, 3) := by decide +kernel
theorem d_M_come_45 : decode b_M_come 45 = .ok (.iadd, 1) := by decide +kernel
theorem d_M_come_46 : decode b_M_come 46 = .ok (.bipush 24, 2) := by decide +kernel
theorem d_M_come_48 : decode b_M_come 48 = .ok (.if_icmp .ne 6, 3) := by decide +kernel
theorem d_M_come_51 : decode b_M_come 51 = .ok (.bipush (-2), 2) := by decide +kernel
theorem d_M_come_53 : decode b_M_come 53 = .ok (.ireturn, 1) := by decide +kernel
theorem d_M_come_54 : decode b_M_come 54 = .ok (.aload_n 0, 1) := by decide +kernel
theorem d_M_come_55 : decode b_M_come 55 = .ok (.getfield 47, 3) := by decide +kernel
theorem d_M_come_58 : decode b_M_come 58 = .ok (.istore 5, 2) := by decide +kernel
theorem d_M_come_60 : decode b_M_come 60 = .ok (.aload_n 0, 1) := by decide +kernel
theorem d_M_come_61 : decode b_M_come 61 = .ok (.getfield 13, 3) := by decide +kernel
theorem d_M_come_64 : decode b_M_come 64 = .ok (.iload 5, 2) := by decide +kernel
theorem d_M_come_66 : decode b_M_come 66 = .ok (.iload_n 1, 1) := by decide +kernel
theorem d_M_come_67 : decode b_M_come 67 = .ok (.iastore, 1) := by decide +kernel
theorem d_M_come_68 : decode b_M_come 68 = .ok (.aload_n 0, 1) := by decide +kernel
theorem d_M_come_69 : decode b_M_come 69 = .ok (.getfield 16, 3) := by decide +kernel
theorem d_M_come_72 : decode b_M_come 72 = .ok (.iload 5, 2) := by decide +kernel
theorem d_M_come_74 : decode b_M_come 74 = .ok (.iload_n 2, 1) := by decide +kernel
theorem d_M_come_75 : decode b_M_come 75 = .ok (.iastore, 1) := by decide +kernel
theorem d_M_come_76 : decode b_M_come 76 = .ok (.aload_n 0, 1) := by decide +kernel
theorem d_M_come_77 : decode b_M_come 77 = .ok (.getfield 19, 3) := by decide +kernel
theorem d_M_come_80 : decode b_M_come 80 = .ok (.iload 5, 2) := by decide +kernel
theorem d_M_come_82 : decode b_M_come 82 = .ok (.iload_n 3, 1) := by decide +kernel
theorem d_M_come_83 : decode b_M_come 83 = .ok (.iastore, 1) := by decide +kernel
theorem d_M_come_84 : decode b_M_come 84 = .ok (.aload_n 0, 1) := by decide +kernel
theorem d_M_come_85 : decode b_M_come 85 = .ok (.getfield 22, 3) := by decide +kernel
theorem d_M_come_88 : decode b_M_come 88 = .ok (.iload 5, 2) := by decide +kernel
theorem d_M_come_90 : decode b_M_come 90 = .ok (.iload 4, 2) := by decide +kernel
theorem d_M_come_92 : decode b_M_come 92 = .ok (.iastore, 1) := by decide +kernel
theorem d_M_come_93 : decode b_M_come 93 = .ok (.aload_n 0, 1) := by decide +kernel
theorem d_M_come_94 : decode b_M_come 94 = .ok (.iload 5, 2) := by decide +kernel
theorem d_M_come_96 : decode b_M_come 96 = .ok (.invokevirtual 74, 3) := by decide +kernel
theorem d_M_come_99 : decode b_M_come 99 = .ok (.istore 6, 2) := by decide +kernel
theorem d_M_come_101 : decode b_M_come 101 = .ok (.aload_n 0, 1) := by decide +kernel
theorem d_M_come_102 : decode b_M_come 102 = .ok (.aload_n 0, 1) := by decide +kernel
theorem d_M_come_103 : decode b_M_come 103 = .ok (.getfield 47, 3) := by decide +kernel
theorem d_M_come_106 : decode b_M_come 106 = .ok (.iconst 1, 1) := by decide +kernel
theorem d_M_come_107 : decode b_M_come 107 = .ok (.iadd, 1) := by decide +kernel
theorem d_M_come_108 : decode b_M_come 108 = .ok (.putfield 47, 3) := by decide +kernel
theorem d_M_come_111 : decode b_M_come 111 = .ok (.aload_n 0, 1) := by decide +kernel
theorem d_M_come_112 : decode b_M_come 112 = .ok (.getfield 25, 3) := by decide +kernel
theorem d_M_come_115 : decode b_M_come 115 = .ok (.iload 5, 2) := by decide +kernel
theorem d_M_come_117 : decode b_M_come 117 = .ok (.iload 6, 2) := by decide +kernel
theorem d_M_come_119 : decode b_M_come 119 = .ok (.iastore, 1) := by decide +kernel
theorem d_M_come_120 : decode b_M_come 120 = .ok (.aload_n 0, 1) := by decide +kernel
theorem d_M_come_121 : decode b_M_come 121 = .ok (.getfield 28, 3) := by decide +kernel
theorem d_M_come_124 : decode b_M_come 124 = .ok (.iload 5, 2) := by decide +kernel
theorem d_M_come_126 : decode b_M_come 126 = .ok (.iconst 1, 1) := by decide +kernel
theorem d_M_come_127 : decode b_M_come 127 = .ok (.iastore, 1) := by decide +kernel
theorem d_M_come_128 : decode b_M_come 128 = .ok (.iload 6, 2) := by decide +kernel
theorem d_M_come_130 : decode b_M_come 130 = .ok (.iload 5, 2) := by decide +kernel
theorem d_M_come_132 : decode b_M_come 132 = .ok (.if_icmp .ne 32, 3) := by decide +kernel
theorem d_M_come_135 : decode b_M_come 135 = .ok (.aload_n 0, 1) := by decide +kernel
theorem d_M_come_136 : decode b_M_come 136 = .ok (.getfield 34, 3) := by decide +kernel
theorem d_M_come_139 : decode b_M_come 139 = .ok (.iload 5, 2) := by decide +kernel
theorem d_M_come_141 : decode b_M_come 141 = .ok (.aload_n 0, 1) := by decide +kernel
theorem d_M_come_142 : decode b_M_come 142 = .ok (.getfield 77, 3) := by decide +kernel
theorem d_M_come_145 : decode b_M_come 145 = .ok (.aload_n 0, 1) := by decide +kernel
theorem d_M_come_146 : decode b_M_come 146 = .ok (.getfield 40, 3) := by decide +kernel
theorem d_M_come_149 : decode b_M_come 149 = .ok (.iload_n 1, 1) := by decide +kernel
theorem d_M_come_150 : decode b_M_come 150 = .ok (.iaload, 1) := by decide +kernel
theorem d_M_come_151 : decode b_M_come 151 = .ok (.iadd, 1) := by decide +kernel
theorem d_M_come_152 : decode b_M_come 152 = .ok (.iastore, 1) := by decide +kernel
theorem d_M_come_153 : decode b_M_come 153 = .ok (.aload_n 0, 1) := by decide +kernel
theorem d_M_come_154 : decode b_M_come 154 = .ok (.getfield 37, 3) := by decide +kernel
theorem d_M_come_157 : decode b_M_come 157 = .ok (.iload 5, 2) := by decide +kernel
theorem d_M_come_159 : decode b_M_come 159 = .ok (.aload_n 0, 1) := by decide +kernel
theorem d_M_come_160 : decode b_M_come 160 = .ok (.getfield 58, 3) := by decide +kernel
theorem d_M_come_163 : decode b_M_come 163 = .ok (.iastore, 1) := by decide +kernel
theorem d_M_come_164 : decode b_M_come 164 = .ok (.iload 5, 2) := by decide +kernel
theorem d_M_come_166 : decode b_M_come 166 = .ok (.ireturn, 1) := by decide +kernel
abbrev rm_M_read : Room := { frames := 3, cells := 0, slots := 0, locals := 73 }
theorem good_M_read : GoodIn TB (.code y_M_read b_M_read 3 (some .int) :: TB) := good_of tb_430
theorem hd_M_read : y_M_read.cls ≠ "java/lang/invoke/MethodHandle" ∧ y_M_read.cls ≠ "java/lang/invoke/VarHandle" ∧ (parseMethodDescriptor y_M_read.desc).map (fun d => d.parameters.length) = some 2 := by decide +kernel
theorem d_M_read_0 : decode b_M_read 0 = .ok (.aload_n 0, 1) := by decide +kernel
theorem d_M_read_1 : decode b_M_read 1 = .ok (.iconst 0, 1) := by decide +kernel
theorem d_M_read_2 : decode b_M_read 2 = .ok (.iload_n 1, 1) := by decide +kernel
theorem d_M_read_3 : decode b_M_read 3 = .ok (.iload_n 2, 1) := by decide +kernel
theorem d_M_read_4 : decode b_M_read 4 = .ok (.iconst 0, 1) := by decide +kernel
theorem d_M_read_5 : decode b_M_read 5 = .ok (.invokevirtual 80, 3) := by decide +kernel
theorem d_M_read_8 : decode b_M_read 8 = .ok (.ireturn, 1) := by decide +kernel
abbrev rm_M_write : Room := { frames := 3, cells := 0, slots := 0, locals := 73 }
theorem good_M_write : GoodIn TB (.code y_M_write b_M_write 4 (some .int) :: TB) := good_of tb_466
theorem hd_M_write : y_M_write.cls ≠ "java/lang/invoke/MethodHandle" ∧ y_M_write.cls ≠ "java/lang/invoke/VarHandle" ∧ (parseMethodDescriptor y_M_write.desc).map (fun d => d.parameters.length) = some 3 := by decide +kernel
theorem d_M_write_0 : decode b_M_write 0 = .ok (.aload_n 0, 1) := by decide +kernel
theorem d_M_write_1 : decode b_M_write 1 = .ok (.iconst 1, 1) := by decide +kernel
theorem d_M_write_2 : decode b_M_write 2 = .ok (.iload_n 1, 1) := by decide +kernel
theorem d_M_write_3 : decode b_M_write 3 = .ok (.iload_n 2, 1) := by decide +kernel
theorem d_M_write_4 : decode b_M_write 4 = .ok (.iload_n 3, 1) := by decide +kernel
theorem d_M_write_5 : decode b_M_write 5 = .ok (.invokevirtual 80, 3) := by decide +kernel
theorem d_M_write_8 : decode b_M_write 8 = .ok (.ireturn, 1) := by decide +kernel
abbrev rm_M_barrier : Room := { frames := 0, cells := 0, slots := 0, locals := 0 }
theorem good_M_barrier : GoodIn TB (.code y_M_barrier b_M_barrier 1 (some .int) :: TB) := good_of tb_470
theorem hd_M_barrier : y_M_barrier.cls ≠ "java/lang/invoke/MethodHandle" ∧ y_M_barrier.cls ≠ "java/lang/invoke/VarHandle" ∧ (parseMethodDescriptor y_M_barrier.desc).map (fun d => d.parameters.length) = some 0 := by decide +kernel
theorem d_M_barrier_0 : decode b_M_barrier 0 = .ok (.aload_n 0, 1) := by decide +kernel
theorem d_M_barrier_1 : decode b_M_barrier 1 = .ok (.aload_n 0, 1) := by decide +kernel
theorem d_M_barrier_2 : decode b_M_barrier 2 = .ok (.getfield 58, 3) := by decide +kernel
theorem d_M_barrier_5 : decode b_M_barrier 5 = .ok (.iconst 1, 1) := by decide +kernel
theorem d_M_barrier_6 : decode b_M_barrier 6 = .ok (.iadd, 1) := by decide +kernel
theorem d_M_barrier_7 : decode b_M_barrier 7 = .ok (.putfield 58, 3) := by decide +kernel
theorem d_M_barrier_10 : decode b_M_barrier 10 = .ok (.aload_n 0, 1) := by decide +kernel
theorem d_M_barrier_11 : decode b_M_barrier 11 = .ok (.getfield 58, 3) := by decide +kernel
theorem d_M_barrier_14 : decode b_M_barrier 14 = .ok (.ireturn, 1) := by decide +kernel
abbrev rm_M_expire : Room := { frames := 2, cells := 0, slots := 0, locals := 44 }
theorem good_M_expire : GoodIn TB (.code y_M_expire b_M_expire 3 (some .boolean) :: TB) := good_of tb_474
theorem hd_M_expire : y_M_expire.cls ≠ "java/lang/invoke/MethodHandle" ∧ y_M_expire.cls ≠ "java/lang/invoke/VarHandle" ∧ (parseMethodDescriptor y_M_expire.desc).map (fun d => d.parameters.length) = some 2 := by decide +kernel
theorem d_M_expire_0 : decode b_M_expire 0 = .ok (.aload_n 0, 1) := by decide +kernel
theorem d_M_expire_1 : decode b_M_expire 1 = .ok (.iconst 0, 1) := by decide +kernel
theorem d_M_expire_2 : decode b_M_expire 2 = .ok (.invokevirtual 71, 3) := by decide +kernel
theorem d_M_expire_5 : decode b_M_expire 5 = .ok (.aload_n 0, 1) := by decide +kernel
theorem d_M_expire_6 : decode b_M_expire 6 = .ok (.iconst 1, 1) := by decide +kernel
theorem d_M_expire_7 : decode b_M_expire 7 = .ok (.invokevirtual 71, 3) := by decide +kernel
theorem d_M_expire_10 : decode b_M_expire 10 = .ok (.iadd, 1) := by decide +kernel
theorem d_M_expire_11 : decode b_M_expire 11 = .ok (.ifCond .gt 25, 3) := by decide +kernel
theorem d_M_expire_14 : decode b_M_expire 14 = .ok (.iload_n 1, 1) := by decide +kernel
theorem d_M_expire_15 : decode b_M_expire 15 = .ok (.ifCond .lt 21, 3) := by decide +kernel
theorem d_M_expire_18 : decode b_M_expire 18 = .ok (.iload_n 1, 1) := by decide +kernel
theorem d_M_expire_19 : decode b_M_expire 19 = .ok (.sipush 10000, 3) := by decide +kernel
theorem d_M_expire_22 : decode b_M_expire 22 = .ok (.if_icmp .gt 14, 3) := by decide +kernel
theorem d_M_expire_25 : decode b_M_expire 25 = .ok (.iload_n 2, 1) := by decide +kernel
theorem d_M_expire_26 : decode b_M_expire 26 = .ok (.ifCond .lt 10, 3) := by decide +kernel
theorem d_M_expire_29 : decode b_M_expire 29 = .ok (.iload_n 2, 1) := by decide +kernel
theorem d_M_expire_30 : decode b_M_expire 30 = .ok (.sipush 10000, 3) := by decide +kernel
theorem d_M_expire_33 : decode b_M_expire 33 = .ok (.if_icmp .le 5, 3) := by decide +kernel
theorem d_M_expire_36 : decode b_M_expire 36 = .ok (.iconst 0, 1) := by decide +kernel
theorem d_M_expire_37 : decode b_M_expire 37 = .ok (.ireturn, 1) := by decide +kernel
theorem d_M_expire_38 : decode b_M_expire 38 = .ok (.aload_n 0, 1) := by decide +kernel
theorem d_M_expire_39 : decode b_M_expire 39 = .ok (.getfield 40, 3) := by decide +kernel
theorem d_M_expire_42 : decode b_M_expire 42 = .ok (.iconst 0, 1) := by decide +kernel
theorem d_M_expire_43 : decode b_M_expire 43 = .ok (.iload_n 1, 1) := by decide +kernel
theorem d_M_expire_44 : decode b_M_expire 44 = .ok (.iastore, 1) := by decide +kernel
theorem d_M_expire_45 : decode b_M_expire 45 = .ok (.aload_n 0, 1) := by decide +kernel
theorem d_M_expire_46 : decode b_M_expire 46 = .ok (.getfield 40, 3) := by decide +kernel
theorem d_M_expire_49 : decode b_M_expire 49 = .ok (.iconst 1, 1) := by decide +kernel
theorem d_M_expire_50 : decode b_M_expire 50 = .ok (.iload_n 2, 1) := by decide +kernel
theorem d_M_expire_51 : decode b_M_expire 51 = .ok (.iastore, 1) := by decide +kernel
theorem d_M_expire_52 : decode b_M_expire 52 = .ok (.iconst 1, 1) := by decide +kernel
theorem d_M_expire_53 : decode b_M_expire 53 = .ok (.ireturn, 1) := by decide +kernel
abbrev rm_M_tick : Room := { frames := 0, cells := 0, slots := 0, locals := 0 }
theorem good_M_tick : GoodIn TB (.code y_M_tick b_M_tick 2 (some .boolean) :: TB) := good_of tb_478
theorem hd_M_tick : y_M_tick.cls ≠ "java/lang/invoke/MethodHandle" ∧ y_M_tick.cls ≠ "java/lang/invoke/VarHandle" ∧ (parseMethodDescriptor y_M_tick.desc).map (fun d => d.parameters.length) = some 1 := by decide +kernel
theorem d_M_tick_0 : decode b_M_tick 0 = .ok (.iload_n 1, 1) := by decide +kernel
theorem d_M_tick_1 : decode b_M_tick 1 = .ok (.ifCond .lt 9, 3) := by decide +kernel
theorem d_M_tick_4 : decode b_M_tick 4 = .ok (.iload_n 1, 1) := by decide +kernel
theorem d_M_tick_5 : decode b_M_tick 5 = .ok (.ldc 84, 2) := by decide +kernel
theorem d_M_tick_7 : decode b_M_tick 7 = .ok (.if_icmp .le 5, 3) := by decide +kernel
theorem d_M_tick_10 : decode b_M_tick 10 = .ok (.iconst 0, 1) := by decide +kernel
theorem d_M_tick_11 : decode b_M_tick 11 = .ok (.ireturn, 1) := by decide +kernel
theorem d_M_tick_12 : decode b_M_tick 12 = .ok (.aload_n 0, 1) := by decide +kernel
theorem d_M_tick_13 : decode b_M_tick 13 = .ok (.aload_n 0, 1) := by decide +kernel
theorem d_M_tick_14 : decode b_M_tick 14 = .ok (.getfield 77, 3) := by decide +kernel
theorem d_M_tick_17 : decode b_M_tick 17 = .ok (.iload_n 1, 1) := by decide +kernel
theorem d_M_tick_18 : decode b_M_tick 18 = .ok (.iadd, 1) := by decide +kernel
theorem d_M_tick_19 : decode b_M_tick 19 = .ok (.putfield 77, 3) := by decide +kernel
theorem d_M_tick_22 : decode b_M_tick 22 = .ok (.iconst 1, 1) := by decide +kernel
theorem d_M_tick_23 : decode b_M_tick 23 = .ok (.ireturn, 1) := by decide +kernel
abbrev rm_M_sweep : Room := { frames := 2, cells := 0, slots := 0, locals := 45 }
theorem good_M_sweep : GoodIn TB (.code y_M_sweep b_M_sweep 5 (some .int) :: TB) := good_of tb_487
theorem hd_M_sweep : y_M_sweep.cls ≠ "java/lang/invoke/MethodHandle" ∧ y_M_sweep.cls ≠ "java/lang/invoke/VarHandle" ∧ (parseMethodDescriptor y_M_sweep.desc).map (fun d => d.parameters.length) = some 2 := by decide +kernel
theorem d_M_sweep_0 : decode b_M_sweep 0 = .ok (.iconst (-1), 1) := by decide +kernel
theorem d_M_sweep_1 : decode b_M_sweep 1 = .ok (.istore_n 3, 1) := by decide +kernel
theorem d_M_sweep_2 : decode b_M_sweep 2 = .ok (.iconst 0, 1) := by decide +kernel
theorem d_M_sweep_3 : decode b_M_sweep 3 = .ok (.istore 4, 2) := by decide +kernel
theorem d_M_sweep_5 : decode b_M_sweep 5 = .ok (.iload 4, 2) := by decide +kernel
theorem d_M_sweep_7 : decode b_M_sweep 7 = .ok (.aload_n 0, 1) := by decide +kernel
theorem d_M_sweep_8 : decode b_M_sweep 8 = .ok (.getfield 47, 3) := by decide +kernel
theorem d_M_sweep_11 : decode b_M_sweep 11 = .ok (.if_icmp .ge 60, 3) := by decide +kernel
theorem d_M_sweep_14 : decode b_M_sweep 14 = .ok (.aload_n 0, 1) := by decide +kernel
theorem d_M_sweep_15 : decode b_M_sweep 15 = .ok (.iload 4, 2) := by decide +kernel
theorem d_M_sweep_17 : decode b_M_sweep 17 = .ok (.invokevirtual 85, 3) := by decide +kernel
theorem d_M_sweep_20 : decode b_M_sweep 20 = .ok (.ifCond .eq 45, 3) := by decide +kernel
theorem d_M_sweep_23 : decode b_M_sweep 23 = .ok (.aload_n 0, 1) := by decide +kernel
theorem d_M_sweep_24 : decode b_M_sweep 24 = .ok (.getfield 13, 3) := by decide +kernel
theorem d_M_sweep_27 : decode b_M_sweep 27 = .ok (.iload 4, 2) := by decide +kernel
theorem d_M_sweep_29 : decode b_M_sweep 29 = .ok (.iaload, 1) := by decide +kernel
theorem d_M_sweep_30 : decode b_M_sweep 30 = .ok (.iload_n 1, 1) := by decide +kernel
theorem d_M_sweep_31 : decode b_M_sweep 31 = .ok (.if_icmp .ne 34, 3) := by decide +kernel
theorem d_M_sweep_34 : decode b_M_sweep 34 = .ok (.aload_n 0, 1) := by decide +kernel
theorem d_M_sweep_35 : decode b_M_sweep 35 = .ok (.iload 4, 2) := by decide +kernel
theorem d_M_sweep_37 : decode b_M_sweep 37 = .ok (.invokevirtual 68, 3) := by decide +kernel
theorem d_M_sweep_40 : decode b_M_sweep 40 = .ok (.iload_n 2, 1) := by decide +kernel
theorem d_M_sweep_41 : decode b_M_sweep 41 = .ok (.if_icmp .lt 24, 3) := by decide +kernel
theorem d_M_sweep_44 : decode b_M_sweep 44 = .ok (.iload_n 3, 1) := by decide +kernel
theorem d_M_sweep_45 : decode b_M_sweep 45 = .ok (.ifCond .lt 17, 3) := by decide +kernel
theorem d_M_sweep_48 : decode b_M_sweep 48 = .ok (.aload_n 0, 1) := by decide +kernel
theorem d_M_sweep_49 : decode b_M_sweep 49 = .ok (.iload 4, 2) := by decide +kernel
theorem d_M_sweep_51 : decode b_M_sweep 51 = .ok (.invokevirtual 68, 3) := by decide +kernel
theorem d_M_sweep_54 : decode b_M_sweep 54 = .ok (.aload_n 0, 1) := by decide +kernel
theorem d_M_sweep_55 : decode b_M_sweep 55 = .ok (.iload_n 3, 1) := by decide +kernel
theorem d_M_sweep_56 : decode b_M_sweep 56 = .ok (.invokevirtual 68, 3) := by decide +kernel
theorem d_M_sweep_59 : decode b_M_sweep 59 = .ok (.if_icmp .ge 6, 3) := by decide +kernel
theorem d_M_sweep_62 : decode b_M_sweep 62 = .ok (.iload 4, 2) := by decide +kernel
theorem d_M_sweep_64 : decode b_M_sweep 64 = .ok (.istore_n 3, 1) := by decide +kernel
theorem d_M_sweep_65 : decode b_M_sweep 65 = .ok (.iinc 4 1, 3) := by decide +kernel
theorem d_M_sweep_68 : decode b_M_sweep 68 = .ok (.goto (-63), 3) := by decide +kernel
theorem d_M_sweep_71 : decode b_M_sweep 71 = .ok (.iload_n 3, 1) := by decide +kernel
theorem d_M_sweep_72 : decode b_M_sweep 72 = .ok (.ireturn, 1) := by decide +kernel
abbrev rm_M_late : Room := { frames := 2, cells := 0, slots := 0, locals := 45 }
theorem good_M_late : GoodIn TB (.code y_M_late b_M_late 4 (some .int) :: TB) := good_of tb_503
theorem hd_M_late : y_M_late.cls ≠ "java/lang/invoke/MethodHandle" ∧ y_M_late.cls ≠ "java/lang/invoke/VarHandle" ∧ (parseMethodDescriptor y_M_late.desc).map (fun d => d.parameters.length) = some 1 := by decide +kernel
theorem d_M_late_0 : decode b_M_late 0 = .ok (.iconst (-1), 1) := by decide +kernel
theorem d_M_late_1 : decode b_M_late 1 = .ok (.istore_n 2, 1) := by decide +kernel
theorem d_M_late_2 : decode b_M_late 2 = .ok (.iconst 0, 1) := by decide +kernel
theorem d_M_late_3 : decode b_M_late 3 = .ok (.istore_n 3, 1) := by decide +kernel
theorem d_M_late_4 : decode b_M_late 4 = .ok (.iload_n 3, 1) := by decide +kernel
theorem d_M_late_5 : decode b_M_late 5 = .ok (.aload_n 0, 1) := by decide +kernel
theorem d_M_late_6 : decode b_M_late 6 = .ok (.getfield 47, 3) := by decide +kernel
theorem d_M_late_9 : decode b_M_late 9 = .ok (.if_icmp .ge 61, 3) := by decide +kernel
theorem d_M_late_12 : decode b_M_late 12 = .ok (.aload_n 0, 1) := by decide +kernel
theorem d_M_late_13 : decode b_M_late 13 = .ok (.iload_n 3, 1) := by decide +kernel
theorem d_M_late_14 : decode b_M_late 14 = .ok (.invokevirtual 85, 3) := by decide +kernel
theorem d_M_late_17 : decode b_M_late 17 = .ok (.ifCond .eq 47, 3) := by decide +kernel
theorem d_M_late_20 : decode b_M_late 20 = .ok (.aload_n 0, 1) := by decide +kernel
theorem d_M_late_21 : decode b_M_late 21 = .ok (.getfield 13, 3) := by decide +kernel
theorem d_M_late_24 : decode b_M_late 24 = .ok (.iload_n 3, 1) := by decide +kernel
theorem d_M_late_25 : decode b_M_late 25 = .ok (.iaload, 1) := by decide +kernel
theorem d_M_late_26 : decode b_M_late 26 = .ok (.iload_n 1, 1) := by decide +kernel
theorem d_M_late_27 : decode b_M_late 27 = .ok (.if_icmp .ne 37, 3) := by decide +kernel
theorem d_M_late_30 : decode b_M_late 30 = .ok (.aload_n 0, 1) := by decide +kernel
theorem d_M_late_31 : decode b_M_late 31 = .ok (.getfield 34, 3) := by decide +kernel
theorem d_M_late_34 : decode b_M_late 34 = .ok (.iload_n 3, 1) := by decide +kernel
theorem d_M_late_35 : decode b_M_late 35 = .ok (.iaload, 1) := by decide +kernel
theorem d_M_late_36 : decode b_M_late 36 = .ok (.aload_n 0, 1) := by decide +kernel
theorem d_M_late_37 : decode b_M_late 37 = .ok (.getfield 77, 3) := by decide +kernel
theorem d_M_late_40 : decode b_M_late 40 = .ok (.if_icmp .gt 24, 3) := by decide +kernel
theorem d_M_late_43 : decode b_M_late 43 = .ok (.iload_n 2, 1) := by decide +kernel
theorem d_M_late_44 : decode b_M_late 44 = .ok (.ifCond .lt 18, 3) := by decide +kernel
theorem d_M_late_47 : decode b_M_late 47 = .ok (.aload_n 0, 1) := by decide +kernel
theorem d_M_late_48 : decode b_M_late 48 = .ok (.getfield 34, 3) := by decide +kernel
theorem d_M_late_51 : decode b_M_late 51 = .ok (.iload_n 3, 1) := by decide +kernel
theorem d_M_late_52 : decode b_M_late 52 = .ok (.iaload, 1) := by decide +kernel
theorem d_M_late_53 : decode b_M_late 53 = .ok (.aload_n 0, 1) := by decide +kernel
theorem d_M_late_54 : decode b_M_late 54 = .ok (.getfield 34, 3) := by decide +kernel
theorem d_M_late_57 : decode b_M_late 57 = .ok (.iload_n 2, 1) := by decide +kernel
theorem d_M_late_58 : decode b_M_late 58 = .ok (.iaload, 1) := by decide +kernel
theorem d_M_late_59 : decode b_M_late 59 = .ok (.if_icmp .ge 5, 3) := by decide +kernel
theorem d_M_late_62 : decode b_M_late 62 = .ok (.iload_n 3, 1) := by decide +kernel
theorem d_M_late_63 : decode b_M_late 63 = .ok (.istore_n 2, 1) := by decide +kernel
theorem d_M_late_64 : decode b_M_late 64 = .ok (.iinc 3 1, 3) := by decide +kernel
theorem d_M_late_67 : decode b_M_late 67 = .ok (.goto (-63), 3) := by decide +kernel
theorem d_M_late_70 : decode b_M_late 70 = .ok (.iload_n 2, 1) := by decide +kernel
theorem d_M_late_71 : decode b_M_late 71 = .ok (.ireturn, 1) := by decide +kernel
abbrev rm_M_ready : Room := { frames := 2, cells := 0, slots := 0, locals := 45 }
theorem good_M_ready : GoodIn TB (.code y_M_ready b_M_ready 4 (some .int) :: TB) := good_of tb_499
theorem hd_M_ready : y_M_ready.cls ≠ "java/lang/invoke/MethodHandle" ∧ y_M_ready.cls ≠ "java/lang/invoke/VarHandle" ∧ (parseMethodDescriptor y_M_ready.desc).map (fun d => d.parameters.length) = some 1 := by decide +kernel
theorem d_M_ready_0 : decode b_M_ready 0 = .ok (.iconst 0, 1) := by decide +kernel
theorem d_M_ready_1 : decode b_M_ready 1 = .ok (.istore_n 2, 1) := by decide +kernel
theorem d_M_ready_2 : decode b_M_ready 2 = .ok (.iconst 0, 1) := by decide +kernel
theorem d_M_ready_3 : decode b_M_ready 3 = .ok (.istore_n 3, 1) := by decide +kernel
theorem d_M_ready_4 : decode b_M_ready 4 = .ok (.iload_n 3, 1) := by decide +kernel
theorem d_M_ready_5 : decode b_M_ready 5 = .ok (.aload_n 0, 1) := by decide +kernel
theorem d_M_ready_6 : decode b_M_ready 6 = .ok (.getfield 47, 3) := by decide +kernel
theorem d_M_ready_9 : decode b_M_ready 9 = .ok (.if_icmp .ge 35, 3) := by decide +kernel
theorem d_M_ready_12 : decode b_M_ready 12 = .ok (.aload_n 0, 1) := by decide +kernel
theorem d_M_ready_13 : decode b_M_ready 13 = .ok (.getfield 13, 3) := by decide +kernel
theorem d_M_ready_16 : decode b_M_ready 16 = .ok (.iload_n 3, 1) := by decide +kernel
theorem d_M_ready_17 : decode b_M_ready 17 = .ok (.iaload, 1) := by decide +kernel
theorem d_M_ready_18 : decode b_M_ready 18 = .ok (.iload_n 1, 1) := by decide +kernel
theorem d_M_ready_19 : decode b_M_ready 19 = .ok (.if_icmp .ne 17, 3) := by decide +kernel
theorem d_M_ready_22 : decode b_M_ready 22 = .ok (.aload_n 0, 1) := by decide +kernel
theorem d_M_ready_23 : decode b_M_ready 23 = .ok (.iload_n 3, 1) := by decide +kernel
theorem d_M_ready_24 : decode b_M_ready 24 = .ok (.invokevirtual 85, 3) := by decide +kernel
theorem d_M_ready_27 : decode b_M_ready 27 = .ok (.ifCond .eq 9, 3) := by decide +kernel
theorem d_M_ready_30 : decode b_M_ready 30 = .ok (.iload_n 2, 1) := by decide +kernel
theorem d_M_ready_31 : decode b_M_ready 31 = .ok (.iconst 1, 1) := by decide +kernel
theorem d_M_ready_32 : decode b_M_ready 32 = .ok (.iadd, 1) := by decide +kernel
theorem d_M_ready_33 : decode b_M_ready 33 = .ok (.goto 4, 3) := by decide +kernel
theorem d_M_ready_36 : decode b_M_ready 36 = .ok (.iload_n 2, 1) := by decide +kernel
theorem d_M_ready_37 : decode b_M_ready 37 = .ok (.istore_n 2, 1) := by decide +kernel
theorem d_M_ready_38 : decode b_M_ready 38 = .ok (.iinc 3 1, 3) := by decide +kernel
theorem d_M_ready_41 : decode b_M_ready 41 = .ok (.goto (-37), 3) := by decide +kernel
theorem d_M_ready_44 : decode b_M_ready 44 = .ok (.iload_n 1, 1) := by decide +kernel
theorem d_M_ready_45 : decode b_M_ready 45 = .ok (.ifCond .lt 8, 3) := by decide +kernel
theorem d_M_ready_48 : decode b_M_ready 48 = .ok (.iload_n 1, 1) := by decide +kernel
theorem d_M_ready_49 : decode b_M_ready 49 = .ok (.iconst 1, 1) := by decide +kernel
theorem d_M_ready_50 : decode b_M_ready 50 = .ok (.if_icmp .le 7, 3) := by decide +kernel
theorem d_M_ready_53 : decode b_M_ready 53 = .ok (.iconst (-1), 1) := by decide +kernel
theorem d_M_ready_54 : decode b_M_ready 54 = .ok (.goto 4, 3) := by decide +kernel
theorem d_M_ready_57 : decode b_M_ready 57 = .ok (.iload_n 2, 1) := by decide +kernel
theorem d_M_ready_58 : decode b_M_ready 58 = .ok (.ireturn, 1) := by decide +kernel
abbrev rm_M_fresh : Room := { frames := 3, cells := 0, slots := 0, locals := 69 }
theorem good_M_fresh : GoodIn TB (.code y_M_fresh b_M_fresh 3 (some .int) :: TB) := good_of tb_495
theorem hd_M_fresh : y_M_fresh.cls ≠ "java/lang/invoke/MethodHandle" ∧ y_M_fresh.cls ≠ "java/lang/invoke/VarHandle" ∧ (parseMethodDescriptor y_M_fresh.desc).map (fun d => d.parameters.length) = some 0 := by decide +kernel
theorem d_M_fresh_0 : decode b_M_fresh 0 = .ok (.aload_n 0, 1) := by decide +kernel
theorem d_M_fresh_1 : decode b_M_fresh 1 = .ok (.iconst 1, 1) := by decide +kernel
theorem d_M_fresh_2 : decode b_M_fresh 2 = .ok (.invokevirtual 88, 3) := by decide +kernel
theorem d_M_fresh_5 : decode b_M_fresh 5 = .ok (.ifCond .le 7, 3) := by decide +kernel
theorem d_M_fresh_8 : decode b_M_fresh 8 = .ok (.iconst 1, 1) := by decide +kernel
theorem d_M_fresh_9 : decode b_M_fresh 9 = .ok (.goto 4, 3) := by decide +kernel
theorem d_M_fresh_12 : decode b_M_fresh 12 = .ok (.iconst 0, 1) := by decide +kernel
theorem d_M_fresh_13 : decode b_M_fresh 13 = .ok (.istore_n 1, 1) := by decide +kernel
theorem d_M_fresh_14 : decode b_M_fresh 14 = .ok (.aload_n 0, 1) := by decide +kernel
theorem d_M_fresh_15 : decode b_M_fresh 15 = .ok (.iconst 0, 1) := by decide +kernel
theorem d_M_fresh_16 : decode b_M_fresh 16 = .ok (.invokevirtual 88, 3) := by decide +kernel
theorem d_M_fresh_19 : decode b_M_fresh 19 = .ok (.ifCond .le 44, 3) := by decide +kernel
theorem d_M_fresh_22 : decode b_M_fresh 22 = .ok (.iload_n 1, 1) := by decide +kernel
theorem d_M_fresh_23 : decode b_M_fresh 23 = .ok (.ifCond .eq 11, 3) := by decide +kernel
theorem d_M_fresh_26 : decode b_M_fresh 26 = .ok (.aload_n 0, 1) := by decide +kernel
theorem d_M_fresh_27 : decode b_M_fresh 27 = .ok (.getfield 91, 3) := by decide +kernel
theorem d_M_fresh_30 : decode b_M_fresh 30 = .ok (.iconst 2, 1) := by decide +kernel
theorem d_M_fresh_31 : decode b_M_fresh 31 = .ok (.if_icmp .ge 32, 3) := by decide +kernel
theorem d_M_fresh_34 : decode b_M_fresh 34 = .ok (.aload_n 0, 1) := by decide +kernel
theorem d_M_fresh_35 : decode b_M_fresh 35 = .ok (.iconst 0, 1) := by decide +kernel
theorem d_M_fresh_36 : decode b_M_fresh 36 = .ok (.putfield 94, 3) := by decide +kernel
theorem d_M_fresh_39 : decode b_M_fresh 39 = .ok (.aload_n 0, 1) := by decide +kernel
theorem d_M_fresh_40 : decode b_M_fresh 40 = .ok (.iload_n 1, 1) := by decide +kernel
theorem d_M_fresh_41 : decode b_M_fresh 41 = .ok (.ifCond .eq 12, 3) := by decide +kernel
theorem d_M_fresh_44 : decode b_M_fresh 44 = .ok (.aload_n 0, 1) := by decide +kernel
theorem d_M_fresh_45 : decode b_M_fresh 45 = .ok (.getfield 91, 3) := by decide +kernel
theorem d_M_fresh_48 : decode b_M_fresh 48 = .ok (.iconst 1, 1) := by decide +kernel
theorem d_M_fresh_49 : decode b_M_fresh 49 = .ok (.iadd, 1) := by decide +kernel
theorem d_M_fresh_50 : decode b_M_fresh 50 = .ok (.goto 7, 3) := by decide +kernel
theorem d_M_fresh_53 : decode b_M_fresh 53 = .ok (.aload_n 0, 1) := by decide +kernel
theorem d_M_fresh_54 : decode b_M_fresh 54 = .ok (.getfield 91, 3) := by decide +kernel
theorem d_M_fresh_57 : decode b_M_fresh 57 = .ok (.putfield 91, 3) := by decide +kernel
theorem d_M_fresh_60 : decode b_M_fresh 60 = .ok (.goto 13, 3) := by decide +kernel
theorem d_M_fresh_63 : decode b_M_fresh 63 = .ok (.aload_n 0, 1) := by decide +kernel
theorem d_M_fresh_64 : decode b_M_fresh 64 = .ok (.iconst 1, 1) := by decide +kernel
theorem d_M_fresh_65 : decode b_M_fresh 65 = .ok (.putfield 94, 3) := by decide +kernel
theorem d_M_fresh_68 : decode b_M_fresh 68 = .ok (.aload_n 0, 1) := by decide +kernel
theorem d_M_fresh_69 : decode b_M_fresh 69 = .ok (.iconst 0, 1) := by decide +kernel
theorem d_M_fresh_70 : decode b_M_fresh 70 = .ok (.putfield 91, 3) := by decide +kernel
theorem d_M_fresh_73 : decode b_M_fresh 73 = .ok (.aload_n 0, 1) := by decide +kernel
theorem d_M_fresh_74 : decode b_M_fresh 74 = .ok (.iconst 1, 1) := by decide +kernel
theorem d_M_fresh_75 : decode b_M_fresh 75 = .ok (.putfield 97, 3) := by decide +kernel
theorem d_M_fresh_78 : decode b_M_fresh 78 = .ok (.aload_n 0, 1) := by decide +kernel
theorem d_M_fresh_79 : decode b_M_fresh 79 = .ok (.aload_n 0, 1) := by decide +kernel
theorem d_M_fresh_80 : decode b_M_fresh 80 = .ok (.getfield 94, 3) := by decide +kernel
theorem d_M_fresh_83 : decode b_M_fresh 83 = .ok (.invokevirtual 100, 3) := by decide +kernel
theorem d_M_fresh_86 : decode b_M_fresh 86 = .ok (.istore_n 2, 1) := by decide +kernel
theorem d_M_fresh_87 : decode b_M_fresh 87 = .ok (.iload_n 2, 1) := by decide +kernel
theorem d_M_fresh_88 : decode b_M_fresh 88 = .ok (.ifCond .ge 18, 3) := by decide +kernel
theorem d_M_fresh_91 : decode b_M_fresh 91 = .ok (.aload_n 0, 1) := by decide +kernel
theorem d_M_fresh_92 : decode b_M_fresh 92 = .ok (.aload_n 0, 1) := by decide +kernel
theorem d_M_fresh_93 : decode b_M_fresh 93 = .ok (.getfield 94, 3) := by decide +kernel
theorem d_M_fresh_96 : decode b_M_fresh 96 = .ok (.aload_n 0, 1) := by decide +kernel
theorem d_M_fresh_97 : decode b_M_fresh 97 = .ok (.getfield 103, 3) := by decide +kernel
theorem d_M_fresh_100 : decode b_M_fresh 100 = .ok (.invokevirtual 106, 3) := by decide +kernel
theorem d_M_fresh_103 : decode b_M_fresh 103 = .ok (.goto 4, 3) := by decide +kernel
theorem d_M_fresh_106 : decode b_M_fresh 106 = .ok (.iload_n 2, 1) := by decide +kernel
theorem d_M_fresh_107 : decode b_M_fresh 107 = .ok (.istore_n 2, 1) := by decide +kernel
theorem d_M_fresh_108 : decode b_M_fresh 108 = .ok (.iload_n 2, 1) := by decide +kernel
theorem d_M_fresh_109 : decode b_M_fresh 109 = .ok (.ifCond .ge 15, 3) := by decide +kernel
theorem d_M_fresh_112 : decode b_M_fresh 112 = .ok (.aload_n 0, 1) := by decide +kernel
theorem d_M_fresh_113 : decode b_M_fresh 113 = .ok (.aload_n 0, 1) := by decide +kernel
theorem d_M_fresh_114 : decode b_M_fresh 114 = .ok (.getfield 94, 3) := by decide +kernel
theorem d_M_fresh_117 : decode b_M_fresh 117 = .ok (.iconst 0, 1) := by decide +kernel
theorem d_M_fresh_118 : decode b_M_fresh 118 = .ok (.invokevirtual 106, 3) := by decide +kernel
theorem d_M_fresh_121 : decode b_M_fresh 121 = .ok (.goto 4, 3) := by decide +kernel
theorem d_M_fresh_124 : decode b_M_fresh 124 = .ok (.iload_n 2, 1) := by decide +kernel
theorem d_M_fresh_125 : decode b_M_fresh 125 = .ok (.ireturn, 1) := by decide +kernel
abbrev rm_M_carryOut : Room := { frames := 0, cells := 0, slots := 0, locals := 0 }
theorem good_M_carryOut : GoodIn TB (.code y_M_carryOut b_M_carryOut 3 none :: TB) := good_of tb_507
theorem hd_M_carryOut : y_M_carryOut.cls ≠ "java/lang/invoke/MethodHandle" ∧ y_M_carryOut.cls ≠ "java/lang/invoke/VarHandle" ∧ (parseMethodDescriptor y_M_carryOut.desc).map (fun d => d.parameters.length) = some 1 := by decide +kernel
theorem d_M_carryOut_0 : decode b_M_carryOut 0 = .ok (.aload_n 0, 1) := by decide +kernel
theorem d_M_carryOut_1 : decode b_M_carryOut 1 = .ok (.getfield 28, 3) := by decide +kernel
theorem d_M_carryOut_4 : decode b_M_carryOut 4 = .ok (.iload_n 1, 1) := by decide +kernel
theorem d_M_carryOut_5 : decode b_M_carryOut 5 = .ok (.iconst 2, 1) := by decide +kernel
theorem d_M_carryOut_6 : decode b_M_carryOut 6 = .ok (.iastore, 1) := by decide +kernel
theorem d_M_carryOut_7 : decode b_M_carryOut 7 = .ok (.iconst 0, 1) := by decide +kernel
theorem d_M_carryOut_8 : decode b_M_carryOut 8 = .ok (.istore_n 2, 1) := by decide +kernel
theorem d_M_carryOut_9 : decode b_M_carryOut 9 = .ok (.iload_n 2, 1) := by decide +kernel
theorem d_M_carryOut_10 : decode b_M_carryOut 10 = .ok (.aload_n 0, 1) := by decide +kernel
theorem d_M_carryOut_11 : decode b_M_carryOut 11 = .ok (.getfield 19, 3) := by decide +kernel
theorem d_M_carryOut_14 : decode b_M_carryOut 14 = .ok (.iload_n 1, 1) := by decide +kernel
theorem d_M_carryOut_15 : decode b_M_carryOut 15 = .ok (.iaload, 1) := by decide +kernel
theorem d_M_carryOut_16 : decode b_M_carryOut 16 = .ok (.if_icmp .ge 67, 3) := by decide +kernel
theorem d_M_carryOut_19 : decode b_M_carryOut 19 = .ok (.aload_n 0, 1) := by decide +kernel
theorem d_M_carryOut_20 : decode b_M_carryOut 20 = .ok (.getfield 13, 3) := by decide +kernel
theorem d_M_carryOut_23 : decode b_M_carryOut 23 = .ok (.iload_n 1, 1) := by decide +kernel
theorem d_M_carryOut_24 : decode b_M_carryOut 24 = .ok (.iaload, 1) := by decide +kernel
theorem d_M_carryOut_25 : decode b_M_carryOut 25 = .ok (.iconst 1, 1) := by decide +kernel
theorem d_M_carryOut_26 : decode b_M_carryOut 26 = .ok (.if_icmp .ne 27, 3) := by decide +kernel
theorem d_M_carryOut_29 : decode b_M_carryOut 29 = .ok (.aload_n 0, 1) := by decide +kernel
theorem d_M_carryOut_30 : decode b_M_carryOut 30 = .ok (.getfield 7, 3) := by decide +kernel
theorem d_M_carryOut_33 : decode b_M_carryOut 33 = .ok (.aload_n 0, 1) := by decide +kernel
theorem d_M_carryOut_34 : decode b_M_carryOut 34 = .ok (.getfield 16, 3) := by decide +kernel
theorem d_M_carryOut_37 : decode b_M_carryOut 37 = .ok (.iload_n 1, 1) := by decide +kernel
theorem d_M_carryOut_38 : decode b_M_carryOut 38 = .ok (.iaload, 1) := by decide +kernel
theorem d_M_carryOut_39 : decode b_M_carryOut 39 = .ok (.iload_n 2, 1) := by decide +kernel
theorem d_M_carryOut_40 : decode b_M_carryOut 40 = .ok (.iadd, 1) := by decide +kernel
theorem d_M_carryOut_41 : decode b_M_carryOut 41 = .ok (.aload_n 0, 1) := by decide +kernel
theorem d_M_carryOut_42 : decode b_M_carryOut 42 = .ok (.getfield 22, 3) := by decide +kernel
theorem d_M_carryOut_45 : decode b_M_carryOut 45 = .ok (.iload_n 1, 1) := by decide +kernel
theorem d_M_carryOut_46 : decode b_M_carryOut 46 = .ok (.iaload, 1) := by decide +kernel
theorem d_M_carryOut_47 : decode b_M_carryOut 47 = .ok (.iload_n 2, 1) := by decide +kernel
theorem d_M_carryOut_48 : decode b_M_carryOut 48 = .ok (.iadd, 1) := by decide +kernel
theorem d_M_carryOut_49 : decode b_M_carryOut 49 = .ok (.iastore, 1) := by decide +kernel
theorem d_M_carryOut_50 : decode b_M_carryOut 50 = .ok (.goto 27, 3) := by decide +kernel
theorem d_M_carryOut_53 : decode b_M_carryOut 53 = .ok (.aload_n 0, 1) := by decide +kernel
theorem d_M_carryOut_54 : decode b_M_carryOut 54 = .ok (.getfield 31, 3) := by decide +kernel
theorem d_M_carryOut_57 : decode b_M_carryOut 57 = .ok (.bipush 8, 2) := by decide +kernel
theorem d_M_carryOut_59 : decode b_M_carryOut 59 = .ok (.iload_n 1, 1) := by decide +kernel
theorem d_M_carryOut_60 : decode b_M_carryOut 60 = .ok (.imul, 1) := by decide +kernel
theorem d_M_carryOut_61 : decode b_M_carryOut 61 = .ok (.iload_n 2, 1) := by decide +kernel
theorem d_M_carryOut_62 : decode b_M_carryOut 62 = .ok (.iadd, 1) := by decide +kernel
theorem d_M_carryOut_63 : decode b_M_carryOut 63 = .ok (.aload_n 0, 1) := by decide +kernel
theorem d_M_carryOut_64 : decode b_M_carryOut 64 = .ok (.getfield 7, 3) := by decide +kernel
theorem d_M_carryOut_67 : decode b_M_carryOut 67 = .ok (.aload_n 0, 1) := by decide +kernel
theorem d_M_carryOut_68 : decode b_M_carryOut 68 = .ok (.getfield 16, 3) := by decide +kernel
theorem d_M_carryOut_71 : decode b_M_carryOut 71 = .ok (.iload_n 1, 1) := by decide +kernel
theorem d_M_carryOut_72 : decode b_M_carryOut 72 = .ok (.iaload, 1) := by decide +kernel
theorem d_M_carryOut_73 : decode b_M_carryOut 73 = .ok (.iload_n 2, 1) := by decide +kernel
theorem d_M_carryOut_74 : decode b_M_carryOut 74 = .ok (.iadd, 1) := by decide +kernel
theorem d_M_carryOut_75 : decode b_M_carryOut 75 = .ok (.iaload, 1) := by decide +kernel
theorem d_M_carryOut_76 : decode b_M_carryOut 76 = .ok (.iastore, 1) := by decide +kernel
theorem d_M_carryOut_77 : decode b_M_carryOut 77 = .ok (.iinc 2 1, 3) := by decide +kernel
theorem d_M_carryOut_80 : decode b_M_carryOut 80 = .ok (.goto (-71), 3) := by decide +kernel
theorem d_M_carryOut_83 : decode b_M_carryOut 83 = .ok (.return_, 1) := by decide +kernel
abbrev rm_M_dispatch : Room := { frames := 4, cells := 0, slots := 0, locals := 91 }
theorem good_M_dispatch : GoodIn TB (.code y_M_dispatch b_M_dispatch 4 (some .int) :: TB) := good_of tb_483
theorem hd_M_dispatch : y_M_dispatch.cls ≠ "java/lang/invoke/MethodHandle" ∧ y_M_dispatch.cls ≠ "java/lang/invoke/VarHandle" ∧ (parseMethodDescriptor y_M_dispatch.desc).map (fun d => d.parameters.length) = some 0 := by decide +kernel
theorem d_M_dispatch_0 : decode b_M_dispatch 0 = .ok (.aload_n 0, 1) := by decide +kernel
theorem d_M_dispatch_1 : decode b_M_dispatch 1 = .ok (.iconst 0, 1) := by decide +kernel
theorem d_M_dispatch_2 : decode b_M_dispatch 2 = .ok (.invokevirtual 71, 3) := by decide +kernel
theorem d_M_dispatch_5 : decode b_M_dispatch 5 = .ok (.aload_n 0, 1) := by decide +kernel
theorem d_M_dispatch_6 : decode b_M_dispatch 6 = .ok (.iconst 1, 1) := by decide +kernel
theorem d_M_dispatch_7 : decode b_M_dispatch 7 = .ok (.invokevirtual 71, 3) := by decide +kernel
theorem d_M_dispatch_10 : decode b_M_dispatch 10 = .ok (.iadd, 1) := by decide +kernel
theorem d_M_dispatch_11 : decode b_M_dispatch 11 = .ok (.ifCond .ne 5, 3) := by decide +kernel
theorem d_M_dispatch_14 : decode b_M_dispatch 14 = .ok (.iconst 0, 1) := by decide +kernel
theorem d_M_dispatch_15 : decode b_M_dispatch 15 = .ok (.ireturn, 1) := by decide +kernel
theorem d_M_dispatch_16 : decode b_M_dispatch 16 = .ok (.aload_n 0, 1) := by decide +kernel
theorem d_M_dispatch_17 : decode b_M_dispatch 17 = .ok (.getfield 97, 3) := by decide +kernel
theorem d_M_dispatch_20 : decode b_M_dispatch 20 = .ok (.ifCond .le 26, 3) := by decide +kernel
theorem d_M_dispatch_23 : decode b_M_dispatch 23 = .ok (.aload_n 0, 1) := by decide +kernel
theorem d_M_dispatch_24 : decode b_M_dispatch 24 = .ok (.getfield 97, 3) := by decide +kernel
theorem d_M_dispatch_27 : decode b_M_dispatch 27 = .ok (.iconst 4, 1) := by decide +kernel
theorem d_M_dispatch_28 : decode b_M_dispatch 28 = .ok (.if_icmp .ge 18, 3) := by decide +kernel
theorem d_M_dispatch_31 : decode b_M_dispatch 31 = .ok (.aload_n 0, 1) := by decide +kernel
theorem d_M_dispatch_32 : decode b_M_dispatch 32 = .ok (.aload_n 0, 1) := by decide +kernel
theorem d_M_dispatch_33 : decode b_M_dispatch 33 = .ok (.getfield 94, 3) := by decide +kernel
theorem d_M_dispatch_36 : decode b_M_dispatch 36 = .ok (.aload_n 0, 1) := by decide +kernel
theorem d_M_dispatch_37 : decode b_M_dispatch 37 = .ok (.getfield 103, 3) := by decide +kernel
theorem d_M_dispatch_40 : decode b_M_dispatch 40 = .ok (.invokevirtual 106, 3) := by decide +kernel
theorem d_M_dispatch_43 : decode b_M_dispatch 43 = .ok (.goto 4, 3) := by decide +kernel
theorem d_M_dispatch_46 : decode b_M_dispatch 46 = .ok (.iconst (-1), 1) := by decide +kernel
theorem d_M_dispatch_47 : decode b_M_dispatch 47 = .ok (.istore_n 1, 1) := by decide +kernel
theorem d_M_dispatch_48 : decode b_M_dispatch 48 = .ok (.iload_n 1, 1) := by decide +kernel
theorem d_M_dispatch_49 : decode b_M_dispatch 49 = .ok (.ifCond .lt 16, 3) := by decide +kernel
theorem d_M_dispatch_52 : decode b_M_dispatch 52 = .ok (.aload_n 0, 1) := by decide +kernel
theorem d_M_dispatch_53 : decode b_M_dispatch 53 = .ok (.aload_n 0, 1) := by decide +kernel
theorem d_M_dispatch_54 : decode b_M_dispatch 54 = .ok (.getfield 97, 3) := by decide +kernel
theorem d_M_dispatch_57 : decode b_M_dispatch 57 = .ok (.iconst 1, 1) := by decide +kernel
theorem d_M_dispatch_58 : decode b_M_dispatch 58 = .ok (.iadd, 1) := by decide +kernel
theorem d_M_dispatch_59 : decode b_M_dispatch 59 = .ok (.putfield 97, 3) := by decide +kernel
theorem d_M_dispatch_62 : decode b_M_dispatch 62 = .ok (.goto 8, 3) := by decide +kernel
theorem d_M_dispatch_65 : decode b_M_dispatch 65 = .ok (.aload_n 0, 1) := by decide +kernel
theorem d_M_dispatch_66 : decode b_M_dispatch 66 = .ok (.invokevirtual 110, 3) := by decide +kernel
theorem d_M_dispatch_69 : decode b_M_dispatch 69 = .ok (.istore_n 1, 1) := by decide +kernel
theorem d_M_dispatch_70 : decode b_M_dispatch 70 = .ok (.aload_n 0, 1) := by decide +kernel
theorem d_M_dispatch_71 : decode b_M_dispatch 71 = .ok (.aload_n 0, 1) := by decide +kernel
theorem d_M_dispatch_72 : decode b_M_dispatch 72 = .ok (.iload_n 1, 1) := by decide +kernel
theorem d_M_dispatch_73 : decode b_M_dispatch 73 = .ok (.invokevirtual 68, 3) := by decide +kernel
theorem d_M_dispatch_76 : decode b_M_dispatch 76 = .ok (.aload_n 0, 1) := by decide +kernel
theorem d_M_dispatch_77 : decode b_M_dispatch 77 = .ok (.iload_n 1, 1) := by decide +kernel
theorem d_M_dispatch_78 : decode b_M_dispatch 78 = .ok (.invokevirtual 65, 3) := by decide +kernel
theorem d_M_dispatch_81 : decode b_M_dispatch 81 = .ok (.iadd, 1) := by decide +kernel
theorem d_M_dispatch_82 : decode b_M_dispatch 82 = .ok (.putfield 103, 3) := by decide +kernel
theorem d_M_dispatch_85 : decode b_M_dispatch 85 = .ok (.aload_n 0, 1) := by decide +kernel
theorem d_M_dispatch_86 : decode b_M_dispatch 86 = .ok (.iload_n 1, 1) := by decide +kernel
theorem d_M_dispatch_87 : decode b_M_dispatch 87 = .ok (.putfield 43, 3) := by decide +kernel
theorem d_M_dispatch_90 : decode b_M_dispatch 90 = .ok (.iconst 0, 1) := by decide +kernel
theorem d_M_dispatch_91 : decode b_M_dispatch 91 = .ok (.istore_n 2, 1) := by decide +kernel
theorem d_M_dispatch_92 : decode b_M_dispatch 92 = .ok (.iconst 0, 1) := by decide +kernel
theorem d_M_dispatch_93 : decode b_M_dispatch 93 = .ok (.istore_n 3, 1) := by decide +kernel
theorem d_M_dispatch_94 : decode b_M_dispatch 94 = .ok (.iload_n 3, 1) := by decide +kernel
theorem d_M_dispatch_95 : decode b_M_dispatch 95 = .ok (.aload_n 0, 1) := by decide +kernel
theorem d_M_dispatch_96 : decode b_M_dispatch 96 = .ok (.getfield 47, 3) := by decide +kernel
theorem d_M_dispatch_99 : decode b_M_dispatch 99 = .ok (.if_icmp .ge 28, 3) := by decide +kernel
theorem d_M_dispatch_102 : decode b_M_dispatch 102 = .ok (.aload_n 0, 1) := by decide +kernel
theorem d_M_dispatch_103 : decode b_M_dispatch 103 = .ok (.getfield 25, 3) := by decide +kernel
theorem d_M_dispatch_106 : decode b_M_dispatch 106 = .ok (.iload_n 3, 1) := by decide +kernel
theorem d_M_dispatch_107 : decode b_M_dispatch 107 = .ok (.iaload, 1) := by decide +kernel
theorem d_M_dispatch_108 : decode b_M_dispatch 108 = .ok (.iload_n 1, 1) := by decide +kernel
theorem d_M_dispatch_109 : decode b_M_dispatch 109 = .ok (.if_icmp .ne 12, 3) := by decide +kernel
theorem d_M_dispatch_112 : decode b_M_dispatch 112 = .ok (.aload_n 0, 1) := by decide +kernel
theorem d_M_dispatch_113 : decode b_M_dispatch 113 = .ok (.iload_n 3, 1) := by decide +kernel
theorem d_M_dispatch_114 : decode b_M_dispatch 114 = .ok (.invokevirtual 114, 3) := by decide +kernel
theorem d_M_dispatch_117 : decode b_M_dispatch 117 = .ok (.iload_n 2, 1) := by decide +kernel
theorem d_M_dispatch_118 : decode b_M_dispatch 118 = .ok (.iconst 1, 1) := by decide +kernel
theorem d_M_dispatch_119 : decode b_M_dispatch 119 = .ok (.iadd, 1) := by decide +kernel
theorem d_M_dispatch_120 : decode b_M_dispatch 120 = .ok (.istore_n 2, 1) := by decide +kernel
theorem d_M_dispatch_121 : decode b_M_dispatch 121 = .ok (.iinc 3 1, 3) := by decide +kernel
theorem d_M_dispatch_124 : decode b_M_dispatch 124 = .ok (.goto (-30), 3) := by decide +kernel
theorem d_M_dispatch_127 : decode b_M_dispatch 127 = .ok (.iload_n 2, 1) := by decide +kernel
theorem d_M_dispatch_128 : decode b_M_dispatch 128 = .ok (.ireturn, 1) := by decide +kernel
abbrev rm_M_isPart : Room := { frames := 0, cells := 0, slots := 0, locals := 0 }
theorem good_M_isPart : GoodIn TB (.code y_M_isPart b_M_isPart 2 (some .boolean) :: TB) := good_of tb_515
theorem hd_M_isPart : y_M_isPart.cls ≠ "java/lang/invoke/MethodHandle" ∧ y_M_isPart.cls ≠ "java/lang/invoke/VarHandle" ∧ (parseMethodDescriptor y_M_isPart.desc).map (fun d => d.parameters.length) = some 1 := by decide +kernel
theorem d_M_isPart_0 : decode b_M_isPart 0 = .ok (.iload_n 1, 1) := by decide +kernel
theorem d_M_isPart_1 : decode b_M_isPart 1 = .ok (.ifCond .lt 15, 3) := by decide +kernel
theorem d_M_isPart_4 : decode b_M_isPart 4 = .ok (.iload_n 1, 1) := by decide +kernel
theorem d_M_isPart_5 : decode b_M_isPart 5 = .ok (.aload_n 0, 1) := by decide +kernel
theorem d_M_isPart_6 : decode b_M_isPart 6 = .ok (.getfield 47, 3) := by decide +kernel
theorem d_M_isPart_9 : decode b_M_isPart 9 = .ok (.if_icmp .ge 7, 3) := by decide +kernel
theorem d_M_isPart_12 : decode b_M_isPart 12 = .ok (.iconst 1, 1) := by decide +kernel
theorem d_M_isPart_13 : decode b_M_isPart 13 = .ok (.goto 4, 3) := by decide +kernel
theorem d_M_isPart_16 : decode b_M_isPart 16 = .ok (.iconst 0, 1) := by decide +kernel
theorem d_M_isPart_17 : decode b_M_isPart 17 = .ok (.ireturn, 1) := by decide +kernel
abbrev rm_M_state : Room := { frames := 1, cells := 0, slots := 0, locals := 21 }
theorem good_M_state : GoodIn TB (.code y_M_state b_M_state 2 (some .int) :: TB) := good_of tb_511
theorem hd_M_state : y_M_state.cls ≠ "java/lang/invoke/MethodHandle" ∧ y_M_state.cls ≠ "java/lang/invoke/VarHandle" ∧ (parseMethodDescriptor y_M_state.desc).map (fun d => d.parameters.length) = some 1 := by decide +kernel
theorem d_M_state_0 : decode b_M_state 0 = .ok (.aload_n 0, 1) := by decide +kernel
theorem d_M_state_1 : decode b_M_state 1 = .ok (.iload_n 1, 1) := by decide +kernel
theorem d_M_state_2 : decode b_M_state 2 = .ok (.invokevirtual 118, 3) := by decide +kernel
theorem d_M_state_5 : decode b_M_state 5 = .ok (.ifCond .eq 12, 3) := by decide +kernel
theorem d_M_state_8 : decode b_M_state 8 = .ok (.aload_n 0, 1) := by decide +kernel
theorem d_M_state_9 : decode b_M_state 9 = .ok (.getfield 28, 3) := by decide +kernel
theorem d_M_state_12 : decode b_M_state 12 = .ok (.iload_n 1, 1) := by decide +kernel
theorem d_M_state_13 : decode b_M_state 13 = .ok (.iaload, 1) := by decide +kernel
theorem d_M_state_14 : decode b_M_state 14 = .ok (.goto 4, 3) := by decide +kernel
theorem d_M_state_17 : decode b_M_state 17 = .ok (.iconst 0, 1) := by decide +kernel
theorem d_M_state_18 : decode b_M_state 18 = .ok (.ireturn, 1) := by decide +kernel
abbrev rm_M_value : Room := { frames := 1, cells := 0, slots := 0, locals := 21 }
theorem good_M_value : GoodIn TB (.code y_M_value b_M_value 3 (some .int) :: TB) := good_of tb_519
theorem hd_M_value : y_M_value.cls ≠ "java/lang/invoke/MethodHandle" ∧ y_M_value.cls ≠ "java/lang/invoke/VarHandle" ∧ (parseMethodDescriptor y_M_value.desc).map (fun d => d.parameters.length) = some 2 := by decide +kernel
theorem d_M_value_0 : decode b_M_value 0 = .ok (.aload_n 0, 1) := by decide +kernel
theorem d_M_value_1 : decode b_M_value 1 = .ok (.iload_n 1, 1) := by decide +kernel
theorem d_M_value_2 : decode b_M_value 2 = .ok (.invokevirtual 118, 3) := by decide +kernel
theorem d_M_value_5 : decode b_M_value 5 = .ok (.ifCond .eq 50, 3) := by decide +kernel
theorem d_M_value_8 : decode b_M_value 8 = .ok (.aload_n 0, 1) := by decide +kernel
theorem d_M_value_9 : decode b_M_value 9 = .ok (.getfield 13, 3) := by decide +kernel
theorem d_M_value_12 : decode b_M_value 12 = .ok (.iload_n 1, 1) := by decide +kernel
theorem d_M_value_13 : decode b_M_value 13 = .ok (.iaload, 1) := by decide +kernel
theorem d_M_value_14 : decode b_M_value 14 = .ok (.ifCond .ne 41, 3) := by decide +kernel
theorem d_M_value_17 : decode b_M_value 17 = .ok (.aload_n 0, 1) := by decide +kernel
theorem d_M_value_18 : decode b_M_value 18 = .ok (.getfield 28, 3) := by decide +kernel
theorem d_M_value_21 : decode b_M_value 21 = .ok (.iload_n 1, 1) := by decide +kernel
theorem d_M_value_22 : decode b_M_value 22 = .ok (.iaload, 1) := by decide +kernel
theorem d_M_value_23 : decode b_M_value 23 = .ok (.iconst 2, 1) := by decide +kernel
theorem d_M_value_24 : decode b_M_value 24 = .ok (.if_icmp .ne 31, 3) := by decide +kernel
theorem d_M_value_27 : decode b_M_value 27 = .ok (.iload_n 2, 1) := by decide +kernel
theorem d_M_value_28 : decode b_M_value 28 = .ok (.ifCond .lt 27, 3) := by decide +kernel
theorem d_M_value_31 : decode b_M_value 31 = .ok (.iload_n 2, 1) := by decide +kernel
theorem d_M_value_32 : decode b_M_value 32 = .ok (.aload_n 0, 1) := by decide +kernel
theorem d_M_value_33 : decode b_M_value 33 = .ok (.getfield 19, 3) := by decide +kernel
theorem d_M_value_36 : decode b_M_value 36 = .ok (.iload_n 1, 1) := by decide +kernel
theorem d_M_value_37 : decode b_M_value 37 = .ok (.iaload, 1) := by decide +kernel
theorem d_M_value_38 : decode b_M_value 38 = .ok (.if_icmp .ge 17, 3) := by decide +kernel
theorem d_M_value_41 : decode b_M_value 41 = .ok (.aload_n 0, 1) := by decide +kernel
theorem d_M_value_42 : decode b_M_value 42 = .ok (.getfield 31, 3) := by decide +kernel
theorem d_M_value_45 : decode b_M_value 45 = .ok (.bipush 8, 2) := by decide +kernel
theorem d_M_value_47 : decode b_M_value 47 = .ok (.iload_n 1, 1) := by decide +kernel
theorem d_M_value_48 : decode b_M_value 48 = .ok (.imul, 1) := by decide +kernel
theorem d_M_value_49 : decode b_M_value 49 = .ok (.iload_n 2, 1) := by decide +kernel
theorem d_M_value_50 : decode b_M_value 50 = .ok (.iadd, 1) := by decide +kernel
theorem d_M_value_51 : decode b_M_value 51 = .ok (.iaload, 1) := by decide +kernel
theorem d_M_value_52 : decode b_M_value 52 = .ok (.goto 4, 3) := by decide +kernel
theorem d_M_value_55 : decode b_M_value 55 = .ok (.iconst 0, 1) := by decide +kernel
theorem d_M_value_56 : decode b_M_value 56 = .ok (.ireturn, 1) := by decide +kernel
abbrev rm_M_sector : Room := { frames := 0, cells := 0, slots := 0, locals := 0 }
theorem good_M_sector : GoodIn TB (.code y_M_sector b_M_sector 2 (some .int) :: TB) := good_of tb_523
theorem hd_M_sector : y_M_sector.cls ≠ "java/lang/invoke/MethodHandle" ∧ y_M_sector.cls ≠ "java/lang/invoke/VarHandle" ∧ (parseMethodDescriptor y_M_sector.desc).map (fun d => d.parameters.length) = some 1 := by decide +kernel
theorem d_M_sector_0 : decode b_M_sector 0 = .ok (.iload_n 1, 1) := by decide +kernel
theorem d_M_sector_1 : decode b_M_sector 1 = .ok (.ifCond .lt 9, 3) := by decide +kernel
theorem d_M_sector_4 : decode b_M_sector 4 = .ok (.iload_n 1, 1) := by decide +kernel
theorem d_M_sector_5 : decode b_M_sector 5 = .ok (.bipush 63, 2) := by decide +kernel
theorem d_M_sector_7 : decode b_M_sector 7 = .ok (.if_icmp .le 7, 3) := by decide +kernel
theorem d_M_sector_10 : decode b_M_sector 10 = .ok (.iconst 0, 1) := by decide +kernel
theorem d_M_sector_11 : decode b_M_sector 11 = .ok (.goto 9, 3) := by decide +kernel
theorem d_M_sector_14 : decode b_M_sector 14 = .ok (.aload_n 0, 1) := by decide +kernel
theorem d_M_sector_15 : decode b_M_sector 15 = .ok (.getfield 7, 3) := by decide +kernel
theorem d_M_sector_18 : decode b_M_sector 18 = .ok (.iload_n 1, 1) := by decide +kernel
theorem d_M_sector_19 : decode b_M_sector 19 = .ok (.iaload, 1) := by decide +kernel
theorem d_M_sector_20 : decode b_M_sector 20 = .ok (.ireturn, 1) := by decide +kernel
abbrev rm_M_requestOf : Room := { frames := 1, cells := 0, slots := 0, locals := 21 }
theorem good_M_requestOf : GoodIn TB (.code y_M_requestOf b_M_requestOf 2 (some .int) :: TB) := good_of tb_529
theorem hd_M_requestOf : y_M_requestOf.cls ≠ "java/lang/invoke/MethodHandle" ∧ y_M_requestOf.cls ≠ "java/lang/invoke/VarHandle" ∧ (parseMethodDescriptor y_M_requestOf.desc).map (fun d => d.parameters.length) = some 1 := by decide +kernel
theorem d_M_requestOf_0 : decode b_M_requestOf 0 = .ok (.aload_n 0, 1) := by decide +kernel
theorem d_M_requestOf_1 : decode b_M_requestOf 1 = .ok (.iload_n 1, 1) := by decide +kernel
theorem d_M_requestOf_2 : decode b_M_requestOf 2 = .ok (.invokevirtual 118, 3) := by decide +kernel
theorem d_M_requestOf_5 : decode b_M_requestOf 5 = .ok (.ifCond .eq 22, 3) := by decide +kernel
theorem d_M_requestOf_8 : decode b_M_requestOf 8 = .ok (.aload_n 0, 1) := by decide +kernel
theorem d_M_requestOf_9 : decode b_M_requestOf 9 = .ok (.getfield 28, 3) := by decide +kernel
theorem d_M_requestOf_12 : decode b_M_requestOf 12 = .ok (.iload_n 1, 1) := by decide +kernel
theorem d_M_requestOf_13 : decode b_M_requestOf 13 = .ok (.iaload, 1) := by decide +kernel
theorem d_M_requestOf_14 : decode b_M_requestOf 14 = .ok (.iconst 1, 1) := by decide +kernel
theorem d_M_requestOf_15 : decode b_M_requestOf 15 = .ok (.if_icmp .ne 12, 3) := by decide +kernel
theorem d_M_requestOf_18 : decode b_M_requestOf 18 = .ok (.aload_n 0, 1) := by decide +kernel
theorem d_M_requestOf_19 : decode b_M_requestOf 19 = .ok (.getfield 25, 3) := by decide +kernel
theorem d_M_requestOf_22 : decode b_M_requestOf 22 = .ok (.iload_n 1, 1) := by decide +kernel
theorem d_M_requestOf_23 : decode b_M_requestOf 23 = .ok (.iaload, 1) := by decide +kernel
theorem d_M_requestOf_24 : decode b_M_requestOf 24 = .ok (.goto 4, 3) := by decide +kernel
theorem d_M_requestOf_27 : decode b_M_requestOf 27 = .ok (.iconst (-1), 1) := by decide +kernel
theorem d_M_requestOf_28 : decode b_M_requestOf 28 = .ok (.ireturn, 1) := by decide +kernel
abbrev rm_M_about : Room := { frames := 2, cells := 0, slots := 0, locals := 42 }
theorem good_M_about : GoodIn TB (.code y_M_about b_M_about 4 (some .int) :: TB) := good_of tb_533
theorem hd_M_about : y_M_about.cls ≠ "java/lang/invoke/MethodHandle" ∧ y_M_about.cls ≠ "java/lang/invoke/VarHandle" ∧ (parseMethodDescriptor y_M_about.desc).map (fun d => d.parameters.length) = some 2 := by decide +kernel
theorem d_M_about_0 : decode b_M_about 0 = .ok (.aload_n 0, 1) := by decide +kernel
theorem d_M_about_1 : decode b_M_about 1 = .ok (.iload_n 1, 1) := by decide +kernel
theorem d_M_about_2 : decode b_M_about 2 = .ok (.invokevirtual 121, 3) := by decide +kernel
theorem d_M_about_5 : decode b_M_about 5 = .ok (.istore_n 3, 1) := by decide +kernel
theorem d_M_about_6 : decode b_M_about 6 = .ok (.iload_n 3, 1) := by decide +kernel
theorem d_M_about_7 : decode b_M_about 7 = .ok (.ifCond .lt 12, 3) := by decide +kernel
theorem d_M_about_10 : decode b_M_about 10 = .ok (.iload_n 2, 1) := by decide +kernel
theorem d_M_about_11 : decode b_M_about 11 = .ok (.ifCond .lt 8, 3) := by decide +kernel
theorem d_M_about_14 : decode b_M_about 14 = .ok (.iload_n 2, 1) := by decide +kernel
theorem d_M_about_15 : decode b_M_about 15 = .ok (.iconst 4, 1) := by decide +kernel
theorem d_M_about_16 : decode b_M_about 16 = .ok (.if_icmp .le 5, 3) := by decide +kernel
theorem d_M_about_19 : decode b_M_about 19 = .ok (.iconst (-1), 1) := by decide +kernel
theorem d_M_about_20 : decode b_M_about 20 = .ok (.ireturn, 1) := by decide +kernel
theorem d_M_about_21 : decode b_M_about 21 = .ok (.iload_n 2, 1) := by decide +kernel
theorem d_M_about_22 : decode b_M_about 22 = .ok (.ifCond .ne 11, 3) := by decide +kernel
theorem d_M_about_25 : decode b_M_about 25 = .ok (.aload_n 0, 1) := by decide +kernel
theorem d_M_about_26 : decode b_M_about 26 = .ok (.iload_n 3, 1) := by decide +kernel
theorem d_M_about_27 : decode b_M_about 27 = .ok (.invokevirtual 68, 3) := by decide +kernel
theorem d_M_about_30 : decode b_M_about 30 = .ok (.goto 50, 3) := by decide +kernel
theorem d_M_about_33 : decode b_M_about 33 = .ok (.iload_n 2, 1) := by decide +kernel
theorem d_M_about_34 : decode b_M_about 34 = .ok (.iconst 1, 1) := by decide +kernel
theorem d_M_about_35 : decode b_M_about 35 = .ok (.if_icmp .ne 11, 3) := by decide +kernel
theorem d_M_about_38 : decode b_M_about 38 = .ok (.aload_n 0, 1) := by decide +kernel
theorem d_M_about_39 : decode b_M_about 39 = .ok (.iload_n 3, 1) := by decide +kernel
theorem d_M_about_40 : decode b_M_about 40 = .ok (.invokevirtual 65, 3) := by decide +kernel
theorem d_M_about_43 : decode b_M_about 43 = .ok (.goto 37, 3) := by decide +kernel
theorem d_M_about_46 : decode b_M_about 46 = .ok (.iload_n 2, 1) := by decide +kernel
theorem d_M_about_47 : decode b_M_about 47 = .ok (.iconst 2, 1) := by decide +kernel
theorem d_M_about_48 : decode b_M_about 48 = .ok (.if_icmp .ne 12, 3) := by decide +kernel
theorem d_M_about_51 : decode b_M_about 51 = .ok (.aload_n 0, 1) := by decide +kernel
theorem d_M_about_52 : decode b_M_about 52 = .ok (.getfield 34, 3) := by decide +kernel
theorem d_M_about_55 : decode b_M_about 55 = .ok (.iload_n 3, 1) := by decide +kernel
theorem d_M_about_56 : decode b_M_about 56 = .ok (.iaload, 1) := by decide +kernel
theorem d_M_about_57 : decode b_M_about 57 = .ok (.goto 23, 3) := by decide +kernel
theorem d_M_about_60 : decode b_M_about 60 = .ok (.iload_n 2, 1) := by decide +kernel
theorem d_M_about_61 : decode b_M_about 61 = .ok (.iconst 3, 1) := by decide +kernel
theorem d_M_about_62 : decode b_M_about 62 = .ok (.if_icmp .ne 12, 3) := by decide +kernel
theorem d_M_about_65 : decode b_M_about 65 = .ok (.aload_n 0, 1) := by decide +kernel
theorem d_M_about_66 : decode b_M_about 66 = .ok (.getfield 37, 3) := by decide +kernel
theorem d_M_about_69 : decode b_M_about 69 = .ok (.iload_n 3, 1) := by decide +kernel
theorem d_M_about_70 : decode b_M_about 70 = .ok (.iaload, 1) := by decide +kernel
theorem d_M_about_71 : decode b_M_about 71 = .ok (.goto 9, 3) := by decide +kernel
theorem d_M_about_74 : decode b_M_about 74 = .ok (.aload_n 0, 1) := by decide +kernel
theorem d_M_about_75 : decode b_M_about 75 = .ok (.getfield 13, 3) := by decide +kernel
theorem d_M_about_78 : decode b_M_about 78 = .ok (.iload_n 3, 1) := by decide +kernel
theorem d_M_about_79 : decode b_M_about 79 = .ok (.iaload, 1) := by decide +kernel
theorem d_M_about_80 : decode b_M_about 80 = .ok (.ireturn, 1) := by decide +kernel
abbrev rm_M_latest : Room := { frames := 0, cells := 0, slots := 0, locals := 0 }
theorem good_M_latest : GoodIn TB (.code y_M_latest b_M_latest 1 (some .int) :: TB) := good_of tb_538
theorem hd_M_latest : y_M_latest.cls ≠ "java/lang/invoke/MethodHandle" ∧ y_M_latest.cls ≠ "java/lang/invoke/VarHandle" ∧ (parseMethodDescriptor y_M_latest.desc).map (fun d => d.parameters.length) = some 0 := by decide +kernel
theorem d_M_latest_0 : decode b_M_latest 0 = .ok (.aload_n 0, 1) := by decide +kernel
theorem d_M_latest_1 : decode b_M_latest 1 = .ok (.getfield 43, 3) := by decide +kernel
theorem d_M_latest_4 : decode b_M_latest 4 = .ok (.ireturn, 1) := by decide +kernel
abbrev rm_M_head : Room := { frames := 0, cells := 0, slots := 0, locals := 0 }
theorem good_M_head : GoodIn TB (.code y_M_head b_M_head 1 (some .int) :: TB) := good_of tb_542
theorem hd_M_head : y_M_head.cls ≠ "java/lang/invoke/MethodHandle" ∧ y_M_head.cls ≠ "java/lang/invoke/VarHandle" ∧ (parseMethodDescriptor y_M_head.desc).map (fun d => d.parameters.length) = some 0 := by decide +kernel
theorem d_M_head_0 : decode b_M_head 0 = .ok (.aload_n 0, 1) := by decide +kernel
theorem d_M_head_1 : decode b_M_head 1 = .ok (.getfield 103, 3) := by decide +kernel
theorem d_M_head_4 : decode b_M_head 4 = .ok (.ireturn, 1) := by decide +kernel
abbrev rm_M_now : Room := { frames := 0, cells := 0, slots := 0, locals := 0 }
theorem good_M_now : GoodIn TB (.code y_M_now b_M_now 1 (some .int) :: TB) := good_of tb_546
theorem hd_M_now : y_M_now.cls ≠ "java/lang/invoke/MethodHandle" ∧ y_M_now.cls ≠ "java/lang/invoke/VarHandle" ∧ (parseMethodDescriptor y_M_now.desc).map (fun d => d.parameters.length) = some 0 := by decide +kernel
theorem d_M_now_0 : decode b_M_now 0 = .ok (.aload_n 0, 1) := by decide +kernel
theorem d_M_now_1 : decode b_M_now 1 = .ok (.getfield 77, 3) := by decide +kernel
theorem d_M_now_4 : decode b_M_now 4 = .ok (.ireturn, 1) := by decide +kernel
abbrev rm_M_batch : Room := { frames := 0, cells := 0, slots := 0, locals := 0 }
theorem good_M_batch : GoodIn TB (.code y_M_batch b_M_batch 1 (some .int) :: TB) := good_of tb_550
theorem hd_M_batch : y_M_batch.cls ≠ "java/lang/invoke/MethodHandle" ∧ y_M_batch.cls ≠ "java/lang/invoke/VarHandle" ∧ (parseMethodDescriptor y_M_batch.desc).map (fun d => d.parameters.length) = some 0 := by decide +kernel
theorem d_M_batch_0 : decode b_M_batch 0 = .ok (.bipush 10, 2) := by decide +kernel
theorem d_M_batch_2 : decode b_M_batch 2 = .ok (.aload_n 0, 1) := by decide +kernel
theorem d_M_batch_3 : decode b_M_batch 3 = .ok (.getfield 91, 3) := by decide +kernel
theorem d_M_batch_6 : decode b_M_batch 6 = .ok (.imul, 1) := by decide +kernel
theorem d_M_batch_7 : decode b_M_batch 7 = .ok (.iconst 5, 1) := by decide +kernel
theorem d_M_batch_8 : decode b_M_batch 8 = .ok (.aload_n 0, 1) := by decide +kernel
theorem d_M_batch_9 : decode b_M_batch 9 = .ok (.getfield 94, 3) := by decide +kernel
theorem d_M_batch_12 : decode b_M_batch 12 = .ok (.imul, 1) := by decide +kernel
theorem d_M_batch_13 : decode b_M_batch 13 = .ok (.iadd, 1) := by decide +kernel
theorem d_M_batch_14 : decode b_M_batch 14 = .ok (.aload_n 0, 1) := by decide +kernel
theorem d_M_batch_15 : decode b_M_batch 15 = .ok (.getfield 97, 3) := by decide +kernel
theorem d_M_batch_18 : decode b_M_batch 18 = .ok (.iadd, 1) := by decide +kernel
theorem d_M_batch_19 : decode b_M_batch 19 = .ok (.ireturn, 1) := by decide +kernel
