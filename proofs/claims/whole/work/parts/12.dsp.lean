theorem d_SP_init_0 : decode y_SP_init.2.1 0 = .ok (.aload_n 0, 1) := by decide +kernel
theorem d_SP_init_1 : decode y_SP_init.2.1 1 = .ok (.invokespecial 1, 3) := by decide +kernel
theorem d_SP_init_4 : decode y_SP_init.2.1 4 = .ok (.aload_n 0, 1) := by decide +kernel
theorem d_SP_init_5 : decode y_SP_init.2.1 5 = .ok (.bipush 12, 2) := by decide +kernel
theorem d_SP_init_7 : decode y_SP_init.2.1 7 = .ok (.anewarray 9, 3) := by decide +kernel
theorem d_SP_init_10 : decode y_SP_init.2.1 10 = .ok (.putfield 11, 3) := by decide +kernel
theorem d_SP_init_13 : decode y_SP_init.2.1 13 = .ok (.aload_n 0, 1) := by decide +kernel
theorem d_SP_init_14 : decode y_SP_init.2.1 14 = .ok (.new 15, 3) := by decide +kernel
theorem d_SP_init_17 : decode y_SP_init.2.1 17 = .ok (.dup, 1) := by decide +kernel
theorem d_SP_init_18 : decode y_SP_init.2.1 18 = .ok (.invokespecial 17, 3) := by decide +kernel
theorem d_SP_init_21 : decode y_SP_init.2.1 21 = .ok (.putfield 18, 3) := by decide +kernel
theorem d_SP_init_24 : decode y_SP_init.2.1 24 = .ok (.aload_n 0, 1) := by decide +kernel
theorem d_SP_init_25 : decode y_SP_init.2.1 25 = .ok (.iconst 4, 1) := by decide +kernel
theorem d_SP_init_26 : decode y_SP_init.2.1 26 = .ok (.newarray .int, 2) := by decide +kernel
theorem d_SP_init_28 : decode y_SP_init.2.1 28 = .ok (.putfield 22, 3) := by decide +kernel
theorem d_SP_init_31 : decode y_SP_init.2.1 31 = .ok (.aload_n 0, 1) := by decide +kernel
theorem d_SP_init_32 : decode y_SP_init.2.1 32 = .ok (.iconst 0, 1) := by decide +kernel
theorem d_SP_init_33 : decode y_SP_init.2.1 33 = .ok (.putfield 26, 3) := by decide +kernel
theorem d_SP_init_36 : decode y_SP_init.2.1 36 = .ok (.aload_n 0, 1) := by decide +kernel
theorem d_SP_init_37 : decode y_SP_init.2.1 37 = .ok (.iconst 0, 1) := by decide +kernel
theorem d_SP_init_38 : decode y_SP_init.2.1 38 = .ok (.putfield 30, 3) := by decide +kernel
theorem d_SP_init_41 : decode y_SP_init.2.1 41 = .ok (.aload_n 0, 1) := by decide +kernel
theorem d_SP_init_42 : decode y_SP_init.2.1 42 = .ok (.iconst 0, 1) := by decide +kernel
theorem d_SP_init_43 : decode y_SP_init.2.1 43 = .ok (.putfield 33, 3) := by decide +kernel
theorem d_SP_init_46 : decode y_SP_init.2.1 46 = .ok (.return_, 1) := by decide +kernel
theorem d_SP_part_0 : decode y_SP_part.2.1 0 = .ok (.iload_n 1, 1) := by decide +kernel
theorem d_SP_part_1 : decode y_SP_part.2.1 1 = .ok (.iload_n 3, 1) := by decide +kernel
theorem d_SP_part_2 : decode y_SP_part.2.1 2 = .ok (.invokestatic 36, 3) := by decide +kernel
theorem d_SP_part_5 : decode y_SP_part.2.1 5 = .ok (.istore 6, 2) := by decide +kernel
theorem d_SP_part_7 : decode y_SP_part.2.1 7 = .ok (.iload 6, 2) := by decide +kernel
theorem d_SP_part_9 : decode y_SP_part.2.1 9 = .ok (.ifCond .le 37, 3) := by decide +kernel
theorem d_SP_part_12 : decode y_SP_part.2.1 12 = .ok (.iload 4, 2) := by decide +kernel
theorem d_SP_part_14 : decode y_SP_part.2.1 14 = .ok (.invokestatic 40, 3) := by decide +kernel
theorem d_SP_part_17 : decode y_SP_part.2.1 17 = .ok (.ifCond .eq 29, 3) := by decide +kernel
theorem d_SP_part_20 : decode y_SP_part.2.1 20 = .ok (.iload 5, 2) := by decide +kernel
theorem d_SP_part_22 : decode y_SP_part.2.1 22 = .ok (.ifCond .lt 24, 3) := by decide +kernel
theorem d_SP_part_25 : decode y_SP_part.2.1 25 = .ok (.iload 5, 2) := by decide +kernel
theorem d_SP_part_27 : decode y_SP_part.2.1 27 = .ok (.bipush 7, 2) := by decide +kernel
theorem d_SP_part_29 : decode y_SP_part.2.1 29 = .ok (.if_icmp .gt 17, 3) := by decide +kernel
theorem d_SP_part_32 : decode y_SP_part.2.1 32 = .ok (.aload_n 0, 1) := by decide +kernel
theorem d_SP_part_33 : decode y_SP_part.2.1 33 = .ok (.iload_n 2, 1) := by decide +kernel
theorem d_SP_part_34 : decode y_SP_part.2.1 34 = .ok (.iload 6, 2) := by decide +kernel
theorem d_SP_part_36 : decode y_SP_part.2.1 36 = .ok (.invokevirtual 44, 3) := by decide +kernel
theorem d_SP_part_39 : decode y_SP_part.2.1 39 = .ok (.ifCond .eq 7, 3) := by decide +kernel
theorem d_SP_part_42 : decode y_SP_part.2.1 42 = .ok (.iconst 1, 1) := by decide +kernel
theorem d_SP_part_43 : decode y_SP_part.2.1 43 = .ok (.goto 4, 3) := by decide +kernel
theorem d_SP_part_46 : decode y_SP_part.2.1 46 = .ok (.iconst 0, 1) := by decide +kernel
theorem d_SP_part_47 : decode y_SP_part.2.1 47 = .ok (.istore 7, 2) := by decide +kernel
theorem d_SP_part_49 : decode y_SP_part.2.1 49 = .ok (.iload 7, 2) := by decide +kernel
theorem d_SP_part_51 : decode y_SP_part.2.1 51 = .ok (.ifCond .ne 13, 3) := by decide +kernel
theorem d_SP_part_54 : decode y_SP_part.2.1 54 = .ok (.new 48, 3) := by decide +kernel
theorem d_SP_part_57 : decode y_SP_part.2.1 57 = .ok (.dup, 1) := by decide +kernel
theorem d_SP_part_58 : decode y_SP_part.2.1 58 = .ok (.ldc 50, 2) := by decide +kernel
theorem d_SP_part_60 : decode y_SP_part.2.1 60 = .ok (.invokespecial 52, 3) := by decide +kernel
theorem d_SP_part_63 : decode y_SP_part.2.1 63 = .ok (.athrow, 1) := by decide +kernel
theorem d_SP_part_64 : decode y_SP_part.2.1 64 = .ok (.aload_n 0, 1) := by decide +kernel
theorem d_SP_part_65 : decode y_SP_part.2.1 65 = .ok (.getfield 26, 3) := by decide +kernel
theorem d_SP_part_68 : decode y_SP_part.2.1 68 = .ok (.ifCond .lt 15, 3) := by decide +kernel
theorem d_SP_part_71 : decode y_SP_part.2.1 71 = .ok (.aload_n 0, 1) := by decide +kernel
theorem d_SP_part_72 : decode y_SP_part.2.1 72 = .ok (.getfield 26, 3) := by decide +kernel
theorem d_SP_part_75 : decode y_SP_part.2.1 75 = .ok (.aload_n 0, 1) := by decide +kernel
theorem d_SP_part_76 : decode y_SP_part.2.1 76 = .ok (.getfield 11, 3) := by decide +kernel
theorem d_SP_part_79 : decode y_SP_part.2.1 79 = .ok (.arraylength, 1) := by decide +kernel
theorem d_SP_part_80 : decode y_SP_part.2.1 80 = .ok (.if_icmp .lt 13, 3) := by decide +kernel
theorem d_SP_part_83 : decode y_SP_part.2.1 83 = .ok (.new 55, 3) := by decide +kernel
theorem d_SP_part_86 : decode y_SP_part.2.1 86 = .ok (.dup, 1) := by decide +kernel
theorem d_SP_part_87 : decode y_SP_part.2.1 87 = .ok (.ldc 57, 2) := by decide +kernel
theorem d_SP_part_89 : decode y_SP_part.2.1 89 = .ok (.invokespecial 59, 3) := by decide +kernel
theorem d_SP_part_92 : decode y_SP_part.2.1 92 = .ok (.athrow, 1) := by decide +kernel
theorem d_SP_part_93 : decode y_SP_part.2.1 93 = .ok (.aload_n 0, 1) := by decide +kernel
theorem d_SP_part_94 : decode y_SP_part.2.1 94 = .ok (.getfield 26, 3) := by decide +kernel
theorem d_SP_part_97 : decode y_SP_part.2.1 97 = .ok (.istore 8, 2) := by decide +kernel
theorem d_SP_part_99 : decode y_SP_part.2.1 99 = .ok (.aload_n 0, 1) := by decide +kernel
theorem d_SP_part_100 : decode y_SP_part.2.1 100 = .ok (.getfield 11, 3) := by decide +kernel
theorem d_SP_part_103 : decode y_SP_part.2.1 103 = .ok (.iload 8, 2) := by decide +kernel
theorem d_SP_part_105 : decode y_SP_part.2.1 105 = .ok (.iload_n 1, 1) := by decide +kernel
theorem d_SP_part_106 : decode y_SP_part.2.1 106 = .ok (.new 60, 3) := by decide +kernel
theorem d_SP_part_109 : decode y_SP_part.2.1 109 = .ok (.dup, 1) := by decide +kernel
theorem d_SP_part_110 : decode y_SP_part.2.1 110 = .ok (.iload_n 2, 1) := by decide +kernel
theorem d_SP_part_111 : decode y_SP_part.2.1 111 = .ok (.iload 6, 2) := by decide +kernel
theorem d_SP_part_113 : decode y_SP_part.2.1 113 = .ok (.iload 4, 2) := by decide +kernel
theorem d_SP_part_115 : decode y_SP_part.2.1 115 = .ok (.iload 5, 2) := by decide +kernel
theorem d_SP_part_117 : decode y_SP_part.2.1 117 = .ok (.invokespecial 62, 3) := by decide +kernel
theorem d_SP_part_120 : decode y_SP_part.2.1 120 = .ok (.invokestatic 65, 3) := by decide +kernel
theorem d_SP_part_123 : decode y_SP_part.2.1 123 = .ok (.aastore, 1) := by decide +kernel
theorem d_SP_part_124 : decode y_SP_part.2.1 124 = .ok (.aload_n 0, 1) := by decide +kernel
theorem d_SP_part_125 : decode y_SP_part.2.1 125 = .ok (.iload 8, 2) := by decide +kernel
theorem d_SP_part_127 : decode y_SP_part.2.1 127 = .ok (.iconst 1, 1) := by decide +kernel
theorem d_SP_part_128 : decode y_SP_part.2.1 128 = .ok (.iadd, 1) := by decide +kernel
theorem d_SP_part_129 : decode y_SP_part.2.1 129 = .ok (.putfield 26, 3) := by decide +kernel
theorem d_SP_part_132 : decode y_SP_part.2.1 132 = .ok (.iload 8, 2) := by decide +kernel
theorem d_SP_part_134 : decode y_SP_part.2.1 134 = .ok (.ireturn, 1) := by decide +kernel
theorem d_SP_load_0 : decode y_SP_load.2.1 0 = .ok (.aload_n 0, 1) := by decide +kernel
theorem d_SP_load_1 : decode y_SP_load.2.1 1 = .ok (.iload_n 1, 1) := by decide +kernel
theorem d_SP_load_2 : decode y_SP_load.2.1 2 = .ok (.invokevirtual 69, 3) := by decide +kernel
theorem d_SP_load_5 : decode y_SP_load.2.1 5 = .ok (.astore 4, 2) := by decide +kernel
theorem d_SP_load_7 : decode y_SP_load.2.1 7 = .ok (.aload 4, 2) := by decide +kernel
theorem d_SP_load_9 : decode y_SP_load.2.1 9 = .ok (.instanceof 73, 3) := by decide +kernel
theorem d_SP_load_12 : decode y_SP_load.2.1 12 = .ok (.ifCond .eq 38, 3) := by decide +kernel
theorem d_SP_load_15 : decode y_SP_load.2.1 15 = .ok (.aload 4, 2) := by decide +kernel
theorem d_SP_load_17 : decode y_SP_load.2.1 17 = .ok (.checkcast 73, 3) := by decide +kernel
theorem d_SP_load_20 : decode y_SP_load.2.1 20 = .ok (.astore_n 3, 1) := by decide +kernel
theorem d_SP_load_21 : decode y_SP_load.2.1 21 = .ok (.iload_n 1, 1) := by decide +kernel
theorem d_SP_load_22 : decode y_SP_load.2.1 22 = .ok (.aload_n 3, 1) := by decide +kernel
theorem d_SP_load_23 : decode y_SP_load.2.1 23 = .ok (.getfield 75, 3) := by decide +kernel
theorem d_SP_load_26 : decode y_SP_load.2.1 26 = .ok (.getfield 79, 3) := by decide +kernel
theorem d_SP_load_29 : decode y_SP_load.2.1 29 = .ok (.isub, 1) := by decide +kernel
theorem d_SP_load_30 : decode y_SP_load.2.1 30 = .ok (.istore 4, 2) := by decide +kernel
theorem d_SP_load_32 : decode y_SP_load.2.1 32 = .ok (.aload_n 3, 1) := by decide +kernel
theorem d_SP_load_33 : decode y_SP_load.2.1 33 = .ok (.iload 4, 2) := by decide +kernel
theorem d_SP_load_35 : decode y_SP_load.2.1 35 = .ok (.invokevirtual 82, 3) := by decide +kernel
theorem d_SP_load_38 : decode y_SP_load.2.1 38 = .ok (.istore 5, 2) := by decide +kernel
theorem d_SP_load_40 : decode y_SP_load.2.1 40 = .ok (.aload_n 3, 1) := by decide +kernel
theorem d_SP_load_41 : decode y_SP_load.2.1 41 = .ok (.iload 4, 2) := by decide +kernel
theorem d_SP_load_43 : decode y_SP_load.2.1 43 = .ok (.iload_n 2, 1) := by decide +kernel
theorem d_SP_load_44 : decode y_SP_load.2.1 44 = .ok (.invokevirtual 86, 3) := by decide +kernel
theorem d_SP_load_47 : decode y_SP_load.2.1 47 = .ok (.iload 5, 2) := by decide +kernel
theorem d_SP_load_49 : decode y_SP_load.2.1 49 = .ok (.ireturn, 1) := by decide +kernel
theorem d_SP_load_50 : decode y_SP_load.2.1 50 = .ok (.new 48, 3) := by decide +kernel
theorem d_SP_load_53 : decode y_SP_load.2.1 53 = .ok (.dup, 1) := by decide +kernel
theorem d_SP_load_54 : decode y_SP_load.2.1 54 = .ok (.ldc 90, 2) := by decide +kernel
theorem d_SP_load_56 : decode y_SP_load.2.1 56 = .ok (.invokespecial 52, 3) := by decide +kernel
theorem d_SP_load_59 : decode y_SP_load.2.1 59 = .ok (.athrow, 1) := by decide +kernel
theorem d_SP_read_0 : decode y_SP_read.2.1 0 = .ok (.aload_n 0, 1) := by decide +kernel
theorem d_SP_read_1 : decode y_SP_read.2.1 1 = .ok (.iload_n 1, 1) := by decide +kernel
theorem d_SP_read_2 : decode y_SP_read.2.1 2 = .ok (.invokevirtual 92, 3) := by decide +kernel
theorem d_SP_read_5 : decode y_SP_read.2.1 5 = .ok (.astore_n 2, 1) := by decide +kernel
theorem d_SP_read_6 : decode y_SP_read.2.1 6 = .ok (.aload_n 0, 1) := by decide +kernel
theorem d_SP_read_7 : decode y_SP_read.2.1 7 = .ok (.iconst 1, 1) := by decide +kernel
theorem d_SP_read_8 : decode y_SP_read.2.1 8 = .ok (.invokevirtual 95, 3) := by decide +kernel
theorem d_SP_read_11 : decode y_SP_read.2.1 11 = .ok (.aload_n 2, 1) := by decide +kernel
theorem d_SP_read_12 : decode y_SP_read.2.1 12 = .ok (.iload_n 1, 1) := by decide +kernel
theorem d_SP_read_13 : decode y_SP_read.2.1 13 = .ok (.aload_n 2, 1) := by decide +kernel
theorem d_SP_read_14 : decode y_SP_read.2.1 14 = .ok (.getfield 99, 3) := by decide +kernel
theorem d_SP_read_17 : decode y_SP_read.2.1 17 = .ok (.getfield 79, 3) := by decide +kernel
theorem d_SP_read_20 : decode y_SP_read.2.1 20 = .ok (.isub, 1) := by decide +kernel
theorem d_SP_read_21 : decode y_SP_read.2.1 21 = .ok (.invokevirtual 100, 3) := by decide +kernel
theorem d_SP_read_24 : decode y_SP_read.2.1 24 = .ok (.istore_n 3, 1) := by decide +kernel
theorem d_SP_read_25 : decode y_SP_read.2.1 25 = .ok (.aload_n 0, 1) := by decide +kernel
theorem d_SP_read_26 : decode y_SP_read.2.1 26 = .ok (.getfield 18, 3) := by decide +kernel
theorem d_SP_read_29 : decode y_SP_read.2.1 29 = .ok (.aload_n 0, 1) := by decide +kernel
theorem d_SP_read_30 : decode y_SP_read.2.1 30 = .ok (.invokevirtual 101, 3) := by decide +kernel
theorem d_SP_read_33 : decode y_SP_read.2.1 33 = .ok (.invokevirtual 105, 3) := by decide +kernel
theorem d_SP_read_36 : decode y_SP_read.2.1 36 = .ok (.iload_n 3, 1) := by decide +kernel
theorem d_SP_read_37 : decode y_SP_read.2.1 37 = .ok (.ireturn, 1) := by decide +kernel
theorem d_SP_write_0 : decode y_SP_write.2.1 0 = .ok (.aload_n 0, 1) := by decide +kernel
theorem d_SP_write_1 : decode y_SP_write.2.1 1 = .ok (.iload_n 1, 1) := by decide +kernel
theorem d_SP_write_2 : decode y_SP_write.2.1 2 = .ok (.invokevirtual 92, 3) := by decide +kernel
theorem d_SP_write_5 : decode y_SP_write.2.1 5 = .ok (.astore_n 3, 1) := by decide +kernel
theorem d_SP_write_6 : decode y_SP_write.2.1 6 = .ok (.aload_n 3, 1) := by decide +kernel
theorem d_SP_write_7 : decode y_SP_write.2.1 7 = .ok (.invokevirtual 108, 3) := by decide +kernel
theorem d_SP_write_10 : decode y_SP_write.2.1 10 = .ok (.ifCond .eq 18, 3) := by decide +kernel
theorem d_SP_write_13 : decode y_SP_write.2.1 13 = .ok (.aload_n 0, 1) := by decide +kernel
theorem d_SP_write_14 : decode y_SP_write.2.1 14 = .ok (.iconst 3, 1) := by decide +kernel
theorem d_SP_write_15 : decode y_SP_write.2.1 15 = .ok (.invokevirtual 95, 3) := by decide +kernel
theorem d_SP_write_18 : decode y_SP_write.2.1 18 = .ok (.new 112, 3) := by decide +kernel
theorem d_SP_write_21 : decode y_SP_write.2.1 21 = .ok (.dup, 1) := by decide +kernel
theorem d_SP_write_22 : decode y_SP_write.2.1 22 = .ok (.ldc 114, 2) := by decide +kernel
theorem d_SP_write_24 : decode y_SP_write.2.1 24 = .ok (.invokespecial 116, 3) := by decide +kernel
theorem d_SP_write_27 : decode y_SP_write.2.1 27 = .ok (.athrow, 1) := by decide +kernel
theorem d_SP_write_28 : decode y_SP_write.2.1 28 = .ok (.aload_n 0, 1) := by decide +kernel
theorem d_SP_write_29 : decode y_SP_write.2.1 29 = .ok (.iconst 2, 1) := by decide +kernel
theorem d_SP_write_30 : decode y_SP_write.2.1 30 = .ok (.invokevirtual 95, 3) := by decide +kernel
theorem d_SP_write_33 : decode y_SP_write.2.1 33 = .ok (.aload_n 3, 1) := by decide +kernel
theorem d_SP_write_34 : decode y_SP_write.2.1 34 = .ok (.iload_n 1, 1) := by decide +kernel
theorem d_SP_write_35 : decode y_SP_write.2.1 35 = .ok (.aload_n 3, 1) := by decide +kernel
theorem d_SP_write_36 : decode y_SP_write.2.1 36 = .ok (.getfield 99, 3) := by decide +kernel
theorem d_SP_write_39 : decode y_SP_write.2.1 39 = .ok (.getfield 79, 3) := by decide +kernel
theorem d_SP_write_42 : decode y_SP_write.2.1 42 = .ok (.isub, 1) := by decide +kernel
theorem d_SP_write_43 : decode y_SP_write.2.1 43 = .ok (.iload_n 2, 1) := by decide +kernel
theorem d_SP_write_44 : decode y_SP_write.2.1 44 = .ok (.invokevirtual 117, 3) := by decide +kernel
theorem d_SP_write_47 : decode y_SP_write.2.1 47 = .ok (.aload_n 0, 1) := by decide +kernel
theorem d_SP_write_48 : decode y_SP_write.2.1 48 = .ok (.getfield 18, 3) := by decide +kernel
theorem d_SP_write_51 : decode y_SP_write.2.1 51 = .ok (.aload_n 0, 1) := by decide +kernel
theorem d_SP_write_52 : decode y_SP_write.2.1 52 = .ok (.invokevirtual 101, 3) := by decide +kernel
theorem d_SP_write_55 : decode y_SP_write.2.1 55 = .ok (.invokevirtual 105, 3) := by decide +kernel
theorem d_SP_write_58 : decode y_SP_write.2.1 58 = .ok (.aload_n 3, 1) := by decide +kernel
theorem d_SP_write_59 : decode y_SP_write.2.1 59 = .ok (.getfield 99, 3) := by decide +kernel
theorem d_SP_write_62 : decode y_SP_write.2.1 62 = .ok (.invokevirtual 118, 3) := by decide +kernel
theorem d_SP_write_65 : decode y_SP_write.2.1 65 = .ok (.ireturn, 1) := by decide +kernel
theorem d_SP_step_0 : decode y_SP_step.2.1 0 = .ok (.iload_n 1, 1) := by decide +kernel
theorem d_SP_step_1 : decode y_SP_step.2.1 1 = .ok (.iconst 1, 1) := by decide +kernel
theorem d_SP_step_2 : decode y_SP_step.2.1 2 = .ok (.if_icmp .lt 10, 3) := by decide +kernel
theorem d_SP_step_5 : decode y_SP_step.2.1 5 = .ok (.iload_n 1, 1) := by decide +kernel
theorem d_SP_step_6 : decode y_SP_step.2.1 6 = .ok (.sipush 1000, 3) := by decide +kernel
theorem d_SP_step_9 : decode y_SP_step.2.1 9 = .ok (.if_icmp .le 13, 3) := by decide +kernel
theorem d_SP_step_12 : decode y_SP_step.2.1 12 = .ok (.new 48, 3) := by decide +kernel
theorem d_SP_step_15 : decode y_SP_step.2.1 15 = .ok (.dup, 1) := by decide +kernel
theorem d_SP_step_16 : decode y_SP_step.2.1 16 = .ok (.ldc 121, 2) := by decide +kernel
theorem d_SP_step_18 : decode y_SP_step.2.1 18 = .ok (.invokespecial 52, 3) := by decide +kernel
theorem d_SP_step_21 : decode y_SP_step.2.1 21 = .ok (.athrow, 1) := by decide +kernel
theorem d_SP_step_22 : decode y_SP_step.2.1 22 = .ok (.aload_n 0, 1) := by decide +kernel
theorem d_SP_step_23 : decode y_SP_step.2.1 23 = .ok (.iload_n 1, 1) := by decide +kernel
theorem d_SP_step_24 : decode y_SP_step.2.1 24 = .ok (.invokevirtual 123, 3) := by decide +kernel
theorem d_SP_step_27 : decode y_SP_step.2.1 27 = .ok (.ireturn, 1) := by decide +kernel
theorem d_SP_receive_0 : decode y_SP_receive.2.1 0 = .ok (.aload_n 0, 1) := by decide +kernel
theorem d_SP_receive_1 : decode y_SP_receive.2.1 1 = .ok (.iload_n 1, 1) := by decide +kernel
theorem d_SP_receive_2 : decode y_SP_receive.2.1 2 = .ok (.invokevirtual 126, 3) := by decide +kernel
theorem d_SP_receive_5 : decode y_SP_receive.2.1 5 = .ok (.astore_n 3, 1) := by decide +kernel
theorem d_SP_receive_6 : decode y_SP_receive.2.1 6 = .ok (.aload_n 3, 1) := by decide +kernel
theorem d_SP_receive_7 : decode y_SP_receive.2.1 7 = .ok (.invokevirtual 130, 3) := by decide +kernel
theorem d_SP_receive_10 : decode y_SP_receive.2.1 10 = .ok (.ifCond .eq 13, 3) := by decide +kernel
theorem d_SP_receive_13 : decode y_SP_receive.2.1 13 = .ok (.new 55, 3) := by decide +kernel
theorem d_SP_receive_16 : decode y_SP_receive.2.1 16 = .ok (.dup, 1) := by decide +kernel
theorem d_SP_receive_17 : decode y_SP_receive.2.1 17 = .ok (.ldc 135, 2) := by decide +kernel
theorem d_SP_receive_19 : decode y_SP_receive.2.1 19 = .ok (.invokespecial 59, 3) := by decide +kernel
theorem d_SP_receive_22 : decode y_SP_receive.2.1 22 = .ok (.athrow, 1) := by decide +kernel
theorem d_SP_receive_23 : decode y_SP_receive.2.1 23 = .ok (.aload_n 3, 1) := by decide +kernel
theorem d_SP_receive_24 : decode y_SP_receive.2.1 24 = .ok (.iload_n 2, 1) := by decide +kernel
theorem d_SP_receive_25 : decode y_SP_receive.2.1 25 = .ok (.invokevirtual 137, 3) := by decide +kernel
theorem d_SP_receive_28 : decode y_SP_receive.2.1 28 = .ok (.ireturn, 1) := by decide +kernel
theorem d_SP_sent_0 : decode y_SP_sent.2.1 0 = .ok (.aload_n 0, 1) := by decide +kernel
theorem d_SP_sent_1 : decode y_SP_sent.2.1 1 = .ok (.iload_n 1, 1) := by decide +kernel
theorem d_SP_sent_2 : decode y_SP_sent.2.1 2 = .ok (.invokevirtual 126, 3) := by decide +kernel
theorem d_SP_sent_5 : decode y_SP_sent.2.1 5 = .ok (.astore_n 3, 1) := by decide +kernel
theorem d_SP_sent_6 : decode y_SP_sent.2.1 6 = .ok (.iload_n 2, 1) := by decide +kernel
theorem d_SP_sent_7 : decode y_SP_sent.2.1 7 = .ok (.ifCond .lt 11, 3) := by decide +kernel
theorem d_SP_sent_10 : decode y_SP_sent.2.1 10 = .ok (.iload_n 2, 1) := by decide +kernel
theorem d_SP_sent_11 : decode y_SP_sent.2.1 11 = .ok (.aload_n 3, 1) := by decide +kernel
theorem d_SP_sent_12 : decode y_SP_sent.2.1 12 = .ok (.invokevirtual 140, 3) := by decide +kernel
theorem d_SP_sent_15 : decode y_SP_sent.2.1 15 = .ok (.if_icmp .lt 13, 3) := by decide +kernel
theorem d_SP_sent_18 : decode y_SP_sent.2.1 18 = .ok (.new 143, 3) := by decide +kernel
theorem d_SP_sent_21 : decode y_SP_sent.2.1 21 = .ok (.dup, 1) := by decide +kernel
theorem d_SP_sent_22 : decode y_SP_sent.2.1 22 = .ok (.ldc 145, 2) := by decide +kernel
theorem d_SP_sent_24 : decode y_SP_sent.2.1 24 = .ok (.invokespecial 147, 3) := by decide +kernel
theorem d_SP_sent_27 : decode y_SP_sent.2.1 27 = .ok (.athrow, 1) := by decide +kernel
theorem d_SP_sent_28 : decode y_SP_sent.2.1 28 = .ok (.aload_n 3, 1) := by decide +kernel
theorem d_SP_sent_29 : decode y_SP_sent.2.1 29 = .ok (.iload_n 2, 1) := by decide +kernel
theorem d_SP_sent_30 : decode y_SP_sent.2.1 30 = .ok (.invokevirtual 148, 3) := by decide +kernel
theorem d_SP_sent_33 : decode y_SP_sent.2.1 33 = .ok (.ireturn, 1) := by decide +kernel
theorem d_SP_line_0 : decode y_SP_line.2.1 0 = .ok (.iload_n 1, 1) := by decide +kernel
theorem d_SP_line_1 : decode y_SP_line.2.1 1 = .ok (.invokestatic 40, 3) := by decide +kernel
theorem d_SP_line_4 : decode y_SP_line.2.1 4 = .ok (.ifCond .ne 13, 3) := by decide +kernel
theorem d_SP_line_7 : decode y_SP_line.2.1 7 = .ok (.new 143, 3) := by decide +kernel
theorem d_SP_line_10 : decode y_SP_line.2.1 10 = .ok (.dup, 1) := by decide +kernel
theorem d_SP_line_11 : decode y_SP_line.2.1 11 = .ok (.ldc 151, 2) := by decide +kernel
theorem d_SP_line_13 : decode y_SP_line.2.1 13 = .ok (.invokespecial 147, 3) := by decide +kernel
theorem d_SP_line_16 : decode y_SP_line.2.1 16 = .ok (.athrow, 1) := by decide +kernel
theorem d_SP_line_17 : decode y_SP_line.2.1 17 = .ok (.iload_n 3, 1) := by decide +kernel
theorem d_SP_line_18 : decode y_SP_line.2.1 18 = .ok (.ifCond .lt 11, 3) := by decide +kernel
theorem d_SP_line_21 : decode y_SP_line.2.1 21 = .ok (.iload_n 3, 1) := by decide +kernel
theorem d_SP_line_22 : decode y_SP_line.2.1 22 = .ok (.iload_n 2, 1) := by decide +kernel
theorem d_SP_line_23 : decode y_SP_line.2.1 23 = .ok (.invokestatic 153, 3) := by decide +kernel
theorem d_SP_line_26 : decode y_SP_line.2.1 26 = .ok (.if_icmp .le 13, 3) := by decide +kernel
theorem d_SP_line_29 : decode y_SP_line.2.1 29 = .ok (.new 48, 3) := by decide +kernel
theorem d_SP_line_32 : decode y_SP_line.2.1 32 = .ok (.dup, 1) := by decide +kernel
theorem d_SP_line_33 : decode y_SP_line.2.1 33 = .ok (.ldc 156, 2) := by decide +kernel
theorem d_SP_line_35 : decode y_SP_line.2.1 35 = .ok (.invokespecial 52, 3) := by decide +kernel
theorem d_SP_line_38 : decode y_SP_line.2.1 38 = .ok (.athrow, 1) := by decide +kernel
theorem d_SP_line_39 : decode y_SP_line.2.1 39 = .ok (.aload_n 0, 1) := by decide +kernel
theorem d_SP_line_40 : decode y_SP_line.2.1 40 = .ok (.getfield 18, 3) := by decide +kernel
theorem d_SP_line_43 : decode y_SP_line.2.1 43 = .ok (.iload_n 1, 1) := by decide +kernel
theorem d_SP_line_44 : decode y_SP_line.2.1 44 = .ok (.iload_n 2, 1) := by decide +kernel
theorem d_SP_line_45 : decode y_SP_line.2.1 45 = .ok (.iload_n 3, 1) := by decide +kernel
theorem d_SP_line_46 : decode y_SP_line.2.1 46 = .ok (.invokevirtual 158, 3) := by decide +kernel
theorem d_SP_line_49 : decode y_SP_line.2.1 49 = .ok (.ireturn, 1) := by decide +kernel
theorem d_SP_asks_0 : decode y_SP_asks.2.1 0 = .ok (.iload_n 1, 1) := by decide +kernel
theorem d_SP_asks_1 : decode y_SP_asks.2.1 1 = .ok (.invokestatic 40, 3) := by decide +kernel
theorem d_SP_asks_4 : decode y_SP_asks.2.1 4 = .ok (.ifCond .ne 13, 3) := by decide +kernel
theorem d_SP_asks_7 : decode y_SP_asks.2.1 7 = .ok (.new 143, 3) := by decide +kernel
theorem d_SP_asks_10 : decode y_SP_asks.2.1 10 = .ok (.dup, 1) := by decide +kernel
theorem d_SP_asks_11 : decode y_SP_asks.2.1 11 = .ok (.ldc 151, 2) := by decide +kernel
theorem d_SP_asks_13 : decode y_SP_asks.2.1 13 = .ok (.invokespecial 147, 3) := by decide +kernel
theorem d_SP_asks_16 : decode y_SP_asks.2.1 16 = .ok (.athrow, 1) := by decide +kernel
theorem d_SP_asks_17 : decode y_SP_asks.2.1 17 = .ok (.aload_n 0, 1) := by decide +kernel
theorem d_SP_asks_18 : decode y_SP_asks.2.1 18 = .ok (.getfield 18, 3) := by decide +kernel
theorem d_SP_asks_21 : decode y_SP_asks.2.1 21 = .ok (.getfield 162, 3) := by decide +kernel
theorem d_SP_asks_24 : decode y_SP_asks.2.1 24 = .ok (.iload_n 1, 1) := by decide +kernel
theorem d_SP_asks_25 : decode y_SP_asks.2.1 25 = .ok (.ishr, 1) := by decide +kernel
theorem d_SP_asks_26 : decode y_SP_asks.2.1 26 = .ok (.iconst 1, 1) := by decide +kernel
theorem d_SP_asks_27 : decode y_SP_asks.2.1 27 = .ok (.iand, 1) := by decide +kernel
theorem d_SP_asks_28 : decode y_SP_asks.2.1 28 = .ok (.istore_n 2, 1) := by decide +kernel
theorem d_SP_asks_29 : decode y_SP_asks.2.1 29 = .ok (.aload_n 0, 1) := by decide +kernel
theorem d_SP_asks_30 : decode y_SP_asks.2.1 30 = .ok (.getfield 18, 3) := by decide +kernel
theorem d_SP_asks_33 : decode y_SP_asks.2.1 33 = .ok (.invokevirtual 165, 3) := by decide +kernel
theorem d_SP_asks_36 : decode y_SP_asks.2.1 36 = .ok (.iload_n 1, 1) := by decide +kernel
theorem d_SP_asks_37 : decode y_SP_asks.2.1 37 = .ok (.ishr, 1) := by decide +kernel
theorem d_SP_asks_38 : decode y_SP_asks.2.1 38 = .ok (.iconst 1, 1) := by decide +kernel
theorem d_SP_asks_39 : decode y_SP_asks.2.1 39 = .ok (.iand, 1) := by decide +kernel
theorem d_SP_asks_40 : decode y_SP_asks.2.1 40 = .ok (.istore_n 3, 1) := by decide +kernel
theorem d_SP_asks_41 : decode y_SP_asks.2.1 41 = .ok (.iload_n 2, 1) := by decide +kernel
theorem d_SP_asks_42 : decode y_SP_asks.2.1 42 = .ok (.iconst 2, 1) := by decide +kernel
theorem d_SP_asks_43 : decode y_SP_asks.2.1 43 = .ok (.iload_n 3, 1) := by decide +kernel
theorem d_SP_asks_44 : decode y_SP_asks.2.1 44 = .ok (.imul, 1) := by decide +kernel
theorem d_SP_asks_45 : decode y_SP_asks.2.1 45 = .ok (.iadd, 1) := by decide +kernel
theorem d_SP_asks_46 : decode y_SP_asks.2.1 46 = .ok (.ireturn, 1) := by decide +kernel
theorem d_SP_chosen_0 : decode y_SP_chosen.2.1 0 = .ok (.aload_n 0, 1) := by decide +kernel
theorem d_SP_chosen_1 : decode y_SP_chosen.2.1 1 = .ok (.getfield 18, 3) := by decide +kernel
theorem d_SP_chosen_4 : decode y_SP_chosen.2.1 4 = .ok (.invokevirtual 168, 3) := by decide +kernel
theorem d_SP_chosen_7 : decode y_SP_chosen.2.1 7 = .ok (.ireturn, 1) := by decide +kernel
theorem d_SP_take_0 : decode y_SP_take.2.1 0 = .ok (.aload_n 0, 1) := by decide +kernel
theorem d_SP_take_1 : decode y_SP_take.2.1 1 = .ok (.getfield 18, 3) := by decide +kernel
theorem d_SP_take_4 : decode y_SP_take.2.1 4 = .ok (.invokevirtual 168, 3) := by decide +kernel
theorem d_SP_take_7 : decode y_SP_take.2.1 7 = .ok (.istore_n 1, 1) := by decide +kernel
theorem d_SP_take_8 : decode y_SP_take.2.1 8 = .ok (.iload_n 1, 1) := by decide +kernel
theorem d_SP_take_9 : decode y_SP_take.2.1 9 = .ok (.iconst (-1), 1) := by decide +kernel
theorem d_SP_take_10 : decode y_SP_take.2.1 10 = .ok (.if_icmp .eq 11, 3) := by decide +kernel
theorem d_SP_take_13 : decode y_SP_take.2.1 13 = .ok (.aload_n 0, 1) := by decide +kernel
theorem d_SP_take_14 : decode y_SP_take.2.1 14 = .ok (.getfield 18, 3) := by decide +kernel
theorem d_SP_take_17 : decode y_SP_take.2.1 17 = .ok (.iload_n 1, 1) := by decide +kernel
theorem d_SP_take_18 : decode y_SP_take.2.1 18 = .ok (.invokevirtual 171, 3) := by decide +kernel
theorem d_SP_take_21 : decode y_SP_take.2.1 21 = .ok (.iload_n 1, 1) := by decide +kernel
theorem d_SP_take_22 : decode y_SP_take.2.1 22 = .ok (.ireturn, 1) := by decide +kernel
theorem d_SP_reset_0 : decode y_SP_reset.2.1 0 = .ok (.aload_n 0, 1) := by decide +kernel
theorem d_SP_reset_1 : decode y_SP_reset.2.1 1 = .ok (.getfield 33, 3) := by decide +kernel
theorem d_SP_reset_4 : decode y_SP_reset.2.1 4 = .ok (.istore_n 1, 1) := by decide +kernel
theorem d_SP_reset_5 : decode y_SP_reset.2.1 5 = .ok (.aload_n 0, 1) := by decide +kernel
theorem d_SP_reset_6 : decode y_SP_reset.2.1 6 = .ok (.iconst 1, 1) := by decide +kernel
theorem d_SP_reset_7 : decode y_SP_reset.2.1 7 = .ok (.invokevirtual 174, 3) := by decide +kernel
theorem d_SP_reset_10 : decode y_SP_reset.2.1 10 = .ok (.iload_n 1, 1) := by decide +kernel
theorem d_SP_reset_11 : decode y_SP_reset.2.1 11 = .ok (.ireturn, 1) := by decide +kernel
theorem d_SP_count_0 : decode y_SP_count.2.1 0 = .ok (.iload_n 1, 1) := by decide +kernel
theorem d_SP_count_1 : decode y_SP_count.2.1 1 = .ok (.tableswitch 117 0 9 #[55, 60, 65, 72, 79, 86, 91, 99, 107, 112], 55) := by decide +kernel
theorem d_SP_count_56 : decode y_SP_count.2.1 56 = .ok (.aload_n 0, 1) := by decide +kernel
theorem d_SP_count_57 : decode y_SP_count.2.1 57 = .ok (.getfield 30, 3) := by decide +kernel
theorem d_SP_count_60 : decode y_SP_count.2.1 60 = .ok (.ireturn, 1) := by decide +kernel
theorem d_SP_count_61 : decode y_SP_count.2.1 61 = .ok (.aload_n 0, 1) := by decide +kernel
theorem d_SP_count_62 : decode y_SP_count.2.1 62 = .ok (.getfield 26, 3) := by decide +kernel
theorem d_SP_count_65 : decode y_SP_count.2.1 65 = .ok (.ireturn, 1) := by decide +kernel
theorem d_SP_count_66 : decode y_SP_count.2.1 66 = .ok (.aload_n 0, 1) := by decide +kernel
theorem d_SP_count_67 : decode y_SP_count.2.1 67 = .ok (.getfield 22, 3) := by decide +kernel
theorem d_SP_count_70 : decode y_SP_count.2.1 70 = .ok (.iconst 1, 1) := by decide +kernel
theorem d_SP_count_71 : decode y_SP_count.2.1 71 = .ok (.iaload, 1) := by decide +kernel
theorem d_SP_count_72 : decode y_SP_count.2.1 72 = .ok (.ireturn, 1) := by decide +kernel
theorem d_SP_count_73 : decode y_SP_count.2.1 73 = .ok (.aload_n 0, 1) := by decide +kernel
theorem d_SP_count_74 : decode y_SP_count.2.1 74 = .ok (.getfield 22, 3) := by decide +kernel
theorem d_SP_count_77 : decode y_SP_count.2.1 77 = .ok (.iconst 2, 1) := by decide +kernel
theorem d_SP_count_78 : decode y_SP_count.2.1 78 = .ok (.iaload, 1) := by decide +kernel
theorem d_SP_count_79 : decode y_SP_count.2.1 79 = .ok (.ireturn, 1) := by decide +kernel
theorem d_SP_count_80 : decode y_SP_count.2.1 80 = .ok (.aload_n 0, 1) := by decide +kernel
theorem d_SP_count_81 : decode y_SP_count.2.1 81 = .ok (.getfield 22, 3) := by decide +kernel
theorem d_SP_count_84 : decode y_SP_count.2.1 84 = .ok (.iconst 3, 1) := by decide +kernel
theorem d_SP_count_85 : decode y_SP_count.2.1 85 = .ok (.iaload, 1) := by decide +kernel
theorem d_SP_count_86 : decode y_SP_count.2.1 86 = .ok (.ireturn, 1) := by decide +kernel
theorem d_SP_count_87 : decode y_SP_count.2.1 87 = .ok (.aload_n 0, 1) := by decide +kernel
theorem d_SP_count_88 : decode y_SP_count.2.1 88 = .ok (.getfield 33, 3) := by decide +kernel
theorem d_SP_count_91 : decode y_SP_count.2.1 91 = .ok (.ireturn, 1) := by decide +kernel
theorem d_SP_count_92 : decode y_SP_count.2.1 92 = .ok (.aload_n 0, 1) := by decide +kernel
theorem d_SP_count_93 : decode y_SP_count.2.1 93 = .ok (.getfield 18, 3) := by decide +kernel
theorem d_SP_count_96 : decode y_SP_count.2.1 96 = .ok (.getfield 162, 3) := by decide +kernel
theorem d_SP_count_99 : decode y_SP_count.2.1 99 = .ok (.ireturn, 1) := by decide +kernel
theorem d_SP_count_100 : decode y_SP_count.2.1 100 = .ok (.aload_n 0, 1) := by decide +kernel
theorem d_SP_count_101 : decode y_SP_count.2.1 101 = .ok (.getfield 18, 3) := by decide +kernel
theorem d_SP_count_104 : decode y_SP_count.2.1 104 = .ok (.invokevirtual 165, 3) := by decide +kernel
theorem d_SP_count_107 : decode y_SP_count.2.1 107 = .ok (.ireturn, 1) := by decide +kernel
theorem d_SP_count_108 : decode y_SP_count.2.1 108 = .ok (.aload_n 0, 1) := by decide +kernel
theorem d_SP_count_109 : decode y_SP_count.2.1 109 = .ok (.invokevirtual 177, 3) := by decide +kernel
theorem d_SP_count_112 : decode y_SP_count.2.1 112 = .ok (.ireturn, 1) := by decide +kernel
theorem d_SP_count_113 : decode y_SP_count.2.1 113 = .ok (.aload_n 0, 1) := by decide +kernel
theorem d_SP_count_114 : decode y_SP_count.2.1 114 = .ok (.invokevirtual 180, 3) := by decide +kernel
theorem d_SP_count_117 : decode y_SP_count.2.1 117 = .ok (.ireturn, 1) := by decide +kernel
theorem d_SP_count_118 : decode y_SP_count.2.1 118 = .ok (.iconst (-1), 1) := by decide +kernel
theorem d_SP_count_119 : decode y_SP_count.2.1 119 = .ok (.ireturn, 1) := by decide +kernel
theorem d_SP_isPlace_0 : decode y_SP_isPlace.2.1 0 = .ok (.iload_n 0, 1) := by decide +kernel
theorem d_SP_isPlace_1 : decode y_SP_isPlace.2.1 1 = .ok (.ifCond .lt 13, 3) := by decide +kernel
theorem d_SP_isPlace_4 : decode y_SP_isPlace.2.1 4 = .ok (.iload_n 0, 1) := by decide +kernel
theorem d_SP_isPlace_5 : decode y_SP_isPlace.2.1 5 = .ok (.ldc 183, 2) := by decide +kernel
theorem d_SP_isPlace_7 : decode y_SP_isPlace.2.1 7 = .ok (.if_icmp .ge 7, 3) := by decide +kernel
theorem d_SP_isPlace_10 : decode y_SP_isPlace.2.1 10 = .ok (.iconst 1, 1) := by decide +kernel
theorem d_SP_isPlace_11 : decode y_SP_isPlace.2.1 11 = .ok (.goto 4, 3) := by decide +kernel
theorem d_SP_isPlace_14 : decode y_SP_isPlace.2.1 14 = .ok (.iconst 0, 1) := by decide +kernel
theorem d_SP_isPlace_15 : decode y_SP_isPlace.2.1 15 = .ok (.ireturn, 1) := by decide +kernel
theorem d_SP_isLine_0 : decode y_SP_isLine.2.1 0 = .ok (.iload_n 0, 1) := by decide +kernel
theorem d_SP_isLine_1 : decode y_SP_isLine.2.1 1 = .ok (.ifCond .lt 13, 3) := by decide +kernel
theorem d_SP_isLine_4 : decode y_SP_isLine.2.1 4 = .ok (.iload_n 0, 1) := by decide +kernel
theorem d_SP_isLine_5 : decode y_SP_isLine.2.1 5 = .ok (.bipush 16, 2) := by decide +kernel
theorem d_SP_isLine_7 : decode y_SP_isLine.2.1 7 = .ok (.if_icmp .ge 7, 3) := by decide +kernel
theorem d_SP_isLine_10 : decode y_SP_isLine.2.1 10 = .ok (.iconst 1, 1) := by decide +kernel
theorem d_SP_isLine_11 : decode y_SP_isLine.2.1 11 = .ok (.goto 4, 3) := by decide +kernel
theorem d_SP_isLine_14 : decode y_SP_isLine.2.1 14 = .ok (.iconst 0, 1) := by decide +kernel
theorem d_SP_isLine_15 : decode y_SP_isLine.2.1 15 = .ok (.ireturn, 1) := by decide +kernel
theorem d_SP_lengthOf_0 : decode y_SP_lengthOf.2.1 0 = .ok (.iload_n 0, 1) := by decide +kernel
theorem d_SP_lengthOf_1 : decode y_SP_lengthOf.2.1 1 = .ok (.tableswitch 65 0 5 #[39, 39, 56, 58, 60, 63], 39) := by decide +kernel
theorem d_SP_lengthOf_40 : decode y_SP_lengthOf.2.1 40 = .ok (.iload_n 1, 1) := by decide +kernel
theorem d_SP_lengthOf_41 : decode y_SP_lengthOf.2.1 41 = .ok (.iconst 1, 1) := by decide +kernel
theorem d_SP_lengthOf_42 : decode y_SP_lengthOf.2.1 42 = .ok (.if_icmp .lt 13, 3) := by decide +kernel
theorem d_SP_lengthOf_45 : decode y_SP_lengthOf.2.1 45 = .ok (.iload_n 1, 1) := by decide +kernel
theorem d_SP_lengthOf_46 : decode y_SP_lengthOf.2.1 46 = .ok (.bipush 64, 2) := by decide +kernel
theorem d_SP_lengthOf_48 : decode y_SP_lengthOf.2.1 48 = .ok (.if_icmp .gt 7, 3) := by decide +kernel
theorem d_SP_lengthOf_51 : decode y_SP_lengthOf.2.1 51 = .ok (.iload_n 1, 1) := by decide +kernel
theorem d_SP_lengthOf_52 : decode y_SP_lengthOf.2.1 52 = .ok (.goto 4, 3) := by decide +kernel
theorem d_SP_lengthOf_55 : decode y_SP_lengthOf.2.1 55 = .ok (.iconst 0, 1) := by decide +kernel
theorem d_SP_lengthOf_56 : decode y_SP_lengthOf.2.1 56 = .ok (.ireturn, 1) := by decide +kernel
theorem d_SP_lengthOf_57 : decode y_SP_lengthOf.2.1 57 = .ok (.iconst 4, 1) := by decide +kernel
theorem d_SP_lengthOf_58 : decode y_SP_lengthOf.2.1 58 = .ok (.ireturn, 1) := by decide +kernel
theorem d_SP_lengthOf_59 : decode y_SP_lengthOf.2.1 59 = .ok (.iconst 3, 1) := by decide +kernel
theorem d_SP_lengthOf_60 : decode y_SP_lengthOf.2.1 60 = .ok (.ireturn, 1) := by decide +kernel
theorem d_SP_lengthOf_61 : decode y_SP_lengthOf.2.1 61 = .ok (.bipush 11, 2) := by decide +kernel
theorem d_SP_lengthOf_63 : decode y_SP_lengthOf.2.1 63 = .ok (.ireturn, 1) := by decide +kernel
theorem d_SP_lengthOf_64 : decode y_SP_lengthOf.2.1 64 = .ok (.iconst 4, 1) := by decide +kernel
theorem d_SP_lengthOf_65 : decode y_SP_lengthOf.2.1 65 = .ok (.ireturn, 1) := by decide +kernel
theorem d_SP_lengthOf_66 : decode y_SP_lengthOf.2.1 66 = .ok (.iconst 0, 1) := by decide +kernel
theorem d_SP_lengthOf_67 : decode y_SP_lengthOf.2.1 67 = .ok (.ireturn, 1) := by decide +kernel
theorem d_SP_newPart_0 : decode y_SP_newPart.2.1 0 = .ok (.iload_n 0, 1) := by decide +kernel
theorem d_SP_newPart_1 : decode y_SP_newPart.2.1 1 = .ok (.tableswitch 82 0 4 #[35, 45, 55, 64, 73], 35) := by decide +kernel
theorem d_SP_newPart_36 : decode y_SP_newPart.2.1 36 = .ok (.new 73, 3) := by decide +kernel
theorem d_SP_newPart_39 : decode y_SP_newPart.2.1 39 = .ok (.dup, 1) := by decide +kernel
theorem d_SP_newPart_40 : decode y_SP_newPart.2.1 40 = .ok (.aload_n 1, 1) := by decide +kernel
theorem d_SP_newPart_41 : decode y_SP_newPart.2.1 41 = .ok (.iconst 0, 1) := by decide +kernel
theorem d_SP_newPart_42 : decode y_SP_newPart.2.1 42 = .ok (.invokespecial 188, 3) := by decide +kernel
theorem d_SP_newPart_45 : decode y_SP_newPart.2.1 45 = .ok (.areturn, 1) := by decide +kernel
theorem d_SP_newPart_46 : decode y_SP_newPart.2.1 46 = .ok (.new 73, 3) := by decide +kernel
theorem d_SP_newPart_49 : decode y_SP_newPart.2.1 49 = .ok (.dup, 1) := by decide +kernel
theorem d_SP_newPart_50 : decode y_SP_newPart.2.1 50 = .ok (.aload_n 1, 1) := by decide +kernel
theorem d_SP_newPart_51 : decode y_SP_newPart.2.1 51 = .ok (.iconst 1, 1) := by decide +kernel
theorem d_SP_newPart_52 : decode y_SP_newPart.2.1 52 = .ok (.invokespecial 188, 3) := by decide +kernel
theorem d_SP_newPart_55 : decode y_SP_newPart.2.1 55 = .ok (.areturn, 1) := by decide +kernel
theorem d_SP_newPart_56 : decode y_SP_newPart.2.1 56 = .ok (.new 184, 3) := by decide +kernel
theorem d_SP_newPart_59 : decode y_SP_newPart.2.1 59 = .ok (.dup, 1) := by decide +kernel
theorem d_SP_newPart_60 : decode y_SP_newPart.2.1 60 = .ok (.aload_n 1, 1) := by decide +kernel
theorem d_SP_newPart_61 : decode y_SP_newPart.2.1 61 = .ok (.invokespecial 191, 3) := by decide +kernel
theorem d_SP_newPart_64 : decode y_SP_newPart.2.1 64 = .ok (.areturn, 1) := by decide +kernel
theorem d_SP_newPart_65 : decode y_SP_newPart.2.1 65 = .ok (.new 131, 3) := by decide +kernel
theorem d_SP_newPart_68 : decode y_SP_newPart.2.1 68 = .ok (.dup, 1) := by decide +kernel
theorem d_SP_newPart_69 : decode y_SP_newPart.2.1 69 = .ok (.aload_n 1, 1) := by decide +kernel
theorem d_SP_newPart_70 : decode y_SP_newPart.2.1 70 = .ok (.invokespecial 194, 3) := by decide +kernel
theorem d_SP_newPart_73 : decode y_SP_newPart.2.1 73 = .ok (.areturn, 1) := by decide +kernel
theorem d_SP_newPart_74 : decode y_SP_newPart.2.1 74 = .ok (.new 186, 3) := by decide +kernel
theorem d_SP_newPart_77 : decode y_SP_newPart.2.1 77 = .ok (.dup, 1) := by decide +kernel
theorem d_SP_newPart_78 : decode y_SP_newPart.2.1 78 = .ok (.aload_n 1, 1) := by decide +kernel
theorem d_SP_newPart_79 : decode y_SP_newPart.2.1 79 = .ok (.invokespecial 195, 3) := by decide +kernel
theorem d_SP_newPart_82 : decode y_SP_newPart.2.1 82 = .ok (.areturn, 1) := by decide +kernel
theorem d_SP_newPart_83 : decode y_SP_newPart.2.1 83 = .ok (.new 196, 3) := by decide +kernel
theorem d_SP_newPart_86 : decode y_SP_newPart.2.1 86 = .ok (.dup, 1) := by decide +kernel
theorem d_SP_newPart_87 : decode y_SP_newPart.2.1 87 = .ok (.aload_n 1, 1) := by decide +kernel
theorem d_SP_newPart_88 : decode y_SP_newPart.2.1 88 = .ok (.invokespecial 198, 3) := by decide +kernel
theorem d_SP_newPart_91 : decode y_SP_newPart.2.1 91 = .ok (.areturn, 1) := by decide +kernel
theorem d_SP_isFree_0 : decode y_SP_isFree.2.1 0 = .ok (.iload_n 1, 1) := by decide +kernel
theorem d_SP_isFree_1 : decode y_SP_isFree.2.1 1 = .ok (.invokestatic 199, 3) := by decide +kernel
theorem d_SP_isFree_4 : decode y_SP_isFree.2.1 4 = .ok (.ifCond .eq 11, 3) := by decide +kernel
theorem d_SP_isFree_7 : decode y_SP_isFree.2.1 7 = .ok (.iload_n 2, 1) := by decide +kernel
theorem d_SP_isFree_8 : decode y_SP_isFree.2.1 8 = .ok (.ldc 183, 2) := by decide +kernel
theorem d_SP_isFree_10 : decode y_SP_isFree.2.1 10 = .ok (.iload_n 1, 1) := by decide +kernel
theorem d_SP_isFree_11 : decode y_SP_isFree.2.1 11 = .ok (.isub, 1) := by decide +kernel
theorem d_SP_isFree_12 : decode y_SP_isFree.2.1 12 = .ok (.if_icmp .le 5, 3) := by decide +kernel
theorem d_SP_isFree_15 : decode y_SP_isFree.2.1 15 = .ok (.iconst 0, 1) := by decide +kernel
theorem d_SP_isFree_16 : decode y_SP_isFree.2.1 16 = .ok (.ireturn, 1) := by decide +kernel
theorem d_SP_isFree_17 : decode y_SP_isFree.2.1 17 = .ok (.iconst 0, 1) := by decide +kernel
theorem d_SP_isFree_18 : decode y_SP_isFree.2.1 18 = .ok (.istore_n 3, 1) := by decide +kernel
theorem d_SP_isFree_19 : decode y_SP_isFree.2.1 19 = .ok (.iload_n 3, 1) := by decide +kernel
theorem d_SP_isFree_20 : decode y_SP_isFree.2.1 20 = .ok (.aload_n 0, 1) := by decide +kernel
theorem d_SP_isFree_21 : decode y_SP_isFree.2.1 21 = .ok (.getfield 11, 3) := by decide +kernel
theorem d_SP_isFree_24 : decode y_SP_isFree.2.1 24 = .ok (.arraylength, 1) := by decide +kernel
theorem d_SP_isFree_25 : decode y_SP_isFree.2.1 25 = .ok (.if_icmp .ge 37, 3) := by decide +kernel
theorem d_SP_isFree_28 : decode y_SP_isFree.2.1 28 = .ok (.aload_n 0, 1) := by decide +kernel
theorem d_SP_isFree_29 : decode y_SP_isFree.2.1 29 = .ok (.getfield 11, 3) := by decide +kernel
theorem d_SP_isFree_32 : decode y_SP_isFree.2.1 32 = .ok (.iload_n 3, 1) := by decide +kernel
theorem d_SP_isFree_33 : decode y_SP_isFree.2.1 33 = .ok (.aaload, 1) := by decide +kernel
theorem d_SP_isFree_34 : decode y_SP_isFree.2.1 34 = .ok (.astore 4, 2) := by decide +kernel
theorem d_SP_isFree_36 : decode y_SP_isFree.2.1 36 = .ok (.aload 4, 2) := by decide +kernel
theorem d_SP_isFree_38 : decode y_SP_isFree.2.1 38 = .ok (.ifnull 18, 3) := by decide +kernel
theorem d_SP_isFree_41 : decode y_SP_isFree.2.1 41 = .ok (.aload 4, 2) := by decide +kernel
theorem d_SP_isFree_43 : decode y_SP_isFree.2.1 43 = .ok (.getfield 99, 3) := by decide +kernel
theorem d_SP_isFree_46 : decode y_SP_isFree.2.1 46 = .ok (.iload_n 1, 1) := by decide +kernel
theorem d_SP_isFree_47 : decode y_SP_isFree.2.1 47 = .ok (.iload_n 2, 1) := by decide +kernel
theorem d_SP_isFree_48 : decode y_SP_isFree.2.1 48 = .ok (.invokevirtual 202, 3) := by decide +kernel
theorem d_SP_isFree_51 : decode y_SP_isFree.2.1 51 = .ok (.ifCond .eq 5, 3) := by decide +kernel
theorem d_SP_isFree_54 : decode y_SP_isFree.2.1 54 = .ok (.iconst 0, 1) := by decide +kernel
theorem d_SP_isFree_55 : decode y_SP_isFree.2.1 55 = .ok (.ireturn, 1) := by decide +kernel
theorem d_SP_isFree_56 : decode y_SP_isFree.2.1 56 = .ok (.iinc 3 1, 3) := by decide +kernel
theorem d_SP_isFree_59 : decode y_SP_isFree.2.1 59 = .ok (.goto (-40), 3) := by decide +kernel
theorem d_SP_isFree_62 : decode y_SP_isFree.2.1 62 = .ok (.iconst 1, 1) := by decide +kernel
theorem d_SP_isFree_63 : decode y_SP_isFree.2.1 63 = .ok (.ireturn, 1) := by decide +kernel
theorem d_SP_partWith_0 : decode y_SP_partWith.2.1 0 = .ok (.iconst 0, 1) := by decide +kernel
theorem d_SP_partWith_1 : decode y_SP_partWith.2.1 1 = .ok (.istore_n 2, 1) := by decide +kernel
theorem d_SP_partWith_2 : decode y_SP_partWith.2.1 2 = .ok (.iload_n 2, 1) := by decide +kernel
theorem d_SP_partWith_3 : decode y_SP_partWith.2.1 3 = .ok (.aload_n 0, 1) := by decide +kernel
theorem d_SP_partWith_4 : decode y_SP_partWith.2.1 4 = .ok (.getfield 11, 3) := by decide +kernel
theorem d_SP_partWith_7 : decode y_SP_partWith.2.1 7 = .ok (.arraylength, 1) := by decide +kernel
theorem d_SP_partWith_8 : decode y_SP_partWith.2.1 8 = .ok (.if_icmp .ge 34, 3) := by decide +kernel
theorem d_SP_partWith_11 : decode y_SP_partWith.2.1 11 = .ok (.aload_n 0, 1) := by decide +kernel
theorem d_SP_partWith_12 : decode y_SP_partWith.2.1 12 = .ok (.getfield 11, 3) := by decide +kernel
theorem d_SP_partWith_15 : decode y_SP_partWith.2.1 15 = .ok (.iload_n 2, 1) := by decide +kernel
theorem d_SP_partWith_16 : decode y_SP_partWith.2.1 16 = .ok (.aaload, 1) := by decide +kernel
theorem d_SP_partWith_17 : decode y_SP_partWith.2.1 17 = .ok (.astore_n 3, 1) := by decide +kernel
theorem d_SP_partWith_18 : decode y_SP_partWith.2.1 18 = .ok (.aload_n 3, 1) := by decide +kernel
theorem d_SP_partWith_19 : decode y_SP_partWith.2.1 19 = .ok (.ifnull 17, 3) := by decide +kernel
theorem d_SP_partWith_22 : decode y_SP_partWith.2.1 22 = .ok (.aload_n 3, 1) := by decide +kernel
theorem d_SP_partWith_23 : decode y_SP_partWith.2.1 23 = .ok (.getfield 99, 3) := by decide +kernel
theorem d_SP_partWith_26 : decode y_SP_partWith.2.1 26 = .ok (.iload_n 1, 1) := by decide +kernel
theorem d_SP_partWith_27 : decode y_SP_partWith.2.1 27 = .ok (.iconst 1, 1) := by decide +kernel
theorem d_SP_partWith_28 : decode y_SP_partWith.2.1 28 = .ok (.invokevirtual 202, 3) := by decide +kernel
theorem d_SP_partWith_31 : decode y_SP_partWith.2.1 31 = .ok (.ifCond .eq 5, 3) := by decide +kernel
theorem d_SP_partWith_34 : decode y_SP_partWith.2.1 34 = .ok (.aload_n 3, 1) := by decide +kernel
theorem d_SP_partWith_35 : decode y_SP_partWith.2.1 35 = .ok (.areturn, 1) := by decide +kernel
theorem d_SP_partWith_36 : decode y_SP_partWith.2.1 36 = .ok (.iinc 2 1, 3) := by decide +kernel
theorem d_SP_partWith_39 : decode y_SP_partWith.2.1 39 = .ok (.goto (-37), 3) := by decide +kernel
theorem d_SP_partWith_42 : decode y_SP_partWith.2.1 42 = .ok (.aconst_null, 1) := by decide +kernel
theorem d_SP_partWith_43 : decode y_SP_partWith.2.1 43 = .ok (.areturn, 1) := by decide +kernel
theorem d_SP_reachPart_0 : decode y_SP_reachPart.2.1 0 = .ok (.iload_n 1, 1) := by decide +kernel
theorem d_SP_reachPart_1 : decode y_SP_reachPart.2.1 1 = .ok (.invokestatic 199, 3) := by decide +kernel
theorem d_SP_reachPart_4 : decode y_SP_reachPart.2.1 4 = .ok (.ifCond .ne 13, 3) := by decide +kernel
theorem d_SP_reachPart_7 : decode y_SP_reachPart.2.1 7 = .ok (.new 143, 3) := by decide +kernel
theorem d_SP_reachPart_10 : decode y_SP_reachPart.2.1 10 = .ok (.dup, 1) := by decide +kernel
theorem d_SP_reachPart_11 : decode y_SP_reachPart.2.1 11 = .ok (.ldc 205, 2) := by decide +kernel
theorem d_SP_reachPart_13 : decode y_SP_reachPart.2.1 13 = .ok (.invokespecial 147, 3) := by decide +kernel
theorem d_SP_reachPart_16 : decode y_SP_reachPart.2.1 16 = .ok (.athrow, 1) := by decide +kernel
theorem d_SP_reachPart_17 : decode y_SP_reachPart.2.1 17 = .ok (.aload_n 0, 1) := by decide +kernel
theorem d_SP_reachPart_18 : decode y_SP_reachPart.2.1 18 = .ok (.iload_n 1, 1) := by decide +kernel
theorem d_SP_reachPart_19 : decode y_SP_reachPart.2.1 19 = .ok (.invokevirtual 69, 3) := by decide +kernel
theorem d_SP_reachPart_22 : decode y_SP_reachPart.2.1 22 = .ok (.astore_n 2, 1) := by decide +kernel
theorem d_SP_reachPart_23 : decode y_SP_reachPart.2.1 23 = .ok (.aload_n 2, 1) := by decide +kernel
theorem d_SP_reachPart_24 : decode y_SP_reachPart.2.1 24 = .ok (.ifnonnull 18, 3) := by decide +kernel
theorem d_SP_reachPart_27 : decode y_SP_reachPart.2.1 27 = .ok (.aload_n 0, 1) := by decide +kernel
theorem d_SP_reachPart_28 : decode y_SP_reachPart.2.1 28 = .ok (.iconst 3, 1) := by decide +kernel
theorem d_SP_reachPart_29 : decode y_SP_reachPart.2.1 29 = .ok (.invokevirtual 95, 3) := by decide +kernel
theorem d_SP_reachPart_32 : decode y_SP_reachPart.2.1 32 = .ok (.new 112, 3) := by decide +kernel
theorem d_SP_reachPart_35 : decode y_SP_reachPart.2.1 35 = .ok (.dup, 1) := by decide +kernel
theorem d_SP_reachPart_36 : decode y_SP_reachPart.2.1 36 = .ok (.ldc 207, 2) := by decide +kernel
theorem d_SP_reachPart_38 : decode y_SP_reachPart.2.1 38 = .ok (.invokespecial 116, 3) := by decide +kernel
theorem d_SP_reachPart_41 : decode y_SP_reachPart.2.1 41 = .ok (.athrow, 1) := by decide +kernel
theorem d_SP_reachPart_42 : decode y_SP_reachPart.2.1 42 = .ok (.aload_n 0, 1) := by decide +kernel
theorem d_SP_reachPart_43 : decode y_SP_reachPart.2.1 43 = .ok (.aload_n 2, 1) := by decide +kernel
theorem d_SP_reachPart_44 : decode y_SP_reachPart.2.1 44 = .ok (.getfield 99, 3) := by decide +kernel
theorem d_SP_reachPart_47 : decode y_SP_reachPart.2.1 47 = .ok (.invokevirtual 118, 3) := by decide +kernel
theorem d_SP_reachPart_50 : decode y_SP_reachPart.2.1 50 = .ok (.invokevirtual 123, 3) := by decide +kernel
theorem d_SP_reachPart_53 : decode y_SP_reachPart.2.1 53 = .ok (.pop, 1) := by decide +kernel
theorem d_SP_reachPart_54 : decode y_SP_reachPart.2.1 54 = .ok (.aload_n 2, 1) := by decide +kernel
theorem d_SP_reachPart_55 : decode y_SP_reachPart.2.1 55 = .ok (.areturn, 1) := by decide +kernel
theorem d_SP_serialAt_0 : decode y_SP_serialAt.2.1 0 = .ok (.iload_n 1, 1) := by decide +kernel
theorem d_SP_serialAt_1 : decode y_SP_serialAt.2.1 1 = .ok (.ifCond .lt 33, 3) := by decide +kernel
theorem d_SP_serialAt_4 : decode y_SP_serialAt.2.1 4 = .ok (.iload_n 1, 1) := by decide +kernel
theorem d_SP_serialAt_5 : decode y_SP_serialAt.2.1 5 = .ok (.aload_n 0, 1) := by decide +kernel
theorem d_SP_serialAt_6 : decode y_SP_serialAt.2.1 6 = .ok (.getfield 11, 3) := by decide +kernel
theorem d_SP_serialAt_9 : decode y_SP_serialAt.2.1 9 = .ok (.arraylength, 1) := by decide +kernel
theorem d_SP_serialAt_10 : decode y_SP_serialAt.2.1 10 = .ok (.if_icmp .ge 24, 3) := by decide +kernel
theorem d_SP_serialAt_13 : decode y_SP_serialAt.2.1 13 = .ok (.aload_n 0, 1) := by decide +kernel
theorem d_SP_serialAt_14 : decode y_SP_serialAt.2.1 14 = .ok (.getfield 11, 3) := by decide +kernel
theorem d_SP_serialAt_17 : decode y_SP_serialAt.2.1 17 = .ok (.iload_n 1, 1) := by decide +kernel
theorem d_SP_serialAt_18 : decode y_SP_serialAt.2.1 18 = .ok (.aaload, 1) := by decide +kernel
theorem d_SP_serialAt_19 : decode y_SP_serialAt.2.1 19 = .ok (.astore_n 3, 1) := by decide +kernel
theorem d_SP_serialAt_20 : decode y_SP_serialAt.2.1 20 = .ok (.aload_n 3, 1) := by decide +kernel
theorem d_SP_serialAt_21 : decode y_SP_serialAt.2.1 21 = .ok (.instanceof 131, 3) := by decide +kernel
theorem d_SP_serialAt_24 : decode y_SP_serialAt.2.1 24 = .ok (.ifCond .eq 10, 3) := by decide +kernel
theorem d_SP_serialAt_27 : decode y_SP_serialAt.2.1 27 = .ok (.aload_n 3, 1) := by decide +kernel
theorem d_SP_serialAt_28 : decode y_SP_serialAt.2.1 28 = .ok (.checkcast 131, 3) := by decide +kernel
theorem d_SP_serialAt_31 : decode y_SP_serialAt.2.1 31 = .ok (.astore_n 2, 1) := by decide +kernel
theorem d_SP_serialAt_32 : decode y_SP_serialAt.2.1 32 = .ok (.aload_n 2, 1) := by decide +kernel
theorem d_SP_serialAt_33 : decode y_SP_serialAt.2.1 33 = .ok (.areturn, 1) := by decide +kernel
theorem d_SP_serialAt_34 : decode y_SP_serialAt.2.1 34 = .ok (.new 48, 3) := by decide +kernel
theorem d_SP_serialAt_37 : decode y_SP_serialAt.2.1 37 = .ok (.dup, 1) := by decide +kernel
theorem d_SP_serialAt_38 : decode y_SP_serialAt.2.1 38 = .ok (.ldc 209, 2) := by decide +kernel
theorem d_SP_serialAt_40 : decode y_SP_serialAt.2.1 40 = .ok (.invokespecial 52, 3) := by decide +kernel
theorem d_SP_serialAt_43 : decode y_SP_serialAt.2.1 43 = .ok (.athrow, 1) := by decide +kernel
theorem d_SP_runSteps_0 : decode y_SP_runSteps.2.1 0 = .ok (.iconst 0, 1) := by decide +kernel
theorem d_SP_runSteps_1 : decode y_SP_runSteps.2.1 1 = .ok (.istore_n 2, 1) := by decide +kernel
theorem d_SP_runSteps_2 : decode y_SP_runSteps.2.1 2 = .ok (.iconst 0, 1) := by decide +kernel
theorem d_SP_runSteps_3 : decode y_SP_runSteps.2.1 3 = .ok (.istore_n 3, 1) := by decide +kernel
theorem d_SP_runSteps_4 : decode y_SP_runSteps.2.1 4 = .ok (.iload_n 3, 1) := by decide +kernel
theorem d_SP_runSteps_5 : decode y_SP_runSteps.2.1 5 = .ok (.iload_n 1, 1) := by decide +kernel
theorem d_SP_runSteps_6 : decode y_SP_runSteps.2.1 6 = .ok (.if_icmp .ge 18, 3) := by decide +kernel
theorem d_SP_runSteps_9 : decode y_SP_runSteps.2.1 9 = .ok (.aload_n 0, 1) := by decide +kernel
theorem d_SP_runSteps_10 : decode y_SP_runSteps.2.1 10 = .ok (.invokevirtual 211, 3) := by decide +kernel
theorem d_SP_runSteps_13 : decode y_SP_runSteps.2.1 13 = .ok (.ifCond .eq 5, 3) := by decide +kernel
theorem d_SP_runSteps_16 : decode y_SP_runSteps.2.1 16 = .ok (.iconst 1, 1) := by decide +kernel
theorem d_SP_runSteps_17 : decode y_SP_runSteps.2.1 17 = .ok (.istore_n 2, 1) := by decide +kernel
theorem d_SP_runSteps_18 : decode y_SP_runSteps.2.1 18 = .ok (.iinc 3 1, 3) := by decide +kernel
theorem d_SP_runSteps_21 : decode y_SP_runSteps.2.1 21 = .ok (.goto (-17), 3) := by decide +kernel
theorem d_SP_runSteps_24 : decode y_SP_runSteps.2.1 24 = .ok (.iload_n 2, 1) := by decide +kernel
theorem d_SP_runSteps_25 : decode y_SP_runSteps.2.1 25 = .ok (.ireturn, 1) := by decide +kernel
theorem d_SP_oneStep_0 : decode y_SP_oneStep.2.1 0 = .ok (.aload_n 0, 1) := by decide +kernel
theorem d_SP_oneStep_1 : decode y_SP_oneStep.2.1 1 = .ok (.dup, 1) := by decide +kernel
theorem d_SP_oneStep_2 : decode y_SP_oneStep.2.1 2 = .ok (.getfield 30, 3) := by decide +kernel
theorem d_SP_oneStep_5 : decode y_SP_oneStep.2.1 5 = .ok (.iconst 1, 1) := by decide +kernel
theorem d_SP_oneStep_6 : decode y_SP_oneStep.2.1 6 = .ok (.iadd, 1) := by decide +kernel
theorem d_SP_oneStep_7 : decode y_SP_oneStep.2.1 7 = .ok (.putfield 30, 3) := by decide +kernel
theorem d_SP_oneStep_10 : decode y_SP_oneStep.2.1 10 = .ok (.iconst 0, 1) := by decide +kernel
theorem d_SP_oneStep_11 : decode y_SP_oneStep.2.1 11 = .ok (.istore_n 1, 1) := by decide +kernel
theorem d_SP_oneStep_12 : decode y_SP_oneStep.2.1 12 = .ok (.iload_n 1, 1) := by decide +kernel
theorem d_SP_oneStep_13 : decode y_SP_oneStep.2.1 13 = .ok (.aload_n 0, 1) := by decide +kernel
theorem d_SP_oneStep_14 : decode y_SP_oneStep.2.1 14 = .ok (.getfield 11, 3) := by decide +kernel
theorem d_SP_oneStep_17 : decode y_SP_oneStep.2.1 17 = .ok (.arraylength, 1) := by decide +kernel
theorem d_SP_oneStep_18 : decode y_SP_oneStep.2.1 18 = .ok (.if_icmp .ge 34, 3) := by decide +kernel
theorem d_SP_oneStep_21 : decode y_SP_oneStep.2.1 21 = .ok (.aload_n 0, 1) := by decide +kernel
theorem d_SP_oneStep_22 : decode y_SP_oneStep.2.1 22 = .ok (.getfield 11, 3) := by decide +kernel
theorem d_SP_oneStep_25 : decode y_SP_oneStep.2.1 25 = .ok (.iload_n 1, 1) := by decide +kernel
theorem d_SP_oneStep_26 : decode y_SP_oneStep.2.1 26 = .ok (.aaload, 1) := by decide +kernel
theorem d_SP_oneStep_27 : decode y_SP_oneStep.2.1 27 = .ok (.astore_n 2, 1) := by decide +kernel
theorem d_SP_oneStep_28 : decode y_SP_oneStep.2.1 28 = .ok (.aload_n 2, 1) := by decide +kernel
theorem d_SP_oneStep_29 : decode y_SP_oneStep.2.1 29 = .ok (.ifnull 17, 3) := by decide +kernel
theorem d_SP_oneStep_32 : decode y_SP_oneStep.2.1 32 = .ok (.aload_n 2, 1) := by decide +kernel
theorem d_SP_oneStep_33 : decode y_SP_oneStep.2.1 33 = .ok (.invokevirtual 214, 3) := by decide +kernel
theorem d_SP_oneStep_36 : decode y_SP_oneStep.2.1 36 = .ok (.ifCond .eq 10, 3) := by decide +kernel
theorem d_SP_oneStep_39 : decode y_SP_oneStep.2.1 39 = .ok (.aload_n 0, 1) := by decide +kernel
theorem d_SP_oneStep_40 : decode y_SP_oneStep.2.1 40 = .ok (.iconst 2, 1) := by decide +kernel
theorem d_SP_oneStep_41 : decode y_SP_oneStep.2.1 41 = .ok (.invokevirtual 174, 3) := by decide +kernel
theorem d_SP_oneStep_44 : decode y_SP_oneStep.2.1 44 = .ok (.iconst 1, 1) := by decide +kernel
theorem d_SP_oneStep_45 : decode y_SP_oneStep.2.1 45 = .ok (.ireturn, 1) := by decide +kernel
theorem d_SP_oneStep_46 : decode y_SP_oneStep.2.1 46 = .ok (.iinc 1 1, 3) := by decide +kernel
theorem d_SP_oneStep_49 : decode y_SP_oneStep.2.1 49 = .ok (.goto (-37), 3) := by decide +kernel
theorem d_SP_oneStep_52 : decode y_SP_oneStep.2.1 52 = .ok (.aload_n 0, 1) := by decide +kernel
theorem d_SP_oneStep_53 : decode y_SP_oneStep.2.1 53 = .ok (.getfield 18, 3) := by decide +kernel
theorem d_SP_oneStep_56 : decode y_SP_oneStep.2.1 56 = .ok (.aload_n 0, 1) := by decide +kernel
theorem d_SP_oneStep_57 : decode y_SP_oneStep.2.1 57 = .ok (.invokevirtual 101, 3) := by decide +kernel
theorem d_SP_oneStep_60 : decode y_SP_oneStep.2.1 60 = .ok (.invokevirtual 105, 3) := by decide +kernel
theorem d_SP_oneStep_63 : decode y_SP_oneStep.2.1 63 = .ok (.iconst 0, 1) := by decide +kernel
theorem d_SP_oneStep_64 : decode y_SP_oneStep.2.1 64 = .ok (.ireturn, 1) := by decide +kernel
theorem d_SP_askingLines_0 : decode y_SP_askingLines.2.1 0 = .ok (.iconst 0, 1) := by decide +kernel
theorem d_SP_askingLines_1 : decode y_SP_askingLines.2.1 1 = .ok (.istore_n 1, 1) := by decide +kernel
theorem d_SP_askingLines_2 : decode y_SP_askingLines.2.1 2 = .ok (.iconst 0, 1) := by decide +kernel
theorem d_SP_askingLines_3 : decode y_SP_askingLines.2.1 3 = .ok (.istore_n 2, 1) := by decide +kernel
theorem d_SP_askingLines_4 : decode y_SP_askingLines.2.1 4 = .ok (.iload_n 2, 1) := by decide +kernel
theorem d_SP_askingLines_5 : decode y_SP_askingLines.2.1 5 = .ok (.aload_n 0, 1) := by decide +kernel
theorem d_SP_askingLines_6 : decode y_SP_askingLines.2.1 6 = .ok (.getfield 11, 3) := by decide +kernel
theorem d_SP_askingLines_9 : decode y_SP_askingLines.2.1 9 = .ok (.arraylength, 1) := by decide +kernel
theorem d_SP_askingLines_10 : decode y_SP_askingLines.2.1 10 = .ok (.if_icmp .ge 39, 3) := by decide +kernel
theorem d_SP_askingLines_13 : decode y_SP_askingLines.2.1 13 = .ok (.aload_n 0, 1) := by decide +kernel
theorem d_SP_askingLines_14 : decode y_SP_askingLines.2.1 14 = .ok (.getfield 11, 3) := by decide +kernel
theorem d_SP_askingLines_17 : decode y_SP_askingLines.2.1 17 = .ok (.iload_n 2, 1) := by decide +kernel
theorem d_SP_askingLines_18 : decode y_SP_askingLines.2.1 18 = .ok (.aaload, 1) := by decide +kernel
theorem d_SP_askingLines_19 : decode y_SP_askingLines.2.1 19 = .ok (.astore_n 3, 1) := by decide +kernel
theorem d_SP_askingLines_20 : decode y_SP_askingLines.2.1 20 = .ok (.aload_n 3, 1) := by decide +kernel
theorem d_SP_askingLines_21 : decode y_SP_askingLines.2.1 21 = .ok (.ifnull 22, 3) := by decide +kernel
theorem d_SP_askingLines_24 : decode y_SP_askingLines.2.1 24 = .ok (.aload_n 3, 1) := by decide +kernel
theorem d_SP_askingLines_25 : decode y_SP_askingLines.2.1 25 = .ok (.invokevirtual 217, 3) := by decide +kernel
theorem d_SP_askingLines_28 : decode y_SP_askingLines.2.1 28 = .ok (.ifCond .eq 15, 3) := by decide +kernel
theorem d_SP_askingLines_31 : decode y_SP_askingLines.2.1 31 = .ok (.iload_n 1, 1) := by decide +kernel
theorem d_SP_askingLines_32 : decode y_SP_askingLines.2.1 32 = .ok (.iconst 1, 1) := by decide +kernel
theorem d_SP_askingLines_33 : decode y_SP_askingLines.2.1 33 = .ok (.aload_n 3, 1) := by decide +kernel
theorem d_SP_askingLines_34 : decode y_SP_askingLines.2.1 34 = .ok (.getfield 99, 3) := by decide +kernel
theorem d_SP_askingLines_37 : decode y_SP_askingLines.2.1 37 = .ok (.getfield 220, 3) := by decide +kernel
theorem d_SP_askingLines_40 : decode y_SP_askingLines.2.1 40 = .ok (.ishl, 1) := by decide +kernel
theorem d_SP_askingLines_41 : decode y_SP_askingLines.2.1 41 = .ok (.ior, 1) := by decide +kernel
theorem d_SP_askingLines_42 : decode y_SP_askingLines.2.1 42 = .ok (.istore_n 1, 1) := by decide +kernel
theorem d_SP_askingLines_43 : decode y_SP_askingLines.2.1 43 = .ok (.iinc 2 1, 3) := by decide +kernel
theorem d_SP_askingLines_46 : decode y_SP_askingLines.2.1 46 = .ok (.goto (-42), 3) := by decide +kernel
theorem d_SP_askingLines_49 : decode y_SP_askingLines.2.1 49 = .ok (.iload_n 1, 1) := by decide +kernel
theorem d_SP_askingLines_50 : decode y_SP_askingLines.2.1 50 = .ok (.ireturn, 1) := by decide +kernel
theorem d_SP_tallyOne_0 : decode y_SP_tallyOne.2.1 0 = .ok (.iload_n 1, 1) := by decide +kernel
theorem d_SP_tallyOne_1 : decode y_SP_tallyOne.2.1 1 = .ok (.ifCond .lt 12, 3) := by decide +kernel
theorem d_SP_tallyOne_4 : decode y_SP_tallyOne.2.1 4 = .ok (.iload_n 1, 1) := by decide +kernel
theorem d_SP_tallyOne_5 : decode y_SP_tallyOne.2.1 5 = .ok (.aload_n 0, 1) := by decide +kernel
theorem d_SP_tallyOne_6 : decode y_SP_tallyOne.2.1 6 = .ok (.getfield 22, 3) := by decide +kernel
theorem d_SP_tallyOne_9 : decode y_SP_tallyOne.2.1 9 = .ok (.arraylength, 1) := by decide +kernel
theorem d_SP_tallyOne_10 : decode y_SP_tallyOne.2.1 10 = .ok (.if_icmp .lt 4, 3) := by decide +kernel
theorem d_SP_tallyOne_13 : decode y_SP_tallyOne.2.1 13 = .ok (.return_, 1) := by decide +kernel
theorem d_SP_tallyOne_14 : decode y_SP_tallyOne.2.1 14 = .ok (.aload_n 0, 1) := by decide +kernel
theorem d_SP_tallyOne_15 : decode y_SP_tallyOne.2.1 15 = .ok (.getfield 22, 3) := by decide +kernel
theorem d_SP_tallyOne_18 : decode y_SP_tallyOne.2.1 18 = .ok (.iload_n 1, 1) := by decide +kernel
theorem d_SP_tallyOne_19 : decode y_SP_tallyOne.2.1 19 = .ok (.dup2, 1) := by decide +kernel
theorem d_SP_tallyOne_20 : decode y_SP_tallyOne.2.1 20 = .ok (.iaload, 1) := by decide +kernel
theorem d_SP_tallyOne_21 : decode y_SP_tallyOne.2.1 21 = .ok (.iconst 1, 1) := by decide +kernel
theorem d_SP_tallyOne_22 : decode y_SP_tallyOne.2.1 22 = .ok (.iadd, 1) := by decide +kernel
theorem d_SP_tallyOne_23 : decode y_SP_tallyOne.2.1 23 = .ok (.iastore, 1) := by decide +kernel
theorem d_SP_tallyOne_24 : decode y_SP_tallyOne.2.1 24 = .ok (.iconst 0, 1) := by decide +kernel
theorem d_SP_tallyOne_25 : decode y_SP_tallyOne.2.1 25 = .ok (.istore_n 2, 1) := by decide +kernel
theorem d_SP_tallyOne_26 : decode y_SP_tallyOne.2.1 26 = .ok (.iload_n 2, 1) := by decide +kernel
theorem d_SP_tallyOne_27 : decode y_SP_tallyOne.2.1 27 = .ok (.aload_n 0, 1) := by decide +kernel
theorem d_SP_tallyOne_28 : decode y_SP_tallyOne.2.1 28 = .ok (.getfield 11, 3) := by decide +kernel
theorem d_SP_tallyOne_31 : decode y_SP_tallyOne.2.1 31 = .ok (.arraylength, 1) := by decide +kernel
theorem d_SP_tallyOne_32 : decode y_SP_tallyOne.2.1 32 = .ok (.if_icmp .ge 36, 3) := by decide +kernel
theorem d_SP_tallyOne_35 : decode y_SP_tallyOne.2.1 35 = .ok (.aload_n 0, 1) := by decide +kernel
theorem d_SP_tallyOne_36 : decode y_SP_tallyOne.2.1 36 = .ok (.getfield 11, 3) := by decide +kernel
theorem d_SP_tallyOne_39 : decode y_SP_tallyOne.2.1 39 = .ok (.iload_n 2, 1) := by decide +kernel
theorem d_SP_tallyOne_40 : decode y_SP_tallyOne.2.1 40 = .ok (.aaload, 1) := by decide +kernel
theorem d_SP_tallyOne_41 : decode y_SP_tallyOne.2.1 41 = .ok (.astore 4, 2) := by decide +kernel
theorem d_SP_tallyOne_43 : decode y_SP_tallyOne.2.1 43 = .ok (.aload 4, 2) := by decide +kernel
theorem d_SP_tallyOne_45 : decode y_SP_tallyOne.2.1 45 = .ok (.instanceof 196, 3) := by decide +kernel
theorem d_SP_tallyOne_48 : decode y_SP_tallyOne.2.1 48 = .ok (.ifCond .eq 14, 3) := by decide +kernel
theorem d_SP_tallyOne_51 : decode y_SP_tallyOne.2.1 51 = .ok (.aload 4, 2) := by decide +kernel
theorem d_SP_tallyOne_53 : decode y_SP_tallyOne.2.1 53 = .ok (.checkcast 196, 3) := by decide +kernel
theorem d_SP_tallyOne_56 : decode y_SP_tallyOne.2.1 56 = .ok (.astore_n 3, 1) := by decide +kernel
theorem d_SP_tallyOne_57 : decode y_SP_tallyOne.2.1 57 = .ok (.aload_n 3, 1) := by decide +kernel
theorem d_SP_tallyOne_58 : decode y_SP_tallyOne.2.1 58 = .ok (.iload_n 1, 1) := by decide +kernel
theorem d_SP_tallyOne_59 : decode y_SP_tallyOne.2.1 59 = .ok (.invokevirtual 223, 3) := by decide +kernel
theorem d_SP_tallyOne_62 : decode y_SP_tallyOne.2.1 62 = .ok (.iinc 2 1, 3) := by decide +kernel
theorem d_SP_tallyOne_65 : decode y_SP_tallyOne.2.1 65 = .ok (.goto (-39), 3) := by decide +kernel
theorem d_SP_tallyOne_68 : decode y_SP_tallyOne.2.1 68 = .ok (.return_, 1) := by decide +kernel
theorem d_SP_resetAll_0 : decode y_SP_resetAll.2.1 0 = .ok (.aload_n 0, 1) := by decide +kernel
theorem d_SP_resetAll_1 : decode y_SP_resetAll.2.1 1 = .ok (.iload_n 1, 1) := by decide +kernel
theorem d_SP_resetAll_2 : decode y_SP_resetAll.2.1 2 = .ok (.putfield 33, 3) := by decide +kernel
theorem d_SP_resetAll_5 : decode y_SP_resetAll.2.1 5 = .ok (.iconst 0, 1) := by decide +kernel
theorem d_SP_resetAll_6 : decode y_SP_resetAll.2.1 6 = .ok (.istore_n 2, 1) := by decide +kernel
theorem d_SP_resetAll_7 : decode y_SP_resetAll.2.1 7 = .ok (.iload_n 2, 1) := by decide +kernel
theorem d_SP_resetAll_8 : decode y_SP_resetAll.2.1 8 = .ok (.aload_n 0, 1) := by decide +kernel
theorem d_SP_resetAll_9 : decode y_SP_resetAll.2.1 9 = .ok (.getfield 22, 3) := by decide +kernel
theorem d_SP_resetAll_12 : decode y_SP_resetAll.2.1 12 = .ok (.arraylength, 1) := by decide +kernel
theorem d_SP_resetAll_13 : decode y_SP_resetAll.2.1 13 = .ok (.if_icmp .ge 16, 3) := by decide +kernel
theorem d_SP_resetAll_16 : decode y_SP_resetAll.2.1 16 = .ok (.aload_n 0, 1) := by decide +kernel
theorem d_SP_resetAll_17 : decode y_SP_resetAll.2.1 17 = .ok (.getfield 22, 3) := by decide +kernel
theorem d_SP_resetAll_20 : decode y_SP_resetAll.2.1 20 = .ok (.iload_n 2, 1) := by decide +kernel
theorem d_SP_resetAll_21 : decode y_SP_resetAll.2.1 21 = .ok (.iconst 0, 1) := by decide +kernel
theorem d_SP_resetAll_22 : decode y_SP_resetAll.2.1 22 = .ok (.iastore, 1) := by decide +kernel
theorem d_SP_resetAll_23 : decode y_SP_resetAll.2.1 23 = .ok (.iinc 2 1, 3) := by decide +kernel
theorem d_SP_resetAll_26 : decode y_SP_resetAll.2.1 26 = .ok (.goto (-19), 3) := by decide +kernel
theorem d_SP_resetAll_29 : decode y_SP_resetAll.2.1 29 = .ok (.iconst 0, 1) := by decide +kernel
theorem d_SP_resetAll_30 : decode y_SP_resetAll.2.1 30 = .ok (.istore_n 2, 1) := by decide +kernel
theorem d_SP_resetAll_31 : decode y_SP_resetAll.2.1 31 = .ok (.iload_n 2, 1) := by decide +kernel
theorem d_SP_resetAll_32 : decode y_SP_resetAll.2.1 32 = .ok (.aload_n 0, 1) := by decide +kernel
theorem d_SP_resetAll_33 : decode y_SP_resetAll.2.1 33 = .ok (.getfield 11, 3) := by decide +kernel
theorem d_SP_resetAll_36 : decode y_SP_resetAll.2.1 36 = .ok (.arraylength, 1) := by decide +kernel
theorem d_SP_resetAll_37 : decode y_SP_resetAll.2.1 37 = .ok (.if_icmp .ge 24, 3) := by decide +kernel
theorem d_SP_resetAll_40 : decode y_SP_resetAll.2.1 40 = .ok (.aload_n 0, 1) := by decide +kernel
theorem d_SP_resetAll_41 : decode y_SP_resetAll.2.1 41 = .ok (.getfield 11, 3) := by decide +kernel
theorem d_SP_resetAll_44 : decode y_SP_resetAll.2.1 44 = .ok (.iload_n 2, 1) := by decide +kernel
theorem d_SP_resetAll_45 : decode y_SP_resetAll.2.1 45 = .ok (.aaload, 1) := by decide +kernel
theorem d_SP_resetAll_46 : decode y_SP_resetAll.2.1 46 = .ok (.astore_n 3, 1) := by decide +kernel
theorem d_SP_resetAll_47 : decode y_SP_resetAll.2.1 47 = .ok (.aload_n 3, 1) := by decide +kernel
theorem d_SP_resetAll_48 : decode y_SP_resetAll.2.1 48 = .ok (.ifnull 7, 3) := by decide +kernel
theorem d_SP_resetAll_51 : decode y_SP_resetAll.2.1 51 = .ok (.aload_n 3, 1) := by decide +kernel
theorem d_SP_resetAll_52 : decode y_SP_resetAll.2.1 52 = .ok (.invokevirtual 226, 3) := by decide +kernel
theorem d_SP_resetAll_55 : decode y_SP_resetAll.2.1 55 = .ok (.iinc 2 1, 3) := by decide +kernel
theorem d_SP_resetAll_58 : decode y_SP_resetAll.2.1 58 = .ok (.goto (-27), 3) := by decide +kernel
theorem d_SP_resetAll_61 : decode y_SP_resetAll.2.1 61 = .ok (.aload_n 0, 1) := by decide +kernel
theorem d_SP_resetAll_62 : decode y_SP_resetAll.2.1 62 = .ok (.getfield 18, 3) := by decide +kernel
theorem d_SP_resetAll_65 : decode y_SP_resetAll.2.1 65 = .ok (.invokevirtual 229, 3) := by decide +kernel
theorem d_SP_resetAll_68 : decode y_SP_resetAll.2.1 68 = .ok (.return_, 1) := by decide +kernel
theorem d_SP_allWaiting_0 : decode y_SP_allWaiting.2.1 0 = .ok (.iconst 0, 1) := by decide +kernel
theorem d_SP_allWaiting_1 : decode y_SP_allWaiting.2.1 1 = .ok (.istore_n 1, 1) := by decide +kernel
theorem d_SP_allWaiting_2 : decode y_SP_allWaiting.2.1 2 = .ok (.iconst 0, 1) := by decide +kernel
theorem d_SP_allWaiting_3 : decode y_SP_allWaiting.2.1 3 = .ok (.istore_n 2, 1) := by decide +kernel
theorem d_SP_allWaiting_4 : decode y_SP_allWaiting.2.1 4 = .ok (.iload_n 2, 1) := by decide +kernel
theorem d_SP_allWaiting_5 : decode y_SP_allWaiting.2.1 5 = .ok (.aload_n 0, 1) := by decide +kernel
theorem d_SP_allWaiting_6 : decode y_SP_allWaiting.2.1 6 = .ok (.getfield 11, 3) := by decide +kernel
theorem d_SP_allWaiting_9 : decode y_SP_allWaiting.2.1 9 = .ok (.arraylength, 1) := by decide +kernel
theorem d_SP_allWaiting_10 : decode y_SP_allWaiting.2.1 10 = .ok (.if_icmp .ge 38, 3) := by decide +kernel
theorem d_SP_allWaiting_13 : decode y_SP_allWaiting.2.1 13 = .ok (.aload_n 0, 1) := by decide +kernel
theorem d_SP_allWaiting_14 : decode y_SP_allWaiting.2.1 14 = .ok (.getfield 11, 3) := by decide +kernel
theorem d_SP_allWaiting_17 : decode y_SP_allWaiting.2.1 17 = .ok (.iload_n 2, 1) := by decide +kernel
theorem d_SP_allWaiting_18 : decode y_SP_allWaiting.2.1 18 = .ok (.aaload, 1) := by decide +kernel
theorem d_SP_allWaiting_19 : decode y_SP_allWaiting.2.1 19 = .ok (.astore 4, 2) := by decide +kernel
theorem d_SP_allWaiting_21 : decode y_SP_allWaiting.2.1 21 = .ok (.aload 4, 2) := by decide +kernel
theorem d_SP_allWaiting_23 : decode y_SP_allWaiting.2.1 23 = .ok (.instanceof 131, 3) := by decide +kernel
theorem d_SP_allWaiting_26 : decode y_SP_allWaiting.2.1 26 = .ok (.ifCond .eq 16, 3) := by decide +kernel
theorem d_SP_allWaiting_29 : decode y_SP_allWaiting.2.1 29 = .ok (.aload 4, 2) := by decide +kernel
theorem d_SP_allWaiting_31 : decode y_SP_allWaiting.2.1 31 = .ok (.checkcast 131, 3) := by decide +kernel
theorem d_SP_allWaiting_34 : decode y_SP_allWaiting.2.1 34 = .ok (.astore_n 3, 1) := by decide +kernel
theorem d_SP_allWaiting_35 : decode y_SP_allWaiting.2.1 35 = .ok (.iload_n 1, 1) := by decide +kernel
theorem d_SP_allWaiting_36 : decode y_SP_allWaiting.2.1 36 = .ok (.aload_n 3, 1) := by decide +kernel
theorem d_SP_allWaiting_37 : decode y_SP_allWaiting.2.1 37 = .ok (.getfield 232, 3) := by decide +kernel
theorem d_SP_allWaiting_40 : decode y_SP_allWaiting.2.1 40 = .ok (.iadd, 1) := by decide +kernel
theorem d_SP_allWaiting_41 : decode y_SP_allWaiting.2.1 41 = .ok (.istore_n 1, 1) := by decide +kernel
theorem d_SP_allWaiting_42 : decode y_SP_allWaiting.2.1 42 = .ok (.iinc 2 1, 3) := by decide +kernel
theorem d_SP_allWaiting_45 : decode y_SP_allWaiting.2.1 45 = .ok (.goto (-41), 3) := by decide +kernel
theorem d_SP_allWaiting_48 : decode y_SP_allWaiting.2.1 48 = .ok (.iload_n 1, 1) := by decide +kernel
theorem d_SP_allWaiting_49 : decode y_SP_allWaiting.2.1 49 = .ok (.ireturn, 1) := by decide +kernel
theorem d_SP_allGone_0 : decode y_SP_allGone.2.1 0 = .ok (.iconst 0, 1) := by decide +kernel
theorem d_SP_allGone_1 : decode y_SP_allGone.2.1 1 = .ok (.istore_n 1, 1) := by decide +kernel
theorem d_SP_allGone_2 : decode y_SP_allGone.2.1 2 = .ok (.iconst 0, 1) := by decide +kernel
theorem d_SP_allGone_3 : decode y_SP_allGone.2.1 3 = .ok (.istore_n 2, 1) := by decide +kernel
theorem d_SP_allGone_4 : decode y_SP_allGone.2.1 4 = .ok (.iload_n 2, 1) := by decide +kernel
theorem d_SP_allGone_5 : decode y_SP_allGone.2.1 5 = .ok (.aload_n 0, 1) := by decide +kernel
theorem d_SP_allGone_6 : decode y_SP_allGone.2.1 6 = .ok (.getfield 11, 3) := by decide +kernel
theorem d_SP_allGone_9 : decode y_SP_allGone.2.1 9 = .ok (.arraylength, 1) := by decide +kernel
theorem d_SP_allGone_10 : decode y_SP_allGone.2.1 10 = .ok (.if_icmp .ge 38, 3) := by decide +kernel
theorem d_SP_allGone_13 : decode y_SP_allGone.2.1 13 = .ok (.aload_n 0, 1) := by decide +kernel
theorem d_SP_allGone_14 : decode y_SP_allGone.2.1 14 = .ok (.getfield 11, 3) := by decide +kernel
theorem d_SP_allGone_17 : decode y_SP_allGone.2.1 17 = .ok (.iload_n 2, 1) := by decide +kernel
theorem d_SP_allGone_18 : decode y_SP_allGone.2.1 18 = .ok (.aaload, 1) := by decide +kernel
theorem d_SP_allGone_19 : decode y_SP_allGone.2.1 19 = .ok (.astore 4, 2) := by decide +kernel
theorem d_SP_allGone_21 : decode y_SP_allGone.2.1 21 = .ok (.aload 4, 2) := by decide +kernel
theorem d_SP_allGone_23 : decode y_SP_allGone.2.1 23 = .ok (.instanceof 131, 3) := by decide +kernel
theorem d_SP_allGone_26 : decode y_SP_allGone.2.1 26 = .ok (.ifCond .eq 16, 3) := by decide +kernel
theorem d_SP_allGone_29 : decode y_SP_allGone.2.1 29 = .ok (.aload 4, 2) := by decide +kernel
theorem d_SP_allGone_31 : decode y_SP_allGone.2.1 31 = .ok (.checkcast 131, 3) := by decide +kernel
theorem d_SP_allGone_34 : decode y_SP_allGone.2.1 34 = .ok (.astore_n 3, 1) := by decide +kernel
theorem d_SP_allGone_35 : decode y_SP_allGone.2.1 35 = .ok (.iload_n 1, 1) := by decide +kernel
theorem d_SP_allGone_36 : decode y_SP_allGone.2.1 36 = .ok (.aload_n 3, 1) := by decide +kernel
theorem d_SP_allGone_37 : decode y_SP_allGone.2.1 37 = .ok (.getfield 235, 3) := by decide +kernel
theorem d_SP_allGone_40 : decode y_SP_allGone.2.1 40 = .ok (.iadd, 1) := by decide +kernel
theorem d_SP_allGone_41 : decode y_SP_allGone.2.1 41 = .ok (.istore_n 1, 1) := by decide +kernel
theorem d_SP_allGone_42 : decode y_SP_allGone.2.1 42 = .ok (.iinc 2 1, 3) := by decide +kernel
theorem d_SP_allGone_45 : decode y_SP_allGone.2.1 45 = .ok (.goto (-41), 3) := by decide +kernel
theorem d_SP_allGone_48 : decode y_SP_allGone.2.1 48 = .ok (.iload_n 1, 1) := by decide +kernel
theorem d_SP_allGone_49 : decode y_SP_allGone.2.1 49 = .ok (.ireturn, 1) := by decide +kernel
