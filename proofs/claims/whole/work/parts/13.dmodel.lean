theorem d_Model_init_0 : decode y_Model_init.2.1 0 = .ok (.aload_n 0, 1) := by decide +kernel
theorem d_Model_init_1 : decode y_Model_init.2.1 1 = .ok (.invokespecial 1, 3) := by decide +kernel
theorem d_Model_init_4 : decode y_Model_init.2.1 4 = .ok (.aload_n 0, 1) := by decide +kernel
theorem d_Model_init_5 : decode y_Model_init.2.1 5 = .ok (.bipush 12, 2) := by decide +kernel
theorem d_Model_init_7 : decode y_Model_init.2.1 7 = .ok (.newarray .int, 2) := by decide +kernel
theorem d_Model_init_9 : decode y_Model_init.2.1 9 = .ok (.putfield 7, 3) := by decide +kernel
theorem d_Model_init_12 : decode y_Model_init.2.1 12 = .ok (.aload_n 0, 1) := by decide +kernel
theorem d_Model_init_13 : decode y_Model_init.2.1 13 = .ok (.bipush 12, 2) := by decide +kernel
theorem d_Model_init_15 : decode y_Model_init.2.1 15 = .ok (.newarray .int, 2) := by decide +kernel
theorem d_Model_init_17 : decode y_Model_init.2.1 17 = .ok (.putfield 13, 3) := by decide +kernel
theorem d_Model_init_20 : decode y_Model_init.2.1 20 = .ok (.aload_n 0, 1) := by decide +kernel
theorem d_Model_init_21 : decode y_Model_init.2.1 21 = .ok (.bipush 12, 2) := by decide +kernel
theorem d_Model_init_23 : decode y_Model_init.2.1 23 = .ok (.newarray .int, 2) := by decide +kernel
theorem d_Model_init_25 : decode y_Model_init.2.1 25 = .ok (.putfield 16, 3) := by decide +kernel
theorem d_Model_init_28 : decode y_Model_init.2.1 28 = .ok (.aload_n 0, 1) := by decide +kernel
theorem d_Model_init_29 : decode y_Model_init.2.1 29 = .ok (.bipush 12, 2) := by decide +kernel
theorem d_Model_init_31 : decode y_Model_init.2.1 31 = .ok (.newarray .int, 2) := by decide +kernel
theorem d_Model_init_33 : decode y_Model_init.2.1 33 = .ok (.putfield 19, 3) := by decide +kernel
theorem d_Model_init_36 : decode y_Model_init.2.1 36 = .ok (.aload_n 0, 1) := by decide +kernel
theorem d_Model_init_37 : decode y_Model_init.2.1 37 = .ok (.bipush 12, 2) := by decide +kernel
theorem d_Model_init_39 : decode y_Model_init.2.1 39 = .ok (.newarray .int, 2) := by decide +kernel
theorem d_Model_init_41 : decode y_Model_init.2.1 41 = .ok (.putfield 22, 3) := by decide +kernel
theorem d_Model_init_44 : decode y_Model_init.2.1 44 = .ok (.aload_n 0, 1) := by decide +kernel
theorem d_Model_init_45 : decode y_Model_init.2.1 45 = .ok (.sipush 768, 3) := by decide +kernel
theorem d_Model_init_48 : decode y_Model_init.2.1 48 = .ok (.newarray .int, 2) := by decide +kernel
theorem d_Model_init_50 : decode y_Model_init.2.1 50 = .ok (.putfield 25, 3) := by decide +kernel
theorem d_Model_init_53 : decode y_Model_init.2.1 53 = .ok (.aload_n 0, 1) := by decide +kernel
theorem d_Model_init_54 : decode y_Model_init.2.1 54 = .ok (.bipush 12, 2) := by decide +kernel
theorem d_Model_init_56 : decode y_Model_init.2.1 56 = .ok (.newarray .int, 2) := by decide +kernel
theorem d_Model_init_58 : decode y_Model_init.2.1 58 = .ok (.putfield 28, 3) := by decide +kernel
theorem d_Model_init_61 : decode y_Model_init.2.1 61 = .ok (.aload_n 0, 1) := by decide +kernel
theorem d_Model_init_62 : decode y_Model_init.2.1 62 = .ok (.bipush 12, 2) := by decide +kernel
theorem d_Model_init_64 : decode y_Model_init.2.1 64 = .ok (.newarray .int, 2) := by decide +kernel
theorem d_Model_init_66 : decode y_Model_init.2.1 66 = .ok (.putfield 31, 3) := by decide +kernel
theorem d_Model_init_69 : decode y_Model_init.2.1 69 = .ok (.aload_n 0, 1) := by decide +kernel
theorem d_Model_init_70 : decode y_Model_init.2.1 70 = .ok (.bipush 12, 2) := by decide +kernel
theorem d_Model_init_72 : decode y_Model_init.2.1 72 = .ok (.newarray .int, 2) := by decide +kernel
theorem d_Model_init_74 : decode y_Model_init.2.1 74 = .ok (.putfield 34, 3) := by decide +kernel
theorem d_Model_init_77 : decode y_Model_init.2.1 77 = .ok (.aload_n 0, 1) := by decide +kernel
theorem d_Model_init_78 : decode y_Model_init.2.1 78 = .ok (.sipush 384, 3) := by decide +kernel
theorem d_Model_init_81 : decode y_Model_init.2.1 81 = .ok (.newarray .int, 2) := by decide +kernel
theorem d_Model_init_83 : decode y_Model_init.2.1 83 = .ok (.putfield 37, 3) := by decide +kernel
theorem d_Model_init_86 : decode y_Model_init.2.1 86 = .ok (.aload_n 0, 1) := by decide +kernel
theorem d_Model_init_87 : decode y_Model_init.2.1 87 = .ok (.bipush 12, 2) := by decide +kernel
theorem d_Model_init_89 : decode y_Model_init.2.1 89 = .ok (.newarray .int, 2) := by decide +kernel
theorem d_Model_init_91 : decode y_Model_init.2.1 91 = .ok (.putfield 40, 3) := by decide +kernel
theorem d_Model_init_94 : decode y_Model_init.2.1 94 = .ok (.aload_n 0, 1) := by decide +kernel
theorem d_Model_init_95 : decode y_Model_init.2.1 95 = .ok (.sipush 384, 3) := by decide +kernel
theorem d_Model_init_98 : decode y_Model_init.2.1 98 = .ok (.newarray .int, 2) := by decide +kernel
theorem d_Model_init_100 : decode y_Model_init.2.1 100 = .ok (.putfield 43, 3) := by decide +kernel
theorem d_Model_init_103 : decode y_Model_init.2.1 103 = .ok (.aload_n 0, 1) := by decide +kernel
theorem d_Model_init_104 : decode y_Model_init.2.1 104 = .ok (.sipush 768, 3) := by decide +kernel
theorem d_Model_init_107 : decode y_Model_init.2.1 107 = .ok (.newarray .int, 2) := by decide +kernel
theorem d_Model_init_109 : decode y_Model_init.2.1 109 = .ok (.putfield 46, 3) := by decide +kernel
theorem d_Model_init_112 : decode y_Model_init.2.1 112 = .ok (.aload_n 0, 1) := by decide +kernel
theorem d_Model_init_113 : decode y_Model_init.2.1 113 = .ok (.bipush 16, 2) := by decide +kernel
theorem d_Model_init_115 : decode y_Model_init.2.1 115 = .ok (.newarray .int, 2) := by decide +kernel
theorem d_Model_init_117 : decode y_Model_init.2.1 117 = .ok (.putfield 49, 3) := by decide +kernel
theorem d_Model_init_120 : decode y_Model_init.2.1 120 = .ok (.aload_n 0, 1) := by decide +kernel
theorem d_Model_init_121 : decode y_Model_init.2.1 121 = .ok (.bipush 16, 2) := by decide +kernel
theorem d_Model_init_123 : decode y_Model_init.2.1 123 = .ok (.newarray .int, 2) := by decide +kernel
theorem d_Model_init_125 : decode y_Model_init.2.1 125 = .ok (.putfield 52, 3) := by decide +kernel
theorem d_Model_init_128 : decode y_Model_init.2.1 128 = .ok (.aload_n 0, 1) := by decide +kernel
theorem d_Model_init_129 : decode y_Model_init.2.1 129 = .ok (.bipush 16, 2) := by decide +kernel
theorem d_Model_init_131 : decode y_Model_init.2.1 131 = .ok (.newarray .boolean, 2) := by decide +kernel
theorem d_Model_init_133 : decode y_Model_init.2.1 133 = .ok (.putfield 55, 3) := by decide +kernel
theorem d_Model_init_136 : decode y_Model_init.2.1 136 = .ok (.aload_n 0, 1) := by decide +kernel
theorem d_Model_init_137 : decode y_Model_init.2.1 137 = .ok (.bipush 16, 2) := by decide +kernel
theorem d_Model_init_139 : decode y_Model_init.2.1 139 = .ok (.newarray .boolean, 2) := by decide +kernel
theorem d_Model_init_141 : decode y_Model_init.2.1 141 = .ok (.putfield 59, 3) := by decide +kernel
theorem d_Model_init_144 : decode y_Model_init.2.1 144 = .ok (.aload_n 0, 1) := by decide +kernel
theorem d_Model_init_145 : decode y_Model_init.2.1 145 = .ok (.bipush 16, 2) := by decide +kernel
theorem d_Model_init_147 : decode y_Model_init.2.1 147 = .ok (.newarray .boolean, 2) := by decide +kernel
theorem d_Model_init_149 : decode y_Model_init.2.1 149 = .ok (.putfield 62, 3) := by decide +kernel
theorem d_Model_init_152 : decode y_Model_init.2.1 152 = .ok (.return_, 1) := by decide +kernel
theorem d_Model_thrown_0 : decode y_Model_thrown.2.1 0 = .ok (.aload_n 0, 1) := by decide +kernel
theorem d_Model_thrown_1 : decode y_Model_thrown.2.1 1 = .ok (.getfield 65, 3) := by decide +kernel
theorem d_Model_thrown_4 : decode y_Model_thrown.2.1 4 = .ok (.ireturn, 1) := by decide +kernel
theorem d_Model_fail_0 : decode y_Model_fail.2.1 0 = .ok (.aload_n 0, 1) := by decide +kernel
theorem d_Model_fail_1 : decode y_Model_fail.2.1 1 = .ok (.iload_n 1, 1) := by decide +kernel
theorem d_Model_fail_2 : decode y_Model_fail.2.1 2 = .ok (.putfield 65, 3) := by decide +kernel
theorem d_Model_fail_5 : decode y_Model_fail.2.1 5 = .ok (.iconst 0, 1) := by decide +kernel
theorem d_Model_fail_6 : decode y_Model_fail.2.1 6 = .ok (.ireturn, 1) := by decide +kernel
theorem d_Model_within_0 : decode y_Model_within.2.1 0 = .ok (.iload_n 0, 1) := by decide +kernel
theorem d_Model_within_1 : decode y_Model_within.2.1 1 = .ok (.iload_n 1, 1) := by decide +kernel
theorem d_Model_within_2 : decode y_Model_within.2.1 2 = .ok (.if_icmp .lt 12, 3) := by decide +kernel
theorem d_Model_within_5 : decode y_Model_within.2.1 5 = .ok (.iload_n 0, 1) := by decide +kernel
theorem d_Model_within_6 : decode y_Model_within.2.1 6 = .ok (.iload_n 2, 1) := by decide +kernel
theorem d_Model_within_7 : decode y_Model_within.2.1 7 = .ok (.if_icmp .gt 7, 3) := by decide +kernel
theorem d_Model_within_10 : decode y_Model_within.2.1 10 = .ok (.iconst 1, 1) := by decide +kernel
theorem d_Model_within_11 : decode y_Model_within.2.1 11 = .ok (.goto 4, 3) := by decide +kernel
theorem d_Model_within_14 : decode y_Model_within.2.1 14 = .ok (.iconst 0, 1) := by decide +kernel
theorem d_Model_within_15 : decode y_Model_within.2.1 15 = .ok (.ireturn, 1) := by decide +kernel
theorem d_Model_sizeOf_0 : decode y_Model_sizeOf.2.1 0 = .ok (.iload_n 0, 1) := by decide +kernel
theorem d_Model_sizeOf_1 : decode y_Model_sizeOf.2.1 1 = .ok (.iconst 2, 1) := by decide +kernel
theorem d_Model_sizeOf_2 : decode y_Model_sizeOf.2.1 2 = .ok (.if_icmp .ge 7, 3) := by decide +kernel
theorem d_Model_sizeOf_5 : decode y_Model_sizeOf.2.1 5 = .ok (.iload_n 1, 1) := by decide +kernel
theorem d_Model_sizeOf_6 : decode y_Model_sizeOf.2.1 6 = .ok (.goto 32, 3) := by decide +kernel
theorem d_Model_sizeOf_9 : decode y_Model_sizeOf.2.1 9 = .ok (.iload_n 0, 1) := by decide +kernel
theorem d_Model_sizeOf_10 : decode y_Model_sizeOf.2.1 10 = .ok (.iconst 2, 1) := by decide +kernel
theorem d_Model_sizeOf_11 : decode y_Model_sizeOf.2.1 11 = .ok (.if_icmp .ne 7, 3) := by decide +kernel
theorem d_Model_sizeOf_14 : decode y_Model_sizeOf.2.1 14 = .ok (.iconst 4, 1) := by decide +kernel
theorem d_Model_sizeOf_15 : decode y_Model_sizeOf.2.1 15 = .ok (.goto 23, 3) := by decide +kernel
theorem d_Model_sizeOf_18 : decode y_Model_sizeOf.2.1 18 = .ok (.iload_n 0, 1) := by decide +kernel
theorem d_Model_sizeOf_19 : decode y_Model_sizeOf.2.1 19 = .ok (.iconst 3, 1) := by decide +kernel
theorem d_Model_sizeOf_20 : decode y_Model_sizeOf.2.1 20 = .ok (.if_icmp .ne 7, 3) := by decide +kernel
theorem d_Model_sizeOf_23 : decode y_Model_sizeOf.2.1 23 = .ok (.iconst 3, 1) := by decide +kernel
theorem d_Model_sizeOf_24 : decode y_Model_sizeOf.2.1 24 = .ok (.goto 14, 3) := by decide +kernel
theorem d_Model_sizeOf_27 : decode y_Model_sizeOf.2.1 27 = .ok (.iload_n 0, 1) := by decide +kernel
theorem d_Model_sizeOf_28 : decode y_Model_sizeOf.2.1 28 = .ok (.iconst 4, 1) := by decide +kernel
theorem d_Model_sizeOf_29 : decode y_Model_sizeOf.2.1 29 = .ok (.if_icmp .ne 8, 3) := by decide +kernel
theorem d_Model_sizeOf_32 : decode y_Model_sizeOf.2.1 32 = .ok (.bipush 11, 2) := by decide +kernel
theorem d_Model_sizeOf_34 : decode y_Model_sizeOf.2.1 34 = .ok (.goto 4, 3) := by decide +kernel
theorem d_Model_sizeOf_37 : decode y_Model_sizeOf.2.1 37 = .ok (.iconst 4, 1) := by decide +kernel
theorem d_Model_sizeOf_38 : decode y_Model_sizeOf.2.1 38 = .ok (.ireturn, 1) := by decide +kernel
theorem d_Model_part_0 : decode y_Model_part.2.1 0 = .ok (.aload_n 0, 1) := by decide +kernel
theorem d_Model_part_1 : decode y_Model_part.2.1 1 = .ok (.iconst 0, 1) := by decide +kernel
theorem d_Model_part_2 : decode y_Model_part.2.1 2 = .ok (.putfield 65, 3) := by decide +kernel
theorem d_Model_part_5 : decode y_Model_part.2.1 5 = .ok (.iload_n 1, 1) := by decide +kernel
theorem d_Model_part_6 : decode y_Model_part.2.1 6 = .ok (.iconst 0, 1) := by decide +kernel
theorem d_Model_part_7 : decode y_Model_part.2.1 7 = .ok (.iconst 5, 1) := by decide +kernel
theorem d_Model_part_8 : decode y_Model_part.2.1 8 = .ok (.invokestatic 69, 3) := by decide +kernel
theorem d_Model_part_11 : decode y_Model_part.2.1 11 = .ok (.ifCond .eq 44, 3) := by decide +kernel
theorem d_Model_part_14 : decode y_Model_part.2.1 14 = .ok (.iload 4, 2) := by decide +kernel
theorem d_Model_part_16 : decode y_Model_part.2.1 16 = .ok (.iconst 0, 1) := by decide +kernel
theorem d_Model_part_17 : decode y_Model_part.2.1 17 = .ok (.bipush 15, 2) := by decide +kernel
theorem d_Model_part_19 : decode y_Model_part.2.1 19 = .ok (.invokestatic 69, 3) := by decide +kernel
theorem d_Model_part_22 : decode y_Model_part.2.1 22 = .ok (.ifCond .eq 33, 3) := by decide +kernel
theorem d_Model_part_25 : decode y_Model_part.2.1 25 = .ok (.iload 5, 2) := by decide +kernel
theorem d_Model_part_27 : decode y_Model_part.2.1 27 = .ok (.iconst 0, 1) := by decide +kernel
theorem d_Model_part_28 : decode y_Model_part.2.1 28 = .ok (.bipush 7, 2) := by decide +kernel
theorem d_Model_part_30 : decode y_Model_part.2.1 30 = .ok (.invokestatic 69, 3) := by decide +kernel
theorem d_Model_part_33 : decode y_Model_part.2.1 33 = .ok (.ifCond .eq 22, 3) := by decide +kernel
theorem d_Model_part_36 : decode y_Model_part.2.1 36 = .ok (.iload_n 1, 1) := by decide +kernel
theorem d_Model_part_37 : decode y_Model_part.2.1 37 = .ok (.iconst 1, 1) := by decide +kernel
theorem d_Model_part_38 : decode y_Model_part.2.1 38 = .ok (.if_icmp .gt 13, 3) := by decide +kernel
theorem d_Model_part_41 : decode y_Model_part.2.1 41 = .ok (.iload_n 3, 1) := by decide +kernel
theorem d_Model_part_42 : decode y_Model_part.2.1 42 = .ok (.iconst 1, 1) := by decide +kernel
theorem d_Model_part_43 : decode y_Model_part.2.1 43 = .ok (.bipush 64, 2) := by decide +kernel
theorem d_Model_part_45 : decode y_Model_part.2.1 45 = .ok (.invokestatic 69, 3) := by decide +kernel
theorem d_Model_part_48 : decode y_Model_part.2.1 48 = .ok (.ifCond .eq 7, 3) := by decide +kernel
theorem d_Model_part_51 : decode y_Model_part.2.1 51 = .ok (.iconst 1, 1) := by decide +kernel
theorem d_Model_part_52 : decode y_Model_part.2.1 52 = .ok (.goto 4, 3) := by decide +kernel
theorem d_Model_part_55 : decode y_Model_part.2.1 55 = .ok (.iconst 0, 1) := by decide +kernel
theorem d_Model_part_56 : decode y_Model_part.2.1 56 = .ok (.istore 6, 2) := by decide +kernel
theorem d_Model_part_58 : decode y_Model_part.2.1 58 = .ok (.iload 6, 2) := by decide +kernel
theorem d_Model_part_60 : decode y_Model_part.2.1 60 = .ok (.ifCond .eq 11, 3) := by decide +kernel
theorem d_Model_part_63 : decode y_Model_part.2.1 63 = .ok (.iload_n 1, 1) := by decide +kernel
theorem d_Model_part_64 : decode y_Model_part.2.1 64 = .ok (.iload_n 3, 1) := by decide +kernel
theorem d_Model_part_65 : decode y_Model_part.2.1 65 = .ok (.invokestatic 73, 3) := by decide +kernel
theorem d_Model_part_68 : decode y_Model_part.2.1 68 = .ok (.goto 4, 3) := by decide +kernel
theorem d_Model_part_71 : decode y_Model_part.2.1 71 = .ok (.iconst 0, 1) := by decide +kernel
theorem d_Model_part_72 : decode y_Model_part.2.1 72 = .ok (.istore 7, 2) := by decide +kernel
theorem d_Model_part_74 : decode y_Model_part.2.1 74 = .ok (.iload 6, 2) := by decide +kernel
theorem d_Model_part_76 : decode y_Model_part.2.1 76 = .ok (.ifCond .eq 20, 3) := by decide +kernel
theorem d_Model_part_79 : decode y_Model_part.2.1 79 = .ok (.iload_n 2, 1) := by decide +kernel
theorem d_Model_part_80 : decode y_Model_part.2.1 80 = .ok (.ifCond .lt 16, 3) := by decide +kernel
theorem d_Model_part_83 : decode y_Model_part.2.1 83 = .ok (.iload_n 2, 1) := by decide +kernel
theorem d_Model_part_84 : decode y_Model_part.2.1 84 = .ok (.ldc 77, 2) := by decide +kernel
theorem d_Model_part_86 : decode y_Model_part.2.1 86 = .ok (.iload 7, 2) := by decide +kernel
theorem d_Model_part_88 : decode y_Model_part.2.1 88 = .ok (.isub, 1) := by decide +kernel
theorem d_Model_part_89 : decode y_Model_part.2.1 89 = .ok (.if_icmp .gt 7, 3) := by decide +kernel
theorem d_Model_part_92 : decode y_Model_part.2.1 92 = .ok (.iconst 1, 1) := by decide +kernel
theorem d_Model_part_93 : decode y_Model_part.2.1 93 = .ok (.goto 4, 3) := by decide +kernel
theorem d_Model_part_96 : decode y_Model_part.2.1 96 = .ok (.iconst 0, 1) := by decide +kernel
theorem d_Model_part_97 : decode y_Model_part.2.1 97 = .ok (.istore 6, 2) := by decide +kernel
theorem d_Model_part_99 : decode y_Model_part.2.1 99 = .ok (.iconst 0, 1) := by decide +kernel
theorem d_Model_part_100 : decode y_Model_part.2.1 100 = .ok (.istore 8, 2) := by decide +kernel
theorem d_Model_part_102 : decode y_Model_part.2.1 102 = .ok (.iload 8, 2) := by decide +kernel
theorem d_Model_part_104 : decode y_Model_part.2.1 104 = .ok (.aload_n 0, 1) := by decide +kernel
theorem d_Model_part_105 : decode y_Model_part.2.1 105 = .ok (.getfield 78, 3) := by decide +kernel
theorem d_Model_part_108 : decode y_Model_part.2.1 108 = .ok (.if_icmp .ge 54, 3) := by decide +kernel
theorem d_Model_part_111 : decode y_Model_part.2.1 111 = .ok (.iload 6, 2) := by decide +kernel
theorem d_Model_part_113 : decode y_Model_part.2.1 113 = .ok (.ifCond .eq 49, 3) := by decide +kernel
theorem d_Model_part_116 : decode y_Model_part.2.1 116 = .ok (.iload_n 2, 1) := by decide +kernel
theorem d_Model_part_117 : decode y_Model_part.2.1 117 = .ok (.iload 7, 2) := by decide +kernel
theorem d_Model_part_119 : decode y_Model_part.2.1 119 = .ok (.iadd, 1) := by decide +kernel
theorem d_Model_part_120 : decode y_Model_part.2.1 120 = .ok (.aload_n 0, 1) := by decide +kernel
theorem d_Model_part_121 : decode y_Model_part.2.1 121 = .ok (.getfield 13, 3) := by decide +kernel
theorem d_Model_part_124 : decode y_Model_part.2.1 124 = .ok (.iload 8, 2) := by decide +kernel
theorem d_Model_part_126 : decode y_Model_part.2.1 126 = .ok (.iaload, 1) := by decide +kernel
theorem d_Model_part_127 : decode y_Model_part.2.1 127 = .ok (.if_icmp .le 22, 3) := by decide +kernel
theorem d_Model_part_130 : decode y_Model_part.2.1 130 = .ok (.aload_n 0, 1) := by decide +kernel
theorem d_Model_part_131 : decode y_Model_part.2.1 131 = .ok (.getfield 13, 3) := by decide +kernel
theorem d_Model_part_134 : decode y_Model_part.2.1 134 = .ok (.iload 8, 2) := by decide +kernel
theorem d_Model_part_136 : decode y_Model_part.2.1 136 = .ok (.iaload, 1) := by decide +kernel
theorem d_Model_part_137 : decode y_Model_part.2.1 137 = .ok (.aload_n 0, 1) := by decide +kernel
theorem d_Model_part_138 : decode y_Model_part.2.1 138 = .ok (.getfield 16, 3) := by decide +kernel
theorem d_Model_part_141 : decode y_Model_part.2.1 141 = .ok (.iload 8, 2) := by decide +kernel
theorem d_Model_part_143 : decode y_Model_part.2.1 143 = .ok (.iaload, 1) := by decide +kernel
theorem d_Model_part_144 : decode y_Model_part.2.1 144 = .ok (.iadd, 1) := by decide +kernel
theorem d_Model_part_145 : decode y_Model_part.2.1 145 = .ok (.iload_n 2, 1) := by decide +kernel
theorem d_Model_part_146 : decode y_Model_part.2.1 146 = .ok (.if_icmp .gt 7, 3) := by decide +kernel
theorem d_Model_part_149 : decode y_Model_part.2.1 149 = .ok (.iconst 1, 1) := by decide +kernel
theorem d_Model_part_150 : decode y_Model_part.2.1 150 = .ok (.goto 4, 3) := by decide +kernel
theorem d_Model_part_153 : decode y_Model_part.2.1 153 = .ok (.iconst 0, 1) := by decide +kernel
theorem d_Model_part_154 : decode y_Model_part.2.1 154 = .ok (.istore 6, 2) := by decide +kernel
theorem d_Model_part_156 : decode y_Model_part.2.1 156 = .ok (.iinc 8 1, 3) := by decide +kernel
theorem d_Model_part_159 : decode y_Model_part.2.1 159 = .ok (.goto (-57), 3) := by decide +kernel
theorem d_Model_part_162 : decode y_Model_part.2.1 162 = .ok (.iload 6, 2) := by decide +kernel
theorem d_Model_part_164 : decode y_Model_part.2.1 164 = .ok (.ifCond .ne 9, 3) := by decide +kernel
theorem d_Model_part_167 : decode y_Model_part.2.1 167 = .ok (.aload_n 0, 1) := by decide +kernel
theorem d_Model_part_168 : decode y_Model_part.2.1 168 = .ok (.iconst 1, 1) := by decide +kernel
theorem d_Model_part_169 : decode y_Model_part.2.1 169 = .ok (.invokevirtual 81, 3) := by decide +kernel
theorem d_Model_part_172 : decode y_Model_part.2.1 172 = .ok (.ireturn, 1) := by decide +kernel
theorem d_Model_part_173 : decode y_Model_part.2.1 173 = .ok (.aload_n 0, 1) := by decide +kernel
theorem d_Model_part_174 : decode y_Model_part.2.1 174 = .ok (.getfield 78, 3) := by decide +kernel
theorem d_Model_part_177 : decode y_Model_part.2.1 177 = .ok (.bipush 12, 2) := by decide +kernel
theorem d_Model_part_179 : decode y_Model_part.2.1 179 = .ok (.if_icmp .ne 9, 3) := by decide +kernel
theorem d_Model_part_182 : decode y_Model_part.2.1 182 = .ok (.aload_n 0, 1) := by decide +kernel
theorem d_Model_part_183 : decode y_Model_part.2.1 183 = .ok (.iconst 2, 1) := by decide +kernel
theorem d_Model_part_184 : decode y_Model_part.2.1 184 = .ok (.invokevirtual 81, 3) := by decide +kernel
theorem d_Model_part_187 : decode y_Model_part.2.1 187 = .ok (.ireturn, 1) := by decide +kernel
theorem d_Model_part_188 : decode y_Model_part.2.1 188 = .ok (.aload_n 0, 1) := by decide +kernel
theorem d_Model_part_189 : decode y_Model_part.2.1 189 = .ok (.getfield 7, 3) := by decide +kernel
theorem d_Model_part_192 : decode y_Model_part.2.1 192 = .ok (.aload_n 0, 1) := by decide +kernel
theorem d_Model_part_193 : decode y_Model_part.2.1 193 = .ok (.getfield 78, 3) := by decide +kernel
theorem d_Model_part_196 : decode y_Model_part.2.1 196 = .ok (.iload_n 1, 1) := by decide +kernel
theorem d_Model_part_197 : decode y_Model_part.2.1 197 = .ok (.iastore, 1) := by decide +kernel
theorem d_Model_part_198 : decode y_Model_part.2.1 198 = .ok (.aload_n 0, 1) := by decide +kernel
theorem d_Model_part_199 : decode y_Model_part.2.1 199 = .ok (.getfield 13, 3) := by decide +kernel
theorem d_Model_part_202 : decode y_Model_part.2.1 202 = .ok (.aload_n 0, 1) := by decide +kernel
theorem d_Model_part_203 : decode y_Model_part.2.1 203 = .ok (.getfield 78, 3) := by decide +kernel
theorem d_Model_part_206 : decode y_Model_part.2.1 206 = .ok (.iload_n 2, 1) := by decide +kernel
theorem d_Model_part_207 : decode y_Model_part.2.1 207 = .ok (.iastore, 1) := by decide +kernel
theorem d_Model_part_208 : decode y_Model_part.2.1 208 = .ok (.aload_n 0, 1) := by decide +kernel
theorem d_Model_part_209 : decode y_Model_part.2.1 209 = .ok (.getfield 16, 3) := by decide +kernel
theorem d_Model_part_212 : decode y_Model_part.2.1 212 = .ok (.aload_n 0, 1) := by decide +kernel
theorem d_Model_part_213 : decode y_Model_part.2.1 213 = .ok (.getfield 78, 3) := by decide +kernel
theorem d_Model_part_216 : decode y_Model_part.2.1 216 = .ok (.iload 7, 2) := by decide +kernel
theorem d_Model_part_218 : decode y_Model_part.2.1 218 = .ok (.iastore, 1) := by decide +kernel
theorem d_Model_part_219 : decode y_Model_part.2.1 219 = .ok (.aload_n 0, 1) := by decide +kernel
theorem d_Model_part_220 : decode y_Model_part.2.1 220 = .ok (.getfield 19, 3) := by decide +kernel
theorem d_Model_part_223 : decode y_Model_part.2.1 223 = .ok (.aload_n 0, 1) := by decide +kernel
theorem d_Model_part_224 : decode y_Model_part.2.1 224 = .ok (.getfield 78, 3) := by decide +kernel
theorem d_Model_part_227 : decode y_Model_part.2.1 227 = .ok (.iload 4, 2) := by decide +kernel
theorem d_Model_part_229 : decode y_Model_part.2.1 229 = .ok (.iastore, 1) := by decide +kernel
theorem d_Model_part_230 : decode y_Model_part.2.1 230 = .ok (.aload_n 0, 1) := by decide +kernel
theorem d_Model_part_231 : decode y_Model_part.2.1 231 = .ok (.getfield 22, 3) := by decide +kernel
theorem d_Model_part_234 : decode y_Model_part.2.1 234 = .ok (.aload_n 0, 1) := by decide +kernel
theorem d_Model_part_235 : decode y_Model_part.2.1 235 = .ok (.getfield 78, 3) := by decide +kernel
theorem d_Model_part_238 : decode y_Model_part.2.1 238 = .ok (.iload 5, 2) := by decide +kernel
theorem d_Model_part_240 : decode y_Model_part.2.1 240 = .ok (.iastore, 1) := by decide +kernel
theorem d_Model_part_241 : decode y_Model_part.2.1 241 = .ok (.aload_n 0, 1) := by decide +kernel
theorem d_Model_part_242 : decode y_Model_part.2.1 242 = .ok (.dup, 1) := by decide +kernel
theorem d_Model_part_243 : decode y_Model_part.2.1 243 = .ok (.getfield 78, 3) := by decide +kernel
theorem d_Model_part_246 : decode y_Model_part.2.1 246 = .ok (.iconst 1, 1) := by decide +kernel
theorem d_Model_part_247 : decode y_Model_part.2.1 247 = .ok (.iadd, 1) := by decide +kernel
theorem d_Model_part_248 : decode y_Model_part.2.1 248 = .ok (.putfield 78, 3) := by decide +kernel
theorem d_Model_part_251 : decode y_Model_part.2.1 251 = .ok (.aload_n 0, 1) := by decide +kernel
theorem d_Model_part_252 : decode y_Model_part.2.1 252 = .ok (.getfield 78, 3) := by decide +kernel
theorem d_Model_part_255 : decode y_Model_part.2.1 255 = .ok (.iconst 1, 1) := by decide +kernel
theorem d_Model_part_256 : decode y_Model_part.2.1 256 = .ok (.isub, 1) := by decide +kernel
theorem d_Model_part_257 : decode y_Model_part.2.1 257 = .ok (.ireturn, 1) := by decide +kernel
theorem d_Model_partAt_0 : decode y_Model_partAt.2.1 0 = .ok (.iconst 0, 1) := by decide +kernel
theorem d_Model_partAt_1 : decode y_Model_partAt.2.1 1 = .ok (.istore_n 2, 1) := by decide +kernel
theorem d_Model_partAt_2 : decode y_Model_partAt.2.1 2 = .ok (.iload_n 2, 1) := by decide +kernel
theorem d_Model_partAt_3 : decode y_Model_partAt.2.1 3 = .ok (.aload_n 0, 1) := by decide +kernel
theorem d_Model_partAt_4 : decode y_Model_partAt.2.1 4 = .ok (.getfield 78, 3) := by decide +kernel
theorem d_Model_partAt_7 : decode y_Model_partAt.2.1 7 = .ok (.if_icmp .ge 39, 3) := by decide +kernel
theorem d_Model_partAt_10 : decode y_Model_partAt.2.1 10 = .ok (.iload_n 1, 1) := by decide +kernel
theorem d_Model_partAt_11 : decode y_Model_partAt.2.1 11 = .ok (.aload_n 0, 1) := by decide +kernel
theorem d_Model_partAt_12 : decode y_Model_partAt.2.1 12 = .ok (.getfield 13, 3) := by decide +kernel
theorem d_Model_partAt_15 : decode y_Model_partAt.2.1 15 = .ok (.iload_n 2, 1) := by decide +kernel
theorem d_Model_partAt_16 : decode y_Model_partAt.2.1 16 = .ok (.iaload, 1) := by decide +kernel
theorem d_Model_partAt_17 : decode y_Model_partAt.2.1 17 = .ok (.aload_n 0, 1) := by decide +kernel
theorem d_Model_partAt_18 : decode y_Model_partAt.2.1 18 = .ok (.getfield 13, 3) := by decide +kernel
theorem d_Model_partAt_21 : decode y_Model_partAt.2.1 21 = .ok (.iload_n 2, 1) := by decide +kernel
theorem d_Model_partAt_22 : decode y_Model_partAt.2.1 22 = .ok (.iaload, 1) := by decide +kernel
theorem d_Model_partAt_23 : decode y_Model_partAt.2.1 23 = .ok (.aload_n 0, 1) := by decide +kernel
theorem d_Model_partAt_24 : decode y_Model_partAt.2.1 24 = .ok (.getfield 16, 3) := by decide +kernel
theorem d_Model_partAt_27 : decode y_Model_partAt.2.1 27 = .ok (.iload_n 2, 1) := by decide +kernel
theorem d_Model_partAt_28 : decode y_Model_partAt.2.1 28 = .ok (.iaload, 1) := by decide +kernel
theorem d_Model_partAt_29 : decode y_Model_partAt.2.1 29 = .ok (.iadd, 1) := by decide +kernel
theorem d_Model_partAt_30 : decode y_Model_partAt.2.1 30 = .ok (.iconst 1, 1) := by decide +kernel
theorem d_Model_partAt_31 : decode y_Model_partAt.2.1 31 = .ok (.isub, 1) := by decide +kernel
theorem d_Model_partAt_32 : decode y_Model_partAt.2.1 32 = .ok (.invokestatic 69, 3) := by decide +kernel
theorem d_Model_partAt_35 : decode y_Model_partAt.2.1 35 = .ok (.ifCond .eq 5, 3) := by decide +kernel
theorem d_Model_partAt_38 : decode y_Model_partAt.2.1 38 = .ok (.iload_n 2, 1) := by decide +kernel
theorem d_Model_partAt_39 : decode y_Model_partAt.2.1 39 = .ok (.ireturn, 1) := by decide +kernel
theorem d_Model_partAt_40 : decode y_Model_partAt.2.1 40 = .ok (.iinc 2 1, 3) := by decide +kernel
theorem d_Model_partAt_43 : decode y_Model_partAt.2.1 43 = .ok (.goto (-41), 3) := by decide +kernel
theorem d_Model_partAt_46 : decode y_Model_partAt.2.1 46 = .ok (.iconst (-1), 1) := by decide +kernel
theorem d_Model_partAt_47 : decode y_Model_partAt.2.1 47 = .ok (.ireturn, 1) := by decide +kernel
theorem d_Model_load_0 : decode y_Model_load.2.1 0 = .ok (.aload_n 0, 1) := by decide +kernel
theorem d_Model_load_1 : decode y_Model_load.2.1 1 = .ok (.iconst 0, 1) := by decide +kernel
theorem d_Model_load_2 : decode y_Model_load.2.1 2 = .ok (.putfield 65, 3) := by decide +kernel
theorem d_Model_load_5 : decode y_Model_load.2.1 5 = .ok (.aload_n 0, 1) := by decide +kernel
theorem d_Model_load_6 : decode y_Model_load.2.1 6 = .ok (.iload_n 1, 1) := by decide +kernel
theorem d_Model_load_7 : decode y_Model_load.2.1 7 = .ok (.invokevirtual 85, 3) := by decide +kernel
theorem d_Model_load_10 : decode y_Model_load.2.1 10 = .ok (.istore_n 3, 1) := by decide +kernel
theorem d_Model_load_11 : decode y_Model_load.2.1 11 = .ok (.iload_n 3, 1) := by decide +kernel
theorem d_Model_load_12 : decode y_Model_load.2.1 12 = .ok (.ifCond .lt 13, 3) := by decide +kernel
theorem d_Model_load_15 : decode y_Model_load.2.1 15 = .ok (.aload_n 0, 1) := by decide +kernel
theorem d_Model_load_16 : decode y_Model_load.2.1 16 = .ok (.getfield 7, 3) := by decide +kernel
theorem d_Model_load_19 : decode y_Model_load.2.1 19 = .ok (.iload_n 3, 1) := by decide +kernel
theorem d_Model_load_20 : decode y_Model_load.2.1 20 = .ok (.iaload, 1) := by decide +kernel
theorem d_Model_load_21 : decode y_Model_load.2.1 21 = .ok (.iconst 1, 1) := by decide +kernel
theorem d_Model_load_22 : decode y_Model_load.2.1 22 = .ok (.if_icmp .le 9, 3) := by decide +kernel
theorem d_Model_load_25 : decode y_Model_load.2.1 25 = .ok (.aload_n 0, 1) := by decide +kernel
theorem d_Model_load_26 : decode y_Model_load.2.1 26 = .ok (.iconst 1, 1) := by decide +kernel
theorem d_Model_load_27 : decode y_Model_load.2.1 27 = .ok (.invokevirtual 81, 3) := by decide +kernel
theorem d_Model_load_30 : decode y_Model_load.2.1 30 = .ok (.ireturn, 1) := by decide +kernel
theorem d_Model_load_31 : decode y_Model_load.2.1 31 = .ok (.bipush 64, 2) := by decide +kernel
theorem d_Model_load_33 : decode y_Model_load.2.1 33 = .ok (.iload_n 3, 1) := by decide +kernel
theorem d_Model_load_34 : decode y_Model_load.2.1 34 = .ok (.imul, 1) := by decide +kernel
theorem d_Model_load_35 : decode y_Model_load.2.1 35 = .ok (.iload_n 1, 1) := by decide +kernel
theorem d_Model_load_36 : decode y_Model_load.2.1 36 = .ok (.iadd, 1) := by decide +kernel
theorem d_Model_load_37 : decode y_Model_load.2.1 37 = .ok (.aload_n 0, 1) := by decide +kernel
theorem d_Model_load_38 : decode y_Model_load.2.1 38 = .ok (.getfield 13, 3) := by decide +kernel
theorem d_Model_load_41 : decode y_Model_load.2.1 41 = .ok (.iload_n 3, 1) := by decide +kernel
theorem d_Model_load_42 : decode y_Model_load.2.1 42 = .ok (.iaload, 1) := by decide +kernel
theorem d_Model_load_43 : decode y_Model_load.2.1 43 = .ok (.isub, 1) := by decide +kernel
theorem d_Model_load_44 : decode y_Model_load.2.1 44 = .ok (.istore 4, 2) := by decide +kernel
theorem d_Model_load_46 : decode y_Model_load.2.1 46 = .ok (.aload_n 0, 1) := by decide +kernel
theorem d_Model_load_47 : decode y_Model_load.2.1 47 = .ok (.getfield 25, 3) := by decide +kernel
theorem d_Model_load_50 : decode y_Model_load.2.1 50 = .ok (.iload 4, 2) := by decide +kernel
theorem d_Model_load_52 : decode y_Model_load.2.1 52 = .ok (.iaload, 1) := by decide +kernel
theorem d_Model_load_53 : decode y_Model_load.2.1 53 = .ok (.istore 5, 2) := by decide +kernel
theorem d_Model_load_55 : decode y_Model_load.2.1 55 = .ok (.aload_n 0, 1) := by decide +kernel
theorem d_Model_load_56 : decode y_Model_load.2.1 56 = .ok (.getfield 25, 3) := by decide +kernel
theorem d_Model_load_59 : decode y_Model_load.2.1 59 = .ok (.iload 4, 2) := by decide +kernel
theorem d_Model_load_61 : decode y_Model_load.2.1 61 = .ok (.iload_n 2, 1) := by decide +kernel
theorem d_Model_load_62 : decode y_Model_load.2.1 62 = .ok (.iastore, 1) := by decide +kernel
theorem d_Model_load_63 : decode y_Model_load.2.1 63 = .ok (.iload 5, 2) := by decide +kernel
theorem d_Model_load_65 : decode y_Model_load.2.1 65 = .ok (.ireturn, 1) := by decide +kernel
theorem d_Model_resetAll_0 : decode y_Model_resetAll.2.1 0 = .ok (.aload_n 0, 1) := by decide +kernel
theorem d_Model_resetAll_1 : decode y_Model_resetAll.2.1 1 = .ok (.iload_n 1, 1) := by decide +kernel
theorem d_Model_resetAll_2 : decode y_Model_resetAll.2.1 2 = .ok (.putfield 88, 3) := by decide +kernel
theorem d_Model_resetAll_5 : decode y_Model_resetAll.2.1 5 = .ok (.aload_n 0, 1) := by decide +kernel
theorem d_Model_resetAll_6 : decode y_Model_resetAll.2.1 6 = .ok (.iconst 0, 1) := by decide +kernel
theorem d_Model_resetAll_7 : decode y_Model_resetAll.2.1 7 = .ok (.putfield 91, 3) := by decide +kernel
theorem d_Model_resetAll_10 : decode y_Model_resetAll.2.1 10 = .ok (.aload_n 0, 1) := by decide +kernel
theorem d_Model_resetAll_11 : decode y_Model_resetAll.2.1 11 = .ok (.iconst 0, 1) := by decide +kernel
theorem d_Model_resetAll_12 : decode y_Model_resetAll.2.1 12 = .ok (.putfield 94, 3) := by decide +kernel
theorem d_Model_resetAll_15 : decode y_Model_resetAll.2.1 15 = .ok (.aload_n 0, 1) := by decide +kernel
theorem d_Model_resetAll_16 : decode y_Model_resetAll.2.1 16 = .ok (.iconst 0, 1) := by decide +kernel
theorem d_Model_resetAll_17 : decode y_Model_resetAll.2.1 17 = .ok (.putfield 97, 3) := by decide +kernel
theorem d_Model_resetAll_20 : decode y_Model_resetAll.2.1 20 = .ok (.iconst 0, 1) := by decide +kernel
theorem d_Model_resetAll_21 : decode y_Model_resetAll.2.1 21 = .ok (.istore_n 2, 1) := by decide +kernel
theorem d_Model_resetAll_22 : decode y_Model_resetAll.2.1 22 = .ok (.iload_n 2, 1) := by decide +kernel
theorem d_Model_resetAll_23 : decode y_Model_resetAll.2.1 23 = .ok (.aload_n 0, 1) := by decide +kernel
theorem d_Model_resetAll_24 : decode y_Model_resetAll.2.1 24 = .ok (.getfield 78, 3) := by decide +kernel
theorem d_Model_resetAll_27 : decode y_Model_resetAll.2.1 27 = .ok (.if_icmp .ge 66, 3) := by decide +kernel
theorem d_Model_resetAll_30 : decode y_Model_resetAll.2.1 30 = .ok (.iconst 0, 1) := by decide +kernel
theorem d_Model_resetAll_31 : decode y_Model_resetAll.2.1 31 = .ok (.istore_n 3, 1) := by decide +kernel
theorem d_Model_resetAll_32 : decode y_Model_resetAll.2.1 32 = .ok (.iload_n 3, 1) := by decide +kernel
theorem d_Model_resetAll_33 : decode y_Model_resetAll.2.1 33 = .ok (.bipush 64, 2) := by decide +kernel
theorem d_Model_resetAll_35 : decode y_Model_resetAll.2.1 35 = .ok (.if_icmp .ge 31, 3) := by decide +kernel
theorem d_Model_resetAll_38 : decode y_Model_resetAll.2.1 38 = .ok (.aload_n 0, 1) := by decide +kernel
theorem d_Model_resetAll_39 : decode y_Model_resetAll.2.1 39 = .ok (.getfield 7, 3) := by decide +kernel
theorem d_Model_resetAll_42 : decode y_Model_resetAll.2.1 42 = .ok (.iload_n 2, 1) := by decide +kernel
theorem d_Model_resetAll_43 : decode y_Model_resetAll.2.1 43 = .ok (.iaload, 1) := by decide +kernel
theorem d_Model_resetAll_44 : decode y_Model_resetAll.2.1 44 = .ok (.iconst 1, 1) := by decide +kernel
theorem d_Model_resetAll_45 : decode y_Model_resetAll.2.1 45 = .ok (.if_icmp .le 21, 3) := by decide +kernel
theorem d_Model_resetAll_48 : decode y_Model_resetAll.2.1 48 = .ok (.aload_n 0, 1) := by decide +kernel
theorem d_Model_resetAll_49 : decode y_Model_resetAll.2.1 49 = .ok (.getfield 25, 3) := by decide +kernel
theorem d_Model_resetAll_52 : decode y_Model_resetAll.2.1 52 = .ok (.bipush 64, 2) := by decide +kernel
theorem d_Model_resetAll_54 : decode y_Model_resetAll.2.1 54 = .ok (.iload_n 2, 1) := by decide +kernel
theorem d_Model_resetAll_55 : decode y_Model_resetAll.2.1 55 = .ok (.imul, 1) := by decide +kernel
theorem d_Model_resetAll_56 : decode y_Model_resetAll.2.1 56 = .ok (.iload_n 3, 1) := by decide +kernel
theorem d_Model_resetAll_57 : decode y_Model_resetAll.2.1 57 = .ok (.iadd, 1) := by decide +kernel
theorem d_Model_resetAll_58 : decode y_Model_resetAll.2.1 58 = .ok (.iconst 0, 1) := by decide +kernel
theorem d_Model_resetAll_59 : decode y_Model_resetAll.2.1 59 = .ok (.iastore, 1) := by decide +kernel
theorem d_Model_resetAll_60 : decode y_Model_resetAll.2.1 60 = .ok (.iinc 3 1, 3) := by decide +kernel
theorem d_Model_resetAll_63 : decode y_Model_resetAll.2.1 63 = .ok (.goto (-31), 3) := by decide +kernel
theorem d_Model_resetAll_66 : decode y_Model_resetAll.2.1 66 = .ok (.aload_n 0, 1) := by decide +kernel
theorem d_Model_resetAll_67 : decode y_Model_resetAll.2.1 67 = .ok (.getfield 28, 3) := by decide +kernel
theorem d_Model_resetAll_70 : decode y_Model_resetAll.2.1 70 = .ok (.iload_n 2, 1) := by decide +kernel
theorem d_Model_resetAll_71 : decode y_Model_resetAll.2.1 71 = .ok (.iconst 0, 1) := by decide +kernel
theorem d_Model_resetAll_72 : decode y_Model_resetAll.2.1 72 = .ok (.iastore, 1) := by decide +kernel
theorem d_Model_resetAll_73 : decode y_Model_resetAll.2.1 73 = .ok (.aload_n 0, 1) := by decide +kernel
theorem d_Model_resetAll_74 : decode y_Model_resetAll.2.1 74 = .ok (.getfield 34, 3) := by decide +kernel
theorem d_Model_resetAll_77 : decode y_Model_resetAll.2.1 77 = .ok (.iload_n 2, 1) := by decide +kernel
theorem d_Model_resetAll_78 : decode y_Model_resetAll.2.1 78 = .ok (.iconst 0, 1) := by decide +kernel
theorem d_Model_resetAll_79 : decode y_Model_resetAll.2.1 79 = .ok (.iastore, 1) := by decide +kernel
theorem d_Model_resetAll_80 : decode y_Model_resetAll.2.1 80 = .ok (.aload_n 0, 1) := by decide +kernel
theorem d_Model_resetAll_81 : decode y_Model_resetAll.2.1 81 = .ok (.getfield 40, 3) := by decide +kernel
theorem d_Model_resetAll_84 : decode y_Model_resetAll.2.1 84 = .ok (.iload_n 2, 1) := by decide +kernel
theorem d_Model_resetAll_85 : decode y_Model_resetAll.2.1 85 = .ok (.iconst 0, 1) := by decide +kernel
theorem d_Model_resetAll_86 : decode y_Model_resetAll.2.1 86 = .ok (.iastore, 1) := by decide +kernel
theorem d_Model_resetAll_87 : decode y_Model_resetAll.2.1 87 = .ok (.iinc 2 1, 3) := by decide +kernel
theorem d_Model_resetAll_90 : decode y_Model_resetAll.2.1 90 = .ok (.goto (-68), 3) := by decide +kernel
theorem d_Model_resetAll_93 : decode y_Model_resetAll.2.1 93 = .ok (.iconst 0, 1) := by decide +kernel
theorem d_Model_resetAll_94 : decode y_Model_resetAll.2.1 94 = .ok (.istore_n 2, 1) := by decide +kernel
theorem d_Model_resetAll_95 : decode y_Model_resetAll.2.1 95 = .ok (.iload_n 2, 1) := by decide +kernel
theorem d_Model_resetAll_96 : decode y_Model_resetAll.2.1 96 = .ok (.bipush 16, 2) := by decide +kernel
theorem d_Model_resetAll_98 : decode y_Model_resetAll.2.1 98 = .ok (.if_icmp .ge 23, 3) := by decide +kernel
theorem d_Model_resetAll_101 : decode y_Model_resetAll.2.1 101 = .ok (.aload_n 0, 1) := by decide +kernel
theorem d_Model_resetAll_102 : decode y_Model_resetAll.2.1 102 = .ok (.getfield 59, 3) := by decide +kernel
theorem d_Model_resetAll_105 : decode y_Model_resetAll.2.1 105 = .ok (.iload_n 2, 1) := by decide +kernel
theorem d_Model_resetAll_106 : decode y_Model_resetAll.2.1 106 = .ok (.iconst 0, 1) := by decide +kernel
theorem d_Model_resetAll_107 : decode y_Model_resetAll.2.1 107 = .ok (.bastore, 1) := by decide +kernel
theorem d_Model_resetAll_108 : decode y_Model_resetAll.2.1 108 = .ok (.aload_n 0, 1) := by decide +kernel
theorem d_Model_resetAll_109 : decode y_Model_resetAll.2.1 109 = .ok (.getfield 62, 3) := by decide +kernel
theorem d_Model_resetAll_112 : decode y_Model_resetAll.2.1 112 = .ok (.iload_n 2, 1) := by decide +kernel
theorem d_Model_resetAll_113 : decode y_Model_resetAll.2.1 113 = .ok (.iconst 0, 1) := by decide +kernel
theorem d_Model_resetAll_114 : decode y_Model_resetAll.2.1 114 = .ok (.bastore, 1) := by decide +kernel
theorem d_Model_resetAll_115 : decode y_Model_resetAll.2.1 115 = .ok (.iinc 2 1, 3) := by decide +kernel
theorem d_Model_resetAll_118 : decode y_Model_resetAll.2.1 118 = .ok (.goto (-23), 3) := by decide +kernel
theorem d_Model_resetAll_121 : decode y_Model_resetAll.2.1 121 = .ok (.return_, 1) := by decide +kernel
theorem d_Model_asksNow_0 : decode y_Model_asksNow.2.1 0 = .ok (.bipush 64, 2) := by decide +kernel
theorem d_Model_asksNow_2 : decode y_Model_asksNow.2.1 2 = .ok (.iload_n 1, 1) := by decide +kernel
theorem d_Model_asksNow_3 : decode y_Model_asksNow.2.1 3 = .ok (.imul, 1) := by decide +kernel
theorem d_Model_asksNow_4 : decode y_Model_asksNow.2.1 4 = .ok (.istore_n 2, 1) := by decide +kernel
theorem d_Model_asksNow_5 : decode y_Model_asksNow.2.1 5 = .ok (.aload_n 0, 1) := by decide +kernel
theorem d_Model_asksNow_6 : decode y_Model_asksNow.2.1 6 = .ok (.getfield 7, 3) := by decide +kernel
theorem d_Model_asksNow_9 : decode y_Model_asksNow.2.1 9 = .ok (.iload_n 1, 1) := by decide +kernel
theorem d_Model_asksNow_10 : decode y_Model_asksNow.2.1 10 = .ok (.iaload, 1) := by decide +kernel
theorem d_Model_asksNow_11 : decode y_Model_asksNow.2.1 11 = .ok (.iconst 2, 1) := by decide +kernel
theorem d_Model_asksNow_12 : decode y_Model_asksNow.2.1 12 = .ok (.if_icmp .ne 34, 3) := by decide +kernel
theorem d_Model_asksNow_15 : decode y_Model_asksNow.2.1 15 = .ok (.aload_n 0, 1) := by decide +kernel
theorem d_Model_asksNow_16 : decode y_Model_asksNow.2.1 16 = .ok (.getfield 25, 3) := by decide +kernel
theorem d_Model_asksNow_19 : decode y_Model_asksNow.2.1 19 = .ok (.iload_n 2, 1) := by decide +kernel
theorem d_Model_asksNow_20 : decode y_Model_asksNow.2.1 20 = .ok (.iconst 2, 1) := by decide +kernel
theorem d_Model_asksNow_21 : decode y_Model_asksNow.2.1 21 = .ok (.iadd, 1) := by decide +kernel
theorem d_Model_asksNow_22 : decode y_Model_asksNow.2.1 22 = .ok (.iaload, 1) := by decide +kernel
theorem d_Model_asksNow_23 : decode y_Model_asksNow.2.1 23 = .ok (.iconst 4, 1) := by decide +kernel
theorem d_Model_asksNow_24 : decode y_Model_asksNow.2.1 24 = .ok (.iand, 1) := by decide +kernel
theorem d_Model_asksNow_25 : decode y_Model_asksNow.2.1 25 = .ok (.ifCond .eq 19, 3) := by decide +kernel
theorem d_Model_asksNow_28 : decode y_Model_asksNow.2.1 28 = .ok (.aload_n 0, 1) := by decide +kernel
theorem d_Model_asksNow_29 : decode y_Model_asksNow.2.1 29 = .ok (.getfield 25, 3) := by decide +kernel
theorem d_Model_asksNow_32 : decode y_Model_asksNow.2.1 32 = .ok (.iload_n 2, 1) := by decide +kernel
theorem d_Model_asksNow_33 : decode y_Model_asksNow.2.1 33 = .ok (.iconst 3, 1) := by decide +kernel
theorem d_Model_asksNow_34 : decode y_Model_asksNow.2.1 34 = .ok (.iadd, 1) := by decide +kernel
theorem d_Model_asksNow_35 : decode y_Model_asksNow.2.1 35 = .ok (.iaload, 1) := by decide +kernel
theorem d_Model_asksNow_36 : decode y_Model_asksNow.2.1 36 = .ok (.iconst 1, 1) := by decide +kernel
theorem d_Model_asksNow_37 : decode y_Model_asksNow.2.1 37 = .ok (.if_icmp .ne 7, 3) := by decide +kernel
theorem d_Model_asksNow_40 : decode y_Model_asksNow.2.1 40 = .ok (.iconst 1, 1) := by decide +kernel
theorem d_Model_asksNow_41 : decode y_Model_asksNow.2.1 41 = .ok (.goto 4, 3) := by decide +kernel
theorem d_Model_asksNow_44 : decode y_Model_asksNow.2.1 44 = .ok (.iconst 0, 1) := by decide +kernel
theorem d_Model_asksNow_45 : decode y_Model_asksNow.2.1 45 = .ok (.ireturn, 1) := by decide +kernel
theorem d_Model_asksNow_46 : decode y_Model_asksNow.2.1 46 = .ok (.aload_n 0, 1) := by decide +kernel
theorem d_Model_asksNow_47 : decode y_Model_asksNow.2.1 47 = .ok (.getfield 7, 3) := by decide +kernel
theorem d_Model_asksNow_50 : decode y_Model_asksNow.2.1 50 = .ok (.iload_n 1, 1) := by decide +kernel
theorem d_Model_asksNow_51 : decode y_Model_asksNow.2.1 51 = .ok (.iaload, 1) := by decide +kernel
theorem d_Model_asksNow_52 : decode y_Model_asksNow.2.1 52 = .ok (.iconst 3, 1) := by decide +kernel
theorem d_Model_asksNow_53 : decode y_Model_asksNow.2.1 53 = .ok (.if_icmp .ne 53, 3) := by decide +kernel
theorem d_Model_asksNow_56 : decode y_Model_asksNow.2.1 56 = .ok (.aload_n 0, 1) := by decide +kernel
theorem d_Model_asksNow_57 : decode y_Model_asksNow.2.1 57 = .ok (.getfield 25, 3) := by decide +kernel
theorem d_Model_asksNow_60 : decode y_Model_asksNow.2.1 60 = .ok (.iload_n 2, 1) := by decide +kernel
theorem d_Model_asksNow_61 : decode y_Model_asksNow.2.1 61 = .ok (.iconst 2, 1) := by decide +kernel
theorem d_Model_asksNow_62 : decode y_Model_asksNow.2.1 62 = .ok (.iadd, 1) := by decide +kernel
theorem d_Model_asksNow_63 : decode y_Model_asksNow.2.1 63 = .ok (.iaload, 1) := by decide +kernel
theorem d_Model_asksNow_64 : decode y_Model_asksNow.2.1 64 = .ok (.iconst 1, 1) := by decide +kernel
theorem d_Model_asksNow_65 : decode y_Model_asksNow.2.1 65 = .ok (.iand, 1) := by decide +kernel
theorem d_Model_asksNow_66 : decode y_Model_asksNow.2.1 66 = .ok (.ifCond .eq 12, 3) := by decide +kernel
theorem d_Model_asksNow_69 : decode y_Model_asksNow.2.1 69 = .ok (.aload_n 0, 1) := by decide +kernel
theorem d_Model_asksNow_70 : decode y_Model_asksNow.2.1 70 = .ok (.getfield 34, 3) := by decide +kernel
theorem d_Model_asksNow_73 : decode y_Model_asksNow.2.1 73 = .ok (.iload_n 1, 1) := by decide +kernel
theorem d_Model_asksNow_74 : decode y_Model_asksNow.2.1 74 = .ok (.iaload, 1) := by decide +kernel
theorem d_Model_asksNow_75 : decode y_Model_asksNow.2.1 75 = .ok (.ifCond .gt 25, 3) := by decide +kernel
theorem d_Model_asksNow_78 : decode y_Model_asksNow.2.1 78 = .ok (.aload_n 0, 1) := by decide +kernel
theorem d_Model_asksNow_79 : decode y_Model_asksNow.2.1 79 = .ok (.getfield 25, 3) := by decide +kernel
theorem d_Model_asksNow_82 : decode y_Model_asksNow.2.1 82 = .ok (.iload_n 2, 1) := by decide +kernel
theorem d_Model_asksNow_83 : decode y_Model_asksNow.2.1 83 = .ok (.iconst 2, 1) := by decide +kernel
theorem d_Model_asksNow_84 : decode y_Model_asksNow.2.1 84 = .ok (.iadd, 1) := by decide +kernel
theorem d_Model_asksNow_85 : decode y_Model_asksNow.2.1 85 = .ok (.iaload, 1) := by decide +kernel
theorem d_Model_asksNow_86 : decode y_Model_asksNow.2.1 86 = .ok (.iconst 2, 1) := by decide +kernel
theorem d_Model_asksNow_87 : decode y_Model_asksNow.2.1 87 = .ok (.iand, 1) := by decide +kernel
theorem d_Model_asksNow_88 : decode y_Model_asksNow.2.1 88 = .ok (.ifCond .eq 16, 3) := by decide +kernel
theorem d_Model_asksNow_91 : decode y_Model_asksNow.2.1 91 = .ok (.aload_n 0, 1) := by decide +kernel
theorem d_Model_asksNow_92 : decode y_Model_asksNow.2.1 92 = .ok (.getfield 28, 3) := by decide +kernel
theorem d_Model_asksNow_95 : decode y_Model_asksNow.2.1 95 = .ok (.iload_n 1, 1) := by decide +kernel
theorem d_Model_asksNow_96 : decode y_Model_asksNow.2.1 96 = .ok (.iaload, 1) := by decide +kernel
theorem d_Model_asksNow_97 : decode y_Model_asksNow.2.1 97 = .ok (.ifCond .ne 7, 3) := by decide +kernel
theorem d_Model_asksNow_100 : decode y_Model_asksNow.2.1 100 = .ok (.iconst 1, 1) := by decide +kernel
theorem d_Model_asksNow_101 : decode y_Model_asksNow.2.1 101 = .ok (.goto 4, 3) := by decide +kernel
theorem d_Model_asksNow_104 : decode y_Model_asksNow.2.1 104 = .ok (.iconst 0, 1) := by decide +kernel
theorem d_Model_asksNow_105 : decode y_Model_asksNow.2.1 105 = .ok (.ireturn, 1) := by decide +kernel
theorem d_Model_asksNow_106 : decode y_Model_asksNow.2.1 106 = .ok (.aload_n 0, 1) := by decide +kernel
theorem d_Model_asksNow_107 : decode y_Model_asksNow.2.1 107 = .ok (.getfield 7, 3) := by decide +kernel
theorem d_Model_asksNow_110 : decode y_Model_asksNow.2.1 110 = .ok (.iload_n 1, 1) := by decide +kernel
theorem d_Model_asksNow_111 : decode y_Model_asksNow.2.1 111 = .ok (.iaload, 1) := by decide +kernel
theorem d_Model_asksNow_112 : decode y_Model_asksNow.2.1 112 = .ok (.iconst 4, 1) := by decide +kernel
theorem d_Model_asksNow_113 : decode y_Model_asksNow.2.1 113 = .ok (.if_icmp .ne 19, 3) := by decide +kernel
theorem d_Model_asksNow_116 : decode y_Model_asksNow.2.1 116 = .ok (.aload_n 0, 1) := by decide +kernel
theorem d_Model_asksNow_117 : decode y_Model_asksNow.2.1 117 = .ok (.getfield 25, 3) := by decide +kernel
theorem d_Model_asksNow_120 : decode y_Model_asksNow.2.1 120 = .ok (.iload_n 2, 1) := by decide +kernel
theorem d_Model_asksNow_121 : decode y_Model_asksNow.2.1 121 = .ok (.iconst 2, 1) := by decide +kernel
theorem d_Model_asksNow_122 : decode y_Model_asksNow.2.1 122 = .ok (.iadd, 1) := by decide +kernel
theorem d_Model_asksNow_123 : decode y_Model_asksNow.2.1 123 = .ok (.iaload, 1) := by decide +kernel
theorem d_Model_asksNow_124 : decode y_Model_asksNow.2.1 124 = .ok (.iconst 1, 1) := by decide +kernel
theorem d_Model_asksNow_125 : decode y_Model_asksNow.2.1 125 = .ok (.if_icmp .ne 7, 3) := by decide +kernel
theorem d_Model_asksNow_128 : decode y_Model_asksNow.2.1 128 = .ok (.iconst 1, 1) := by decide +kernel
theorem d_Model_asksNow_129 : decode y_Model_asksNow.2.1 129 = .ok (.goto 4, 3) := by decide +kernel
theorem d_Model_asksNow_132 : decode y_Model_asksNow.2.1 132 = .ok (.iconst 0, 1) := by decide +kernel
theorem d_Model_asksNow_133 : decode y_Model_asksNow.2.1 133 = .ok (.ireturn, 1) := by decide +kernel
theorem d_Model_lookAtLines_0 : decode y_Model_lookAtLines.2.1 0 = .ok (.iconst 0, 1) := by decide +kernel
theorem d_Model_lookAtLines_1 : decode y_Model_lookAtLines.2.1 1 = .ok (.istore_n 1, 1) := by decide +kernel
theorem d_Model_lookAtLines_2 : decode y_Model_lookAtLines.2.1 2 = .ok (.iload_n 1, 1) := by decide +kernel
theorem d_Model_lookAtLines_3 : decode y_Model_lookAtLines.2.1 3 = .ok (.bipush 16, 2) := by decide +kernel
theorem d_Model_lookAtLines_5 : decode y_Model_lookAtLines.2.1 5 = .ok (.if_icmp .ge 112, 3) := by decide +kernel
theorem d_Model_lookAtLines_8 : decode y_Model_lookAtLines.2.1 8 = .ok (.iconst 0, 1) := by decide +kernel
theorem d_Model_lookAtLines_9 : decode y_Model_lookAtLines.2.1 9 = .ok (.istore_n 2, 1) := by decide +kernel
theorem d_Model_lookAtLines_10 : decode y_Model_lookAtLines.2.1 10 = .ok (.iconst 0, 1) := by decide +kernel
theorem d_Model_lookAtLines_11 : decode y_Model_lookAtLines.2.1 11 = .ok (.istore_n 3, 1) := by decide +kernel
theorem d_Model_lookAtLines_12 : decode y_Model_lookAtLines.2.1 12 = .ok (.iload_n 3, 1) := by decide +kernel
theorem d_Model_lookAtLines_13 : decode y_Model_lookAtLines.2.1 13 = .ok (.aload_n 0, 1) := by decide +kernel
theorem d_Model_lookAtLines_14 : decode y_Model_lookAtLines.2.1 14 = .ok (.getfield 78, 3) := by decide +kernel
theorem d_Model_lookAtLines_17 : decode y_Model_lookAtLines.2.1 17 = .ok (.if_icmp .ge 37, 3) := by decide +kernel
theorem d_Model_lookAtLines_20 : decode y_Model_lookAtLines.2.1 20 = .ok (.iload_n 2, 1) := by decide +kernel
theorem d_Model_lookAtLines_21 : decode y_Model_lookAtLines.2.1 21 = .ok (.ifCond .ne 21, 3) := by decide +kernel
theorem d_Model_lookAtLines_24 : decode y_Model_lookAtLines.2.1 24 = .ok (.aload_n 0, 1) := by decide +kernel
theorem d_Model_lookAtLines_25 : decode y_Model_lookAtLines.2.1 25 = .ok (.getfield 19, 3) := by decide +kernel
theorem d_Model_lookAtLines_28 : decode y_Model_lookAtLines.2.1 28 = .ok (.iload_n 3, 1) := by decide +kernel
theorem d_Model_lookAtLines_29 : decode y_Model_lookAtLines.2.1 29 = .ok (.iaload, 1) := by decide +kernel
theorem d_Model_lookAtLines_30 : decode y_Model_lookAtLines.2.1 30 = .ok (.iload_n 1, 1) := by decide +kernel
theorem d_Model_lookAtLines_31 : decode y_Model_lookAtLines.2.1 31 = .ok (.if_icmp .ne 15, 3) := by decide +kernel
theorem d_Model_lookAtLines_34 : decode y_Model_lookAtLines.2.1 34 = .ok (.aload_n 0, 1) := by decide +kernel
theorem d_Model_lookAtLines_35 : decode y_Model_lookAtLines.2.1 35 = .ok (.iload_n 3, 1) := by decide +kernel
theorem d_Model_lookAtLines_36 : decode y_Model_lookAtLines.2.1 36 = .ok (.invokevirtual 100, 3) := by decide +kernel
theorem d_Model_lookAtLines_39 : decode y_Model_lookAtLines.2.1 39 = .ok (.ifCond .eq 7, 3) := by decide +kernel
theorem d_Model_lookAtLines_42 : decode y_Model_lookAtLines.2.1 42 = .ok (.iconst 1, 1) := by decide +kernel
theorem d_Model_lookAtLines_43 : decode y_Model_lookAtLines.2.1 43 = .ok (.goto 4, 3) := by decide +kernel
theorem d_Model_lookAtLines_46 : decode y_Model_lookAtLines.2.1 46 = .ok (.iconst 0, 1) := by decide +kernel
theorem d_Model_lookAtLines_47 : decode y_Model_lookAtLines.2.1 47 = .ok (.istore_n 2, 1) := by decide +kernel
theorem d_Model_lookAtLines_48 : decode y_Model_lookAtLines.2.1 48 = .ok (.iinc 3 1, 3) := by decide +kernel
theorem d_Model_lookAtLines_51 : decode y_Model_lookAtLines.2.1 51 = .ok (.goto (-39), 3) := by decide +kernel
theorem d_Model_lookAtLines_54 : decode y_Model_lookAtLines.2.1 54 = .ok (.aload_n 0, 1) := by decide +kernel
theorem d_Model_lookAtLines_55 : decode y_Model_lookAtLines.2.1 55 = .ok (.getfield 49, 3) := by decide +kernel
theorem d_Model_lookAtLines_58 : decode y_Model_lookAtLines.2.1 58 = .ok (.iload_n 1, 1) := by decide +kernel
theorem d_Model_lookAtLines_59 : decode y_Model_lookAtLines.2.1 59 = .ok (.iaload, 1) := by decide +kernel
theorem d_Model_lookAtLines_60 : decode y_Model_lookAtLines.2.1 60 = .ok (.iconst 1, 1) := by decide +kernel
theorem d_Model_lookAtLines_61 : decode y_Model_lookAtLines.2.1 61 = .ok (.if_icmp .ne 16, 3) := by decide +kernel
theorem d_Model_lookAtLines_64 : decode y_Model_lookAtLines.2.1 64 = .ok (.iload_n 2, 1) := by decide +kernel
theorem d_Model_lookAtLines_65 : decode y_Model_lookAtLines.2.1 65 = .ok (.ifCond .eq 12, 3) := by decide +kernel
theorem d_Model_lookAtLines_68 : decode y_Model_lookAtLines.2.1 68 = .ok (.aload_n 0, 1) := by decide +kernel
theorem d_Model_lookAtLines_69 : decode y_Model_lookAtLines.2.1 69 = .ok (.getfield 59, 3) := by decide +kernel
theorem d_Model_lookAtLines_72 : decode y_Model_lookAtLines.2.1 72 = .ok (.iload_n 1, 1) := by decide +kernel
theorem d_Model_lookAtLines_73 : decode y_Model_lookAtLines.2.1 73 = .ok (.baload, 1) := by decide +kernel
theorem d_Model_lookAtLines_74 : decode y_Model_lookAtLines.2.1 74 = .ok (.ifCond .eq 23, 3) := by decide +kernel
theorem d_Model_lookAtLines_77 : decode y_Model_lookAtLines.2.1 77 = .ok (.aload_n 0, 1) := by decide +kernel
theorem d_Model_lookAtLines_78 : decode y_Model_lookAtLines.2.1 78 = .ok (.getfield 49, 3) := by decide +kernel
theorem d_Model_lookAtLines_81 : decode y_Model_lookAtLines.2.1 81 = .ok (.iload_n 1, 1) := by decide +kernel
theorem d_Model_lookAtLines_82 : decode y_Model_lookAtLines.2.1 82 = .ok (.iaload, 1) := by decide +kernel
theorem d_Model_lookAtLines_83 : decode y_Model_lookAtLines.2.1 83 = .ok (.iconst 2, 1) := by decide +kernel
theorem d_Model_lookAtLines_84 : decode y_Model_lookAtLines.2.1 84 = .ok (.if_icmp .ne 20, 3) := by decide +kernel
theorem d_Model_lookAtLines_87 : decode y_Model_lookAtLines.2.1 87 = .ok (.iload_n 2, 1) := by decide +kernel
theorem d_Model_lookAtLines_88 : decode y_Model_lookAtLines.2.1 88 = .ok (.aload_n 0, 1) := by decide +kernel
theorem d_Model_lookAtLines_89 : decode y_Model_lookAtLines.2.1 89 = .ok (.getfield 59, 3) := by decide +kernel
theorem d_Model_lookAtLines_92 : decode y_Model_lookAtLines.2.1 92 = .ok (.iload_n 1, 1) := by decide +kernel
theorem d_Model_lookAtLines_93 : decode y_Model_lookAtLines.2.1 93 = .ok (.baload, 1) := by decide +kernel
theorem d_Model_lookAtLines_94 : decode y_Model_lookAtLines.2.1 94 = .ok (.if_icmp .eq 10, 3) := by decide +kernel
theorem d_Model_lookAtLines_97 : decode y_Model_lookAtLines.2.1 97 = .ok (.aload_n 0, 1) := by decide +kernel
theorem d_Model_lookAtLines_98 : decode y_Model_lookAtLines.2.1 98 = .ok (.getfield 62, 3) := by decide +kernel
theorem d_Model_lookAtLines_101 : decode y_Model_lookAtLines.2.1 101 = .ok (.iload_n 1, 1) := by decide +kernel
theorem d_Model_lookAtLines_102 : decode y_Model_lookAtLines.2.1 102 = .ok (.iconst 1, 1) := by decide +kernel
theorem d_Model_lookAtLines_103 : decode y_Model_lookAtLines.2.1 103 = .ok (.bastore, 1) := by decide +kernel
theorem d_Model_lookAtLines_104 : decode y_Model_lookAtLines.2.1 104 = .ok (.aload_n 0, 1) := by decide +kernel
theorem d_Model_lookAtLines_105 : decode y_Model_lookAtLines.2.1 105 = .ok (.getfield 59, 3) := by decide +kernel
theorem d_Model_lookAtLines_108 : decode y_Model_lookAtLines.2.1 108 = .ok (.iload_n 1, 1) := by decide +kernel
theorem d_Model_lookAtLines_109 : decode y_Model_lookAtLines.2.1 109 = .ok (.iload_n 2, 1) := by decide +kernel
theorem d_Model_lookAtLines_110 : decode y_Model_lookAtLines.2.1 110 = .ok (.bastore, 1) := by decide +kernel
theorem d_Model_lookAtLines_111 : decode y_Model_lookAtLines.2.1 111 = .ok (.iinc 1 1, 3) := by decide +kernel
theorem d_Model_lookAtLines_114 : decode y_Model_lookAtLines.2.1 114 = .ok (.goto (-112), 3) := by decide +kernel
theorem d_Model_lookAtLines_117 : decode y_Model_lookAtLines.2.1 117 = .ok (.return_, 1) := by decide +kernel
theorem d_Model_timerStep_0 : decode y_Model_timerStep.2.1 0 = .ok (.aload_n 0, 1) := by decide +kernel
theorem d_Model_timerStep_1 : decode y_Model_timerStep.2.1 1 = .ok (.getfield 25, 3) := by decide +kernel
theorem d_Model_timerStep_4 : decode y_Model_timerStep.2.1 4 = .ok (.iload_n 1, 1) := by decide +kernel
theorem d_Model_timerStep_5 : decode y_Model_timerStep.2.1 5 = .ok (.iconst 2, 1) := by decide +kernel
theorem d_Model_timerStep_6 : decode y_Model_timerStep.2.1 6 = .ok (.iadd, 1) := by decide +kernel
theorem d_Model_timerStep_7 : decode y_Model_timerStep.2.1 7 = .ok (.iaload, 1) := by decide +kernel
theorem d_Model_timerStep_8 : decode y_Model_timerStep.2.1 8 = .ok (.iconst 1, 1) := by decide +kernel
theorem d_Model_timerStep_9 : decode y_Model_timerStep.2.1 9 = .ok (.iand, 1) := by decide +kernel
theorem d_Model_timerStep_10 : decode y_Model_timerStep.2.1 10 = .ok (.ifCond .ne 5, 3) := by decide +kernel
theorem d_Model_timerStep_13 : decode y_Model_timerStep.2.1 13 = .ok (.iconst 0, 1) := by decide +kernel
theorem d_Model_timerStep_14 : decode y_Model_timerStep.2.1 14 = .ok (.ireturn, 1) := by decide +kernel
theorem d_Model_timerStep_15 : decode y_Model_timerStep.2.1 15 = .ok (.aload_n 0, 1) := by decide +kernel
theorem d_Model_timerStep_16 : decode y_Model_timerStep.2.1 16 = .ok (.getfield 25, 3) := by decide +kernel
theorem d_Model_timerStep_19 : decode y_Model_timerStep.2.1 19 = .ok (.iload_n 1, 1) := by decide +kernel
theorem d_Model_timerStep_20 : decode y_Model_timerStep.2.1 20 = .ok (.dup2, 1) := by decide +kernel
theorem d_Model_timerStep_21 : decode y_Model_timerStep.2.1 21 = .ok (.iaload, 1) := by decide +kernel
theorem d_Model_timerStep_22 : decode y_Model_timerStep.2.1 22 = .ok (.iconst 1, 1) := by decide +kernel
theorem d_Model_timerStep_23 : decode y_Model_timerStep.2.1 23 = .ok (.iadd, 1) := by decide +kernel
theorem d_Model_timerStep_24 : decode y_Model_timerStep.2.1 24 = .ok (.iastore, 1) := by decide +kernel
theorem d_Model_timerStep_25 : decode y_Model_timerStep.2.1 25 = .ok (.aload_n 0, 1) := by decide +kernel
theorem d_Model_timerStep_26 : decode y_Model_timerStep.2.1 26 = .ok (.getfield 25, 3) := by decide +kernel
theorem d_Model_timerStep_29 : decode y_Model_timerStep.2.1 29 = .ok (.iload_n 1, 1) := by decide +kernel
theorem d_Model_timerStep_30 : decode y_Model_timerStep.2.1 30 = .ok (.iaload, 1) := by decide +kernel
theorem d_Model_timerStep_31 : decode y_Model_timerStep.2.1 31 = .ok (.aload_n 0, 1) := by decide +kernel
theorem d_Model_timerStep_32 : decode y_Model_timerStep.2.1 32 = .ok (.getfield 25, 3) := by decide +kernel
theorem d_Model_timerStep_35 : decode y_Model_timerStep.2.1 35 = .ok (.iload_n 1, 1) := by decide +kernel
theorem d_Model_timerStep_36 : decode y_Model_timerStep.2.1 36 = .ok (.iconst 1, 1) := by decide +kernel
theorem d_Model_timerStep_37 : decode y_Model_timerStep.2.1 37 = .ok (.iadd, 1) := by decide +kernel
theorem d_Model_timerStep_38 : decode y_Model_timerStep.2.1 38 = .ok (.iaload, 1) := by decide +kernel
theorem d_Model_timerStep_39 : decode y_Model_timerStep.2.1 39 = .ok (.if_icmp .eq 5, 3) := by decide +kernel
theorem d_Model_timerStep_42 : decode y_Model_timerStep.2.1 42 = .ok (.iconst 0, 1) := by decide +kernel
theorem d_Model_timerStep_43 : decode y_Model_timerStep.2.1 43 = .ok (.ireturn, 1) := by decide +kernel
theorem d_Model_timerStep_44 : decode y_Model_timerStep.2.1 44 = .ok (.aload_n 0, 1) := by decide +kernel
theorem d_Model_timerStep_45 : decode y_Model_timerStep.2.1 45 = .ok (.getfield 25, 3) := by decide +kernel
theorem d_Model_timerStep_48 : decode y_Model_timerStep.2.1 48 = .ok (.iload_n 1, 1) := by decide +kernel
theorem d_Model_timerStep_49 : decode y_Model_timerStep.2.1 49 = .ok (.iconst 3, 1) := by decide +kernel
theorem d_Model_timerStep_50 : decode y_Model_timerStep.2.1 50 = .ok (.iadd, 1) := by decide +kernel
theorem d_Model_timerStep_51 : decode y_Model_timerStep.2.1 51 = .ok (.iconst 1, 1) := by decide +kernel
theorem d_Model_timerStep_52 : decode y_Model_timerStep.2.1 52 = .ok (.iastore, 1) := by decide +kernel
theorem d_Model_timerStep_53 : decode y_Model_timerStep.2.1 53 = .ok (.aload_n 0, 1) := by decide +kernel
theorem d_Model_timerStep_54 : decode y_Model_timerStep.2.1 54 = .ok (.getfield 25, 3) := by decide +kernel
theorem d_Model_timerStep_57 : decode y_Model_timerStep.2.1 57 = .ok (.iload_n 1, 1) := by decide +kernel
theorem d_Model_timerStep_58 : decode y_Model_timerStep.2.1 58 = .ok (.iconst 2, 1) := by decide +kernel
theorem d_Model_timerStep_59 : decode y_Model_timerStep.2.1 59 = .ok (.iadd, 1) := by decide +kernel
theorem d_Model_timerStep_60 : decode y_Model_timerStep.2.1 60 = .ok (.iaload, 1) := by decide +kernel
theorem d_Model_timerStep_61 : decode y_Model_timerStep.2.1 61 = .ok (.iconst 2, 1) := by decide +kernel
theorem d_Model_timerStep_62 : decode y_Model_timerStep.2.1 62 = .ok (.iand, 1) := by decide +kernel
theorem d_Model_timerStep_63 : decode y_Model_timerStep.2.1 63 = .ok (.ifCond .eq 13, 3) := by decide +kernel
theorem d_Model_timerStep_66 : decode y_Model_timerStep.2.1 66 = .ok (.aload_n 0, 1) := by decide +kernel
theorem d_Model_timerStep_67 : decode y_Model_timerStep.2.1 67 = .ok (.getfield 25, 3) := by decide +kernel
theorem d_Model_timerStep_70 : decode y_Model_timerStep.2.1 70 = .ok (.iload_n 1, 1) := by decide +kernel
theorem d_Model_timerStep_71 : decode y_Model_timerStep.2.1 71 = .ok (.iconst 0, 1) := by decide +kernel
theorem d_Model_timerStep_72 : decode y_Model_timerStep.2.1 72 = .ok (.iastore, 1) := by decide +kernel
theorem d_Model_timerStep_73 : decode y_Model_timerStep.2.1 73 = .ok (.goto 16, 3) := by decide +kernel
theorem d_Model_timerStep_76 : decode y_Model_timerStep.2.1 76 = .ok (.aload_n 0, 1) := by decide +kernel
theorem d_Model_timerStep_77 : decode y_Model_timerStep.2.1 77 = .ok (.getfield 25, 3) := by decide +kernel
theorem d_Model_timerStep_80 : decode y_Model_timerStep.2.1 80 = .ok (.iload_n 1, 1) := by decide +kernel
theorem d_Model_timerStep_81 : decode y_Model_timerStep.2.1 81 = .ok (.iconst 2, 1) := by decide +kernel
theorem d_Model_timerStep_82 : decode y_Model_timerStep.2.1 82 = .ok (.iadd, 1) := by decide +kernel
theorem d_Model_timerStep_83 : decode y_Model_timerStep.2.1 83 = .ok (.dup2, 1) := by decide +kernel
theorem d_Model_timerStep_84 : decode y_Model_timerStep.2.1 84 = .ok (.iaload, 1) := by decide +kernel
theorem d_Model_timerStep_85 : decode y_Model_timerStep.2.1 85 = .ok (.bipush 14, 2) := by decide +kernel
theorem d_Model_timerStep_87 : decode y_Model_timerStep.2.1 87 = .ok (.iand, 1) := by decide +kernel
theorem d_Model_timerStep_88 : decode y_Model_timerStep.2.1 88 = .ok (.iastore, 1) := by decide +kernel
theorem d_Model_timerStep_89 : decode y_Model_timerStep.2.1 89 = .ok (.aload_n 0, 1) := by decide +kernel
theorem d_Model_timerStep_90 : decode y_Model_timerStep.2.1 90 = .ok (.getfield 25, 3) := by decide +kernel
theorem d_Model_timerStep_93 : decode y_Model_timerStep.2.1 93 = .ok (.iload_n 1, 1) := by decide +kernel
theorem d_Model_timerStep_94 : decode y_Model_timerStep.2.1 94 = .ok (.iconst 2, 1) := by decide +kernel
theorem d_Model_timerStep_95 : decode y_Model_timerStep.2.1 95 = .ok (.iadd, 1) := by decide +kernel
theorem d_Model_timerStep_96 : decode y_Model_timerStep.2.1 96 = .ok (.iaload, 1) := by decide +kernel
theorem d_Model_timerStep_97 : decode y_Model_timerStep.2.1 97 = .ok (.bipush 8, 2) := by decide +kernel
theorem d_Model_timerStep_99 : decode y_Model_timerStep.2.1 99 = .ok (.iand, 1) := by decide +kernel
theorem d_Model_timerStep_100 : decode y_Model_timerStep.2.1 100 = .ok (.ifCond .eq 7, 3) := by decide +kernel
theorem d_Model_timerStep_103 : decode y_Model_timerStep.2.1 103 = .ok (.iconst 1, 1) := by decide +kernel
theorem d_Model_timerStep_104 : decode y_Model_timerStep.2.1 104 = .ok (.goto 4, 3) := by decide +kernel
theorem d_Model_timerStep_107 : decode y_Model_timerStep.2.1 107 = .ok (.iconst 0, 1) := by decide +kernel
theorem d_Model_timerStep_108 : decode y_Model_timerStep.2.1 108 = .ok (.ireturn, 1) := by decide +kernel
theorem d_Model_sendStep_0 : decode y_Model_sendStep.2.1 0 = .ok (.aload_n 0, 1) := by decide +kernel
theorem d_Model_sendStep_1 : decode y_Model_sendStep.2.1 1 = .ok (.getfield 28, 3) := by decide +kernel
theorem d_Model_sendStep_4 : decode y_Model_sendStep.2.1 4 = .ok (.iload_n 1, 1) := by decide +kernel
theorem d_Model_sendStep_5 : decode y_Model_sendStep.2.1 5 = .ok (.iaload, 1) := by decide +kernel
theorem d_Model_sendStep_6 : decode y_Model_sendStep.2.1 6 = .ok (.ifCond .ne 4, 3) := by decide +kernel
theorem d_Model_sendStep_9 : decode y_Model_sendStep.2.1 9 = .ok (.return_, 1) := by decide +kernel
theorem d_Model_sendStep_10 : decode y_Model_sendStep.2.1 10 = .ok (.aload_n 0, 1) := by decide +kernel
theorem d_Model_sendStep_11 : decode y_Model_sendStep.2.1 11 = .ok (.getfield 28, 3) := by decide +kernel
theorem d_Model_sendStep_14 : decode y_Model_sendStep.2.1 14 = .ok (.iload_n 1, 1) := by decide +kernel
theorem d_Model_sendStep_15 : decode y_Model_sendStep.2.1 15 = .ok (.dup2, 1) := by decide +kernel
theorem d_Model_sendStep_16 : decode y_Model_sendStep.2.1 16 = .ok (.iaload, 1) := by decide +kernel
theorem d_Model_sendStep_17 : decode y_Model_sendStep.2.1 17 = .ok (.iconst 1, 1) := by decide +kernel
theorem d_Model_sendStep_18 : decode y_Model_sendStep.2.1 18 = .ok (.isub, 1) := by decide +kernel
theorem d_Model_sendStep_19 : decode y_Model_sendStep.2.1 19 = .ok (.iastore, 1) := by decide +kernel
theorem d_Model_sendStep_20 : decode y_Model_sendStep.2.1 20 = .ok (.aload_n 0, 1) := by decide +kernel
theorem d_Model_sendStep_21 : decode y_Model_sendStep.2.1 21 = .ok (.getfield 28, 3) := by decide +kernel
theorem d_Model_sendStep_24 : decode y_Model_sendStep.2.1 24 = .ok (.iload_n 1, 1) := by decide +kernel
theorem d_Model_sendStep_25 : decode y_Model_sendStep.2.1 25 = .ok (.iaload, 1) := by decide +kernel
theorem d_Model_sendStep_26 : decode y_Model_sendStep.2.1 26 = .ok (.ifCond .le 4, 3) := by decide +kernel
theorem d_Model_sendStep_29 : decode y_Model_sendStep.2.1 29 = .ok (.return_, 1) := by decide +kernel
theorem d_Model_sendStep_30 : decode y_Model_sendStep.2.1 30 = .ok (.aload_n 0, 1) := by decide +kernel
theorem d_Model_sendStep_31 : decode y_Model_sendStep.2.1 31 = .ok (.getfield 40, 3) := by decide +kernel
theorem d_Model_sendStep_34 : decode y_Model_sendStep.2.1 34 = .ok (.iload_n 1, 1) := by decide +kernel
theorem d_Model_sendStep_35 : decode y_Model_sendStep.2.1 35 = .ok (.iaload, 1) := by decide +kernel
theorem d_Model_sendStep_36 : decode y_Model_sendStep.2.1 36 = .ok (.bipush 32, 2) := by decide +kernel
theorem d_Model_sendStep_38 : decode y_Model_sendStep.2.1 38 = .ok (.if_icmp .lt 41, 3) := by decide +kernel
theorem d_Model_sendStep_41 : decode y_Model_sendStep.2.1 41 = .ok (.iconst 1, 1) := by decide +kernel
theorem d_Model_sendStep_42 : decode y_Model_sendStep.2.1 42 = .ok (.istore_n 2, 1) := by decide +kernel
theorem d_Model_sendStep_43 : decode y_Model_sendStep.2.1 43 = .ok (.iload_n 2, 1) := by decide +kernel
theorem d_Model_sendStep_44 : decode y_Model_sendStep.2.1 44 = .ok (.bipush 32, 2) := by decide +kernel
theorem d_Model_sendStep_46 : decode y_Model_sendStep.2.1 46 = .ok (.if_icmp .ge 33, 3) := by decide +kernel
theorem d_Model_sendStep_49 : decode y_Model_sendStep.2.1 49 = .ok (.aload_n 0, 1) := by decide +kernel
theorem d_Model_sendStep_50 : decode y_Model_sendStep.2.1 50 = .ok (.getfield 43, 3) := by decide +kernel
theorem d_Model_sendStep_53 : decode y_Model_sendStep.2.1 53 = .ok (.bipush 32, 2) := by decide +kernel
theorem d_Model_sendStep_55 : decode y_Model_sendStep.2.1 55 = .ok (.iload_n 1, 1) := by decide +kernel
theorem d_Model_sendStep_56 : decode y_Model_sendStep.2.1 56 = .ok (.imul, 1) := by decide +kernel
theorem d_Model_sendStep_57 : decode y_Model_sendStep.2.1 57 = .ok (.iload_n 2, 1) := by decide +kernel
theorem d_Model_sendStep_58 : decode y_Model_sendStep.2.1 58 = .ok (.iadd, 1) := by decide +kernel
theorem d_Model_sendStep_59 : decode y_Model_sendStep.2.1 59 = .ok (.iconst 1, 1) := by decide +kernel
theorem d_Model_sendStep_60 : decode y_Model_sendStep.2.1 60 = .ok (.isub, 1) := by decide +kernel
theorem d_Model_sendStep_61 : decode y_Model_sendStep.2.1 61 = .ok (.aload_n 0, 1) := by decide +kernel
theorem d_Model_sendStep_62 : decode y_Model_sendStep.2.1 62 = .ok (.getfield 43, 3) := by decide +kernel
theorem d_Model_sendStep_65 : decode y_Model_sendStep.2.1 65 = .ok (.bipush 32, 2) := by decide +kernel
theorem d_Model_sendStep_67 : decode y_Model_sendStep.2.1 67 = .ok (.iload_n 1, 1) := by decide +kernel
theorem d_Model_sendStep_68 : decode y_Model_sendStep.2.1 68 = .ok (.imul, 1) := by decide +kernel
theorem d_Model_sendStep_69 : decode y_Model_sendStep.2.1 69 = .ok (.iload_n 2, 1) := by decide +kernel
theorem d_Model_sendStep_70 : decode y_Model_sendStep.2.1 70 = .ok (.iadd, 1) := by decide +kernel
theorem d_Model_sendStep_71 : decode y_Model_sendStep.2.1 71 = .ok (.iaload, 1) := by decide +kernel
theorem d_Model_sendStep_72 : decode y_Model_sendStep.2.1 72 = .ok (.iastore, 1) := by decide +kernel
theorem d_Model_sendStep_73 : decode y_Model_sendStep.2.1 73 = .ok (.iinc 2 1, 3) := by decide +kernel
theorem d_Model_sendStep_76 : decode y_Model_sendStep.2.1 76 = .ok (.goto (-33), 3) := by decide +kernel
theorem d_Model_sendStep_79 : decode y_Model_sendStep.2.1 79 = .ok (.aload_n 0, 1) := by decide +kernel
theorem d_Model_sendStep_80 : decode y_Model_sendStep.2.1 80 = .ok (.getfield 43, 3) := by decide +kernel
theorem d_Model_sendStep_83 : decode y_Model_sendStep.2.1 83 = .ok (.bipush 32, 2) := by decide +kernel
theorem d_Model_sendStep_85 : decode y_Model_sendStep.2.1 85 = .ok (.iload_n 1, 1) := by decide +kernel
theorem d_Model_sendStep_86 : decode y_Model_sendStep.2.1 86 = .ok (.imul, 1) := by decide +kernel
theorem d_Model_sendStep_87 : decode y_Model_sendStep.2.1 87 = .ok (.aload_n 0, 1) := by decide +kernel
theorem d_Model_sendStep_88 : decode y_Model_sendStep.2.1 88 = .ok (.getfield 40, 3) := by decide +kernel
theorem d_Model_sendStep_91 : decode y_Model_sendStep.2.1 91 = .ok (.iload_n 1, 1) := by decide +kernel
theorem d_Model_sendStep_92 : decode y_Model_sendStep.2.1 92 = .ok (.iaload, 1) := by decide +kernel
theorem d_Model_sendStep_93 : decode y_Model_sendStep.2.1 93 = .ok (.bipush 32, 2) := by decide +kernel
theorem d_Model_sendStep_95 : decode y_Model_sendStep.2.1 95 = .ok (.if_icmp .ge 12, 3) := by decide +kernel
theorem d_Model_sendStep_98 : decode y_Model_sendStep.2.1 98 = .ok (.aload_n 0, 1) := by decide +kernel
theorem d_Model_sendStep_99 : decode y_Model_sendStep.2.1 99 = .ok (.getfield 40, 3) := by decide +kernel
theorem d_Model_sendStep_102 : decode y_Model_sendStep.2.1 102 = .ok (.iload_n 1, 1) := by decide +kernel
theorem d_Model_sendStep_103 : decode y_Model_sendStep.2.1 103 = .ok (.iaload, 1) := by decide +kernel
theorem d_Model_sendStep_104 : decode y_Model_sendStep.2.1 104 = .ok (.goto 5, 3) := by decide +kernel
theorem d_Model_sendStep_107 : decode y_Model_sendStep.2.1 107 = .ok (.bipush 31, 2) := by decide +kernel
theorem d_Model_sendStep_109 : decode y_Model_sendStep.2.1 109 = .ok (.iadd, 1) := by decide +kernel
theorem d_Model_sendStep_110 : decode y_Model_sendStep.2.1 110 = .ok (.aload_n 0, 1) := by decide +kernel
theorem d_Model_sendStep_111 : decode y_Model_sendStep.2.1 111 = .ok (.getfield 31, 3) := by decide +kernel
theorem d_Model_sendStep_114 : decode y_Model_sendStep.2.1 114 = .ok (.iload_n 1, 1) := by decide +kernel
theorem d_Model_sendStep_115 : decode y_Model_sendStep.2.1 115 = .ok (.iaload, 1) := by decide +kernel
theorem d_Model_sendStep_116 : decode y_Model_sendStep.2.1 116 = .ok (.iastore, 1) := by decide +kernel
theorem d_Model_sendStep_117 : decode y_Model_sendStep.2.1 117 = .ok (.aload_n 0, 1) := by decide +kernel
theorem d_Model_sendStep_118 : decode y_Model_sendStep.2.1 118 = .ok (.getfield 40, 3) := by decide +kernel
theorem d_Model_sendStep_121 : decode y_Model_sendStep.2.1 121 = .ok (.iload_n 1, 1) := by decide +kernel
theorem d_Model_sendStep_122 : decode y_Model_sendStep.2.1 122 = .ok (.dup2, 1) := by decide +kernel
theorem d_Model_sendStep_123 : decode y_Model_sendStep.2.1 123 = .ok (.iaload, 1) := by decide +kernel
theorem d_Model_sendStep_124 : decode y_Model_sendStep.2.1 124 = .ok (.iconst 1, 1) := by decide +kernel
theorem d_Model_sendStep_125 : decode y_Model_sendStep.2.1 125 = .ok (.iadd, 1) := by decide +kernel
theorem d_Model_sendStep_126 : decode y_Model_sendStep.2.1 126 = .ok (.iastore, 1) := by decide +kernel
theorem d_Model_sendStep_127 : decode y_Model_sendStep.2.1 127 = .ok (.return_, 1) := by decide +kernel
theorem d_Model_rowStep_0 : decode y_Model_rowStep.2.1 0 = .ok (.bipush 64, 2) := by decide +kernel
theorem d_Model_rowStep_2 : decode y_Model_rowStep.2.1 2 = .ok (.iload_n 1, 1) := by decide +kernel
theorem d_Model_rowStep_3 : decode y_Model_rowStep.2.1 3 = .ok (.imul, 1) := by decide +kernel
theorem d_Model_rowStep_4 : decode y_Model_rowStep.2.1 4 = .ok (.istore_n 2, 1) := by decide +kernel
theorem d_Model_rowStep_5 : decode y_Model_rowStep.2.1 5 = .ok (.aload_n 0, 1) := by decide +kernel
theorem d_Model_rowStep_6 : decode y_Model_rowStep.2.1 6 = .ok (.getfield 28, 3) := by decide +kernel
theorem d_Model_rowStep_9 : decode y_Model_rowStep.2.1 9 = .ok (.iload_n 1, 1) := by decide +kernel
theorem d_Model_rowStep_10 : decode y_Model_rowStep.2.1 10 = .ok (.iaload, 1) := by decide +kernel
theorem d_Model_rowStep_11 : decode y_Model_rowStep.2.1 11 = .ok (.ifCond .ne 4, 3) := by decide +kernel
theorem d_Model_rowStep_14 : decode y_Model_rowStep.2.1 14 = .ok (.return_, 1) := by decide +kernel
theorem d_Model_rowStep_15 : decode y_Model_rowStep.2.1 15 = .ok (.aload_n 0, 1) := by decide +kernel
theorem d_Model_rowStep_16 : decode y_Model_rowStep.2.1 16 = .ok (.getfield 28, 3) := by decide +kernel
theorem d_Model_rowStep_19 : decode y_Model_rowStep.2.1 19 = .ok (.iload_n 1, 1) := by decide +kernel
theorem d_Model_rowStep_20 : decode y_Model_rowStep.2.1 20 = .ok (.dup2, 1) := by decide +kernel
theorem d_Model_rowStep_21 : decode y_Model_rowStep.2.1 21 = .ok (.iaload, 1) := by decide +kernel
theorem d_Model_rowStep_22 : decode y_Model_rowStep.2.1 22 = .ok (.iconst 1, 1) := by decide +kernel
theorem d_Model_rowStep_23 : decode y_Model_rowStep.2.1 23 = .ok (.isub, 1) := by decide +kernel
theorem d_Model_rowStep_24 : decode y_Model_rowStep.2.1 24 = .ok (.iastore, 1) := by decide +kernel
theorem d_Model_rowStep_25 : decode y_Model_rowStep.2.1 25 = .ok (.aload_n 0, 1) := by decide +kernel
theorem d_Model_rowStep_26 : decode y_Model_rowStep.2.1 26 = .ok (.getfield 28, 3) := by decide +kernel
theorem d_Model_rowStep_29 : decode y_Model_rowStep.2.1 29 = .ok (.iload_n 1, 1) := by decide +kernel
theorem d_Model_rowStep_30 : decode y_Model_rowStep.2.1 30 = .ok (.iaload, 1) := by decide +kernel
theorem d_Model_rowStep_31 : decode y_Model_rowStep.2.1 31 = .ok (.ifCond .le 4, 3) := by decide +kernel
theorem d_Model_rowStep_34 : decode y_Model_rowStep.2.1 34 = .ok (.return_, 1) := by decide +kernel
theorem d_Model_rowStep_35 : decode y_Model_rowStep.2.1 35 = .ok (.iconst 0, 1) := by decide +kernel
theorem d_Model_rowStep_36 : decode y_Model_rowStep.2.1 36 = .ok (.istore_n 3, 1) := by decide +kernel
theorem d_Model_rowStep_37 : decode y_Model_rowStep.2.1 37 = .ok (.iload_n 3, 1) := by decide +kernel
theorem d_Model_rowStep_38 : decode y_Model_rowStep.2.1 38 = .ok (.bipush 8, 2) := by decide +kernel
theorem d_Model_rowStep_40 : decode y_Model_rowStep.2.1 40 = .ok (.if_icmp .ge 76, 3) := by decide +kernel
theorem d_Model_rowStep_43 : decode y_Model_rowStep.2.1 43 = .ok (.bipush 64, 2) := by decide +kernel
theorem d_Model_rowStep_45 : decode y_Model_rowStep.2.1 45 = .ok (.iload_n 1, 1) := by decide +kernel
theorem d_Model_rowStep_46 : decode y_Model_rowStep.2.1 46 = .ok (.imul, 1) := by decide +kernel
theorem d_Model_rowStep_47 : decode y_Model_rowStep.2.1 47 = .ok (.bipush 8, 2) := by decide +kernel
theorem d_Model_rowStep_49 : decode y_Model_rowStep.2.1 49 = .ok (.aload_n 0, 1) := by decide +kernel
theorem d_Model_rowStep_50 : decode y_Model_rowStep.2.1 50 = .ok (.getfield 31, 3) := by decide +kernel
theorem d_Model_rowStep_53 : decode y_Model_rowStep.2.1 53 = .ok (.iload_n 1, 1) := by decide +kernel
theorem d_Model_rowStep_54 : decode y_Model_rowStep.2.1 54 = .ok (.iaload, 1) := by decide +kernel
theorem d_Model_rowStep_55 : decode y_Model_rowStep.2.1 55 = .ok (.imul, 1) := by decide +kernel
theorem d_Model_rowStep_56 : decode y_Model_rowStep.2.1 56 = .ok (.iadd, 1) := by decide +kernel
theorem d_Model_rowStep_57 : decode y_Model_rowStep.2.1 57 = .ok (.iload_n 3, 1) := by decide +kernel
theorem d_Model_rowStep_58 : decode y_Model_rowStep.2.1 58 = .ok (.iadd, 1) := by decide +kernel
theorem d_Model_rowStep_59 : decode y_Model_rowStep.2.1 59 = .ok (.istore 4, 2) := by decide +kernel
theorem d_Model_rowStep_61 : decode y_Model_rowStep.2.1 61 = .ok (.aload_n 0, 1) := by decide +kernel
theorem d_Model_rowStep_62 : decode y_Model_rowStep.2.1 62 = .ok (.getfield 25, 3) := by decide +kernel
theorem d_Model_rowStep_65 : decode y_Model_rowStep.2.1 65 = .ok (.iload_n 2, 1) := by decide +kernel
theorem d_Model_rowStep_66 : decode y_Model_rowStep.2.1 66 = .ok (.iconst 1, 1) := by decide +kernel
theorem d_Model_rowStep_67 : decode y_Model_rowStep.2.1 67 = .ok (.iadd, 1) := by decide +kernel
theorem d_Model_rowStep_68 : decode y_Model_rowStep.2.1 68 = .ok (.iaload, 1) := by decide +kernel
theorem d_Model_rowStep_69 : decode y_Model_rowStep.2.1 69 = .ok (.iconst 1, 1) := by decide +kernel
theorem d_Model_rowStep_70 : decode y_Model_rowStep.2.1 70 = .ok (.if_icmp .ne 23, 3) := by decide +kernel
theorem d_Model_rowStep_73 : decode y_Model_rowStep.2.1 73 = .ok (.aload_n 0, 1) := by decide +kernel
theorem d_Model_rowStep_74 : decode y_Model_rowStep.2.1 74 = .ok (.getfield 25, 3) := by decide +kernel
theorem d_Model_rowStep_77 : decode y_Model_rowStep.2.1 77 = .ok (.iload_n 2, 1) := by decide +kernel
theorem d_Model_rowStep_78 : decode y_Model_rowStep.2.1 78 = .ok (.iconst 3, 1) := by decide +kernel
theorem d_Model_rowStep_79 : decode y_Model_rowStep.2.1 79 = .ok (.iadd, 1) := by decide +kernel
theorem d_Model_rowStep_80 : decode y_Model_rowStep.2.1 80 = .ok (.iload_n 3, 1) := by decide +kernel
theorem d_Model_rowStep_81 : decode y_Model_rowStep.2.1 81 = .ok (.iadd, 1) := by decide +kernel
theorem d_Model_rowStep_82 : decode y_Model_rowStep.2.1 82 = .ok (.aload_n 0, 1) := by decide +kernel
theorem d_Model_rowStep_83 : decode y_Model_rowStep.2.1 83 = .ok (.getfield 46, 3) := by decide +kernel
theorem d_Model_rowStep_86 : decode y_Model_rowStep.2.1 86 = .ok (.iload 4, 2) := by decide +kernel
theorem d_Model_rowStep_88 : decode y_Model_rowStep.2.1 88 = .ok (.iaload, 1) := by decide +kernel
theorem d_Model_rowStep_89 : decode y_Model_rowStep.2.1 89 = .ok (.iastore, 1) := by decide +kernel
theorem d_Model_rowStep_90 : decode y_Model_rowStep.2.1 90 = .ok (.goto 20, 3) := by decide +kernel
theorem d_Model_rowStep_93 : decode y_Model_rowStep.2.1 93 = .ok (.aload_n 0, 1) := by decide +kernel
theorem d_Model_rowStep_94 : decode y_Model_rowStep.2.1 94 = .ok (.getfield 46, 3) := by decide +kernel
theorem d_Model_rowStep_97 : decode y_Model_rowStep.2.1 97 = .ok (.iload 4, 2) := by decide +kernel
theorem d_Model_rowStep_99 : decode y_Model_rowStep.2.1 99 = .ok (.aload_n 0, 1) := by decide +kernel
theorem d_Model_rowStep_100 : decode y_Model_rowStep.2.1 100 = .ok (.getfield 25, 3) := by decide +kernel
theorem d_Model_rowStep_103 : decode y_Model_rowStep.2.1 103 = .ok (.iload_n 2, 1) := by decide +kernel
theorem d_Model_rowStep_104 : decode y_Model_rowStep.2.1 104 = .ok (.iconst 3, 1) := by decide +kernel
theorem d_Model_rowStep_105 : decode y_Model_rowStep.2.1 105 = .ok (.iadd, 1) := by decide +kernel
theorem d_Model_rowStep_106 : decode y_Model_rowStep.2.1 106 = .ok (.iload_n 3, 1) := by decide +kernel
theorem d_Model_rowStep_107 : decode y_Model_rowStep.2.1 107 = .ok (.iadd, 1) := by decide +kernel
theorem d_Model_rowStep_108 : decode y_Model_rowStep.2.1 108 = .ok (.iaload, 1) := by decide +kernel
theorem d_Model_rowStep_109 : decode y_Model_rowStep.2.1 109 = .ok (.iastore, 1) := by decide +kernel
theorem d_Model_rowStep_110 : decode y_Model_rowStep.2.1 110 = .ok (.iinc 3 1, 3) := by decide +kernel
theorem d_Model_rowStep_113 : decode y_Model_rowStep.2.1 113 = .ok (.goto (-76), 3) := by decide +kernel
theorem d_Model_rowStep_116 : decode y_Model_rowStep.2.1 116 = .ok (.aload_n 0, 1) := by decide +kernel
theorem d_Model_rowStep_117 : decode y_Model_rowStep.2.1 117 = .ok (.getfield 25, 3) := by decide +kernel
theorem d_Model_rowStep_120 : decode y_Model_rowStep.2.1 120 = .ok (.iload_n 2, 1) := by decide +kernel
theorem d_Model_rowStep_121 : decode y_Model_rowStep.2.1 121 = .ok (.iconst 1, 1) := by decide +kernel
theorem d_Model_rowStep_122 : decode y_Model_rowStep.2.1 122 = .ok (.iadd, 1) := by decide +kernel
theorem d_Model_rowStep_123 : decode y_Model_rowStep.2.1 123 = .ok (.iconst 0, 1) := by decide +kernel
theorem d_Model_rowStep_124 : decode y_Model_rowStep.2.1 124 = .ok (.iastore, 1) := by decide +kernel
theorem d_Model_rowStep_125 : decode y_Model_rowStep.2.1 125 = .ok (.aload_n 0, 1) := by decide +kernel
theorem d_Model_rowStep_126 : decode y_Model_rowStep.2.1 126 = .ok (.getfield 25, 3) := by decide +kernel
theorem d_Model_rowStep_129 : decode y_Model_rowStep.2.1 129 = .ok (.iload_n 2, 1) := by decide +kernel
theorem d_Model_rowStep_130 : decode y_Model_rowStep.2.1 130 = .ok (.iconst 2, 1) := by decide +kernel
theorem d_Model_rowStep_131 : decode y_Model_rowStep.2.1 131 = .ok (.iadd, 1) := by decide +kernel
theorem d_Model_rowStep_132 : decode y_Model_rowStep.2.1 132 = .ok (.iconst 1, 1) := by decide +kernel
theorem d_Model_rowStep_133 : decode y_Model_rowStep.2.1 133 = .ok (.iastore, 1) := by decide +kernel
theorem d_Model_rowStep_134 : decode y_Model_rowStep.2.1 134 = .ok (.return_, 1) := by decide +kernel
theorem d_Model_stepOnce_0 : decode y_Model_stepOnce.2.1 0 = .ok (.aload_n 0, 1) := by decide +kernel
theorem d_Model_stepOnce_1 : decode y_Model_stepOnce.2.1 1 = .ok (.dup, 1) := by decide +kernel
theorem d_Model_stepOnce_2 : decode y_Model_stepOnce.2.1 2 = .ok (.getfield 104, 3) := by decide +kernel
theorem d_Model_stepOnce_5 : decode y_Model_stepOnce.2.1 5 = .ok (.iconst 1, 1) := by decide +kernel
theorem d_Model_stepOnce_6 : decode y_Model_stepOnce.2.1 6 = .ok (.iadd, 1) := by decide +kernel
theorem d_Model_stepOnce_7 : decode y_Model_stepOnce.2.1 7 = .ok (.putfield 104, 3) := by decide +kernel
theorem d_Model_stepOnce_10 : decode y_Model_stepOnce.2.1 10 = .ok (.iconst 0, 1) := by decide +kernel
theorem d_Model_stepOnce_11 : decode y_Model_stepOnce.2.1 11 = .ok (.istore_n 1, 1) := by decide +kernel
theorem d_Model_stepOnce_12 : decode y_Model_stepOnce.2.1 12 = .ok (.iload_n 1, 1) := by decide +kernel
theorem d_Model_stepOnce_13 : decode y_Model_stepOnce.2.1 13 = .ok (.aload_n 0, 1) := by decide +kernel
theorem d_Model_stepOnce_14 : decode y_Model_stepOnce.2.1 14 = .ok (.getfield 78, 3) := by decide +kernel
theorem d_Model_stepOnce_17 : decode y_Model_stepOnce.2.1 17 = .ok (.if_icmp .ge 32, 3) := by decide +kernel
theorem d_Model_stepOnce_20 : decode y_Model_stepOnce.2.1 20 = .ok (.aload_n 0, 1) := by decide +kernel
theorem d_Model_stepOnce_21 : decode y_Model_stepOnce.2.1 21 = .ok (.getfield 7, 3) := by decide +kernel
theorem d_Model_stepOnce_24 : decode y_Model_stepOnce.2.1 24 = .ok (.iload_n 1, 1) := by decide +kernel
theorem d_Model_stepOnce_25 : decode y_Model_stepOnce.2.1 25 = .ok (.iaload, 1) := by decide +kernel
theorem d_Model_stepOnce_26 : decode y_Model_stepOnce.2.1 26 = .ok (.iconst 5, 1) := by decide +kernel
theorem d_Model_stepOnce_27 : decode y_Model_stepOnce.2.1 27 = .ok (.if_icmp .ne 16, 3) := by decide +kernel
theorem d_Model_stepOnce_30 : decode y_Model_stepOnce.2.1 30 = .ok (.aload_n 0, 1) := by decide +kernel
theorem d_Model_stepOnce_31 : decode y_Model_stepOnce.2.1 31 = .ok (.getfield 25, 3) := by decide +kernel
theorem d_Model_stepOnce_34 : decode y_Model_stepOnce.2.1 34 = .ok (.bipush 64, 2) := by decide +kernel
theorem d_Model_stepOnce_36 : decode y_Model_stepOnce.2.1 36 = .ok (.iload_n 1, 1) := by decide +kernel
theorem d_Model_stepOnce_37 : decode y_Model_stepOnce.2.1 37 = .ok (.imul, 1) := by decide +kernel
theorem d_Model_stepOnce_38 : decode y_Model_stepOnce.2.1 38 = .ok (.dup2, 1) := by decide +kernel
theorem d_Model_stepOnce_39 : decode y_Model_stepOnce.2.1 39 = .ok (.iaload, 1) := by decide +kernel
theorem d_Model_stepOnce_40 : decode y_Model_stepOnce.2.1 40 = .ok (.iconst 1, 1) := by decide +kernel
theorem d_Model_stepOnce_41 : decode y_Model_stepOnce.2.1 41 = .ok (.iadd, 1) := by decide +kernel
theorem d_Model_stepOnce_42 : decode y_Model_stepOnce.2.1 42 = .ok (.iastore, 1) := by decide +kernel
theorem d_Model_stepOnce_43 : decode y_Model_stepOnce.2.1 43 = .ok (.iinc 1 1, 3) := by decide +kernel
theorem d_Model_stepOnce_46 : decode y_Model_stepOnce.2.1 46 = .ok (.goto (-34), 3) := by decide +kernel
theorem d_Model_stepOnce_49 : decode y_Model_stepOnce.2.1 49 = .ok (.iconst 0, 1) := by decide +kernel
theorem d_Model_stepOnce_50 : decode y_Model_stepOnce.2.1 50 = .ok (.istore_n 1, 1) := by decide +kernel
theorem d_Model_stepOnce_51 : decode y_Model_stepOnce.2.1 51 = .ok (.iload_n 1, 1) := by decide +kernel
theorem d_Model_stepOnce_52 : decode y_Model_stepOnce.2.1 52 = .ok (.aload_n 0, 1) := by decide +kernel
theorem d_Model_stepOnce_53 : decode y_Model_stepOnce.2.1 53 = .ok (.getfield 78, 3) := by decide +kernel
theorem d_Model_stepOnce_56 : decode y_Model_stepOnce.2.1 56 = .ok (.if_icmp .ge 67, 3) := by decide +kernel
theorem d_Model_stepOnce_59 : decode y_Model_stepOnce.2.1 59 = .ok (.aload_n 0, 1) := by decide +kernel
theorem d_Model_stepOnce_60 : decode y_Model_stepOnce.2.1 60 = .ok (.getfield 7, 3) := by decide +kernel
theorem d_Model_stepOnce_63 : decode y_Model_stepOnce.2.1 63 = .ok (.iload_n 1, 1) := by decide +kernel
theorem d_Model_stepOnce_64 : decode y_Model_stepOnce.2.1 64 = .ok (.iaload, 1) := by decide +kernel
theorem d_Model_stepOnce_65 : decode y_Model_stepOnce.2.1 65 = .ok (.iconst 2, 1) := by decide +kernel
theorem d_Model_stepOnce_66 : decode y_Model_stepOnce.2.1 66 = .ok (.if_icmp .ne 21, 3) := by decide +kernel
theorem d_Model_stepOnce_69 : decode y_Model_stepOnce.2.1 69 = .ok (.aload_n 0, 1) := by decide +kernel
theorem d_Model_stepOnce_70 : decode y_Model_stepOnce.2.1 70 = .ok (.bipush 64, 2) := by decide +kernel
theorem d_Model_stepOnce_72 : decode y_Model_stepOnce.2.1 72 = .ok (.iload_n 1, 1) := by decide +kernel
theorem d_Model_stepOnce_73 : decode y_Model_stepOnce.2.1 73 = .ok (.imul, 1) := by decide +kernel
theorem d_Model_stepOnce_74 : decode y_Model_stepOnce.2.1 74 = .ok (.invokevirtual 107, 3) := by decide +kernel
theorem d_Model_stepOnce_77 : decode y_Model_stepOnce.2.1 77 = .ok (.ifCond .eq 10, 3) := by decide +kernel
theorem d_Model_stepOnce_80 : decode y_Model_stepOnce.2.1 80 = .ok (.aload_n 0, 1) := by decide +kernel
theorem d_Model_stepOnce_81 : decode y_Model_stepOnce.2.1 81 = .ok (.iconst 2, 1) := by decide +kernel
theorem d_Model_stepOnce_82 : decode y_Model_stepOnce.2.1 82 = .ok (.invokevirtual 110, 3) := by decide +kernel
theorem d_Model_stepOnce_85 : decode y_Model_stepOnce.2.1 85 = .ok (.iconst 1, 1) := by decide +kernel
theorem d_Model_stepOnce_86 : decode y_Model_stepOnce.2.1 86 = .ok (.ireturn, 1) := by decide +kernel
theorem d_Model_stepOnce_87 : decode y_Model_stepOnce.2.1 87 = .ok (.aload_n 0, 1) := by decide +kernel
theorem d_Model_stepOnce_88 : decode y_Model_stepOnce.2.1 88 = .ok (.getfield 7, 3) := by decide +kernel
theorem d_Model_stepOnce_91 : decode y_Model_stepOnce.2.1 91 = .ok (.iload_n 1, 1) := by decide +kernel
theorem d_Model_stepOnce_92 : decode y_Model_stepOnce.2.1 92 = .ok (.iaload, 1) := by decide +kernel
theorem d_Model_stepOnce_93 : decode y_Model_stepOnce.2.1 93 = .ok (.iconst 3, 1) := by decide +kernel
theorem d_Model_stepOnce_94 : decode y_Model_stepOnce.2.1 94 = .ok (.if_icmp .ne 8, 3) := by decide +kernel
theorem d_Model_stepOnce_97 : decode y_Model_stepOnce.2.1 97 = .ok (.aload_n 0, 1) := by decide +kernel
theorem d_Model_stepOnce_98 : decode y_Model_stepOnce.2.1 98 = .ok (.iload_n 1, 1) := by decide +kernel
theorem d_Model_stepOnce_99 : decode y_Model_stepOnce.2.1 99 = .ok (.invokevirtual 114, 3) := by decide +kernel
theorem d_Model_stepOnce_102 : decode y_Model_stepOnce.2.1 102 = .ok (.aload_n 0, 1) := by decide +kernel
theorem d_Model_stepOnce_103 : decode y_Model_stepOnce.2.1 103 = .ok (.getfield 7, 3) := by decide +kernel
theorem d_Model_stepOnce_106 : decode y_Model_stepOnce.2.1 106 = .ok (.iload_n 1, 1) := by decide +kernel
theorem d_Model_stepOnce_107 : decode y_Model_stepOnce.2.1 107 = .ok (.iaload, 1) := by decide +kernel
theorem d_Model_stepOnce_108 : decode y_Model_stepOnce.2.1 108 = .ok (.iconst 4, 1) := by decide +kernel
theorem d_Model_stepOnce_109 : decode y_Model_stepOnce.2.1 109 = .ok (.if_icmp .ne 8, 3) := by decide +kernel
theorem d_Model_stepOnce_112 : decode y_Model_stepOnce.2.1 112 = .ok (.aload_n 0, 1) := by decide +kernel
theorem d_Model_stepOnce_113 : decode y_Model_stepOnce.2.1 113 = .ok (.iload_n 1, 1) := by decide +kernel
theorem d_Model_stepOnce_114 : decode y_Model_stepOnce.2.1 114 = .ok (.invokevirtual 117, 3) := by decide +kernel
theorem d_Model_stepOnce_117 : decode y_Model_stepOnce.2.1 117 = .ok (.iinc 1 1, 3) := by decide +kernel
theorem d_Model_stepOnce_120 : decode y_Model_stepOnce.2.1 120 = .ok (.goto (-69), 3) := by decide +kernel
theorem d_Model_stepOnce_123 : decode y_Model_stepOnce.2.1 123 = .ok (.aload_n 0, 1) := by decide +kernel
theorem d_Model_stepOnce_124 : decode y_Model_stepOnce.2.1 124 = .ok (.invokevirtual 120, 3) := by decide +kernel
theorem d_Model_stepOnce_127 : decode y_Model_stepOnce.2.1 127 = .ok (.iconst 0, 1) := by decide +kernel
theorem d_Model_stepOnce_128 : decode y_Model_stepOnce.2.1 128 = .ok (.ireturn, 1) := by decide +kernel
theorem d_Model_step_0 : decode y_Model_step.2.1 0 = .ok (.aload_n 0, 1) := by decide +kernel
theorem d_Model_step_1 : decode y_Model_step.2.1 1 = .ok (.iconst 0, 1) := by decide +kernel
theorem d_Model_step_2 : decode y_Model_step.2.1 2 = .ok (.putfield 65, 3) := by decide +kernel
theorem d_Model_step_5 : decode y_Model_step.2.1 5 = .ok (.iload_n 1, 1) := by decide +kernel
theorem d_Model_step_6 : decode y_Model_step.2.1 6 = .ok (.iconst 1, 1) := by decide +kernel
theorem d_Model_step_7 : decode y_Model_step.2.1 7 = .ok (.sipush 1000, 3) := by decide +kernel
theorem d_Model_step_10 : decode y_Model_step.2.1 10 = .ok (.invokestatic 69, 3) := by decide +kernel
theorem d_Model_step_13 : decode y_Model_step.2.1 13 = .ok (.ifCond .ne 17, 3) := by decide +kernel
theorem d_Model_step_16 : decode y_Model_step.2.1 16 = .ok (.aload_n 0, 1) := by decide +kernel
theorem d_Model_step_17 : decode y_Model_step.2.1 17 = .ok (.iconst 1, 1) := by decide +kernel
theorem d_Model_step_18 : decode y_Model_step.2.1 18 = .ok (.invokevirtual 81, 3) := by decide +kernel
theorem d_Model_step_21 : decode y_Model_step.2.1 21 = .ok (.ifCond .le 7, 3) := by decide +kernel
theorem d_Model_step_24 : decode y_Model_step.2.1 24 = .ok (.iconst 1, 1) := by decide +kernel
theorem d_Model_step_25 : decode y_Model_step.2.1 25 = .ok (.goto 4, 3) := by decide +kernel
theorem d_Model_step_28 : decode y_Model_step.2.1 28 = .ok (.iconst 0, 1) := by decide +kernel
theorem d_Model_step_29 : decode y_Model_step.2.1 29 = .ok (.ireturn, 1) := by decide +kernel
theorem d_Model_step_30 : decode y_Model_step.2.1 30 = .ok (.iconst 0, 1) := by decide +kernel
theorem d_Model_step_31 : decode y_Model_step.2.1 31 = .ok (.istore_n 2, 1) := by decide +kernel
theorem d_Model_step_32 : decode y_Model_step.2.1 32 = .ok (.iconst 0, 1) := by decide +kernel
theorem d_Model_step_33 : decode y_Model_step.2.1 33 = .ok (.istore_n 3, 1) := by decide +kernel
theorem d_Model_step_34 : decode y_Model_step.2.1 34 = .ok (.iload_n 3, 1) := by decide +kernel
theorem d_Model_step_35 : decode y_Model_step.2.1 35 = .ok (.iload_n 1, 1) := by decide +kernel
theorem d_Model_step_36 : decode y_Model_step.2.1 36 = .ok (.if_icmp .ge 26, 3) := by decide +kernel
theorem d_Model_step_39 : decode y_Model_step.2.1 39 = .ok (.aload_n 0, 1) := by decide +kernel
theorem d_Model_step_40 : decode y_Model_step.2.1 40 = .ok (.invokevirtual 123, 3) := by decide +kernel
theorem d_Model_step_43 : decode y_Model_step.2.1 43 = .ok (.ifCond .ne 7, 3) := by decide +kernel
theorem d_Model_step_46 : decode y_Model_step.2.1 46 = .ok (.iload_n 2, 1) := by decide +kernel
theorem d_Model_step_47 : decode y_Model_step.2.1 47 = .ok (.ifCond .eq 7, 3) := by decide +kernel
theorem d_Model_step_50 : decode y_Model_step.2.1 50 = .ok (.iconst 1, 1) := by decide +kernel
theorem d_Model_step_51 : decode y_Model_step.2.1 51 = .ok (.goto 4, 3) := by decide +kernel
theorem d_Model_step_54 : decode y_Model_step.2.1 54 = .ok (.iconst 0, 1) := by decide +kernel
theorem d_Model_step_55 : decode y_Model_step.2.1 55 = .ok (.istore_n 2, 1) := by decide +kernel
theorem d_Model_step_56 : decode y_Model_step.2.1 56 = .ok (.iinc 3 1, 3) := by decide +kernel
theorem d_Model_step_59 : decode y_Model_step.2.1 59 = .ok (.goto (-25), 3) := by decide +kernel
theorem d_Model_step_62 : decode y_Model_step.2.1 62 = .ok (.iload_n 2, 1) := by decide +kernel
theorem d_Model_step_63 : decode y_Model_step.2.1 63 = .ok (.ireturn, 1) := by decide +kernel
theorem d_Model_countAll_0 : decode y_Model_countAll.2.1 0 = .ok (.iload_n 1, 1) := by decide +kernel
theorem d_Model_countAll_1 : decode y_Model_countAll.2.1 1 = .ok (.iconst 1, 1) := by decide +kernel
theorem d_Model_countAll_2 : decode y_Model_countAll.2.1 2 = .ok (.if_icmp .ne 16, 3) := by decide +kernel
theorem d_Model_countAll_5 : decode y_Model_countAll.2.1 5 = .ok (.aload_n 0, 1) := by decide +kernel
theorem d_Model_countAll_6 : decode y_Model_countAll.2.1 6 = .ok (.dup, 1) := by decide +kernel
theorem d_Model_countAll_7 : decode y_Model_countAll.2.1 7 = .ok (.getfield 91, 3) := by decide +kernel
theorem d_Model_countAll_10 : decode y_Model_countAll.2.1 10 = .ok (.iconst 1, 1) := by decide +kernel
theorem d_Model_countAll_11 : decode y_Model_countAll.2.1 11 = .ok (.iadd, 1) := by decide +kernel
theorem d_Model_countAll_12 : decode y_Model_countAll.2.1 12 = .ok (.putfield 91, 3) := by decide +kernel
theorem d_Model_countAll_15 : decode y_Model_countAll.2.1 15 = .ok (.goto 31, 3) := by decide +kernel
theorem d_Model_countAll_18 : decode y_Model_countAll.2.1 18 = .ok (.iload_n 1, 1) := by decide +kernel
theorem d_Model_countAll_19 : decode y_Model_countAll.2.1 19 = .ok (.iconst 2, 1) := by decide +kernel
theorem d_Model_countAll_20 : decode y_Model_countAll.2.1 20 = .ok (.if_icmp .ne 16, 3) := by decide +kernel
theorem d_Model_countAll_23 : decode y_Model_countAll.2.1 23 = .ok (.aload_n 0, 1) := by decide +kernel
theorem d_Model_countAll_24 : decode y_Model_countAll.2.1 24 = .ok (.dup, 1) := by decide +kernel
theorem d_Model_countAll_25 : decode y_Model_countAll.2.1 25 = .ok (.getfield 94, 3) := by decide +kernel
theorem d_Model_countAll_28 : decode y_Model_countAll.2.1 28 = .ok (.iconst 1, 1) := by decide +kernel
theorem d_Model_countAll_29 : decode y_Model_countAll.2.1 29 = .ok (.iadd, 1) := by decide +kernel
theorem d_Model_countAll_30 : decode y_Model_countAll.2.1 30 = .ok (.putfield 94, 3) := by decide +kernel
theorem d_Model_countAll_33 : decode y_Model_countAll.2.1 33 = .ok (.goto 13, 3) := by decide +kernel
theorem d_Model_countAll_36 : decode y_Model_countAll.2.1 36 = .ok (.aload_n 0, 1) := by decide +kernel
theorem d_Model_countAll_37 : decode y_Model_countAll.2.1 37 = .ok (.dup, 1) := by decide +kernel
theorem d_Model_countAll_38 : decode y_Model_countAll.2.1 38 = .ok (.getfield 97, 3) := by decide +kernel
theorem d_Model_countAll_41 : decode y_Model_countAll.2.1 41 = .ok (.iconst 1, 1) := by decide +kernel
theorem d_Model_countAll_42 : decode y_Model_countAll.2.1 42 = .ok (.iadd, 1) := by decide +kernel
theorem d_Model_countAll_43 : decode y_Model_countAll.2.1 43 = .ok (.putfield 97, 3) := by decide +kernel
theorem d_Model_countAll_46 : decode y_Model_countAll.2.1 46 = .ok (.iconst 0, 1) := by decide +kernel
theorem d_Model_countAll_47 : decode y_Model_countAll.2.1 47 = .ok (.istore_n 2, 1) := by decide +kernel
theorem d_Model_countAll_48 : decode y_Model_countAll.2.1 48 = .ok (.iload_n 2, 1) := by decide +kernel
theorem d_Model_countAll_49 : decode y_Model_countAll.2.1 49 = .ok (.aload_n 0, 1) := by decide +kernel
theorem d_Model_countAll_50 : decode y_Model_countAll.2.1 50 = .ok (.getfield 78, 3) := by decide +kernel
theorem d_Model_countAll_53 : decode y_Model_countAll.2.1 53 = .ok (.if_icmp .ge 34, 3) := by decide +kernel
theorem d_Model_countAll_56 : decode y_Model_countAll.2.1 56 = .ok (.aload_n 0, 1) := by decide +kernel
theorem d_Model_countAll_57 : decode y_Model_countAll.2.1 57 = .ok (.getfield 7, 3) := by decide +kernel
theorem d_Model_countAll_60 : decode y_Model_countAll.2.1 60 = .ok (.iload_n 2, 1) := by decide +kernel
theorem d_Model_countAll_61 : decode y_Model_countAll.2.1 61 = .ok (.iaload, 1) := by decide +kernel
theorem d_Model_countAll_62 : decode y_Model_countAll.2.1 62 = .ok (.iconst 5, 1) := by decide +kernel
theorem d_Model_countAll_63 : decode y_Model_countAll.2.1 63 = .ok (.if_icmp .ne 18, 3) := by decide +kernel
theorem d_Model_countAll_66 : decode y_Model_countAll.2.1 66 = .ok (.aload_n 0, 1) := by decide +kernel
theorem d_Model_countAll_67 : decode y_Model_countAll.2.1 67 = .ok (.getfield 25, 3) := by decide +kernel
theorem d_Model_countAll_70 : decode y_Model_countAll.2.1 70 = .ok (.bipush 64, 2) := by decide +kernel
theorem d_Model_countAll_72 : decode y_Model_countAll.2.1 72 = .ok (.iload_n 2, 1) := by decide +kernel
theorem d_Model_countAll_73 : decode y_Model_countAll.2.1 73 = .ok (.imul, 1) := by decide +kernel
theorem d_Model_countAll_74 : decode y_Model_countAll.2.1 74 = .ok (.iload_n 1, 1) := by decide +kernel
theorem d_Model_countAll_75 : decode y_Model_countAll.2.1 75 = .ok (.iadd, 1) := by decide +kernel
theorem d_Model_countAll_76 : decode y_Model_countAll.2.1 76 = .ok (.dup2, 1) := by decide +kernel
theorem d_Model_countAll_77 : decode y_Model_countAll.2.1 77 = .ok (.iaload, 1) := by decide +kernel
theorem d_Model_countAll_78 : decode y_Model_countAll.2.1 78 = .ok (.iconst 1, 1) := by decide +kernel
theorem d_Model_countAll_79 : decode y_Model_countAll.2.1 79 = .ok (.iadd, 1) := by decide +kernel
theorem d_Model_countAll_80 : decode y_Model_countAll.2.1 80 = .ok (.iastore, 1) := by decide +kernel
theorem d_Model_countAll_81 : decode y_Model_countAll.2.1 81 = .ok (.iinc 2 1, 3) := by decide +kernel
theorem d_Model_countAll_84 : decode y_Model_countAll.2.1 84 = .ok (.goto (-36), 3) := by decide +kernel
theorem d_Model_countAll_87 : decode y_Model_countAll.2.1 87 = .ok (.return_, 1) := by decide +kernel
theorem d_Model_waitFor_0 : decode y_Model_waitFor.2.1 0 = .ok (.iconst 0, 1) := by decide +kernel
theorem d_Model_waitFor_1 : decode y_Model_waitFor.2.1 1 = .ok (.istore_n 2, 1) := by decide +kernel
theorem d_Model_waitFor_2 : decode y_Model_waitFor.2.1 2 = .ok (.iload_n 2, 1) := by decide +kernel
theorem d_Model_waitFor_3 : decode y_Model_waitFor.2.1 3 = .ok (.aload_n 0, 1) := by decide +kernel
theorem d_Model_waitFor_4 : decode y_Model_waitFor.2.1 4 = .ok (.getfield 22, 3) := by decide +kernel
theorem d_Model_waitFor_7 : decode y_Model_waitFor.2.1 7 = .ok (.iload_n 1, 1) := by decide +kernel
theorem d_Model_waitFor_8 : decode y_Model_waitFor.2.1 8 = .ok (.iaload, 1) := by decide +kernel
theorem d_Model_waitFor_9 : decode y_Model_waitFor.2.1 9 = .ok (.if_icmp .gt 14, 3) := by decide +kernel
theorem d_Model_waitFor_12 : decode y_Model_waitFor.2.1 12 = .ok (.aload_n 0, 1) := by decide +kernel
theorem d_Model_waitFor_13 : decode y_Model_waitFor.2.1 13 = .ok (.invokevirtual 123, 3) := by decide +kernel
theorem d_Model_waitFor_16 : decode y_Model_waitFor.2.1 16 = .ok (.pop, 1) := by decide +kernel
theorem d_Model_waitFor_17 : decode y_Model_waitFor.2.1 17 = .ok (.iinc 2 1, 3) := by decide +kernel
theorem d_Model_waitFor_20 : decode y_Model_waitFor.2.1 20 = .ok (.goto (-18), 3) := by decide +kernel
theorem d_Model_waitFor_23 : decode y_Model_waitFor.2.1 23 = .ok (.return_, 1) := by decide +kernel
