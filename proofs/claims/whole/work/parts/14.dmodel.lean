theorem d_Model_takeIn_0 : decode y_Model_takeIn.2.1 0 = .ok (.aload_n 0, 1) := by decide +kernel
theorem d_Model_takeIn_1 : decode y_Model_takeIn.2.1 1 = .ok (.getfield 34, 3) := by decide +kernel
theorem d_Model_takeIn_4 : decode y_Model_takeIn.2.1 4 = .ok (.iload_n 1, 1) := by decide +kernel
theorem d_Model_takeIn_5 : decode y_Model_takeIn.2.1 5 = .ok (.iaload, 1) := by decide +kernel
theorem d_Model_takeIn_6 : decode y_Model_takeIn.2.1 6 = .ok (.ifCond .ne 5, 3) := by decide +kernel
theorem d_Model_takeIn_9 : decode y_Model_takeIn.2.1 9 = .ok (.iconst 0, 1) := by decide +kernel
theorem d_Model_takeIn_10 : decode y_Model_takeIn.2.1 10 = .ok (.ireturn, 1) := by decide +kernel
theorem d_Model_takeIn_11 : decode y_Model_takeIn.2.1 11 = .ok (.aload_n 0, 1) := by decide +kernel
theorem d_Model_takeIn_12 : decode y_Model_takeIn.2.1 12 = .ok (.getfield 37, 3) := by decide +kernel
theorem d_Model_takeIn_15 : decode y_Model_takeIn.2.1 15 = .ok (.bipush 32, 2) := by decide +kernel
theorem d_Model_takeIn_17 : decode y_Model_takeIn.2.1 17 = .ok (.iload_n 1, 1) := by decide +kernel
theorem d_Model_takeIn_18 : decode y_Model_takeIn.2.1 18 = .ok (.imul, 1) := by decide +kernel
theorem d_Model_takeIn_19 : decode y_Model_takeIn.2.1 19 = .ok (.iaload, 1) := by decide +kernel
theorem d_Model_takeIn_20 : decode y_Model_takeIn.2.1 20 = .ok (.istore_n 2, 1) := by decide +kernel
theorem d_Model_takeIn_21 : decode y_Model_takeIn.2.1 21 = .ok (.aload_n 0, 1) := by decide +kernel
theorem d_Model_takeIn_22 : decode y_Model_takeIn.2.1 22 = .ok (.getfield 34, 3) := by decide +kernel
theorem d_Model_takeIn_25 : decode y_Model_takeIn.2.1 25 = .ok (.iload_n 1, 1) := by decide +kernel
theorem d_Model_takeIn_26 : decode y_Model_takeIn.2.1 26 = .ok (.dup2, 1) := by decide +kernel
theorem d_Model_takeIn_27 : decode y_Model_takeIn.2.1 27 = .ok (.iaload, 1) := by decide +kernel
theorem d_Model_takeIn_28 : decode y_Model_takeIn.2.1 28 = .ok (.iconst 1, 1) := by decide +kernel
theorem d_Model_takeIn_29 : decode y_Model_takeIn.2.1 29 = .ok (.isub, 1) := by decide +kernel
theorem d_Model_takeIn_30 : decode y_Model_takeIn.2.1 30 = .ok (.iastore, 1) := by decide +kernel
theorem d_Model_takeIn_31 : decode y_Model_takeIn.2.1 31 = .ok (.iconst 0, 1) := by decide +kernel
theorem d_Model_takeIn_32 : decode y_Model_takeIn.2.1 32 = .ok (.istore_n 3, 1) := by decide +kernel
theorem d_Model_takeIn_33 : decode y_Model_takeIn.2.1 33 = .ok (.iload_n 3, 1) := by decide +kernel
theorem d_Model_takeIn_34 : decode y_Model_takeIn.2.1 34 = .ok (.aload_n 0, 1) := by decide +kernel
theorem d_Model_takeIn_35 : decode y_Model_takeIn.2.1 35 = .ok (.getfield 34, 3) := by decide +kernel
theorem d_Model_takeIn_38 : decode y_Model_takeIn.2.1 38 = .ok (.iload_n 1, 1) := by decide +kernel
theorem d_Model_takeIn_39 : decode y_Model_takeIn.2.1 39 = .ok (.iaload, 1) := by decide +kernel
theorem d_Model_takeIn_40 : decode y_Model_takeIn.2.1 40 = .ok (.if_icmp .ge 33, 3) := by decide +kernel
theorem d_Model_takeIn_43 : decode y_Model_takeIn.2.1 43 = .ok (.aload_n 0, 1) := by decide +kernel
theorem d_Model_takeIn_44 : decode y_Model_takeIn.2.1 44 = .ok (.getfield 37, 3) := by decide +kernel
theorem d_Model_takeIn_47 : decode y_Model_takeIn.2.1 47 = .ok (.bipush 32, 2) := by decide +kernel
theorem d_Model_takeIn_49 : decode y_Model_takeIn.2.1 49 = .ok (.iload_n 1, 1) := by decide +kernel
theorem d_Model_takeIn_50 : decode y_Model_takeIn.2.1 50 = .ok (.imul, 1) := by decide +kernel
theorem d_Model_takeIn_51 : decode y_Model_takeIn.2.1 51 = .ok (.iload_n 3, 1) := by decide +kernel
theorem d_Model_takeIn_52 : decode y_Model_takeIn.2.1 52 = .ok (.iadd, 1) := by decide +kernel
theorem d_Model_takeIn_53 : decode y_Model_takeIn.2.1 53 = .ok (.aload_n 0, 1) := by decide +kernel
theorem d_Model_takeIn_54 : decode y_Model_takeIn.2.1 54 = .ok (.getfield 37, 3) := by decide +kernel
theorem d_Model_takeIn_57 : decode y_Model_takeIn.2.1 57 = .ok (.bipush 32, 2) := by decide +kernel
theorem d_Model_takeIn_59 : decode y_Model_takeIn.2.1 59 = .ok (.iload_n 1, 1) := by decide +kernel
theorem d_Model_takeIn_60 : decode y_Model_takeIn.2.1 60 = .ok (.imul, 1) := by decide +kernel
theorem d_Model_takeIn_61 : decode y_Model_takeIn.2.1 61 = .ok (.iload_n 3, 1) := by decide +kernel
theorem d_Model_takeIn_62 : decode y_Model_takeIn.2.1 62 = .ok (.iadd, 1) := by decide +kernel
theorem d_Model_takeIn_63 : decode y_Model_takeIn.2.1 63 = .ok (.iconst 1, 1) := by decide +kernel
theorem d_Model_takeIn_64 : decode y_Model_takeIn.2.1 64 = .ok (.iadd, 1) := by decide +kernel
theorem d_Model_takeIn_65 : decode y_Model_takeIn.2.1 65 = .ok (.iaload, 1) := by decide +kernel
theorem d_Model_takeIn_66 : decode y_Model_takeIn.2.1 66 = .ok (.iastore, 1) := by decide +kernel
theorem d_Model_takeIn_67 : decode y_Model_takeIn.2.1 67 = .ok (.iinc 3 1, 3) := by decide +kernel
theorem d_Model_takeIn_70 : decode y_Model_takeIn.2.1 70 = .ok (.goto (-37), 3) := by decide +kernel
theorem d_Model_takeIn_73 : decode y_Model_takeIn.2.1 73 = .ok (.iload_n 2, 1) := by decide +kernel
theorem d_Model_takeIn_74 : decode y_Model_takeIn.2.1 74 = .ok (.ireturn, 1) := by decide +kernel
theorem d_Model_read_0 : decode y_Model_read.2.1 0 = .ok (.aload_n 0, 1) := by decide +kernel
theorem d_Model_read_1 : decode y_Model_read.2.1 1 = .ok (.iconst 0, 1) := by decide +kernel
theorem d_Model_read_2 : decode y_Model_read.2.1 2 = .ok (.putfield 65, 3) := by decide +kernel
theorem d_Model_read_5 : decode y_Model_read.2.1 5 = .ok (.iload_n 1, 1) := by decide +kernel
theorem d_Model_read_6 : decode y_Model_read.2.1 6 = .ok (.iconst 0, 1) := by decide +kernel
theorem d_Model_read_7 : decode y_Model_read.2.1 7 = .ok (.ldc 127, 2) := by decide +kernel
theorem d_Model_read_9 : decode y_Model_read.2.1 9 = .ok (.invokestatic 69, 3) := by decide +kernel
theorem d_Model_read_12 : decode y_Model_read.2.1 12 = .ok (.ifCond .ne 9, 3) := by decide +kernel
theorem d_Model_read_15 : decode y_Model_read.2.1 15 = .ok (.aload_n 0, 1) := by decide +kernel
theorem d_Model_read_16 : decode y_Model_read.2.1 16 = .ok (.iconst 1, 1) := by decide +kernel
theorem d_Model_read_17 : decode y_Model_read.2.1 17 = .ok (.invokevirtual 81, 3) := by decide +kernel
theorem d_Model_read_20 : decode y_Model_read.2.1 20 = .ok (.ireturn, 1) := by decide +kernel
theorem d_Model_read_21 : decode y_Model_read.2.1 21 = .ok (.aload_n 0, 1) := by decide +kernel
theorem d_Model_read_22 : decode y_Model_read.2.1 22 = .ok (.iload_n 1, 1) := by decide +kernel
theorem d_Model_read_23 : decode y_Model_read.2.1 23 = .ok (.invokevirtual 85, 3) := by decide +kernel
theorem d_Model_read_26 : decode y_Model_read.2.1 26 = .ok (.istore_n 2, 1) := by decide +kernel
theorem d_Model_read_27 : decode y_Model_read.2.1 27 = .ok (.iload_n 2, 1) := by decide +kernel
theorem d_Model_read_28 : decode y_Model_read.2.1 28 = .ok (.ifCond .ge 14, 3) := by decide +kernel
theorem d_Model_read_31 : decode y_Model_read.2.1 31 = .ok (.aload_n 0, 1) := by decide +kernel
theorem d_Model_read_32 : decode y_Model_read.2.1 32 = .ok (.iconst 3, 1) := by decide +kernel
theorem d_Model_read_33 : decode y_Model_read.2.1 33 = .ok (.invokevirtual 128, 3) := by decide +kernel
theorem d_Model_read_36 : decode y_Model_read.2.1 36 = .ok (.aload_n 0, 1) := by decide +kernel
theorem d_Model_read_37 : decode y_Model_read.2.1 37 = .ok (.iconst 2, 1) := by decide +kernel
theorem d_Model_read_38 : decode y_Model_read.2.1 38 = .ok (.invokevirtual 81, 3) := by decide +kernel
theorem d_Model_read_41 : decode y_Model_read.2.1 41 = .ok (.ireturn, 1) := by decide +kernel
theorem d_Model_read_42 : decode y_Model_read.2.1 42 = .ok (.aload_n 0, 1) := by decide +kernel
theorem d_Model_read_43 : decode y_Model_read.2.1 43 = .ok (.iload_n 2, 1) := by decide +kernel
theorem d_Model_read_44 : decode y_Model_read.2.1 44 = .ok (.invokevirtual 131, 3) := by decide +kernel
theorem d_Model_read_47 : decode y_Model_read.2.1 47 = .ok (.aload_n 0, 1) := by decide +kernel
theorem d_Model_read_48 : decode y_Model_read.2.1 48 = .ok (.iconst 1, 1) := by decide +kernel
theorem d_Model_read_49 : decode y_Model_read.2.1 49 = .ok (.invokevirtual 128, 3) := by decide +kernel
theorem d_Model_read_52 : decode y_Model_read.2.1 52 = .ok (.iload_n 1, 1) := by decide +kernel
theorem d_Model_read_53 : decode y_Model_read.2.1 53 = .ok (.aload_n 0, 1) := by decide +kernel
theorem d_Model_read_54 : decode y_Model_read.2.1 54 = .ok (.getfield 13, 3) := by decide +kernel
theorem d_Model_read_57 : decode y_Model_read.2.1 57 = .ok (.iload_n 2, 1) := by decide +kernel
theorem d_Model_read_58 : decode y_Model_read.2.1 58 = .ok (.iaload, 1) := by decide +kernel
theorem d_Model_read_59 : decode y_Model_read.2.1 59 = .ok (.isub, 1) := by decide +kernel
theorem d_Model_read_60 : decode y_Model_read.2.1 60 = .ok (.istore_n 3, 1) := by decide +kernel
theorem d_Model_read_61 : decode y_Model_read.2.1 61 = .ok (.aload_n 0, 1) := by decide +kernel
theorem d_Model_read_62 : decode y_Model_read.2.1 62 = .ok (.getfield 25, 3) := by decide +kernel
theorem d_Model_read_65 : decode y_Model_read.2.1 65 = .ok (.bipush 64, 2) := by decide +kernel
theorem d_Model_read_67 : decode y_Model_read.2.1 67 = .ok (.iload_n 2, 1) := by decide +kernel
theorem d_Model_read_68 : decode y_Model_read.2.1 68 = .ok (.imul, 1) := by decide +kernel
theorem d_Model_read_69 : decode y_Model_read.2.1 69 = .ok (.iload_n 3, 1) := by decide +kernel
theorem d_Model_read_70 : decode y_Model_read.2.1 70 = .ok (.iadd, 1) := by decide +kernel
theorem d_Model_read_71 : decode y_Model_read.2.1 71 = .ok (.iaload, 1) := by decide +kernel
theorem d_Model_read_72 : decode y_Model_read.2.1 72 = .ok (.istore 4, 2) := by decide +kernel
theorem d_Model_read_74 : decode y_Model_read.2.1 74 = .ok (.aload_n 0, 1) := by decide +kernel
theorem d_Model_read_75 : decode y_Model_read.2.1 75 = .ok (.getfield 7, 3) := by decide +kernel
theorem d_Model_read_78 : decode y_Model_read.2.1 78 = .ok (.iload_n 2, 1) := by decide +kernel
theorem d_Model_read_79 : decode y_Model_read.2.1 79 = .ok (.iaload, 1) := by decide +kernel
theorem d_Model_read_80 : decode y_Model_read.2.1 80 = .ok (.iconst 3, 1) := by decide +kernel
theorem d_Model_read_81 : decode y_Model_read.2.1 81 = .ok (.if_icmp .ne 14, 3) := by decide +kernel
theorem d_Model_read_84 : decode y_Model_read.2.1 84 = .ok (.iload_n 3, 1) := by decide +kernel
theorem d_Model_read_85 : decode y_Model_read.2.1 85 = .ok (.ifCond .ne 10, 3) := by decide +kernel
theorem d_Model_read_88 : decode y_Model_read.2.1 88 = .ok (.aload_n 0, 1) := by decide +kernel
theorem d_Model_read_89 : decode y_Model_read.2.1 89 = .ok (.iload_n 2, 1) := by decide +kernel
theorem d_Model_read_90 : decode y_Model_read.2.1 90 = .ok (.invokevirtual 134, 3) := by decide +kernel
theorem d_Model_read_93 : decode y_Model_read.2.1 93 = .ok (.istore 4, 2) := by decide +kernel
theorem d_Model_read_95 : decode y_Model_read.2.1 95 = .ok (.aload_n 0, 1) := by decide +kernel
theorem d_Model_read_96 : decode y_Model_read.2.1 96 = .ok (.getfield 7, 3) := by decide +kernel
theorem d_Model_read_99 : decode y_Model_read.2.1 99 = .ok (.iload_n 2, 1) := by decide +kernel
theorem d_Model_read_100 : decode y_Model_read.2.1 100 = .ok (.iaload, 1) := by decide +kernel
theorem d_Model_read_101 : decode y_Model_read.2.1 101 = .ok (.iconst 3, 1) := by decide +kernel
theorem d_Model_read_102 : decode y_Model_read.2.1 102 = .ok (.if_icmp .ne 39, 3) := by decide +kernel
theorem d_Model_read_105 : decode y_Model_read.2.1 105 = .ok (.iload_n 3, 1) := by decide +kernel
theorem d_Model_read_106 : decode y_Model_read.2.1 106 = .ok (.iconst 1, 1) := by decide +kernel
theorem d_Model_read_107 : decode y_Model_read.2.1 107 = .ok (.if_icmp .ne 34, 3) := by decide +kernel
theorem d_Model_read_110 : decode y_Model_read.2.1 110 = .ok (.aload_n 0, 1) := by decide +kernel
theorem d_Model_read_111 : decode y_Model_read.2.1 111 = .ok (.getfield 34, 3) := by decide +kernel
theorem d_Model_read_114 : decode y_Model_read.2.1 114 = .ok (.iload_n 2, 1) := by decide +kernel
theorem d_Model_read_115 : decode y_Model_read.2.1 115 = .ok (.iaload, 1) := by decide +kernel
theorem d_Model_read_116 : decode y_Model_read.2.1 116 = .ok (.ifCond .le 7, 3) := by decide +kernel
theorem d_Model_read_119 : decode y_Model_read.2.1 119 = .ok (.iconst 1, 1) := by decide +kernel
theorem d_Model_read_120 : decode y_Model_read.2.1 120 = .ok (.goto 4, 3) := by decide +kernel
theorem d_Model_read_123 : decode y_Model_read.2.1 123 = .ok (.iconst 0, 1) := by decide +kernel
theorem d_Model_read_124 : decode y_Model_read.2.1 124 = .ok (.aload_n 0, 1) := by decide +kernel
theorem d_Model_read_125 : decode y_Model_read.2.1 125 = .ok (.getfield 28, 3) := by decide +kernel
theorem d_Model_read_128 : decode y_Model_read.2.1 128 = .ok (.iload_n 2, 1) := by decide +kernel
theorem d_Model_read_129 : decode y_Model_read.2.1 129 = .ok (.iaload, 1) := by decide +kernel
theorem d_Model_read_130 : decode y_Model_read.2.1 130 = .ok (.ifCond .ne 7, 3) := by decide +kernel
theorem d_Model_read_133 : decode y_Model_read.2.1 133 = .ok (.iconst 2, 1) := by decide +kernel
theorem d_Model_read_134 : decode y_Model_read.2.1 134 = .ok (.goto 4, 3) := by decide +kernel
theorem d_Model_read_137 : decode y_Model_read.2.1 137 = .ok (.iconst 0, 1) := by decide +kernel
theorem d_Model_read_138 : decode y_Model_read.2.1 138 = .ok (.iadd, 1) := by decide +kernel
theorem d_Model_read_139 : decode y_Model_read.2.1 139 = .ok (.istore 4, 2) := by decide +kernel
theorem d_Model_read_141 : decode y_Model_read.2.1 141 = .ok (.aload_n 0, 1) := by decide +kernel
theorem d_Model_read_142 : decode y_Model_read.2.1 142 = .ok (.invokevirtual 120, 3) := by decide +kernel
theorem d_Model_read_145 : decode y_Model_read.2.1 145 = .ok (.iload 4, 2) := by decide +kernel
theorem d_Model_read_147 : decode y_Model_read.2.1 147 = .ok (.ireturn, 1) := by decide +kernel
theorem d_Model_writeTimer_0 : decode y_Model_writeTimer.2.1 0 = .ok (.aload_n 0, 1) := by decide +kernel
theorem d_Model_writeTimer_1 : decode y_Model_writeTimer.2.1 1 = .ok (.getfield 25, 3) := by decide +kernel
theorem d_Model_writeTimer_4 : decode y_Model_writeTimer.2.1 4 = .ok (.iload_n 1, 1) := by decide +kernel
theorem d_Model_writeTimer_5 : decode y_Model_writeTimer.2.1 5 = .ok (.iload_n 2, 1) := by decide +kernel
theorem d_Model_writeTimer_6 : decode y_Model_writeTimer.2.1 6 = .ok (.iadd, 1) := by decide +kernel
theorem d_Model_writeTimer_7 : decode y_Model_writeTimer.2.1 7 = .ok (.iload_n 2, 1) := by decide +kernel
theorem d_Model_writeTimer_8 : decode y_Model_writeTimer.2.1 8 = .ok (.iconst 2, 1) := by decide +kernel
theorem d_Model_writeTimer_9 : decode y_Model_writeTimer.2.1 9 = .ok (.if_icmp .ne 10, 3) := by decide +kernel
theorem d_Model_writeTimer_12 : decode y_Model_writeTimer.2.1 12 = .ok (.iload_n 3, 1) := by decide +kernel
theorem d_Model_writeTimer_13 : decode y_Model_writeTimer.2.1 13 = .ok (.bipush 15, 2) := by decide +kernel
theorem d_Model_writeTimer_15 : decode y_Model_writeTimer.2.1 15 = .ok (.iand, 1) := by decide +kernel
theorem d_Model_writeTimer_16 : decode y_Model_writeTimer.2.1 16 = .ok (.goto 13, 3) := by decide +kernel
theorem d_Model_writeTimer_19 : decode y_Model_writeTimer.2.1 19 = .ok (.iload_n 2, 1) := by decide +kernel
theorem d_Model_writeTimer_20 : decode y_Model_writeTimer.2.1 20 = .ok (.iconst 3, 1) := by decide +kernel
theorem d_Model_writeTimer_21 : decode y_Model_writeTimer.2.1 21 = .ok (.if_icmp .ne 7, 3) := by decide +kernel
theorem d_Model_writeTimer_24 : decode y_Model_writeTimer.2.1 24 = .ok (.iconst 0, 1) := by decide +kernel
theorem d_Model_writeTimer_25 : decode y_Model_writeTimer.2.1 25 = .ok (.goto 4, 3) := by decide +kernel
theorem d_Model_writeTimer_28 : decode y_Model_writeTimer.2.1 28 = .ok (.iload_n 3, 1) := by decide +kernel
theorem d_Model_writeTimer_29 : decode y_Model_writeTimer.2.1 29 = .ok (.iastore, 1) := by decide +kernel
theorem d_Model_writeTimer_30 : decode y_Model_writeTimer.2.1 30 = .ok (.return_, 1) := by decide +kernel
theorem d_Model_writeSerial_0 : decode y_Model_writeSerial.2.1 0 = .ok (.iload_n 2, 1) := by decide +kernel
theorem d_Model_writeSerial_1 : decode y_Model_writeSerial.2.1 1 = .ok (.iconst 2, 1) := by decide +kernel
theorem d_Model_writeSerial_2 : decode y_Model_writeSerial.2.1 2 = .ok (.if_icmp .ne 17, 3) := by decide +kernel
theorem d_Model_writeSerial_5 : decode y_Model_writeSerial.2.1 5 = .ok (.aload_n 0, 1) := by decide +kernel
theorem d_Model_writeSerial_6 : decode y_Model_writeSerial.2.1 6 = .ok (.getfield 25, 3) := by decide +kernel
theorem d_Model_writeSerial_9 : decode y_Model_writeSerial.2.1 9 = .ok (.bipush 64, 2) := by decide +kernel
theorem d_Model_writeSerial_11 : decode y_Model_writeSerial.2.1 11 = .ok (.iload_n 1, 1) := by decide +kernel
theorem d_Model_writeSerial_12 : decode y_Model_writeSerial.2.1 12 = .ok (.imul, 1) := by decide +kernel
theorem d_Model_writeSerial_13 : decode y_Model_writeSerial.2.1 13 = .ok (.iconst 2, 1) := by decide +kernel
theorem d_Model_writeSerial_14 : decode y_Model_writeSerial.2.1 14 = .ok (.iadd, 1) := by decide +kernel
theorem d_Model_writeSerial_15 : decode y_Model_writeSerial.2.1 15 = .ok (.iload_n 3, 1) := by decide +kernel
theorem d_Model_writeSerial_16 : decode y_Model_writeSerial.2.1 16 = .ok (.iconst 3, 1) := by decide +kernel
theorem d_Model_writeSerial_17 : decode y_Model_writeSerial.2.1 17 = .ok (.iand, 1) := by decide +kernel
theorem d_Model_writeSerial_18 : decode y_Model_writeSerial.2.1 18 = .ok (.iastore, 1) := by decide +kernel
theorem d_Model_writeSerial_19 : decode y_Model_writeSerial.2.1 19 = .ok (.iload_n 2, 1) := by decide +kernel
theorem d_Model_writeSerial_20 : decode y_Model_writeSerial.2.1 20 = .ok (.ifCond .ne 30, 3) := by decide +kernel
theorem d_Model_writeSerial_23 : decode y_Model_writeSerial.2.1 23 = .ok (.aload_n 0, 1) := by decide +kernel
theorem d_Model_writeSerial_24 : decode y_Model_writeSerial.2.1 24 = .ok (.getfield 28, 3) := by decide +kernel
theorem d_Model_writeSerial_27 : decode y_Model_writeSerial.2.1 27 = .ok (.iload_n 1, 1) := by decide +kernel
theorem d_Model_writeSerial_28 : decode y_Model_writeSerial.2.1 28 = .ok (.iaload, 1) := by decide +kernel
theorem d_Model_writeSerial_29 : decode y_Model_writeSerial.2.1 29 = .ok (.ifCond .ne 21, 3) := by decide +kernel
theorem d_Model_writeSerial_32 : decode y_Model_writeSerial.2.1 32 = .ok (.aload_n 0, 1) := by decide +kernel
theorem d_Model_writeSerial_33 : decode y_Model_writeSerial.2.1 33 = .ok (.getfield 28, 3) := by decide +kernel
theorem d_Model_writeSerial_36 : decode y_Model_writeSerial.2.1 36 = .ok (.iload_n 1, 1) := by decide +kernel
theorem d_Model_writeSerial_37 : decode y_Model_writeSerial.2.1 37 = .ok (.iconst 4, 1) := by decide +kernel
theorem d_Model_writeSerial_38 : decode y_Model_writeSerial.2.1 38 = .ok (.iastore, 1) := by decide +kernel
theorem d_Model_writeSerial_39 : decode y_Model_writeSerial.2.1 39 = .ok (.aload_n 0, 1) := by decide +kernel
theorem d_Model_writeSerial_40 : decode y_Model_writeSerial.2.1 40 = .ok (.getfield 31, 3) := by decide +kernel
theorem d_Model_writeSerial_43 : decode y_Model_writeSerial.2.1 43 = .ok (.iload_n 1, 1) := by decide +kernel
theorem d_Model_writeSerial_44 : decode y_Model_writeSerial.2.1 44 = .ok (.iload_n 3, 1) := by decide +kernel
theorem d_Model_writeSerial_45 : decode y_Model_writeSerial.2.1 45 = .ok (.sipush 255, 3) := by decide +kernel
theorem d_Model_writeSerial_48 : decode y_Model_writeSerial.2.1 48 = .ok (.iand, 1) := by decide +kernel
theorem d_Model_writeSerial_49 : decode y_Model_writeSerial.2.1 49 = .ok (.iastore, 1) := by decide +kernel
theorem d_Model_writeSerial_50 : decode y_Model_writeSerial.2.1 50 = .ok (.return_, 1) := by decide +kernel
theorem d_Model_writeRows_0 : decode y_Model_writeRows.2.1 0 = .ok (.bipush 64, 2) := by decide +kernel
theorem d_Model_writeRows_2 : decode y_Model_writeRows.2.1 2 = .ok (.iload_n 1, 1) := by decide +kernel
theorem d_Model_writeRows_3 : decode y_Model_writeRows.2.1 3 = .ok (.imul, 1) := by decide +kernel
theorem d_Model_writeRows_4 : decode y_Model_writeRows.2.1 4 = .ok (.istore 4, 2) := by decide +kernel
theorem d_Model_writeRows_6 : decode y_Model_writeRows.2.1 6 = .ok (.aload_n 0, 1) := by decide +kernel
theorem d_Model_writeRows_7 : decode y_Model_writeRows.2.1 7 = .ok (.getfield 28, 3) := by decide +kernel
theorem d_Model_writeRows_10 : decode y_Model_writeRows.2.1 10 = .ok (.iload_n 1, 1) := by decide +kernel
theorem d_Model_writeRows_11 : decode y_Model_writeRows.2.1 11 = .ok (.iaload, 1) := by decide +kernel
theorem d_Model_writeRows_12 : decode y_Model_writeRows.2.1 12 = .ok (.ifCond .le 7, 3) := by decide +kernel
theorem d_Model_writeRows_15 : decode y_Model_writeRows.2.1 15 = .ok (.iconst 1, 1) := by decide +kernel
theorem d_Model_writeRows_16 : decode y_Model_writeRows.2.1 16 = .ok (.goto 4, 3) := by decide +kernel
theorem d_Model_writeRows_19 : decode y_Model_writeRows.2.1 19 = .ok (.iconst 0, 1) := by decide +kernel
theorem d_Model_writeRows_20 : decode y_Model_writeRows.2.1 20 = .ok (.istore 5, 2) := by decide +kernel
theorem d_Model_writeRows_22 : decode y_Model_writeRows.2.1 22 = .ok (.iload_n 2, 1) := by decide +kernel
theorem d_Model_writeRows_23 : decode y_Model_writeRows.2.1 23 = .ok (.ifCond .ne 14, 3) := by decide +kernel
theorem d_Model_writeRows_26 : decode y_Model_writeRows.2.1 26 = .ok (.aload_n 0, 1) := by decide +kernel
theorem d_Model_writeRows_27 : decode y_Model_writeRows.2.1 27 = .ok (.getfield 25, 3) := by decide +kernel
theorem d_Model_writeRows_30 : decode y_Model_writeRows.2.1 30 = .ok (.iload 4, 2) := by decide +kernel
theorem d_Model_writeRows_32 : decode y_Model_writeRows.2.1 32 = .ok (.iload_n 3, 1) := by decide +kernel
theorem d_Model_writeRows_33 : decode y_Model_writeRows.2.1 33 = .ok (.bipush 7, 2) := by decide +kernel
theorem d_Model_writeRows_35 : decode y_Model_writeRows.2.1 35 = .ok (.iand, 1) := by decide +kernel
theorem d_Model_writeRows_36 : decode y_Model_writeRows.2.1 36 = .ok (.iastore, 1) := by decide +kernel
theorem d_Model_writeRows_37 : decode y_Model_writeRows.2.1 37 = .ok (.iload_n 2, 1) := by decide +kernel
theorem d_Model_writeRows_38 : decode y_Model_writeRows.2.1 38 = .ok (.iconst 2, 1) := by decide +kernel
theorem d_Model_writeRows_39 : decode y_Model_writeRows.2.1 39 = .ok (.if_icmp .ne 13, 3) := by decide +kernel
theorem d_Model_writeRows_42 : decode y_Model_writeRows.2.1 42 = .ok (.aload_n 0, 1) := by decide +kernel
theorem d_Model_writeRows_43 : decode y_Model_writeRows.2.1 43 = .ok (.getfield 25, 3) := by decide +kernel
theorem d_Model_writeRows_46 : decode y_Model_writeRows.2.1 46 = .ok (.iload 4, 2) := by decide +kernel
theorem d_Model_writeRows_48 : decode y_Model_writeRows.2.1 48 = .ok (.iconst 2, 1) := by decide +kernel
theorem d_Model_writeRows_49 : decode y_Model_writeRows.2.1 49 = .ok (.iadd, 1) := by decide +kernel
theorem d_Model_writeRows_50 : decode y_Model_writeRows.2.1 50 = .ok (.iconst 0, 1) := by decide +kernel
theorem d_Model_writeRows_51 : decode y_Model_writeRows.2.1 51 = .ok (.iastore, 1) := by decide +kernel
theorem d_Model_writeRows_52 : decode y_Model_writeRows.2.1 52 = .ok (.iload_n 2, 1) := by decide +kernel
theorem d_Model_writeRows_53 : decode y_Model_writeRows.2.1 53 = .ok (.iconst 2, 1) := by decide +kernel
theorem d_Model_writeRows_54 : decode y_Model_writeRows.2.1 54 = .ok (.if_icmp .le 18, 3) := by decide +kernel
theorem d_Model_writeRows_57 : decode y_Model_writeRows.2.1 57 = .ok (.iload 5, 2) := by decide +kernel
theorem d_Model_writeRows_59 : decode y_Model_writeRows.2.1 59 = .ok (.ifCond .ne 13, 3) := by decide +kernel
theorem d_Model_writeRows_62 : decode y_Model_writeRows.2.1 62 = .ok (.aload_n 0, 1) := by decide +kernel
theorem d_Model_writeRows_63 : decode y_Model_writeRows.2.1 63 = .ok (.getfield 25, 3) := by decide +kernel
theorem d_Model_writeRows_66 : decode y_Model_writeRows.2.1 66 = .ok (.iload 4, 2) := by decide +kernel
theorem d_Model_writeRows_68 : decode y_Model_writeRows.2.1 68 = .ok (.iload_n 2, 1) := by decide +kernel
theorem d_Model_writeRows_69 : decode y_Model_writeRows.2.1 69 = .ok (.iadd, 1) := by decide +kernel
theorem d_Model_writeRows_70 : decode y_Model_writeRows.2.1 70 = .ok (.iload_n 3, 1) := by decide +kernel
theorem d_Model_writeRows_71 : decode y_Model_writeRows.2.1 71 = .ok (.iastore, 1) := by decide +kernel
theorem d_Model_writeRows_72 : decode y_Model_writeRows.2.1 72 = .ok (.iload_n 2, 1) := by decide +kernel
theorem d_Model_writeRows_73 : decode y_Model_writeRows.2.1 73 = .ok (.iconst 1, 1) := by decide +kernel
theorem d_Model_writeRows_74 : decode y_Model_writeRows.2.1 74 = .ok (.if_icmp .ne 49, 3) := by decide +kernel
theorem d_Model_writeRows_77 : decode y_Model_writeRows.2.1 77 = .ok (.iload 5, 2) := by decide +kernel
theorem d_Model_writeRows_79 : decode y_Model_writeRows.2.1 79 = .ok (.ifCond .ne 44, 3) := by decide +kernel
theorem d_Model_writeRows_82 : decode y_Model_writeRows.2.1 82 = .ok (.iload_n 3, 1) := by decide +kernel
theorem d_Model_writeRows_83 : decode y_Model_writeRows.2.1 83 = .ok (.iconst 1, 1) := by decide +kernel
theorem d_Model_writeRows_84 : decode y_Model_writeRows.2.1 84 = .ok (.if_icmp .eq 8, 3) := by decide +kernel
theorem d_Model_writeRows_87 : decode y_Model_writeRows.2.1 87 = .ok (.iload_n 3, 1) := by decide +kernel
theorem d_Model_writeRows_88 : decode y_Model_writeRows.2.1 88 = .ok (.iconst 2, 1) := by decide +kernel
theorem d_Model_writeRows_89 : decode y_Model_writeRows.2.1 89 = .ok (.if_icmp .ne 34, 3) := by decide +kernel
theorem d_Model_writeRows_92 : decode y_Model_writeRows.2.1 92 = .ok (.aload_n 0, 1) := by decide +kernel
theorem d_Model_writeRows_93 : decode y_Model_writeRows.2.1 93 = .ok (.getfield 25, 3) := by decide +kernel
theorem d_Model_writeRows_96 : decode y_Model_writeRows.2.1 96 = .ok (.iload 4, 2) := by decide +kernel
theorem d_Model_writeRows_98 : decode y_Model_writeRows.2.1 98 = .ok (.iconst 1, 1) := by decide +kernel
theorem d_Model_writeRows_99 : decode y_Model_writeRows.2.1 99 = .ok (.iadd, 1) := by decide +kernel
theorem d_Model_writeRows_100 : decode y_Model_writeRows.2.1 100 = .ok (.iload_n 3, 1) := by decide +kernel
theorem d_Model_writeRows_101 : decode y_Model_writeRows.2.1 101 = .ok (.iastore, 1) := by decide +kernel
theorem d_Model_writeRows_102 : decode y_Model_writeRows.2.1 102 = .ok (.aload_n 0, 1) := by decide +kernel
theorem d_Model_writeRows_103 : decode y_Model_writeRows.2.1 103 = .ok (.getfield 28, 3) := by decide +kernel
theorem d_Model_writeRows_106 : decode y_Model_writeRows.2.1 106 = .ok (.iload_n 1, 1) := by decide +kernel
theorem d_Model_writeRows_107 : decode y_Model_writeRows.2.1 107 = .ok (.bipush 10, 2) := by decide +kernel
theorem d_Model_writeRows_109 : decode y_Model_writeRows.2.1 109 = .ok (.iastore, 1) := by decide +kernel
theorem d_Model_writeRows_110 : decode y_Model_writeRows.2.1 110 = .ok (.aload_n 0, 1) := by decide +kernel
theorem d_Model_writeRows_111 : decode y_Model_writeRows.2.1 111 = .ok (.getfield 31, 3) := by decide +kernel
theorem d_Model_writeRows_114 : decode y_Model_writeRows.2.1 114 = .ok (.iload_n 1, 1) := by decide +kernel
theorem d_Model_writeRows_115 : decode y_Model_writeRows.2.1 115 = .ok (.aload_n 0, 1) := by decide +kernel
theorem d_Model_writeRows_116 : decode y_Model_writeRows.2.1 116 = .ok (.getfield 25, 3) := by decide +kernel
theorem d_Model_writeRows_119 : decode y_Model_writeRows.2.1 119 = .ok (.iload 4, 2) := by decide +kernel
theorem d_Model_writeRows_121 : decode y_Model_writeRows.2.1 121 = .ok (.iaload, 1) := by decide +kernel
theorem d_Model_writeRows_122 : decode y_Model_writeRows.2.1 122 = .ok (.iastore, 1) := by decide +kernel
theorem d_Model_writeRows_123 : decode y_Model_writeRows.2.1 123 = .ok (.return_, 1) := by decide +kernel
theorem d_Model_write_0 : decode y_Model_write.2.1 0 = .ok (.aload_n 0, 1) := by decide +kernel
theorem d_Model_write_1 : decode y_Model_write.2.1 1 = .ok (.iconst 0, 1) := by decide +kernel
theorem d_Model_write_2 : decode y_Model_write.2.1 2 = .ok (.putfield 65, 3) := by decide +kernel
theorem d_Model_write_5 : decode y_Model_write.2.1 5 = .ok (.iload_n 1, 1) := by decide +kernel
theorem d_Model_write_6 : decode y_Model_write.2.1 6 = .ok (.iconst 0, 1) := by decide +kernel
theorem d_Model_write_7 : decode y_Model_write.2.1 7 = .ok (.ldc 127, 2) := by decide +kernel
theorem d_Model_write_9 : decode y_Model_write.2.1 9 = .ok (.invokestatic 69, 3) := by decide +kernel
theorem d_Model_write_12 : decode y_Model_write.2.1 12 = .ok (.ifCond .ne 9, 3) := by decide +kernel
theorem d_Model_write_15 : decode y_Model_write.2.1 15 = .ok (.aload_n 0, 1) := by decide +kernel
theorem d_Model_write_16 : decode y_Model_write.2.1 16 = .ok (.iconst 1, 1) := by decide +kernel
theorem d_Model_write_17 : decode y_Model_write.2.1 17 = .ok (.invokevirtual 81, 3) := by decide +kernel
theorem d_Model_write_20 : decode y_Model_write.2.1 20 = .ok (.ireturn, 1) := by decide +kernel
theorem d_Model_write_21 : decode y_Model_write.2.1 21 = .ok (.aload_n 0, 1) := by decide +kernel
theorem d_Model_write_22 : decode y_Model_write.2.1 22 = .ok (.iload_n 1, 1) := by decide +kernel
theorem d_Model_write_23 : decode y_Model_write.2.1 23 = .ok (.invokevirtual 85, 3) := by decide +kernel
theorem d_Model_write_26 : decode y_Model_write.2.1 26 = .ok (.istore_n 3, 1) := by decide +kernel
theorem d_Model_write_27 : decode y_Model_write.2.1 27 = .ok (.iload_n 3, 1) := by decide +kernel
theorem d_Model_write_28 : decode y_Model_write.2.1 28 = .ok (.ifCond .ge 14, 3) := by decide +kernel
theorem d_Model_write_31 : decode y_Model_write.2.1 31 = .ok (.aload_n 0, 1) := by decide +kernel
theorem d_Model_write_32 : decode y_Model_write.2.1 32 = .ok (.iconst 3, 1) := by decide +kernel
theorem d_Model_write_33 : decode y_Model_write.2.1 33 = .ok (.invokevirtual 128, 3) := by decide +kernel
theorem d_Model_write_36 : decode y_Model_write.2.1 36 = .ok (.aload_n 0, 1) := by decide +kernel
theorem d_Model_write_37 : decode y_Model_write.2.1 37 = .ok (.iconst 2, 1) := by decide +kernel
theorem d_Model_write_38 : decode y_Model_write.2.1 38 = .ok (.invokevirtual 81, 3) := by decide +kernel
theorem d_Model_write_41 : decode y_Model_write.2.1 41 = .ok (.ireturn, 1) := by decide +kernel
theorem d_Model_write_42 : decode y_Model_write.2.1 42 = .ok (.aload_n 0, 1) := by decide +kernel
theorem d_Model_write_43 : decode y_Model_write.2.1 43 = .ok (.iload_n 3, 1) := by decide +kernel
theorem d_Model_write_44 : decode y_Model_write.2.1 44 = .ok (.invokevirtual 131, 3) := by decide +kernel
theorem d_Model_write_47 : decode y_Model_write.2.1 47 = .ok (.aload_n 0, 1) := by decide +kernel
theorem d_Model_write_48 : decode y_Model_write.2.1 48 = .ok (.getfield 7, 3) := by decide +kernel
theorem d_Model_write_51 : decode y_Model_write.2.1 51 = .ok (.iload_n 3, 1) := by decide +kernel
theorem d_Model_write_52 : decode y_Model_write.2.1 52 = .ok (.iaload, 1) := by decide +kernel
theorem d_Model_write_53 : decode y_Model_write.2.1 53 = .ok (.iconst 1, 1) := by decide +kernel
theorem d_Model_write_54 : decode y_Model_write.2.1 54 = .ok (.if_icmp .ne 14, 3) := by decide +kernel
theorem d_Model_write_57 : decode y_Model_write.2.1 57 = .ok (.aload_n 0, 1) := by decide +kernel
theorem d_Model_write_58 : decode y_Model_write.2.1 58 = .ok (.iconst 3, 1) := by decide +kernel
theorem d_Model_write_59 : decode y_Model_write.2.1 59 = .ok (.invokevirtual 128, 3) := by decide +kernel
theorem d_Model_write_62 : decode y_Model_write.2.1 62 = .ok (.aload_n 0, 1) := by decide +kernel
theorem d_Model_write_63 : decode y_Model_write.2.1 63 = .ok (.iconst 2, 1) := by decide +kernel
theorem d_Model_write_64 : decode y_Model_write.2.1 64 = .ok (.invokevirtual 81, 3) := by decide +kernel
theorem d_Model_write_67 : decode y_Model_write.2.1 67 = .ok (.ireturn, 1) := by decide +kernel
theorem d_Model_write_68 : decode y_Model_write.2.1 68 = .ok (.aload_n 0, 1) := by decide +kernel
theorem d_Model_write_69 : decode y_Model_write.2.1 69 = .ok (.iconst 2, 1) := by decide +kernel
theorem d_Model_write_70 : decode y_Model_write.2.1 70 = .ok (.invokevirtual 128, 3) := by decide +kernel
theorem d_Model_write_73 : decode y_Model_write.2.1 73 = .ok (.iload_n 1, 1) := by decide +kernel
theorem d_Model_write_74 : decode y_Model_write.2.1 74 = .ok (.aload_n 0, 1) := by decide +kernel
theorem d_Model_write_75 : decode y_Model_write.2.1 75 = .ok (.getfield 13, 3) := by decide +kernel
theorem d_Model_write_78 : decode y_Model_write.2.1 78 = .ok (.iload_n 3, 1) := by decide +kernel
theorem d_Model_write_79 : decode y_Model_write.2.1 79 = .ok (.iaload, 1) := by decide +kernel
theorem d_Model_write_80 : decode y_Model_write.2.1 80 = .ok (.isub, 1) := by decide +kernel
theorem d_Model_write_81 : decode y_Model_write.2.1 81 = .ok (.istore 4, 2) := by decide +kernel
theorem d_Model_write_83 : decode y_Model_write.2.1 83 = .ok (.aload_n 0, 1) := by decide +kernel
theorem d_Model_write_84 : decode y_Model_write.2.1 84 = .ok (.getfield 7, 3) := by decide +kernel
theorem d_Model_write_87 : decode y_Model_write.2.1 87 = .ok (.iload_n 3, 1) := by decide +kernel
theorem d_Model_write_88 : decode y_Model_write.2.1 88 = .ok (.iaload, 1) := by decide +kernel
theorem d_Model_write_89 : decode y_Model_write.2.1 89 = .ok (.ifCond .ne 19, 3) := by decide +kernel
theorem d_Model_write_92 : decode y_Model_write.2.1 92 = .ok (.aload_n 0, 1) := by decide +kernel
theorem d_Model_write_93 : decode y_Model_write.2.1 93 = .ok (.getfield 25, 3) := by decide +kernel
theorem d_Model_write_96 : decode y_Model_write.2.1 96 = .ok (.bipush 64, 2) := by decide +kernel
theorem d_Model_write_98 : decode y_Model_write.2.1 98 = .ok (.iload_n 3, 1) := by decide +kernel
theorem d_Model_write_99 : decode y_Model_write.2.1 99 = .ok (.imul, 1) := by decide +kernel
theorem d_Model_write_100 : decode y_Model_write.2.1 100 = .ok (.iload 4, 2) := by decide +kernel
theorem d_Model_write_102 : decode y_Model_write.2.1 102 = .ok (.iadd, 1) := by decide +kernel
theorem d_Model_write_103 : decode y_Model_write.2.1 103 = .ok (.iload_n 2, 1) := by decide +kernel
theorem d_Model_write_104 : decode y_Model_write.2.1 104 = .ok (.iastore, 1) := by decide +kernel
theorem d_Model_write_105 : decode y_Model_write.2.1 105 = .ok (.goto 82, 3) := by decide +kernel
theorem d_Model_write_108 : decode y_Model_write.2.1 108 = .ok (.aload_n 0, 1) := by decide +kernel
theorem d_Model_write_109 : decode y_Model_write.2.1 109 = .ok (.getfield 7, 3) := by decide +kernel
theorem d_Model_write_112 : decode y_Model_write.2.1 112 = .ok (.iload_n 3, 1) := by decide +kernel
theorem d_Model_write_113 : decode y_Model_write.2.1 113 = .ok (.iaload, 1) := by decide +kernel
theorem d_Model_write_114 : decode y_Model_write.2.1 114 = .ok (.iconst 2, 1) := by decide +kernel
theorem d_Model_write_115 : decode y_Model_write.2.1 115 = .ok (.if_icmp .ne 17, 3) := by decide +kernel
theorem d_Model_write_118 : decode y_Model_write.2.1 118 = .ok (.aload_n 0, 1) := by decide +kernel
theorem d_Model_write_119 : decode y_Model_write.2.1 119 = .ok (.bipush 64, 2) := by decide +kernel
theorem d_Model_write_121 : decode y_Model_write.2.1 121 = .ok (.iload_n 3, 1) := by decide +kernel
theorem d_Model_write_122 : decode y_Model_write.2.1 122 = .ok (.imul, 1) := by decide +kernel
theorem d_Model_write_123 : decode y_Model_write.2.1 123 = .ok (.iload 4, 2) := by decide +kernel
theorem d_Model_write_125 : decode y_Model_write.2.1 125 = .ok (.iload_n 2, 1) := by decide +kernel
theorem d_Model_write_126 : decode y_Model_write.2.1 126 = .ok (.invokevirtual 137, 3) := by decide +kernel
theorem d_Model_write_129 : decode y_Model_write.2.1 129 = .ok (.goto 58, 3) := by decide +kernel
theorem d_Model_write_132 : decode y_Model_write.2.1 132 = .ok (.aload_n 0, 1) := by decide +kernel
theorem d_Model_write_133 : decode y_Model_write.2.1 133 = .ok (.getfield 7, 3) := by decide +kernel
theorem d_Model_write_136 : decode y_Model_write.2.1 136 = .ok (.iload_n 3, 1) := by decide +kernel
theorem d_Model_write_137 : decode y_Model_write.2.1 137 = .ok (.iaload, 1) := by decide +kernel
theorem d_Model_write_138 : decode y_Model_write.2.1 138 = .ok (.iconst 3, 1) := by decide +kernel
theorem d_Model_write_139 : decode y_Model_write.2.1 139 = .ok (.if_icmp .ne 14, 3) := by decide +kernel
theorem d_Model_write_142 : decode y_Model_write.2.1 142 = .ok (.aload_n 0, 1) := by decide +kernel
theorem d_Model_write_143 : decode y_Model_write.2.1 143 = .ok (.iload_n 3, 1) := by decide +kernel
theorem d_Model_write_144 : decode y_Model_write.2.1 144 = .ok (.iload 4, 2) := by decide +kernel
theorem d_Model_write_146 : decode y_Model_write.2.1 146 = .ok (.iload_n 2, 1) := by decide +kernel
theorem d_Model_write_147 : decode y_Model_write.2.1 147 = .ok (.invokevirtual 141, 3) := by decide +kernel
theorem d_Model_write_150 : decode y_Model_write.2.1 150 = .ok (.goto 37, 3) := by decide +kernel
theorem d_Model_write_153 : decode y_Model_write.2.1 153 = .ok (.aload_n 0, 1) := by decide +kernel
theorem d_Model_write_154 : decode y_Model_write.2.1 154 = .ok (.getfield 7, 3) := by decide +kernel
theorem d_Model_write_157 : decode y_Model_write.2.1 157 = .ok (.iload_n 3, 1) := by decide +kernel
theorem d_Model_write_158 : decode y_Model_write.2.1 158 = .ok (.iaload, 1) := by decide +kernel
theorem d_Model_write_159 : decode y_Model_write.2.1 159 = .ok (.iconst 4, 1) := by decide +kernel
theorem d_Model_write_160 : decode y_Model_write.2.1 160 = .ok (.if_icmp .ne 14, 3) := by decide +kernel
theorem d_Model_write_163 : decode y_Model_write.2.1 163 = .ok (.aload_n 0, 1) := by decide +kernel
theorem d_Model_write_164 : decode y_Model_write.2.1 164 = .ok (.iload_n 3, 1) := by decide +kernel
theorem d_Model_write_165 : decode y_Model_write.2.1 165 = .ok (.iload 4, 2) := by decide +kernel
theorem d_Model_write_167 : decode y_Model_write.2.1 167 = .ok (.iload_n 2, 1) := by decide +kernel
theorem d_Model_write_168 : decode y_Model_write.2.1 168 = .ok (.invokevirtual 144, 3) := by decide +kernel
theorem d_Model_write_171 : decode y_Model_write.2.1 171 = .ok (.goto 16, 3) := by decide +kernel
theorem d_Model_write_174 : decode y_Model_write.2.1 174 = .ok (.aload_n 0, 1) := by decide +kernel
theorem d_Model_write_175 : decode y_Model_write.2.1 175 = .ok (.getfield 25, 3) := by decide +kernel
theorem d_Model_write_178 : decode y_Model_write.2.1 178 = .ok (.bipush 64, 2) := by decide +kernel
theorem d_Model_write_180 : decode y_Model_write.2.1 180 = .ok (.iload_n 3, 1) := by decide +kernel
theorem d_Model_write_181 : decode y_Model_write.2.1 181 = .ok (.imul, 1) := by decide +kernel
theorem d_Model_write_182 : decode y_Model_write.2.1 182 = .ok (.iload 4, 2) := by decide +kernel
theorem d_Model_write_184 : decode y_Model_write.2.1 184 = .ok (.iadd, 1) := by decide +kernel
theorem d_Model_write_185 : decode y_Model_write.2.1 185 = .ok (.iconst 0, 1) := by decide +kernel
theorem d_Model_write_186 : decode y_Model_write.2.1 186 = .ok (.iastore, 1) := by decide +kernel
theorem d_Model_write_187 : decode y_Model_write.2.1 187 = .ok (.aload_n 0, 1) := by decide +kernel
theorem d_Model_write_188 : decode y_Model_write.2.1 188 = .ok (.invokevirtual 120, 3) := by decide +kernel
theorem d_Model_write_191 : decode y_Model_write.2.1 191 = .ok (.iconst 1, 1) := by decide +kernel
theorem d_Model_write_192 : decode y_Model_write.2.1 192 = .ok (.aload_n 0, 1) := by decide +kernel
theorem d_Model_write_193 : decode y_Model_write.2.1 193 = .ok (.getfield 22, 3) := by decide +kernel
theorem d_Model_write_196 : decode y_Model_write.2.1 196 = .ok (.iload_n 3, 1) := by decide +kernel
theorem d_Model_write_197 : decode y_Model_write.2.1 197 = .ok (.iaload, 1) := by decide +kernel
theorem d_Model_write_198 : decode y_Model_write.2.1 198 = .ok (.iadd, 1) := by decide +kernel
theorem d_Model_write_199 : decode y_Model_write.2.1 199 = .ok (.ireturn, 1) := by decide +kernel
theorem d_Model_isSerial_0 : decode y_Model_isSerial.2.1 0 = .ok (.iload_n 1, 1) := by decide +kernel
theorem d_Model_isSerial_1 : decode y_Model_isSerial.2.1 1 = .ok (.iconst 0, 1) := by decide +kernel
theorem d_Model_isSerial_2 : decode y_Model_isSerial.2.1 2 = .ok (.aload_n 0, 1) := by decide +kernel
theorem d_Model_isSerial_3 : decode y_Model_isSerial.2.1 3 = .ok (.getfield 78, 3) := by decide +kernel
theorem d_Model_isSerial_6 : decode y_Model_isSerial.2.1 6 = .ok (.iconst 1, 1) := by decide +kernel
theorem d_Model_isSerial_7 : decode y_Model_isSerial.2.1 7 = .ok (.isub, 1) := by decide +kernel
theorem d_Model_isSerial_8 : decode y_Model_isSerial.2.1 8 = .ok (.invokestatic 69, 3) := by decide +kernel
theorem d_Model_isSerial_11 : decode y_Model_isSerial.2.1 11 = .ok (.ifCond .eq 17, 3) := by decide +kernel
theorem d_Model_isSerial_14 : decode y_Model_isSerial.2.1 14 = .ok (.aload_n 0, 1) := by decide +kernel
theorem d_Model_isSerial_15 : decode y_Model_isSerial.2.1 15 = .ok (.getfield 7, 3) := by decide +kernel
theorem d_Model_isSerial_18 : decode y_Model_isSerial.2.1 18 = .ok (.iload_n 1, 1) := by decide +kernel
theorem d_Model_isSerial_19 : decode y_Model_isSerial.2.1 19 = .ok (.iaload, 1) := by decide +kernel
theorem d_Model_isSerial_20 : decode y_Model_isSerial.2.1 20 = .ok (.iconst 3, 1) := by decide +kernel
theorem d_Model_isSerial_21 : decode y_Model_isSerial.2.1 21 = .ok (.if_icmp .ne 7, 3) := by decide +kernel
theorem d_Model_isSerial_24 : decode y_Model_isSerial.2.1 24 = .ok (.iconst 1, 1) := by decide +kernel
theorem d_Model_isSerial_25 : decode y_Model_isSerial.2.1 25 = .ok (.goto 4, 3) := by decide +kernel
theorem d_Model_isSerial_28 : decode y_Model_isSerial.2.1 28 = .ok (.iconst 0, 1) := by decide +kernel
theorem d_Model_isSerial_29 : decode y_Model_isSerial.2.1 29 = .ok (.ireturn, 1) := by decide +kernel
theorem d_Model_receive_0 : decode y_Model_receive.2.1 0 = .ok (.aload_n 0, 1) := by decide +kernel
theorem d_Model_receive_1 : decode y_Model_receive.2.1 1 = .ok (.iconst 0, 1) := by decide +kernel
theorem d_Model_receive_2 : decode y_Model_receive.2.1 2 = .ok (.putfield 65, 3) := by decide +kernel
theorem d_Model_receive_5 : decode y_Model_receive.2.1 5 = .ok (.aload_n 0, 1) := by decide +kernel
theorem d_Model_receive_6 : decode y_Model_receive.2.1 6 = .ok (.iload_n 1, 1) := by decide +kernel
theorem d_Model_receive_7 : decode y_Model_receive.2.1 7 = .ok (.invokevirtual 147, 3) := by decide +kernel
theorem d_Model_receive_10 : decode y_Model_receive.2.1 10 = .ok (.ifCond .ne 9, 3) := by decide +kernel
theorem d_Model_receive_13 : decode y_Model_receive.2.1 13 = .ok (.aload_n 0, 1) := by decide +kernel
theorem d_Model_receive_14 : decode y_Model_receive.2.1 14 = .ok (.iconst 1, 1) := by decide +kernel
theorem d_Model_receive_15 : decode y_Model_receive.2.1 15 = .ok (.invokevirtual 81, 3) := by decide +kernel
theorem d_Model_receive_18 : decode y_Model_receive.2.1 18 = .ok (.ireturn, 1) := by decide +kernel
theorem d_Model_receive_19 : decode y_Model_receive.2.1 19 = .ok (.aload_n 0, 1) := by decide +kernel
theorem d_Model_receive_20 : decode y_Model_receive.2.1 20 = .ok (.getfield 34, 3) := by decide +kernel
theorem d_Model_receive_23 : decode y_Model_receive.2.1 23 = .ok (.iload_n 1, 1) := by decide +kernel
theorem d_Model_receive_24 : decode y_Model_receive.2.1 24 = .ok (.iaload, 1) := by decide +kernel
theorem d_Model_receive_25 : decode y_Model_receive.2.1 25 = .ok (.bipush 32, 2) := by decide +kernel
theorem d_Model_receive_27 : decode y_Model_receive.2.1 27 = .ok (.if_icmp .ne 9, 3) := by decide +kernel
theorem d_Model_receive_30 : decode y_Model_receive.2.1 30 = .ok (.aload_n 0, 1) := by decide +kernel
theorem d_Model_receive_31 : decode y_Model_receive.2.1 31 = .ok (.iconst 2, 1) := by decide +kernel
theorem d_Model_receive_32 : decode y_Model_receive.2.1 32 = .ok (.invokevirtual 81, 3) := by decide +kernel
theorem d_Model_receive_35 : decode y_Model_receive.2.1 35 = .ok (.ireturn, 1) := by decide +kernel
theorem d_Model_receive_36 : decode y_Model_receive.2.1 36 = .ok (.aload_n 0, 1) := by decide +kernel
theorem d_Model_receive_37 : decode y_Model_receive.2.1 37 = .ok (.getfield 37, 3) := by decide +kernel
theorem d_Model_receive_40 : decode y_Model_receive.2.1 40 = .ok (.bipush 32, 2) := by decide +kernel
theorem d_Model_receive_42 : decode y_Model_receive.2.1 42 = .ok (.iload_n 1, 1) := by decide +kernel
theorem d_Model_receive_43 : decode y_Model_receive.2.1 43 = .ok (.imul, 1) := by decide +kernel
theorem d_Model_receive_44 : decode y_Model_receive.2.1 44 = .ok (.aload_n 0, 1) := by decide +kernel
theorem d_Model_receive_45 : decode y_Model_receive.2.1 45 = .ok (.getfield 34, 3) := by decide +kernel
theorem d_Model_receive_48 : decode y_Model_receive.2.1 48 = .ok (.iload_n 1, 1) := by decide +kernel
theorem d_Model_receive_49 : decode y_Model_receive.2.1 49 = .ok (.iaload, 1) := by decide +kernel
theorem d_Model_receive_50 : decode y_Model_receive.2.1 50 = .ok (.iadd, 1) := by decide +kernel
theorem d_Model_receive_51 : decode y_Model_receive.2.1 51 = .ok (.iload_n 2, 1) := by decide +kernel
theorem d_Model_receive_52 : decode y_Model_receive.2.1 52 = .ok (.iastore, 1) := by decide +kernel
theorem d_Model_receive_53 : decode y_Model_receive.2.1 53 = .ok (.aload_n 0, 1) := by decide +kernel
theorem d_Model_receive_54 : decode y_Model_receive.2.1 54 = .ok (.getfield 34, 3) := by decide +kernel
theorem d_Model_receive_57 : decode y_Model_receive.2.1 57 = .ok (.iload_n 1, 1) := by decide +kernel
theorem d_Model_receive_58 : decode y_Model_receive.2.1 58 = .ok (.dup2, 1) := by decide +kernel
theorem d_Model_receive_59 : decode y_Model_receive.2.1 59 = .ok (.iaload, 1) := by decide +kernel
theorem d_Model_receive_60 : decode y_Model_receive.2.1 60 = .ok (.iconst 1, 1) := by decide +kernel
theorem d_Model_receive_61 : decode y_Model_receive.2.1 61 = .ok (.iadd, 1) := by decide +kernel
theorem d_Model_receive_62 : decode y_Model_receive.2.1 62 = .ok (.iastore, 1) := by decide +kernel
theorem d_Model_receive_63 : decode y_Model_receive.2.1 63 = .ok (.aload_n 0, 1) := by decide +kernel
theorem d_Model_receive_64 : decode y_Model_receive.2.1 64 = .ok (.getfield 34, 3) := by decide +kernel
theorem d_Model_receive_67 : decode y_Model_receive.2.1 67 = .ok (.iload_n 1, 1) := by decide +kernel
theorem d_Model_receive_68 : decode y_Model_receive.2.1 68 = .ok (.iaload, 1) := by decide +kernel
theorem d_Model_receive_69 : decode y_Model_receive.2.1 69 = .ok (.ireturn, 1) := by decide +kernel
theorem d_Model_sent_0 : decode y_Model_sent.2.1 0 = .ok (.aload_n 0, 1) := by decide +kernel
theorem d_Model_sent_1 : decode y_Model_sent.2.1 1 = .ok (.iconst 0, 1) := by decide +kernel
theorem d_Model_sent_2 : decode y_Model_sent.2.1 2 = .ok (.putfield 65, 3) := by decide +kernel
theorem d_Model_sent_5 : decode y_Model_sent.2.1 5 = .ok (.aload_n 0, 1) := by decide +kernel
theorem d_Model_sent_6 : decode y_Model_sent.2.1 6 = .ok (.iload_n 1, 1) := by decide +kernel
theorem d_Model_sent_7 : decode y_Model_sent.2.1 7 = .ok (.invokevirtual 147, 3) := by decide +kernel
theorem d_Model_sent_10 : decode y_Model_sent.2.1 10 = .ok (.ifCond .ne 9, 3) := by decide +kernel
theorem d_Model_sent_13 : decode y_Model_sent.2.1 13 = .ok (.aload_n 0, 1) := by decide +kernel
theorem d_Model_sent_14 : decode y_Model_sent.2.1 14 = .ok (.iconst 1, 1) := by decide +kernel
theorem d_Model_sent_15 : decode y_Model_sent.2.1 15 = .ok (.invokevirtual 81, 3) := by decide +kernel
theorem d_Model_sent_18 : decode y_Model_sent.2.1 18 = .ok (.ireturn, 1) := by decide +kernel
theorem d_Model_sent_19 : decode y_Model_sent.2.1 19 = .ok (.aload_n 0, 1) := by decide +kernel
theorem d_Model_sent_20 : decode y_Model_sent.2.1 20 = .ok (.getfield 40, 3) := by decide +kernel
theorem d_Model_sent_23 : decode y_Model_sent.2.1 23 = .ok (.iload_n 1, 1) := by decide +kernel
theorem d_Model_sent_24 : decode y_Model_sent.2.1 24 = .ok (.iaload, 1) := by decide +kernel
theorem d_Model_sent_25 : decode y_Model_sent.2.1 25 = .ok (.bipush 32, 2) := by decide +kernel
theorem d_Model_sent_27 : decode y_Model_sent.2.1 27 = .ok (.if_icmp .ge 12, 3) := by decide +kernel
theorem d_Model_sent_30 : decode y_Model_sent.2.1 30 = .ok (.aload_n 0, 1) := by decide +kernel
theorem d_Model_sent_31 : decode y_Model_sent.2.1 31 = .ok (.getfield 40, 3) := by decide +kernel
theorem d_Model_sent_34 : decode y_Model_sent.2.1 34 = .ok (.iload_n 1, 1) := by decide +kernel
theorem d_Model_sent_35 : decode y_Model_sent.2.1 35 = .ok (.iaload, 1) := by decide +kernel
theorem d_Model_sent_36 : decode y_Model_sent.2.1 36 = .ok (.goto 5, 3) := by decide +kernel
theorem d_Model_sent_39 : decode y_Model_sent.2.1 39 = .ok (.bipush 32, 2) := by decide +kernel
theorem d_Model_sent_41 : decode y_Model_sent.2.1 41 = .ok (.istore_n 3, 1) := by decide +kernel
theorem d_Model_sent_42 : decode y_Model_sent.2.1 42 = .ok (.iload_n 2, 1) := by decide +kernel
theorem d_Model_sent_43 : decode y_Model_sent.2.1 43 = .ok (.iconst 0, 1) := by decide +kernel
theorem d_Model_sent_44 : decode y_Model_sent.2.1 44 = .ok (.iload_n 3, 1) := by decide +kernel
theorem d_Model_sent_45 : decode y_Model_sent.2.1 45 = .ok (.iconst 1, 1) := by decide +kernel
theorem d_Model_sent_46 : decode y_Model_sent.2.1 46 = .ok (.isub, 1) := by decide +kernel
theorem d_Model_sent_47 : decode y_Model_sent.2.1 47 = .ok (.invokestatic 69, 3) := by decide +kernel
theorem d_Model_sent_50 : decode y_Model_sent.2.1 50 = .ok (.ifCond .eq 17, 3) := by decide +kernel
theorem d_Model_sent_53 : decode y_Model_sent.2.1 53 = .ok (.aload_n 0, 1) := by decide +kernel
theorem d_Model_sent_54 : decode y_Model_sent.2.1 54 = .ok (.getfield 43, 3) := by decide +kernel
theorem d_Model_sent_57 : decode y_Model_sent.2.1 57 = .ok (.bipush 32, 2) := by decide +kernel
theorem d_Model_sent_59 : decode y_Model_sent.2.1 59 = .ok (.iload_n 1, 1) := by decide +kernel
theorem d_Model_sent_60 : decode y_Model_sent.2.1 60 = .ok (.imul, 1) := by decide +kernel
theorem d_Model_sent_61 : decode y_Model_sent.2.1 61 = .ok (.iload_n 2, 1) := by decide +kernel
theorem d_Model_sent_62 : decode y_Model_sent.2.1 62 = .ok (.iadd, 1) := by decide +kernel
theorem d_Model_sent_63 : decode y_Model_sent.2.1 63 = .ok (.iaload, 1) := by decide +kernel
theorem d_Model_sent_64 : decode y_Model_sent.2.1 64 = .ok (.goto 8, 3) := by decide +kernel
theorem d_Model_sent_67 : decode y_Model_sent.2.1 67 = .ok (.aload_n 0, 1) := by decide +kernel
theorem d_Model_sent_68 : decode y_Model_sent.2.1 68 = .ok (.iconst 2, 1) := by decide +kernel
theorem d_Model_sent_69 : decode y_Model_sent.2.1 69 = .ok (.invokevirtual 81, 3) := by decide +kernel
theorem d_Model_sent_72 : decode y_Model_sent.2.1 72 = .ok (.ireturn, 1) := by decide +kernel
theorem d_Model_line_0 : decode y_Model_line.2.1 0 = .ok (.aload_n 0, 1) := by decide +kernel
theorem d_Model_line_1 : decode y_Model_line.2.1 1 = .ok (.iconst 0, 1) := by decide +kernel
theorem d_Model_line_2 : decode y_Model_line.2.1 2 = .ok (.putfield 65, 3) := by decide +kernel
theorem d_Model_line_5 : decode y_Model_line.2.1 5 = .ok (.iload_n 1, 1) := by decide +kernel
theorem d_Model_line_6 : decode y_Model_line.2.1 6 = .ok (.iconst 0, 1) := by decide +kernel
theorem d_Model_line_7 : decode y_Model_line.2.1 7 = .ok (.bipush 15, 2) := by decide +kernel
theorem d_Model_line_9 : decode y_Model_line.2.1 9 = .ok (.invokestatic 69, 3) := by decide +kernel
theorem d_Model_line_12 : decode y_Model_line.2.1 12 = .ok (.ifCond .ne 9, 3) := by decide +kernel
theorem d_Model_line_15 : decode y_Model_line.2.1 15 = .ok (.aload_n 0, 1) := by decide +kernel
theorem d_Model_line_16 : decode y_Model_line.2.1 16 = .ok (.iconst 1, 1) := by decide +kernel
theorem d_Model_line_17 : decode y_Model_line.2.1 17 = .ok (.invokevirtual 81, 3) := by decide +kernel
theorem d_Model_line_20 : decode y_Model_line.2.1 20 = .ok (.ireturn, 1) := by decide +kernel
theorem d_Model_line_21 : decode y_Model_line.2.1 21 = .ok (.iload_n 2, 1) := by decide +kernel
theorem d_Model_line_22 : decode y_Model_line.2.1 22 = .ok (.iconst 0, 1) := by decide +kernel
theorem d_Model_line_23 : decode y_Model_line.2.1 23 = .ok (.iconst 2, 1) := by decide +kernel
theorem d_Model_line_24 : decode y_Model_line.2.1 24 = .ok (.invokestatic 69, 3) := by decide +kernel
theorem d_Model_line_27 : decode y_Model_line.2.1 27 = .ok (.ifCond .eq 30, 3) := by decide +kernel
theorem d_Model_line_30 : decode y_Model_line.2.1 30 = .ok (.iload_n 3, 1) := by decide +kernel
theorem d_Model_line_31 : decode y_Model_line.2.1 31 = .ok (.iconst 0, 1) := by decide +kernel
theorem d_Model_line_32 : decode y_Model_line.2.1 32 = .ok (.iload_n 2, 1) := by decide +kernel
theorem d_Model_line_33 : decode y_Model_line.2.1 33 = .ok (.ifCond .ne 7, 3) := by decide +kernel
theorem d_Model_line_36 : decode y_Model_line.2.1 36 = .ok (.iconst 2, 1) := by decide +kernel
theorem d_Model_line_37 : decode y_Model_line.2.1 37 = .ok (.goto 14, 3) := by decide +kernel
theorem d_Model_line_40 : decode y_Model_line.2.1 40 = .ok (.iload_n 2, 1) := by decide +kernel
theorem d_Model_line_41 : decode y_Model_line.2.1 41 = .ok (.iconst 1, 1) := by decide +kernel
theorem d_Model_line_42 : decode y_Model_line.2.1 42 = .ok (.if_icmp .ne 8, 3) := by decide +kernel
theorem d_Model_line_45 : decode y_Model_line.2.1 45 = .ok (.bipush 15, 2) := by decide +kernel
theorem d_Model_line_47 : decode y_Model_line.2.1 47 = .ok (.goto 4, 3) := by decide +kernel
theorem d_Model_line_50 : decode y_Model_line.2.1 50 = .ok (.iconst 1, 1) := by decide +kernel
theorem d_Model_line_51 : decode y_Model_line.2.1 51 = .ok (.invokestatic 69, 3) := by decide +kernel
theorem d_Model_line_54 : decode y_Model_line.2.1 54 = .ok (.ifCond .ne 9, 3) := by decide +kernel
theorem d_Model_line_57 : decode y_Model_line.2.1 57 = .ok (.aload_n 0, 1) := by decide +kernel
theorem d_Model_line_58 : decode y_Model_line.2.1 58 = .ok (.iconst 2, 1) := by decide +kernel
theorem d_Model_line_59 : decode y_Model_line.2.1 59 = .ok (.invokevirtual 81, 3) := by decide +kernel
theorem d_Model_line_62 : decode y_Model_line.2.1 62 = .ok (.ireturn, 1) := by decide +kernel
theorem d_Model_line_63 : decode y_Model_line.2.1 63 = .ok (.iload_n 2, 1) := by decide +kernel
theorem d_Model_line_64 : decode y_Model_line.2.1 64 = .ok (.ifCond .ne 12, 3) := by decide +kernel
theorem d_Model_line_67 : decode y_Model_line.2.1 67 = .ok (.aload_n 0, 1) := by decide +kernel
theorem d_Model_line_68 : decode y_Model_line.2.1 68 = .ok (.getfield 49, 3) := by decide +kernel
theorem d_Model_line_71 : decode y_Model_line.2.1 71 = .ok (.iload_n 1, 1) := by decide +kernel
theorem d_Model_line_72 : decode y_Model_line.2.1 72 = .ok (.iaload, 1) := by decide +kernel
theorem d_Model_line_73 : decode y_Model_line.2.1 73 = .ok (.goto 31, 3) := by decide +kernel
theorem d_Model_line_76 : decode y_Model_line.2.1 76 = .ok (.iload_n 2, 1) := by decide +kernel
theorem d_Model_line_77 : decode y_Model_line.2.1 77 = .ok (.iconst 1, 1) := by decide +kernel
theorem d_Model_line_78 : decode y_Model_line.2.1 78 = .ok (.if_icmp .ne 12, 3) := by decide +kernel
theorem d_Model_line_81 : decode y_Model_line.2.1 81 = .ok (.aload_n 0, 1) := by decide +kernel
theorem d_Model_line_82 : decode y_Model_line.2.1 82 = .ok (.getfield 52, 3) := by decide +kernel
theorem d_Model_line_85 : decode y_Model_line.2.1 85 = .ok (.iload_n 1, 1) := by decide +kernel
theorem d_Model_line_86 : decode y_Model_line.2.1 86 = .ok (.iaload, 1) := by decide +kernel
theorem d_Model_line_87 : decode y_Model_line.2.1 87 = .ok (.goto 17, 3) := by decide +kernel
theorem d_Model_line_90 : decode y_Model_line.2.1 90 = .ok (.aload_n 0, 1) := by decide +kernel
theorem d_Model_line_91 : decode y_Model_line.2.1 91 = .ok (.getfield 55, 3) := by decide +kernel
theorem d_Model_line_94 : decode y_Model_line.2.1 94 = .ok (.iload_n 1, 1) := by decide +kernel
theorem d_Model_line_95 : decode y_Model_line.2.1 95 = .ok (.baload, 1) := by decide +kernel
theorem d_Model_line_96 : decode y_Model_line.2.1 96 = .ok (.ifCond .eq 7, 3) := by decide +kernel
theorem d_Model_line_99 : decode y_Model_line.2.1 99 = .ok (.iconst 1, 1) := by decide +kernel
theorem d_Model_line_100 : decode y_Model_line.2.1 100 = .ok (.goto 4, 3) := by decide +kernel
theorem d_Model_line_103 : decode y_Model_line.2.1 103 = .ok (.iconst 0, 1) := by decide +kernel
theorem d_Model_line_104 : decode y_Model_line.2.1 104 = .ok (.istore 4, 2) := by decide +kernel
theorem d_Model_line_106 : decode y_Model_line.2.1 106 = .ok (.iload_n 2, 1) := by decide +kernel
theorem d_Model_line_107 : decode y_Model_line.2.1 107 = .ok (.ifCond .ne 20, 3) := by decide +kernel
theorem d_Model_line_110 : decode y_Model_line.2.1 110 = .ok (.iload_n 3, 1) := by decide +kernel
theorem d_Model_line_111 : decode y_Model_line.2.1 111 = .ok (.aload_n 0, 1) := by decide +kernel
theorem d_Model_line_112 : decode y_Model_line.2.1 112 = .ok (.getfield 49, 3) := by decide +kernel
theorem d_Model_line_115 : decode y_Model_line.2.1 115 = .ok (.iload_n 1, 1) := by decide +kernel
theorem d_Model_line_116 : decode y_Model_line.2.1 116 = .ok (.iaload, 1) := by decide +kernel
theorem d_Model_line_117 : decode y_Model_line.2.1 117 = .ok (.if_icmp .eq 10, 3) := by decide +kernel
theorem d_Model_line_120 : decode y_Model_line.2.1 120 = .ok (.aload_n 0, 1) := by decide +kernel
theorem d_Model_line_121 : decode y_Model_line.2.1 121 = .ok (.getfield 62, 3) := by decide +kernel
theorem d_Model_line_124 : decode y_Model_line.2.1 124 = .ok (.iload_n 1, 1) := by decide +kernel
theorem d_Model_line_125 : decode y_Model_line.2.1 125 = .ok (.iconst 0, 1) := by decide +kernel
theorem d_Model_line_126 : decode y_Model_line.2.1 126 = .ok (.bastore, 1) := by decide +kernel
theorem d_Model_line_127 : decode y_Model_line.2.1 127 = .ok (.iload_n 2, 1) := by decide +kernel
theorem d_Model_line_128 : decode y_Model_line.2.1 128 = .ok (.ifCond .ne 10, 3) := by decide +kernel
theorem d_Model_line_131 : decode y_Model_line.2.1 131 = .ok (.aload_n 0, 1) := by decide +kernel
theorem d_Model_line_132 : decode y_Model_line.2.1 132 = .ok (.getfield 49, 3) := by decide +kernel
theorem d_Model_line_135 : decode y_Model_line.2.1 135 = .ok (.iload_n 1, 1) := by decide +kernel
theorem d_Model_line_136 : decode y_Model_line.2.1 136 = .ok (.iload_n 3, 1) := by decide +kernel
theorem d_Model_line_137 : decode y_Model_line.2.1 137 = .ok (.iastore, 1) := by decide +kernel
theorem d_Model_line_138 : decode y_Model_line.2.1 138 = .ok (.iload_n 2, 1) := by decide +kernel
theorem d_Model_line_139 : decode y_Model_line.2.1 139 = .ok (.iconst 1, 1) := by decide +kernel
theorem d_Model_line_140 : decode y_Model_line.2.1 140 = .ok (.if_icmp .ne 10, 3) := by decide +kernel
theorem d_Model_line_143 : decode y_Model_line.2.1 143 = .ok (.aload_n 0, 1) := by decide +kernel
theorem d_Model_line_144 : decode y_Model_line.2.1 144 = .ok (.getfield 52, 3) := by decide +kernel
theorem d_Model_line_147 : decode y_Model_line.2.1 147 = .ok (.iload_n 1, 1) := by decide +kernel
theorem d_Model_line_148 : decode y_Model_line.2.1 148 = .ok (.iload_n 3, 1) := by decide +kernel
theorem d_Model_line_149 : decode y_Model_line.2.1 149 = .ok (.iastore, 1) := by decide +kernel
theorem d_Model_line_150 : decode y_Model_line.2.1 150 = .ok (.iload_n 2, 1) := by decide +kernel
theorem d_Model_line_151 : decode y_Model_line.2.1 151 = .ok (.iconst 2, 1) := by decide +kernel
theorem d_Model_line_152 : decode y_Model_line.2.1 152 = .ok (.if_icmp .ne 19, 3) := by decide +kernel
theorem d_Model_line_155 : decode y_Model_line.2.1 155 = .ok (.aload_n 0, 1) := by decide +kernel
theorem d_Model_line_156 : decode y_Model_line.2.1 156 = .ok (.getfield 55, 3) := by decide +kernel
theorem d_Model_line_159 : decode y_Model_line.2.1 159 = .ok (.iload_n 1, 1) := by decide +kernel
theorem d_Model_line_160 : decode y_Model_line.2.1 160 = .ok (.iload_n 3, 1) := by decide +kernel
theorem d_Model_line_161 : decode y_Model_line.2.1 161 = .ok (.iconst 1, 1) := by decide +kernel
theorem d_Model_line_162 : decode y_Model_line.2.1 162 = .ok (.if_icmp .ne 7, 3) := by decide +kernel
theorem d_Model_line_165 : decode y_Model_line.2.1 165 = .ok (.iconst 1, 1) := by decide +kernel
theorem d_Model_line_166 : decode y_Model_line.2.1 166 = .ok (.goto 4, 3) := by decide +kernel
theorem d_Model_line_169 : decode y_Model_line.2.1 169 = .ok (.iconst 0, 1) := by decide +kernel
theorem d_Model_line_170 : decode y_Model_line.2.1 170 = .ok (.bastore, 1) := by decide +kernel
theorem d_Model_line_171 : decode y_Model_line.2.1 171 = .ok (.iload 4, 2) := by decide +kernel
theorem d_Model_line_173 : decode y_Model_line.2.1 173 = .ok (.ireturn, 1) := by decide +kernel
theorem d_Model_isPending_0 : decode y_Model_isPending.2.1 0 = .ok (.aload_n 0, 1) := by decide +kernel
theorem d_Model_isPending_1 : decode y_Model_isPending.2.1 1 = .ok (.getfield 49, 3) := by decide +kernel
theorem d_Model_isPending_4 : decode y_Model_isPending.2.1 4 = .ok (.iload_n 1, 1) := by decide +kernel
theorem d_Model_isPending_5 : decode y_Model_isPending.2.1 5 = .ok (.iaload, 1) := by decide +kernel
theorem d_Model_isPending_6 : decode y_Model_isPending.2.1 6 = .ok (.ifCond .ne 12, 3) := by decide +kernel
theorem d_Model_isPending_9 : decode y_Model_isPending.2.1 9 = .ok (.aload_n 0, 1) := by decide +kernel
theorem d_Model_isPending_10 : decode y_Model_isPending.2.1 10 = .ok (.getfield 59, 3) := by decide +kernel
theorem d_Model_isPending_13 : decode y_Model_isPending.2.1 13 = .ok (.iload_n 1, 1) := by decide +kernel
theorem d_Model_isPending_14 : decode y_Model_isPending.2.1 14 = .ok (.baload, 1) := by decide +kernel
theorem d_Model_isPending_15 : decode y_Model_isPending.2.1 15 = .ok (.goto 9, 3) := by decide +kernel
theorem d_Model_isPending_18 : decode y_Model_isPending.2.1 18 = .ok (.aload_n 0, 1) := by decide +kernel
theorem d_Model_isPending_19 : decode y_Model_isPending.2.1 19 = .ok (.getfield 62, 3) := by decide +kernel
theorem d_Model_isPending_22 : decode y_Model_isPending.2.1 22 = .ok (.iload_n 1, 1) := by decide +kernel
theorem d_Model_isPending_23 : decode y_Model_isPending.2.1 23 = .ok (.baload, 1) := by decide +kernel
theorem d_Model_isPending_24 : decode y_Model_isPending.2.1 24 = .ok (.ireturn, 1) := by decide +kernel
theorem d_Model_asks_0 : decode y_Model_asks.2.1 0 = .ok (.aload_n 0, 1) := by decide +kernel
theorem d_Model_asks_1 : decode y_Model_asks.2.1 1 = .ok (.iconst 0, 1) := by decide +kernel
theorem d_Model_asks_2 : decode y_Model_asks.2.1 2 = .ok (.putfield 65, 3) := by decide +kernel
theorem d_Model_asks_5 : decode y_Model_asks.2.1 5 = .ok (.iload_n 1, 1) := by decide +kernel
theorem d_Model_asks_6 : decode y_Model_asks.2.1 6 = .ok (.iconst 0, 1) := by decide +kernel
theorem d_Model_asks_7 : decode y_Model_asks.2.1 7 = .ok (.bipush 15, 2) := by decide +kernel
theorem d_Model_asks_9 : decode y_Model_asks.2.1 9 = .ok (.invokestatic 69, 3) := by decide +kernel
theorem d_Model_asks_12 : decode y_Model_asks.2.1 12 = .ok (.ifCond .ne 9, 3) := by decide +kernel
theorem d_Model_asks_15 : decode y_Model_asks.2.1 15 = .ok (.aload_n 0, 1) := by decide +kernel
theorem d_Model_asks_16 : decode y_Model_asks.2.1 16 = .ok (.iconst 1, 1) := by decide +kernel
theorem d_Model_asks_17 : decode y_Model_asks.2.1 17 = .ok (.invokevirtual 81, 3) := by decide +kernel
theorem d_Model_asks_20 : decode y_Model_asks.2.1 20 = .ok (.ireturn, 1) := by decide +kernel
theorem d_Model_asks_21 : decode y_Model_asks.2.1 21 = .ok (.aload_n 0, 1) := by decide +kernel
theorem d_Model_asks_22 : decode y_Model_asks.2.1 22 = .ok (.getfield 59, 3) := by decide +kernel
theorem d_Model_asks_25 : decode y_Model_asks.2.1 25 = .ok (.iload_n 1, 1) := by decide +kernel
theorem d_Model_asks_26 : decode y_Model_asks.2.1 26 = .ok (.baload, 1) := by decide +kernel
theorem d_Model_asks_27 : decode y_Model_asks.2.1 27 = .ok (.ifCond .eq 7, 3) := by decide +kernel
theorem d_Model_asks_30 : decode y_Model_asks.2.1 30 = .ok (.iconst 1, 1) := by decide +kernel
theorem d_Model_asks_31 : decode y_Model_asks.2.1 31 = .ok (.goto 4, 3) := by decide +kernel
theorem d_Model_asks_34 : decode y_Model_asks.2.1 34 = .ok (.iconst 0, 1) := by decide +kernel
theorem d_Model_asks_35 : decode y_Model_asks.2.1 35 = .ok (.aload_n 0, 1) := by decide +kernel
theorem d_Model_asks_36 : decode y_Model_asks.2.1 36 = .ok (.iload_n 1, 1) := by decide +kernel
theorem d_Model_asks_37 : decode y_Model_asks.2.1 37 = .ok (.invokevirtual 150, 3) := by decide +kernel
theorem d_Model_asks_40 : decode y_Model_asks.2.1 40 = .ok (.ifCond .eq 7, 3) := by decide +kernel
theorem d_Model_asks_43 : decode y_Model_asks.2.1 43 = .ok (.iconst 2, 1) := by decide +kernel
theorem d_Model_asks_44 : decode y_Model_asks.2.1 44 = .ok (.goto 4, 3) := by decide +kernel
theorem d_Model_asks_47 : decode y_Model_asks.2.1 47 = .ok (.iconst 0, 1) := by decide +kernel
theorem d_Model_asks_48 : decode y_Model_asks.2.1 48 = .ok (.iadd, 1) := by decide +kernel
theorem d_Model_asks_49 : decode y_Model_asks.2.1 49 = .ok (.ireturn, 1) := by decide +kernel
theorem d_Model_choose_0 : decode y_Model_choose.2.1 0 = .ok (.iconst (-1), 1) := by decide +kernel
theorem d_Model_choose_1 : decode y_Model_choose.2.1 1 = .ok (.istore_n 1, 1) := by decide +kernel
theorem d_Model_choose_2 : decode y_Model_choose.2.1 2 = .ok (.iconst 0, 1) := by decide +kernel
theorem d_Model_choose_3 : decode y_Model_choose.2.1 3 = .ok (.istore_n 2, 1) := by decide +kernel
theorem d_Model_choose_4 : decode y_Model_choose.2.1 4 = .ok (.iload_n 2, 1) := by decide +kernel
theorem d_Model_choose_5 : decode y_Model_choose.2.1 5 = .ok (.bipush 16, 2) := by decide +kernel
theorem d_Model_choose_7 : decode y_Model_choose.2.1 7 = .ok (.if_icmp .ge 47, 3) := by decide +kernel
theorem d_Model_choose_10 : decode y_Model_choose.2.1 10 = .ok (.aload_n 0, 1) := by decide +kernel
theorem d_Model_choose_11 : decode y_Model_choose.2.1 11 = .ok (.iload_n 2, 1) := by decide +kernel
theorem d_Model_choose_12 : decode y_Model_choose.2.1 12 = .ok (.invokevirtual 150, 3) := by decide +kernel
theorem d_Model_choose_15 : decode y_Model_choose.2.1 15 = .ok (.ifCond .eq 33, 3) := by decide +kernel
theorem d_Model_choose_18 : decode y_Model_choose.2.1 18 = .ok (.aload_n 0, 1) := by decide +kernel
theorem d_Model_choose_19 : decode y_Model_choose.2.1 19 = .ok (.getfield 55, 3) := by decide +kernel
theorem d_Model_choose_22 : decode y_Model_choose.2.1 22 = .ok (.iload_n 2, 1) := by decide +kernel
theorem d_Model_choose_23 : decode y_Model_choose.2.1 23 = .ok (.baload, 1) := by decide +kernel
theorem d_Model_choose_24 : decode y_Model_choose.2.1 24 = .ok (.ifCond .ne 24, 3) := by decide +kernel
theorem d_Model_choose_27 : decode y_Model_choose.2.1 27 = .ok (.iload_n 1, 1) := by decide +kernel
theorem d_Model_choose_28 : decode y_Model_choose.2.1 28 = .ok (.ifCond .lt 18, 3) := by decide +kernel
theorem d_Model_choose_31 : decode y_Model_choose.2.1 31 = .ok (.aload_n 0, 1) := by decide +kernel
theorem d_Model_choose_32 : decode y_Model_choose.2.1 32 = .ok (.getfield 52, 3) := by decide +kernel
theorem d_Model_choose_35 : decode y_Model_choose.2.1 35 = .ok (.iload_n 2, 1) := by decide +kernel
theorem d_Model_choose_36 : decode y_Model_choose.2.1 36 = .ok (.iaload, 1) := by decide +kernel
theorem d_Model_choose_37 : decode y_Model_choose.2.1 37 = .ok (.aload_n 0, 1) := by decide +kernel
theorem d_Model_choose_38 : decode y_Model_choose.2.1 38 = .ok (.getfield 52, 3) := by decide +kernel
theorem d_Model_choose_41 : decode y_Model_choose.2.1 41 = .ok (.iload_n 1, 1) := by decide +kernel
theorem d_Model_choose_42 : decode y_Model_choose.2.1 42 = .ok (.iaload, 1) := by decide +kernel
theorem d_Model_choose_43 : decode y_Model_choose.2.1 43 = .ok (.if_icmp .le 5, 3) := by decide +kernel
theorem d_Model_choose_46 : decode y_Model_choose.2.1 46 = .ok (.iload_n 2, 1) := by decide +kernel
theorem d_Model_choose_47 : decode y_Model_choose.2.1 47 = .ok (.istore_n 1, 1) := by decide +kernel
theorem d_Model_choose_48 : decode y_Model_choose.2.1 48 = .ok (.iinc 2 1, 3) := by decide +kernel
theorem d_Model_choose_51 : decode y_Model_choose.2.1 51 = .ok (.goto (-47), 3) := by decide +kernel
theorem d_Model_choose_54 : decode y_Model_choose.2.1 54 = .ok (.iload_n 1, 1) := by decide +kernel
theorem d_Model_choose_55 : decode y_Model_choose.2.1 55 = .ok (.ireturn, 1) := by decide +kernel
theorem d_Model_chosen_0 : decode y_Model_chosen.2.1 0 = .ok (.aload_n 0, 1) := by decide +kernel
theorem d_Model_chosen_1 : decode y_Model_chosen.2.1 1 = .ok (.iconst 0, 1) := by decide +kernel
theorem d_Model_chosen_2 : decode y_Model_chosen.2.1 2 = .ok (.putfield 65, 3) := by decide +kernel
theorem d_Model_chosen_5 : decode y_Model_chosen.2.1 5 = .ok (.aload_n 0, 1) := by decide +kernel
theorem d_Model_chosen_6 : decode y_Model_chosen.2.1 6 = .ok (.invokevirtual 153, 3) := by decide +kernel
theorem d_Model_chosen_9 : decode y_Model_chosen.2.1 9 = .ok (.ireturn, 1) := by decide +kernel
theorem d_Model_take_0 : decode y_Model_take.2.1 0 = .ok (.aload_n 0, 1) := by decide +kernel
theorem d_Model_take_1 : decode y_Model_take.2.1 1 = .ok (.iconst 0, 1) := by decide +kernel
theorem d_Model_take_2 : decode y_Model_take.2.1 2 = .ok (.putfield 65, 3) := by decide +kernel
theorem d_Model_take_5 : decode y_Model_take.2.1 5 = .ok (.aload_n 0, 1) := by decide +kernel
theorem d_Model_take_6 : decode y_Model_take.2.1 6 = .ok (.invokevirtual 153, 3) := by decide +kernel
theorem d_Model_take_9 : decode y_Model_take.2.1 9 = .ok (.istore_n 1, 1) := by decide +kernel
theorem d_Model_take_10 : decode y_Model_take.2.1 10 = .ok (.iload_n 1, 1) := by decide +kernel
theorem d_Model_take_11 : decode y_Model_take.2.1 11 = .ok (.ifCond .lt 10, 3) := by decide +kernel
theorem d_Model_take_14 : decode y_Model_take.2.1 14 = .ok (.aload_n 0, 1) := by decide +kernel
theorem d_Model_take_15 : decode y_Model_take.2.1 15 = .ok (.getfield 62, 3) := by decide +kernel
theorem d_Model_take_18 : decode y_Model_take.2.1 18 = .ok (.iload_n 1, 1) := by decide +kernel
theorem d_Model_take_19 : decode y_Model_take.2.1 19 = .ok (.iconst 0, 1) := by decide +kernel
theorem d_Model_take_20 : decode y_Model_take.2.1 20 = .ok (.bastore, 1) := by decide +kernel
theorem d_Model_take_21 : decode y_Model_take.2.1 21 = .ok (.iload_n 1, 1) := by decide +kernel
theorem d_Model_take_22 : decode y_Model_take.2.1 22 = .ok (.ireturn, 1) := by decide +kernel
theorem d_Model_reset_0 : decode y_Model_reset.2.1 0 = .ok (.aload_n 0, 1) := by decide +kernel
theorem d_Model_reset_1 : decode y_Model_reset.2.1 1 = .ok (.iconst 0, 1) := by decide +kernel
theorem d_Model_reset_2 : decode y_Model_reset.2.1 2 = .ok (.putfield 65, 3) := by decide +kernel
theorem d_Model_reset_5 : decode y_Model_reset.2.1 5 = .ok (.aload_n 0, 1) := by decide +kernel
theorem d_Model_reset_6 : decode y_Model_reset.2.1 6 = .ok (.getfield 88, 3) := by decide +kernel
theorem d_Model_reset_9 : decode y_Model_reset.2.1 9 = .ok (.istore_n 1, 1) := by decide +kernel
theorem d_Model_reset_10 : decode y_Model_reset.2.1 10 = .ok (.aload_n 0, 1) := by decide +kernel
theorem d_Model_reset_11 : decode y_Model_reset.2.1 11 = .ok (.iconst 1, 1) := by decide +kernel
theorem d_Model_reset_12 : decode y_Model_reset.2.1 12 = .ok (.invokevirtual 110, 3) := by decide +kernel
theorem d_Model_reset_15 : decode y_Model_reset.2.1 15 = .ok (.iload_n 1, 1) := by decide +kernel
theorem d_Model_reset_16 : decode y_Model_reset.2.1 16 = .ok (.ireturn, 1) := by decide +kernel
theorem d_Model_count_0 : decode y_Model_count.2.1 0 = .ok (.aload_n 0, 1) := by decide +kernel
theorem d_Model_count_1 : decode y_Model_count.2.1 1 = .ok (.iconst 0, 1) := by decide +kernel
theorem d_Model_count_2 : decode y_Model_count.2.1 2 = .ok (.putfield 65, 3) := by decide +kernel
theorem d_Model_count_5 : decode y_Model_count.2.1 5 = .ok (.iconst 0, 1) := by decide +kernel
theorem d_Model_count_6 : decode y_Model_count.2.1 6 = .ok (.istore_n 2, 1) := by decide +kernel
theorem d_Model_count_7 : decode y_Model_count.2.1 7 = .ok (.iconst 0, 1) := by decide +kernel
theorem d_Model_count_8 : decode y_Model_count.2.1 8 = .ok (.istore_n 3, 1) := by decide +kernel
theorem d_Model_count_9 : decode y_Model_count.2.1 9 = .ok (.iload_n 1, 1) := by decide +kernel
theorem d_Model_count_10 : decode y_Model_count.2.1 10 = .ok (.tableswitch 187 0 9 #[54, 59, 64, 69, 74, 79, 84, 84, 141, 141], 54) := by decide +kernel
theorem d_Model_count_64 : decode y_Model_count.2.1 64 = .ok (.aload_n 0, 1) := by decide +kernel
theorem d_Model_count_65 : decode y_Model_count.2.1 65 = .ok (.getfield 104, 3) := by decide +kernel
theorem d_Model_count_68 : decode y_Model_count.2.1 68 = .ok (.ireturn, 1) := by decide +kernel
theorem d_Model_count_69 : decode y_Model_count.2.1 69 = .ok (.aload_n 0, 1) := by decide +kernel
theorem d_Model_count_70 : decode y_Model_count.2.1 70 = .ok (.getfield 78, 3) := by decide +kernel
theorem d_Model_count_73 : decode y_Model_count.2.1 73 = .ok (.ireturn, 1) := by decide +kernel
theorem d_Model_count_74 : decode y_Model_count.2.1 74 = .ok (.aload_n 0, 1) := by decide +kernel
theorem d_Model_count_75 : decode y_Model_count.2.1 75 = .ok (.getfield 91, 3) := by decide +kernel
theorem d_Model_count_78 : decode y_Model_count.2.1 78 = .ok (.ireturn, 1) := by decide +kernel
theorem d_Model_count_79 : decode y_Model_count.2.1 79 = .ok (.aload_n 0, 1) := by decide +kernel
theorem d_Model_count_80 : decode y_Model_count.2.1 80 = .ok (.getfield 94, 3) := by decide +kernel
theorem d_Model_count_83 : decode y_Model_count.2.1 83 = .ok (.ireturn, 1) := by decide +kernel
theorem d_Model_count_84 : decode y_Model_count.2.1 84 = .ok (.aload_n 0, 1) := by decide +kernel
theorem d_Model_count_85 : decode y_Model_count.2.1 85 = .ok (.getfield 97, 3) := by decide +kernel
theorem d_Model_count_88 : decode y_Model_count.2.1 88 = .ok (.ireturn, 1) := by decide +kernel
theorem d_Model_count_89 : decode y_Model_count.2.1 89 = .ok (.aload_n 0, 1) := by decide +kernel
theorem d_Model_count_90 : decode y_Model_count.2.1 90 = .ok (.getfield 88, 3) := by decide +kernel
theorem d_Model_count_93 : decode y_Model_count.2.1 93 = .ok (.ireturn, 1) := by decide +kernel
theorem d_Model_count_94 : decode y_Model_count.2.1 94 = .ok (.iconst 0, 1) := by decide +kernel
theorem d_Model_count_95 : decode y_Model_count.2.1 95 = .ok (.istore 4, 2) := by decide +kernel
theorem d_Model_count_97 : decode y_Model_count.2.1 97 = .ok (.iload 4, 2) := by decide +kernel
theorem d_Model_count_99 : decode y_Model_count.2.1 99 = .ok (.bipush 16, 2) := by decide +kernel
theorem d_Model_count_101 : decode y_Model_count.2.1 101 = .ok (.if_icmp .ge 48, 3) := by decide +kernel
theorem d_Model_count_104 : decode y_Model_count.2.1 104 = .ok (.iload_n 2, 1) := by decide +kernel
theorem d_Model_count_105 : decode y_Model_count.2.1 105 = .ok (.iload_n 1, 1) := by decide +kernel
theorem d_Model_count_106 : decode y_Model_count.2.1 106 = .ok (.bipush 6, 2) := by decide +kernel
theorem d_Model_count_108 : decode y_Model_count.2.1 108 = .ok (.if_icmp .ne 16, 3) := by decide +kernel
theorem d_Model_count_111 : decode y_Model_count.2.1 111 = .ok (.aload_n 0, 1) := by decide +kernel
theorem d_Model_count_112 : decode y_Model_count.2.1 112 = .ok (.getfield 59, 3) := by decide +kernel
theorem d_Model_count_115 : decode y_Model_count.2.1 115 = .ok (.iload 4, 2) := by decide +kernel
theorem d_Model_count_117 : decode y_Model_count.2.1 117 = .ok (.baload, 1) := by decide +kernel
theorem d_Model_count_118 : decode y_Model_count.2.1 118 = .ok (.ifCond .eq 22, 3) := by decide +kernel
theorem d_Model_count_121 : decode y_Model_count.2.1 121 = .ok (.goto 12, 3) := by decide +kernel
theorem d_Model_count_124 : decode y_Model_count.2.1 124 = .ok (.aload_n 0, 1) := by decide +kernel
theorem d_Model_count_125 : decode y_Model_count.2.1 125 = .ok (.iload 4, 2) := by decide +kernel
theorem d_Model_count_127 : decode y_Model_count.2.1 127 = .ok (.invokevirtual 150, 3) := by decide +kernel
theorem d_Model_count_130 : decode y_Model_count.2.1 130 = .ok (.ifCond .eq 10, 3) := by decide +kernel
theorem d_Model_count_133 : decode y_Model_count.2.1 133 = .ok (.iconst 1, 1) := by decide +kernel
theorem d_Model_count_134 : decode y_Model_count.2.1 134 = .ok (.iload 4, 2) := by decide +kernel
theorem d_Model_count_136 : decode y_Model_count.2.1 136 = .ok (.ishl, 1) := by decide +kernel
theorem d_Model_count_137 : decode y_Model_count.2.1 137 = .ok (.goto 4, 3) := by decide +kernel
theorem d_Model_count_140 : decode y_Model_count.2.1 140 = .ok (.iconst 0, 1) := by decide +kernel
theorem d_Model_count_141 : decode y_Model_count.2.1 141 = .ok (.ior, 1) := by decide +kernel
theorem d_Model_count_142 : decode y_Model_count.2.1 142 = .ok (.istore_n 2, 1) := by decide +kernel
theorem d_Model_count_143 : decode y_Model_count.2.1 143 = .ok (.iinc 4 1, 3) := by decide +kernel
theorem d_Model_count_146 : decode y_Model_count.2.1 146 = .ok (.goto (-49), 3) := by decide +kernel
theorem d_Model_count_149 : decode y_Model_count.2.1 149 = .ok (.iload_n 2, 1) := by decide +kernel
theorem d_Model_count_150 : decode y_Model_count.2.1 150 = .ok (.ireturn, 1) := by decide +kernel
theorem d_Model_count_151 : decode y_Model_count.2.1 151 = .ok (.iconst 0, 1) := by decide +kernel
theorem d_Model_count_152 : decode y_Model_count.2.1 152 = .ok (.istore 4, 2) := by decide +kernel
theorem d_Model_count_154 : decode y_Model_count.2.1 154 = .ok (.iload 4, 2) := by decide +kernel
theorem d_Model_count_156 : decode y_Model_count.2.1 156 = .ok (.aload_n 0, 1) := by decide +kernel
theorem d_Model_count_157 : decode y_Model_count.2.1 157 = .ok (.getfield 78, 3) := by decide +kernel
theorem d_Model_count_160 : decode y_Model_count.2.1 160 = .ok (.if_icmp .ge 35, 3) := by decide +kernel
theorem d_Model_count_163 : decode y_Model_count.2.1 163 = .ok (.iload_n 3, 1) := by decide +kernel
theorem d_Model_count_164 : decode y_Model_count.2.1 164 = .ok (.iload_n 1, 1) := by decide +kernel
theorem d_Model_count_165 : decode y_Model_count.2.1 165 = .ok (.bipush 8, 2) := by decide +kernel
theorem d_Model_count_167 : decode y_Model_count.2.1 167 = .ok (.if_icmp .ne 13, 3) := by decide +kernel
theorem d_Model_count_170 : decode y_Model_count.2.1 170 = .ok (.aload_n 0, 1) := by decide +kernel
theorem d_Model_count_171 : decode y_Model_count.2.1 171 = .ok (.getfield 34, 3) := by decide +kernel
theorem d_Model_count_174 : decode y_Model_count.2.1 174 = .ok (.iload 4, 2) := by decide +kernel
theorem d_Model_count_176 : decode y_Model_count.2.1 176 = .ok (.iaload, 1) := by decide +kernel
theorem d_Model_count_177 : decode y_Model_count.2.1 177 = .ok (.goto 10, 3) := by decide +kernel
theorem d_Model_count_180 : decode y_Model_count.2.1 180 = .ok (.aload_n 0, 1) := by decide +kernel
theorem d_Model_count_181 : decode y_Model_count.2.1 181 = .ok (.getfield 40, 3) := by decide +kernel
theorem d_Model_count_184 : decode y_Model_count.2.1 184 = .ok (.iload 4, 2) := by decide +kernel
theorem d_Model_count_186 : decode y_Model_count.2.1 186 = .ok (.iaload, 1) := by decide +kernel
theorem d_Model_count_187 : decode y_Model_count.2.1 187 = .ok (.iadd, 1) := by decide +kernel
theorem d_Model_count_188 : decode y_Model_count.2.1 188 = .ok (.istore_n 3, 1) := by decide +kernel
theorem d_Model_count_189 : decode y_Model_count.2.1 189 = .ok (.iinc 4 1, 3) := by decide +kernel
theorem d_Model_count_192 : decode y_Model_count.2.1 192 = .ok (.goto (-38), 3) := by decide +kernel
theorem d_Model_count_195 : decode y_Model_count.2.1 195 = .ok (.iload_n 3, 1) := by decide +kernel
theorem d_Model_count_196 : decode y_Model_count.2.1 196 = .ok (.ireturn, 1) := by decide +kernel
theorem d_Model_count_197 : decode y_Model_count.2.1 197 = .ok (.iconst (-1), 1) := by decide +kernel
theorem d_Model_count_198 : decode y_Model_count.2.1 198 = .ok (.ireturn, 1) := by decide +kernel
