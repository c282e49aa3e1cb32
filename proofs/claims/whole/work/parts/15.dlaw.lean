theorem d_Law_part_0 : decode y_Law_part.2.1 0 = .ok (.aload 6, 2) := by decide +kernel
theorem d_Law_part_2 : decode y_Law_part.2.1 2 = .ok (.iconst 0, 1) := by decide +kernel
theorem d_Law_part_3 : decode y_Law_part.2.1 3 = .ok (.aload_n 0, 1) := by decide +kernel
theorem d_Law_part_4 : decode y_Law_part.2.1 4 = .ok (.iload_n 1, 1) := by decide +kernel
theorem d_Law_part_5 : decode y_Law_part.2.1 5 = .ok (.iload_n 2, 1) := by decide +kernel
theorem d_Law_part_6 : decode y_Law_part.2.1 6 = .ok (.iload_n 3, 1) := by decide +kernel
theorem d_Law_part_7 : decode y_Law_part.2.1 7 = .ok (.iload 4, 2) := by decide +kernel
theorem d_Law_part_9 : decode y_Law_part.2.1 9 = .ok (.iload 5, 2) := by decide +kernel
theorem d_Law_part_11 : decode y_Law_part.2.1 11 = .ok (.invokevirtual 7, 3) := by decide +kernel
theorem d_Law_part_14 : decode y_Law_part.2.1 14 = .ok (.i2l, 1) := by decide +kernel
theorem d_Law_part_15 : decode y_Law_part.2.1 15 = .ok (.lastore, 1) := by decide +kernel
theorem d_Law_part_16 : decode y_Law_part.2.1 16 = .ok (.goto 11, 3) := by decide +kernel
theorem d_Law_part_19 : decode y_Law_part.2.1 19 = .ok (.astore 7, 2) := by decide +kernel
theorem d_Law_part_21 : decode y_Law_part.2.1 21 = .ok (.iconst 1, 1) := by decide +kernel
theorem d_Law_part_22 : decode y_Law_part.2.1 22 = .ok (.ireturn, 1) := by decide +kernel
theorem d_Law_part_23 : decode y_Law_part.2.1 23 = .ok (.astore 7, 2) := by decide +kernel
theorem d_Law_part_25 : decode y_Law_part.2.1 25 = .ok (.iconst 2, 1) := by decide +kernel
theorem d_Law_part_26 : decode y_Law_part.2.1 26 = .ok (.ireturn, 1) := by decide +kernel
theorem d_Law_part_27 : decode y_Law_part.2.1 27 = .ok (.iconst 0, 1) := by decide +kernel
theorem d_Law_part_28 : decode y_Law_part.2.1 28 = .ok (.ireturn, 1) := by decide +kernel
theorem d_Law_load_0 : decode y_Law_load.2.1 0 = .ok (.aload_n 3, 1) := by decide +kernel
theorem d_Law_load_1 : decode y_Law_load.2.1 1 = .ok (.iconst 0, 1) := by decide +kernel
theorem d_Law_load_2 : decode y_Law_load.2.1 2 = .ok (.aload_n 0, 1) := by decide +kernel
theorem d_Law_load_3 : decode y_Law_load.2.1 3 = .ok (.iload_n 1, 1) := by decide +kernel
theorem d_Law_load_4 : decode y_Law_load.2.1 4 = .ok (.iload_n 2, 1) := by decide +kernel
theorem d_Law_load_5 : decode y_Law_load.2.1 5 = .ok (.invokevirtual 17, 3) := by decide +kernel
theorem d_Law_load_8 : decode y_Law_load.2.1 8 = .ok (.i2l, 1) := by decide +kernel
theorem d_Law_load_9 : decode y_Law_load.2.1 9 = .ok (.lastore, 1) := by decide +kernel
theorem d_Law_load_10 : decode y_Law_load.2.1 10 = .ok (.goto 7, 3) := by decide +kernel
theorem d_Law_load_13 : decode y_Law_load.2.1 13 = .ok (.astore 4, 2) := by decide +kernel
theorem d_Law_load_15 : decode y_Law_load.2.1 15 = .ok (.iconst 1, 1) := by decide +kernel
theorem d_Law_load_16 : decode y_Law_load.2.1 16 = .ok (.ireturn, 1) := by decide +kernel
theorem d_Law_load_17 : decode y_Law_load.2.1 17 = .ok (.iconst 0, 1) := by decide +kernel
theorem d_Law_load_18 : decode y_Law_load.2.1 18 = .ok (.ireturn, 1) := by decide +kernel
theorem d_Law_read_0 : decode y_Law_read.2.1 0 = .ok (.aload_n 2, 1) := by decide +kernel
theorem d_Law_read_1 : decode y_Law_read.2.1 1 = .ok (.iconst 0, 1) := by decide +kernel
theorem d_Law_read_2 : decode y_Law_read.2.1 2 = .ok (.aload_n 0, 1) := by decide +kernel
theorem d_Law_read_3 : decode y_Law_read.2.1 3 = .ok (.iload_n 1, 1) := by decide +kernel
theorem d_Law_read_4 : decode y_Law_read.2.1 4 = .ok (.invokevirtual 21, 3) := by decide +kernel
theorem d_Law_read_7 : decode y_Law_read.2.1 7 = .ok (.i2l, 1) := by decide +kernel
theorem d_Law_read_8 : decode y_Law_read.2.1 8 = .ok (.lastore, 1) := by decide +kernel
theorem d_Law_read_9 : decode y_Law_read.2.1 9 = .ok (.goto 9, 3) := by decide +kernel
theorem d_Law_read_12 : decode y_Law_read.2.1 12 = .ok (.astore_n 3, 1) := by decide +kernel
theorem d_Law_read_13 : decode y_Law_read.2.1 13 = .ok (.iconst 1, 1) := by decide +kernel
theorem d_Law_read_14 : decode y_Law_read.2.1 14 = .ok (.ireturn, 1) := by decide +kernel
theorem d_Law_read_15 : decode y_Law_read.2.1 15 = .ok (.astore_n 3, 1) := by decide +kernel
theorem d_Law_read_16 : decode y_Law_read.2.1 16 = .ok (.iconst 2, 1) := by decide +kernel
theorem d_Law_read_17 : decode y_Law_read.2.1 17 = .ok (.ireturn, 1) := by decide +kernel
theorem d_Law_read_18 : decode y_Law_read.2.1 18 = .ok (.iconst 0, 1) := by decide +kernel
theorem d_Law_read_19 : decode y_Law_read.2.1 19 = .ok (.ireturn, 1) := by decide +kernel
theorem d_Law_write_0 : decode y_Law_write.2.1 0 = .ok (.aload_n 3, 1) := by decide +kernel
theorem d_Law_write_1 : decode y_Law_write.2.1 1 = .ok (.iconst 0, 1) := by decide +kernel
theorem d_Law_write_2 : decode y_Law_write.2.1 2 = .ok (.aload_n 0, 1) := by decide +kernel
theorem d_Law_write_3 : decode y_Law_write.2.1 3 = .ok (.iload_n 1, 1) := by decide +kernel
theorem d_Law_write_4 : decode y_Law_write.2.1 4 = .ok (.iload_n 2, 1) := by decide +kernel
theorem d_Law_write_5 : decode y_Law_write.2.1 5 = .ok (.invokevirtual 29, 3) := by decide +kernel
theorem d_Law_write_8 : decode y_Law_write.2.1 8 = .ok (.i2l, 1) := by decide +kernel
theorem d_Law_write_9 : decode y_Law_write.2.1 9 = .ok (.lastore, 1) := by decide +kernel
theorem d_Law_write_10 : decode y_Law_write.2.1 10 = .ok (.goto 11, 3) := by decide +kernel
theorem d_Law_write_13 : decode y_Law_write.2.1 13 = .ok (.astore 4, 2) := by decide +kernel
theorem d_Law_write_15 : decode y_Law_write.2.1 15 = .ok (.iconst 1, 1) := by decide +kernel
theorem d_Law_write_16 : decode y_Law_write.2.1 16 = .ok (.ireturn, 1) := by decide +kernel
theorem d_Law_write_17 : decode y_Law_write.2.1 17 = .ok (.astore 4, 2) := by decide +kernel
theorem d_Law_write_19 : decode y_Law_write.2.1 19 = .ok (.iconst 2, 1) := by decide +kernel
theorem d_Law_write_20 : decode y_Law_write.2.1 20 = .ok (.ireturn, 1) := by decide +kernel
theorem d_Law_write_21 : decode y_Law_write.2.1 21 = .ok (.iconst 0, 1) := by decide +kernel
theorem d_Law_write_22 : decode y_Law_write.2.1 22 = .ok (.ireturn, 1) := by decide +kernel
theorem d_Law_step_0 : decode y_Law_step.2.1 0 = .ok (.aload_n 2, 1) := by decide +kernel
theorem d_Law_step_1 : decode y_Law_step.2.1 1 = .ok (.iconst 0, 1) := by decide +kernel
theorem d_Law_step_2 : decode y_Law_step.2.1 2 = .ok (.aload_n 0, 1) := by decide +kernel
theorem d_Law_step_3 : decode y_Law_step.2.1 3 = .ok (.iload_n 1, 1) := by decide +kernel
theorem d_Law_step_4 : decode y_Law_step.2.1 4 = .ok (.invokevirtual 32, 3) := by decide +kernel
theorem d_Law_step_7 : decode y_Law_step.2.1 7 = .ok (.ifCond .eq 7, 3) := by decide +kernel
theorem d_Law_step_10 : decode y_Law_step.2.1 10 = .ok (.lconst 1, 1) := by decide +kernel
theorem d_Law_step_11 : decode y_Law_step.2.1 11 = .ok (.goto 4, 3) := by decide +kernel
theorem d_Law_step_14 : decode y_Law_step.2.1 14 = .ok (.lconst 0, 1) := by decide +kernel
theorem d_Law_step_15 : decode y_Law_step.2.1 15 = .ok (.lastore, 1) := by decide +kernel
theorem d_Law_step_16 : decode y_Law_step.2.1 16 = .ok (.goto 6, 3) := by decide +kernel
theorem d_Law_step_19 : decode y_Law_step.2.1 19 = .ok (.astore_n 3, 1) := by decide +kernel
theorem d_Law_step_20 : decode y_Law_step.2.1 20 = .ok (.iconst 1, 1) := by decide +kernel
theorem d_Law_step_21 : decode y_Law_step.2.1 21 = .ok (.ireturn, 1) := by decide +kernel
theorem d_Law_step_22 : decode y_Law_step.2.1 22 = .ok (.iconst 0, 1) := by decide +kernel
theorem d_Law_step_23 : decode y_Law_step.2.1 23 = .ok (.ireturn, 1) := by decide +kernel
theorem d_Law_receive_0 : decode y_Law_receive.2.1 0 = .ok (.aload_n 3, 1) := by decide +kernel
theorem d_Law_receive_1 : decode y_Law_receive.2.1 1 = .ok (.iconst 0, 1) := by decide +kernel
theorem d_Law_receive_2 : decode y_Law_receive.2.1 2 = .ok (.aload_n 0, 1) := by decide +kernel
theorem d_Law_receive_3 : decode y_Law_receive.2.1 3 = .ok (.iload_n 1, 1) := by decide +kernel
theorem d_Law_receive_4 : decode y_Law_receive.2.1 4 = .ok (.iload_n 2, 1) := by decide +kernel
theorem d_Law_receive_5 : decode y_Law_receive.2.1 5 = .ok (.invokevirtual 36, 3) := by decide +kernel
theorem d_Law_receive_8 : decode y_Law_receive.2.1 8 = .ok (.i2l, 1) := by decide +kernel
theorem d_Law_receive_9 : decode y_Law_receive.2.1 9 = .ok (.lastore, 1) := by decide +kernel
theorem d_Law_receive_10 : decode y_Law_receive.2.1 10 = .ok (.goto 11, 3) := by decide +kernel
theorem d_Law_receive_13 : decode y_Law_receive.2.1 13 = .ok (.astore 4, 2) := by decide +kernel
theorem d_Law_receive_15 : decode y_Law_receive.2.1 15 = .ok (.iconst 1, 1) := by decide +kernel
theorem d_Law_receive_16 : decode y_Law_receive.2.1 16 = .ok (.ireturn, 1) := by decide +kernel
theorem d_Law_receive_17 : decode y_Law_receive.2.1 17 = .ok (.astore 4, 2) := by decide +kernel
theorem d_Law_receive_19 : decode y_Law_receive.2.1 19 = .ok (.iconst 2, 1) := by decide +kernel
theorem d_Law_receive_20 : decode y_Law_receive.2.1 20 = .ok (.ireturn, 1) := by decide +kernel
theorem d_Law_receive_21 : decode y_Law_receive.2.1 21 = .ok (.iconst 0, 1) := by decide +kernel
theorem d_Law_receive_22 : decode y_Law_receive.2.1 22 = .ok (.ireturn, 1) := by decide +kernel
theorem d_Law_sent_0 : decode y_Law_sent.2.1 0 = .ok (.aload_n 3, 1) := by decide +kernel
theorem d_Law_sent_1 : decode y_Law_sent.2.1 1 = .ok (.iconst 0, 1) := by decide +kernel
theorem d_Law_sent_2 : decode y_Law_sent.2.1 2 = .ok (.aload_n 0, 1) := by decide +kernel
theorem d_Law_sent_3 : decode y_Law_sent.2.1 3 = .ok (.iload_n 1, 1) := by decide +kernel
theorem d_Law_sent_4 : decode y_Law_sent.2.1 4 = .ok (.iload_n 2, 1) := by decide +kernel
theorem d_Law_sent_5 : decode y_Law_sent.2.1 5 = .ok (.invokevirtual 39, 3) := by decide +kernel
theorem d_Law_sent_8 : decode y_Law_sent.2.1 8 = .ok (.i2l, 1) := by decide +kernel
theorem d_Law_sent_9 : decode y_Law_sent.2.1 9 = .ok (.lastore, 1) := by decide +kernel
theorem d_Law_sent_10 : decode y_Law_sent.2.1 10 = .ok (.goto 11, 3) := by decide +kernel
theorem d_Law_sent_13 : decode y_Law_sent.2.1 13 = .ok (.astore 4, 2) := by decide +kernel
theorem d_Law_sent_15 : decode y_Law_sent.2.1 15 = .ok (.iconst 1, 1) := by decide +kernel
theorem d_Law_sent_16 : decode y_Law_sent.2.1 16 = .ok (.ireturn, 1) := by decide +kernel
theorem d_Law_sent_17 : decode y_Law_sent.2.1 17 = .ok (.astore 4, 2) := by decide +kernel
theorem d_Law_sent_19 : decode y_Law_sent.2.1 19 = .ok (.iconst 2, 1) := by decide +kernel
theorem d_Law_sent_20 : decode y_Law_sent.2.1 20 = .ok (.ireturn, 1) := by decide +kernel
theorem d_Law_sent_21 : decode y_Law_sent.2.1 21 = .ok (.iconst 0, 1) := by decide +kernel
theorem d_Law_sent_22 : decode y_Law_sent.2.1 22 = .ok (.ireturn, 1) := by decide +kernel
theorem d_Law_line_0 : decode y_Law_line.2.1 0 = .ok (.aload 4, 2) := by decide +kernel
theorem d_Law_line_2 : decode y_Law_line.2.1 2 = .ok (.iconst 0, 1) := by decide +kernel
theorem d_Law_line_3 : decode y_Law_line.2.1 3 = .ok (.aload_n 0, 1) := by decide +kernel
theorem d_Law_line_4 : decode y_Law_line.2.1 4 = .ok (.iload_n 1, 1) := by decide +kernel
theorem d_Law_line_5 : decode y_Law_line.2.1 5 = .ok (.iload_n 2, 1) := by decide +kernel
theorem d_Law_line_6 : decode y_Law_line.2.1 6 = .ok (.iload_n 3, 1) := by decide +kernel
theorem d_Law_line_7 : decode y_Law_line.2.1 7 = .ok (.invokevirtual 42, 3) := by decide +kernel
theorem d_Law_line_10 : decode y_Law_line.2.1 10 = .ok (.i2l, 1) := by decide +kernel
theorem d_Law_line_11 : decode y_Law_line.2.1 11 = .ok (.lastore, 1) := by decide +kernel
theorem d_Law_line_12 : decode y_Law_line.2.1 12 = .ok (.goto 11, 3) := by decide +kernel
theorem d_Law_line_15 : decode y_Law_line.2.1 15 = .ok (.astore 5, 2) := by decide +kernel
theorem d_Law_line_17 : decode y_Law_line.2.1 17 = .ok (.iconst 1, 1) := by decide +kernel
theorem d_Law_line_18 : decode y_Law_line.2.1 18 = .ok (.ireturn, 1) := by decide +kernel
theorem d_Law_line_19 : decode y_Law_line.2.1 19 = .ok (.astore 5, 2) := by decide +kernel
theorem d_Law_line_21 : decode y_Law_line.2.1 21 = .ok (.iconst 2, 1) := by decide +kernel
theorem d_Law_line_22 : decode y_Law_line.2.1 22 = .ok (.ireturn, 1) := by decide +kernel
theorem d_Law_line_23 : decode y_Law_line.2.1 23 = .ok (.iconst 0, 1) := by decide +kernel
theorem d_Law_line_24 : decode y_Law_line.2.1 24 = .ok (.ireturn, 1) := by decide +kernel
theorem d_Law_asks_0 : decode y_Law_asks.2.1 0 = .ok (.aload_n 2, 1) := by decide +kernel
theorem d_Law_asks_1 : decode y_Law_asks.2.1 1 = .ok (.iconst 0, 1) := by decide +kernel
theorem d_Law_asks_2 : decode y_Law_asks.2.1 2 = .ok (.aload_n 0, 1) := by decide +kernel
theorem d_Law_asks_3 : decode y_Law_asks.2.1 3 = .ok (.iload_n 1, 1) := by decide +kernel
theorem d_Law_asks_4 : decode y_Law_asks.2.1 4 = .ok (.invokevirtual 46, 3) := by decide +kernel
theorem d_Law_asks_7 : decode y_Law_asks.2.1 7 = .ok (.i2l, 1) := by decide +kernel
theorem d_Law_asks_8 : decode y_Law_asks.2.1 8 = .ok (.lastore, 1) := by decide +kernel
theorem d_Law_asks_9 : decode y_Law_asks.2.1 9 = .ok (.goto 6, 3) := by decide +kernel
theorem d_Law_asks_12 : decode y_Law_asks.2.1 12 = .ok (.astore_n 3, 1) := by decide +kernel
theorem d_Law_asks_13 : decode y_Law_asks.2.1 13 = .ok (.iconst 1, 1) := by decide +kernel
theorem d_Law_asks_14 : decode y_Law_asks.2.1 14 = .ok (.ireturn, 1) := by decide +kernel
theorem d_Law_asks_15 : decode y_Law_asks.2.1 15 = .ok (.iconst 0, 1) := by decide +kernel
theorem d_Law_asks_16 : decode y_Law_asks.2.1 16 = .ok (.ireturn, 1) := by decide +kernel
theorem d_Law_law_0 : decode y_Law_law.2.1 0 = .ok (.new 8, 3) := by decide +kernel
theorem d_Law_law_3 : decode y_Law_law.2.1 3 = .ok (.dup, 1) := by decide +kernel
theorem d_Law_law_4 : decode y_Law_law.2.1 4 = .ok (.invokespecial 49, 3) := by decide +kernel
theorem d_Law_law_7 : decode y_Law_law.2.1 7 = .ok (.astore_n 1, 1) := by decide +kernel
theorem d_Law_law_8 : decode y_Law_law.2.1 8 = .ok (.new 50, 3) := by decide +kernel
theorem d_Law_law_11 : decode y_Law_law.2.1 11 = .ok (.dup, 1) := by decide +kernel
theorem d_Law_law_12 : decode y_Law_law.2.1 12 = .ok (.invokespecial 52, 3) := by decide +kernel
theorem d_Law_law_15 : decode y_Law_law.2.1 15 = .ok (.astore_n 2, 1) := by decide +kernel
theorem d_Law_law_16 : decode y_Law_law.2.1 16 = .ok (.iconst 1, 1) := by decide +kernel
theorem d_Law_law_17 : decode y_Law_law.2.1 17 = .ok (.newarray .long, 2) := by decide +kernel
theorem d_Law_law_19 : decode y_Law_law.2.1 19 = .ok (.astore_n 3, 1) := by decide +kernel
theorem d_Law_law_20 : decode y_Law_law.2.1 20 = .ok (.iconst 0, 1) := by decide +kernel
theorem d_Law_law_21 : decode y_Law_law.2.1 21 = .ok (.istore 4, 2) := by decide +kernel
theorem d_Law_law_23 : decode y_Law_law.2.1 23 = .ok (.iload 4, 2) := by decide +kernel
theorem d_Law_law_25 : decode y_Law_law.2.1 25 = .ok (.aload_n 0, 1) := by decide +kernel
theorem d_Law_law_26 : decode y_Law_law.2.1 26 = .ok (.arraylength, 1) := by decide +kernel
theorem d_Law_law_27 : decode y_Law_law.2.1 27 = .ok (.bipush 6, 2) := by decide +kernel
theorem d_Law_law_29 : decode y_Law_law.2.1 29 = .ok (.isub, 1) := by decide +kernel
theorem d_Law_law_30 : decode y_Law_law.2.1 30 = .ok (.if_icmp .gt 779, 3) := by decide +kernel
theorem d_Law_law_33 : decode y_Law_law.2.1 33 = .ok (.aload_n 0, 1) := by decide +kernel
theorem d_Law_law_34 : decode y_Law_law.2.1 34 = .ok (.iload 4, 2) := by decide +kernel
theorem d_Law_law_36 : decode y_Law_law.2.1 36 = .ok (.iaload, 1) := by decide +kernel
theorem d_Law_law_37 : decode y_Law_law.2.1 37 = .ok (.bipush 15, 2) := by decide +kernel
theorem d_Law_law_39 : decode y_Law_law.2.1 39 = .ok (.iand, 1) := by decide +kernel
theorem d_Law_law_40 : decode y_Law_law.2.1 40 = .ok (.tableswitch 763 0 12 #[68, 172, 240, 296, 364, 427, 495, 563, 643, 699, 712, 725, 738], 68) := by decide +kernel
theorem d_Law_law_108 : decode y_Law_law.2.1 108 = .ok (.aload_n 1, 1) := by decide +kernel
theorem d_Law_law_109 : decode y_Law_law.2.1 109 = .ok (.aload_n 0, 1) := by decide +kernel
theorem d_Law_law_110 : decode y_Law_law.2.1 110 = .ok (.iload 4, 2) := by decide +kernel
theorem d_Law_law_112 : decode y_Law_law.2.1 112 = .ok (.iconst 1, 1) := by decide +kernel
theorem d_Law_law_113 : decode y_Law_law.2.1 113 = .ok (.iadd, 1) := by decide +kernel
theorem d_Law_law_114 : decode y_Law_law.2.1 114 = .ok (.iaload, 1) := by decide +kernel
theorem d_Law_law_115 : decode y_Law_law.2.1 115 = .ok (.aload_n 0, 1) := by decide +kernel
theorem d_Law_law_116 : decode y_Law_law.2.1 116 = .ok (.iload 4, 2) := by decide +kernel
theorem d_Law_law_118 : decode y_Law_law.2.1 118 = .ok (.iconst 2, 1) := by decide +kernel
theorem d_Law_law_119 : decode y_Law_law.2.1 119 = .ok (.iadd, 1) := by decide +kernel
theorem d_Law_law_120 : decode y_Law_law.2.1 120 = .ok (.iaload, 1) := by decide +kernel
theorem d_Law_law_121 : decode y_Law_law.2.1 121 = .ok (.aload_n 0, 1) := by decide +kernel
theorem d_Law_law_122 : decode y_Law_law.2.1 122 = .ok (.iload 4, 2) := by decide +kernel
theorem d_Law_law_124 : decode y_Law_law.2.1 124 = .ok (.iconst 3, 1) := by decide +kernel
theorem d_Law_law_125 : decode y_Law_law.2.1 125 = .ok (.iadd, 1) := by decide +kernel
theorem d_Law_law_126 : decode y_Law_law.2.1 126 = .ok (.iaload, 1) := by decide +kernel
theorem d_Law_law_127 : decode y_Law_law.2.1 127 = .ok (.aload_n 0, 1) := by decide +kernel
theorem d_Law_law_128 : decode y_Law_law.2.1 128 = .ok (.iload 4, 2) := by decide +kernel
theorem d_Law_law_130 : decode y_Law_law.2.1 130 = .ok (.iconst 4, 1) := by decide +kernel
theorem d_Law_law_131 : decode y_Law_law.2.1 131 = .ok (.iadd, 1) := by decide +kernel
theorem d_Law_law_132 : decode y_Law_law.2.1 132 = .ok (.iaload, 1) := by decide +kernel
theorem d_Law_law_133 : decode y_Law_law.2.1 133 = .ok (.aload_n 0, 1) := by decide +kernel
theorem d_Law_law_134 : decode y_Law_law.2.1 134 = .ok (.iload 4, 2) := by decide +kernel
theorem d_Law_law_136 : decode y_Law_law.2.1 136 = .ok (.iconst 5, 1) := by decide +kernel
theorem d_Law_law_137 : decode y_Law_law.2.1 137 = .ok (.iadd, 1) := by decide +kernel
theorem d_Law_law_138 : decode y_Law_law.2.1 138 = .ok (.iaload, 1) := by decide +kernel
theorem d_Law_law_139 : decode y_Law_law.2.1 139 = .ok (.aload_n 3, 1) := by decide +kernel
theorem d_Law_law_140 : decode y_Law_law.2.1 140 = .ok (.invokestatic 53, 3) := by decide +kernel
theorem d_Law_law_143 : decode y_Law_law.2.1 143 = .ok (.istore 5, 2) := by decide +kernel
theorem d_Law_law_145 : decode y_Law_law.2.1 145 = .ok (.aload_n 2, 1) := by decide +kernel
theorem d_Law_law_146 : decode y_Law_law.2.1 146 = .ok (.aload_n 0, 1) := by decide +kernel
theorem d_Law_law_147 : decode y_Law_law.2.1 147 = .ok (.iload 4, 2) := by decide +kernel
theorem d_Law_law_149 : decode y_Law_law.2.1 149 = .ok (.iconst 1, 1) := by decide +kernel
theorem d_Law_law_150 : decode y_Law_law.2.1 150 = .ok (.iadd, 1) := by decide +kernel
theorem d_Law_law_151 : decode y_Law_law.2.1 151 = .ok (.iaload, 1) := by decide +kernel
theorem d_Law_law_152 : decode y_Law_law.2.1 152 = .ok (.aload_n 0, 1) := by decide +kernel
theorem d_Law_law_153 : decode y_Law_law.2.1 153 = .ok (.iload 4, 2) := by decide +kernel
theorem d_Law_law_155 : decode y_Law_law.2.1 155 = .ok (.iconst 2, 1) := by decide +kernel
theorem d_Law_law_156 : decode y_Law_law.2.1 156 = .ok (.iadd, 1) := by decide +kernel
theorem d_Law_law_157 : decode y_Law_law.2.1 157 = .ok (.iaload, 1) := by decide +kernel
theorem d_Law_law_158 : decode y_Law_law.2.1 158 = .ok (.aload_n 0, 1) := by decide +kernel
theorem d_Law_law_159 : decode y_Law_law.2.1 159 = .ok (.iload 4, 2) := by decide +kernel
theorem d_Law_law_161 : decode y_Law_law.2.1 161 = .ok (.iconst 3, 1) := by decide +kernel
theorem d_Law_law_162 : decode y_Law_law.2.1 162 = .ok (.iadd, 1) := by decide +kernel
theorem d_Law_law_163 : decode y_Law_law.2.1 163 = .ok (.iaload, 1) := by decide +kernel
theorem d_Law_law_164 : decode y_Law_law.2.1 164 = .ok (.aload_n 0, 1) := by decide +kernel
theorem d_Law_law_165 : decode y_Law_law.2.1 165 = .ok (.iload 4, 2) := by decide +kernel
theorem d_Law_law_167 : decode y_Law_law.2.1 167 = .ok (.iconst 4, 1) := by decide +kernel
theorem d_Law_law_168 : decode y_Law_law.2.1 168 = .ok (.iadd, 1) := by decide +kernel
theorem d_Law_law_169 : decode y_Law_law.2.1 169 = .ok (.iaload, 1) := by decide +kernel
theorem d_Law_law_170 : decode y_Law_law.2.1 170 = .ok (.aload_n 0, 1) := by decide +kernel
theorem d_Law_law_171 : decode y_Law_law.2.1 171 = .ok (.iload 4, 2) := by decide +kernel
theorem d_Law_law_173 : decode y_Law_law.2.1 173 = .ok (.iconst 5, 1) := by decide +kernel
theorem d_Law_law_174 : decode y_Law_law.2.1 174 = .ok (.iadd, 1) := by decide +kernel
theorem d_Law_law_175 : decode y_Law_law.2.1 175 = .ok (.iaload, 1) := by decide +kernel
theorem d_Law_law_176 : decode y_Law_law.2.1 176 = .ok (.invokevirtual 58, 3) := by decide +kernel
theorem d_Law_law_179 : decode y_Law_law.2.1 179 = .ok (.istore 6, 2) := by decide +kernel
theorem d_Law_law_181 : decode y_Law_law.2.1 181 = .ok (.aload_n 2, 1) := by decide +kernel
theorem d_Law_law_182 : decode y_Law_law.2.1 182 = .ok (.invokevirtual 59, 3) := by decide +kernel
theorem d_Law_law_185 : decode y_Law_law.2.1 185 = .ok (.iload 5, 2) := by decide +kernel
theorem d_Law_law_187 : decode y_Law_law.2.1 187 = .ok (.if_icmp .eq 5, 3) := by decide +kernel
theorem d_Law_law_190 : decode y_Law_law.2.1 190 = .ok (.iconst 0, 1) := by decide +kernel
theorem d_Law_law_191 : decode y_Law_law.2.1 191 = .ok (.ireturn, 1) := by decide +kernel
theorem d_Law_law_192 : decode y_Law_law.2.1 192 = .ok (.iload 5, 2) := by decide +kernel
theorem d_Law_law_194 : decode y_Law_law.2.1 194 = .ok (.ifCond .ne 15, 3) := by decide +kernel
theorem d_Law_law_197 : decode y_Law_law.2.1 197 = .ok (.aload_n 3, 1) := by decide +kernel
theorem d_Law_law_198 : decode y_Law_law.2.1 198 = .ok (.iconst 0, 1) := by decide +kernel
theorem d_Law_law_199 : decode y_Law_law.2.1 199 = .ok (.laload, 1) := by decide +kernel
theorem d_Law_law_200 : decode y_Law_law.2.1 200 = .ok (.iload 6, 2) := by decide +kernel
theorem d_Law_law_202 : decode y_Law_law.2.1 202 = .ok (.i2l, 1) := by decide +kernel
theorem d_Law_law_203 : decode y_Law_law.2.1 203 = .ok (.lcmp, 1) := by decide +kernel
theorem d_Law_law_204 : decode y_Law_law.2.1 204 = .ok (.ifCond .eq 5, 3) := by decide +kernel
theorem d_Law_law_207 : decode y_Law_law.2.1 207 = .ok (.iconst 0, 1) := by decide +kernel
theorem d_Law_law_208 : decode y_Law_law.2.1 208 = .ok (.ireturn, 1) := by decide +kernel
theorem d_Law_law_209 : decode y_Law_law.2.1 209 = .ok (.goto 594, 3) := by decide +kernel
theorem d_Law_law_212 : decode y_Law_law.2.1 212 = .ok (.aload_n 1, 1) := by decide +kernel
theorem d_Law_law_213 : decode y_Law_law.2.1 213 = .ok (.aload_n 0, 1) := by decide +kernel
theorem d_Law_law_214 : decode y_Law_law.2.1 214 = .ok (.iload 4, 2) := by decide +kernel
theorem d_Law_law_216 : decode y_Law_law.2.1 216 = .ok (.iconst 1, 1) := by decide +kernel
theorem d_Law_law_217 : decode y_Law_law.2.1 217 = .ok (.iadd, 1) := by decide +kernel
theorem d_Law_law_218 : decode y_Law_law.2.1 218 = .ok (.iaload, 1) := by decide +kernel
theorem d_Law_law_219 : decode y_Law_law.2.1 219 = .ok (.aload_n 0, 1) := by decide +kernel
theorem d_Law_law_220 : decode y_Law_law.2.1 220 = .ok (.iload 4, 2) := by decide +kernel
theorem d_Law_law_222 : decode y_Law_law.2.1 222 = .ok (.iconst 2, 1) := by decide +kernel
theorem d_Law_law_223 : decode y_Law_law.2.1 223 = .ok (.iadd, 1) := by decide +kernel
theorem d_Law_law_224 : decode y_Law_law.2.1 224 = .ok (.iaload, 1) := by decide +kernel
theorem d_Law_law_225 : decode y_Law_law.2.1 225 = .ok (.aload_n 3, 1) := by decide +kernel
theorem d_Law_law_226 : decode y_Law_law.2.1 226 = .ok (.invokestatic 63, 3) := by decide +kernel
theorem d_Law_law_229 : decode y_Law_law.2.1 229 = .ok (.istore 5, 2) := by decide +kernel
theorem d_Law_law_231 : decode y_Law_law.2.1 231 = .ok (.aload_n 2, 1) := by decide +kernel
theorem d_Law_law_232 : decode y_Law_law.2.1 232 = .ok (.aload_n 0, 1) := by decide +kernel
theorem d_Law_law_233 : decode y_Law_law.2.1 233 = .ok (.iload 4, 2) := by decide +kernel
theorem d_Law_law_235 : decode y_Law_law.2.1 235 = .ok (.iconst 1, 1) := by decide +kernel
theorem d_Law_law_236 : decode y_Law_law.2.1 236 = .ok (.iadd, 1) := by decide +kernel
theorem d_Law_law_237 : decode y_Law_law.2.1 237 = .ok (.iaload, 1) := by decide +kernel
theorem d_Law_law_238 : decode y_Law_law.2.1 238 = .ok (.aload_n 0, 1) := by decide +kernel
theorem d_Law_law_239 : decode y_Law_law.2.1 239 = .ok (.iload 4, 2) := by decide +kernel
theorem d_Law_law_241 : decode y_Law_law.2.1 241 = .ok (.iconst 2, 1) := by decide +kernel
theorem d_Law_law_242 : decode y_Law_law.2.1 242 = .ok (.iadd, 1) := by decide +kernel
theorem d_Law_law_243 : decode y_Law_law.2.1 243 = .ok (.iaload, 1) := by decide +kernel
theorem d_Law_law_244 : decode y_Law_law.2.1 244 = .ok (.invokevirtual 66, 3) := by decide +kernel
theorem d_Law_law_247 : decode y_Law_law.2.1 247 = .ok (.istore 6, 2) := by decide +kernel
theorem d_Law_law_249 : decode y_Law_law.2.1 249 = .ok (.aload_n 2, 1) := by decide +kernel
theorem d_Law_law_250 : decode y_Law_law.2.1 250 = .ok (.invokevirtual 59, 3) := by decide +kernel
theorem d_Law_law_253 : decode y_Law_law.2.1 253 = .ok (.iload 5, 2) := by decide +kernel
theorem d_Law_law_255 : decode y_Law_law.2.1 255 = .ok (.if_icmp .eq 5, 3) := by decide +kernel
theorem d_Law_law_258 : decode y_Law_law.2.1 258 = .ok (.iconst 0, 1) := by decide +kernel
theorem d_Law_law_259 : decode y_Law_law.2.1 259 = .ok (.ireturn, 1) := by decide +kernel
theorem d_Law_law_260 : decode y_Law_law.2.1 260 = .ok (.iload 5, 2) := by decide +kernel
theorem d_Law_law_262 : decode y_Law_law.2.1 262 = .ok (.ifCond .ne 15, 3) := by decide +kernel
theorem d_Law_law_265 : decode y_Law_law.2.1 265 = .ok (.aload_n 3, 1) := by decide +kernel
theorem d_Law_law_266 : decode y_Law_law.2.1 266 = .ok (.iconst 0, 1) := by decide +kernel
theorem d_Law_law_267 : decode y_Law_law.2.1 267 = .ok (.laload, 1) := by decide +kernel
theorem d_Law_law_268 : decode y_Law_law.2.1 268 = .ok (.iload 6, 2) := by decide +kernel
theorem d_Law_law_270 : decode y_Law_law.2.1 270 = .ok (.i2l, 1) := by decide +kernel
theorem d_Law_law_271 : decode y_Law_law.2.1 271 = .ok (.lcmp, 1) := by decide +kernel
theorem d_Law_law_272 : decode y_Law_law.2.1 272 = .ok (.ifCond .eq 5, 3) := by decide +kernel
theorem d_Law_law_275 : decode y_Law_law.2.1 275 = .ok (.iconst 0, 1) := by decide +kernel
theorem d_Law_law_276 : decode y_Law_law.2.1 276 = .ok (.ireturn, 1) := by decide +kernel
theorem d_Law_law_277 : decode y_Law_law.2.1 277 = .ok (.goto 526, 3) := by decide +kernel
theorem d_Law_law_280 : decode y_Law_law.2.1 280 = .ok (.aload_n 1, 1) := by decide +kernel
theorem d_Law_law_281 : decode y_Law_law.2.1 281 = .ok (.aload_n 0, 1) := by decide +kernel
theorem d_Law_law_282 : decode y_Law_law.2.1 282 = .ok (.iload 4, 2) := by decide +kernel
theorem d_Law_law_284 : decode y_Law_law.2.1 284 = .ok (.iconst 1, 1) := by decide +kernel
theorem d_Law_law_285 : decode y_Law_law.2.1 285 = .ok (.iadd, 1) := by decide +kernel
theorem d_Law_law_286 : decode y_Law_law.2.1 286 = .ok (.iaload, 1) := by decide +kernel
theorem d_Law_law_287 : decode y_Law_law.2.1 287 = .ok (.aload_n 3, 1) := by decide +kernel
theorem d_Law_law_288 : decode y_Law_law.2.1 288 = .ok (.invokestatic 67, 3) := by decide +kernel
theorem d_Law_law_291 : decode y_Law_law.2.1 291 = .ok (.istore 5, 2) := by decide +kernel
theorem d_Law_law_293 : decode y_Law_law.2.1 293 = .ok (.aload_n 2, 1) := by decide +kernel
theorem d_Law_law_294 : decode y_Law_law.2.1 294 = .ok (.aload_n 0, 1) := by decide +kernel
theorem d_Law_law_295 : decode y_Law_law.2.1 295 = .ok (.iload 4, 2) := by decide +kernel
theorem d_Law_law_297 : decode y_Law_law.2.1 297 = .ok (.iconst 1, 1) := by decide +kernel
theorem d_Law_law_298 : decode y_Law_law.2.1 298 = .ok (.iadd, 1) := by decide +kernel
theorem d_Law_law_299 : decode y_Law_law.2.1 299 = .ok (.iaload, 1) := by decide +kernel
theorem d_Law_law_300 : decode y_Law_law.2.1 300 = .ok (.invokevirtual 70, 3) := by decide +kernel
theorem d_Law_law_303 : decode y_Law_law.2.1 303 = .ok (.istore 6, 2) := by decide +kernel
theorem d_Law_law_305 : decode y_Law_law.2.1 305 = .ok (.aload_n 2, 1) := by decide +kernel
theorem d_Law_law_306 : decode y_Law_law.2.1 306 = .ok (.invokevirtual 59, 3) := by decide +kernel
theorem d_Law_law_309 : decode y_Law_law.2.1 309 = .ok (.iload 5, 2) := by decide +kernel
theorem d_Law_law_311 : decode y_Law_law.2.1 311 = .ok (.if_icmp .eq 5, 3) := by decide +kernel
theorem d_Law_law_314 : decode y_Law_law.2.1 314 = .ok (.iconst 0, 1) := by decide +kernel
theorem d_Law_law_315 : decode y_Law_law.2.1 315 = .ok (.ireturn, 1) := by decide +kernel
theorem d_Law_law_316 : decode y_Law_law.2.1 316 = .ok (.iload 5, 2) := by decide +kernel
theorem d_Law_law_318 : decode y_Law_law.2.1 318 = .ok (.ifCond .ne 15, 3) := by decide +kernel
theorem d_Law_law_321 : decode y_Law_law.2.1 321 = .ok (.aload_n 3, 1) := by decide +kernel
theorem d_Law_law_322 : decode y_Law_law.2.1 322 = .ok (.iconst 0, 1) := by decide +kernel
theorem d_Law_law_323 : decode y_Law_law.2.1 323 = .ok (.laload, 1) := by decide +kernel
theorem d_Law_law_324 : decode y_Law_law.2.1 324 = .ok (.iload 6, 2) := by decide +kernel
theorem d_Law_law_326 : decode y_Law_law.2.1 326 = .ok (.i2l, 1) := by decide +kernel
theorem d_Law_law_327 : decode y_Law_law.2.1 327 = .ok (.lcmp, 1) := by decide +kernel
theorem d_Law_law_328 : decode y_Law_law.2.1 328 = .ok (.ifCond .eq 5, 3) := by decide +kernel
theorem d_Law_law_331 : decode y_Law_law.2.1 331 = .ok (.iconst 0, 1) := by decide +kernel
theorem d_Law_law_332 : decode y_Law_law.2.1 332 = .ok (.ireturn, 1) := by decide +kernel
theorem d_Law_law_333 : decode y_Law_law.2.1 333 = .ok (.goto 470, 3) := by decide +kernel
theorem d_Law_law_336 : decode y_Law_law.2.1 336 = .ok (.aload_n 1, 1) := by decide +kernel
theorem d_Law_law_337 : decode y_Law_law.2.1 337 = .ok (.aload_n 0, 1) := by decide +kernel
theorem d_Law_law_338 : decode y_Law_law.2.1 338 = .ok (.iload 4, 2) := by decide +kernel
theorem d_Law_law_340 : decode y_Law_law.2.1 340 = .ok (.iconst 1, 1) := by decide +kernel
theorem d_Law_law_341 : decode y_Law_law.2.1 341 = .ok (.iadd, 1) := by decide +kernel
theorem d_Law_law_342 : decode y_Law_law.2.1 342 = .ok (.iaload, 1) := by decide +kernel
theorem d_Law_law_343 : decode y_Law_law.2.1 343 = .ok (.aload_n 0, 1) := by decide +kernel
theorem d_Law_law_344 : decode y_Law_law.2.1 344 = .ok (.iload 4, 2) := by decide +kernel
theorem d_Law_law_346 : decode y_Law_law.2.1 346 = .ok (.iconst 2, 1) := by decide +kernel
theorem d_Law_law_347 : decode y_Law_law.2.1 347 = .ok (.iadd, 1) := by decide +kernel
theorem d_Law_law_348 : decode y_Law_law.2.1 348 = .ok (.iaload, 1) := by decide +kernel
theorem d_Law_law_349 : decode y_Law_law.2.1 349 = .ok (.aload_n 3, 1) := by decide +kernel
theorem d_Law_law_350 : decode y_Law_law.2.1 350 = .ok (.invokestatic 71, 3) := by decide +kernel
theorem d_Law_law_353 : decode y_Law_law.2.1 353 = .ok (.istore 5, 2) := by decide +kernel
theorem d_Law_law_355 : decode y_Law_law.2.1 355 = .ok (.aload_n 2, 1) := by decide +kernel
theorem d_Law_law_356 : decode y_Law_law.2.1 356 = .ok (.aload_n 0, 1) := by decide +kernel
theorem d_Law_law_357 : decode y_Law_law.2.1 357 = .ok (.iload 4, 2) := by decide +kernel
theorem d_Law_law_359 : decode y_Law_law.2.1 359 = .ok (.iconst 1, 1) := by decide +kernel
theorem d_Law_law_360 : decode y_Law_law.2.1 360 = .ok (.iadd, 1) := by decide +kernel
theorem d_Law_law_361 : decode y_Law_law.2.1 361 = .ok (.iaload, 1) := by decide +kernel
theorem d_Law_law_362 : decode y_Law_law.2.1 362 = .ok (.aload_n 0, 1) := by decide +kernel
theorem d_Law_law_363 : decode y_Law_law.2.1 363 = .ok (.iload 4, 2) := by decide +kernel
theorem d_Law_law_365 : decode y_Law_law.2.1 365 = .ok (.iconst 2, 1) := by decide +kernel
theorem d_Law_law_366 : decode y_Law_law.2.1 366 = .ok (.iadd, 1) := by decide +kernel
theorem d_Law_law_367 : decode y_Law_law.2.1 367 = .ok (.iaload, 1) := by decide +kernel
theorem d_Law_law_368 : decode y_Law_law.2.1 368 = .ok (.invokevirtual 73, 3) := by decide +kernel
theorem d_Law_law_371 : decode y_Law_law.2.1 371 = .ok (.istore 6, 2) := by decide +kernel
theorem d_Law_law_373 : decode y_Law_law.2.1 373 = .ok (.aload_n 2, 1) := by decide +kernel
theorem d_Law_law_374 : decode y_Law_law.2.1 374 = .ok (.invokevirtual 59, 3) := by decide +kernel
theorem d_Law_law_377 : decode y_Law_law.2.1 377 = .ok (.iload 5, 2) := by decide +kernel
theorem d_Law_law_379 : decode y_Law_law.2.1 379 = .ok (.if_icmp .eq 5, 3) := by decide +kernel
theorem d_Law_law_382 : decode y_Law_law.2.1 382 = .ok (.iconst 0, 1) := by decide +kernel
theorem d_Law_law_383 : decode y_Law_law.2.1 383 = .ok (.ireturn, 1) := by decide +kernel
theorem d_Law_law_384 : decode y_Law_law.2.1 384 = .ok (.iload 5, 2) := by decide +kernel
theorem d_Law_law_386 : decode y_Law_law.2.1 386 = .ok (.ifCond .ne 15, 3) := by decide +kernel
theorem d_Law_law_389 : decode y_Law_law.2.1 389 = .ok (.aload_n 3, 1) := by decide +kernel
theorem d_Law_law_390 : decode y_Law_law.2.1 390 = .ok (.iconst 0, 1) := by decide +kernel
theorem d_Law_law_391 : decode y_Law_law.2.1 391 = .ok (.laload, 1) := by decide +kernel
theorem d_Law_law_392 : decode y_Law_law.2.1 392 = .ok (.iload 6, 2) := by decide +kernel
theorem d_Law_law_394 : decode y_Law_law.2.1 394 = .ok (.i2l, 1) := by decide +kernel
theorem d_Law_law_395 : decode y_Law_law.2.1 395 = .ok (.lcmp, 1) := by decide +kernel
theorem d_Law_law_396 : decode y_Law_law.2.1 396 = .ok (.ifCond .eq 5, 3) := by decide +kernel
theorem d_Law_law_399 : decode y_Law_law.2.1 399 = .ok (.iconst 0, 1) := by decide +kernel
theorem d_Law_law_400 : decode y_Law_law.2.1 400 = .ok (.ireturn, 1) := by decide +kernel
theorem d_Law_law_401 : decode y_Law_law.2.1 401 = .ok (.goto 402, 3) := by decide +kernel
theorem d_Law_law_404 : decode y_Law_law.2.1 404 = .ok (.aload_n 1, 1) := by decide +kernel
theorem d_Law_law_405 : decode y_Law_law.2.1 405 = .ok (.aload_n 0, 1) := by decide +kernel
theorem d_Law_law_406 : decode y_Law_law.2.1 406 = .ok (.iload 4, 2) := by decide +kernel
theorem d_Law_law_408 : decode y_Law_law.2.1 408 = .ok (.iconst 1, 1) := by decide +kernel
theorem d_Law_law_409 : decode y_Law_law.2.1 409 = .ok (.iadd, 1) := by decide +kernel
theorem d_Law_law_410 : decode y_Law_law.2.1 410 = .ok (.iaload, 1) := by decide +kernel
theorem d_Law_law_411 : decode y_Law_law.2.1 411 = .ok (.aload_n 3, 1) := by decide +kernel
theorem d_Law_law_412 : decode y_Law_law.2.1 412 = .ok (.invokestatic 74, 3) := by decide +kernel
theorem d_Law_law_415 : decode y_Law_law.2.1 415 = .ok (.istore 5, 2) := by decide +kernel
theorem d_Law_law_417 : decode y_Law_law.2.1 417 = .ok (.aload_n 2, 1) := by decide +kernel
theorem d_Law_law_418 : decode y_Law_law.2.1 418 = .ok (.aload_n 0, 1) := by decide +kernel
theorem d_Law_law_419 : decode y_Law_law.2.1 419 = .ok (.iload 4, 2) := by decide +kernel
theorem d_Law_law_421 : decode y_Law_law.2.1 421 = .ok (.iconst 1, 1) := by decide +kernel
theorem d_Law_law_422 : decode y_Law_law.2.1 422 = .ok (.iadd, 1) := by decide +kernel
theorem d_Law_law_423 : decode y_Law_law.2.1 423 = .ok (.iaload, 1) := by decide +kernel
theorem d_Law_law_424 : decode y_Law_law.2.1 424 = .ok (.invokevirtual 76, 3) := by decide +kernel
theorem d_Law_law_427 : decode y_Law_law.2.1 427 = .ok (.istore 6, 2) := by decide +kernel
theorem d_Law_law_429 : decode y_Law_law.2.1 429 = .ok (.aload_n 2, 1) := by decide +kernel
theorem d_Law_law_430 : decode y_Law_law.2.1 430 = .ok (.invokevirtual 59, 3) := by decide +kernel
theorem d_Law_law_433 : decode y_Law_law.2.1 433 = .ok (.iload 5, 2) := by decide +kernel
theorem d_Law_law_435 : decode y_Law_law.2.1 435 = .ok (.if_icmp .eq 5, 3) := by decide +kernel
theorem d_Law_law_438 : decode y_Law_law.2.1 438 = .ok (.iconst 0, 1) := by decide +kernel
theorem d_Law_law_439 : decode y_Law_law.2.1 439 = .ok (.ireturn, 1) := by decide +kernel
theorem d_Law_law_440 : decode y_Law_law.2.1 440 = .ok (.iload 5, 2) := by decide +kernel
theorem d_Law_law_442 : decode y_Law_law.2.1 442 = .ok (.ifCond .ne 22, 3) := by decide +kernel
theorem d_Law_law_445 : decode y_Law_law.2.1 445 = .ok (.aload_n 3, 1) := by decide +kernel
theorem d_Law_law_446 : decode y_Law_law.2.1 446 = .ok (.iconst 0, 1) := by decide +kernel
theorem d_Law_law_447 : decode y_Law_law.2.1 447 = .ok (.laload, 1) := by decide +kernel
theorem d_Law_law_448 : decode y_Law_law.2.1 448 = .ok (.iload 6, 2) := by decide +kernel
theorem d_Law_law_450 : decode y_Law_law.2.1 450 = .ok (.ifCond .eq 7, 3) := by decide +kernel
theorem d_Law_law_453 : decode y_Law_law.2.1 453 = .ok (.lconst 1, 1) := by decide +kernel
theorem d_Law_law_454 : decode y_Law_law.2.1 454 = .ok (.goto 4, 3) := by decide +kernel
theorem d_Law_law_457 : decode y_Law_law.2.1 457 = .ok (.lconst 0, 1) := by decide +kernel
theorem d_Law_law_458 : decode y_Law_law.2.1 458 = .ok (.lcmp, 1) := by decide +kernel
theorem d_Law_law_459 : decode y_Law_law.2.1 459 = .ok (.ifCond .eq 5, 3) := by decide +kernel
theorem d_Law_law_462 : decode y_Law_law.2.1 462 = .ok (.iconst 0, 1) := by decide +kernel
theorem d_Law_law_463 : decode y_Law_law.2.1 463 = .ok (.ireturn, 1) := by decide +kernel
theorem d_Law_law_464 : decode y_Law_law.2.1 464 = .ok (.goto 339, 3) := by decide +kernel
theorem d_Law_law_467 : decode y_Law_law.2.1 467 = .ok (.aload_n 1, 1) := by decide +kernel
theorem d_Law_law_468 : decode y_Law_law.2.1 468 = .ok (.aload_n 0, 1) := by decide +kernel
theorem d_Law_law_469 : decode y_Law_law.2.1 469 = .ok (.iload 4, 2) := by decide +kernel
theorem d_Law_law_471 : decode y_Law_law.2.1 471 = .ok (.iconst 1, 1) := by decide +kernel
theorem d_Law_law_472 : decode y_Law_law.2.1 472 = .ok (.iadd, 1) := by decide +kernel
theorem d_Law_law_473 : decode y_Law_law.2.1 473 = .ok (.iaload, 1) := by decide +kernel
theorem d_Law_law_474 : decode y_Law_law.2.1 474 = .ok (.aload_n 0, 1) := by decide +kernel
theorem d_Law_law_475 : decode y_Law_law.2.1 475 = .ok (.iload 4, 2) := by decide +kernel
theorem d_Law_law_477 : decode y_Law_law.2.1 477 = .ok (.iconst 2, 1) := by decide +kernel
theorem d_Law_law_478 : decode y_Law_law.2.1 478 = .ok (.iadd, 1) := by decide +kernel
theorem d_Law_law_479 : decode y_Law_law.2.1 479 = .ok (.iaload, 1) := by decide +kernel
theorem d_Law_law_480 : decode y_Law_law.2.1 480 = .ok (.aload_n 3, 1) := by decide +kernel
theorem d_Law_law_481 : decode y_Law_law.2.1 481 = .ok (.invokestatic 77, 3) := by decide +kernel
theorem d_Law_law_484 : decode y_Law_law.2.1 484 = .ok (.istore 5, 2) := by decide +kernel
theorem d_Law_law_486 : decode y_Law_law.2.1 486 = .ok (.aload_n 2, 1) := by decide +kernel
theorem d_Law_law_487 : decode y_Law_law.2.1 487 = .ok (.aload_n 0, 1) := by decide +kernel
theorem d_Law_law_488 : decode y_Law_law.2.1 488 = .ok (.iload 4, 2) := by decide +kernel
theorem d_Law_law_490 : decode y_Law_law.2.1 490 = .ok (.iconst 1, 1) := by decide +kernel
theorem d_Law_law_491 : decode y_Law_law.2.1 491 = .ok (.iadd, 1) := by decide +kernel
theorem d_Law_law_492 : decode y_Law_law.2.1 492 = .ok (.iaload, 1) := by decide +kernel
theorem d_Law_law_493 : decode y_Law_law.2.1 493 = .ok (.aload_n 0, 1) := by decide +kernel
theorem d_Law_law_494 : decode y_Law_law.2.1 494 = .ok (.iload 4, 2) := by decide +kernel
theorem d_Law_law_496 : decode y_Law_law.2.1 496 = .ok (.iconst 2, 1) := by decide +kernel
theorem d_Law_law_497 : decode y_Law_law.2.1 497 = .ok (.iadd, 1) := by decide +kernel
theorem d_Law_law_498 : decode y_Law_law.2.1 498 = .ok (.iaload, 1) := by decide +kernel
theorem d_Law_law_499 : decode y_Law_law.2.1 499 = .ok (.invokevirtual 79, 3) := by decide +kernel
theorem d_Law_law_502 : decode y_Law_law.2.1 502 = .ok (.istore 6, 2) := by decide +kernel
theorem d_Law_law_504 : decode y_Law_law.2.1 504 = .ok (.aload_n 2, 1) := by decide +kernel
theorem d_Law_law_505 : decode y_Law_law.2.1 505 = .ok (.invokevirtual 59, 3) := by decide +kernel
theorem d_Law_law_508 : decode y_Law_law.2.1 508 = .ok (.iload 5, 2) := by decide +kernel
theorem d_Law_law_510 : decode y_Law_law.2.1 510 = .ok (.if_icmp .eq 5, 3) := by decide +kernel
theorem d_Law_law_513 : decode y_Law_law.2.1 513 = .ok (.iconst 0, 1) := by decide +kernel
theorem d_Law_law_514 : decode y_Law_law.2.1 514 = .ok (.ireturn, 1) := by decide +kernel
theorem d_Law_law_515 : decode y_Law_law.2.1 515 = .ok (.iload 5, 2) := by decide +kernel
theorem d_Law_law_517 : decode y_Law_law.2.1 517 = .ok (.ifCond .ne 15, 3) := by decide +kernel
theorem d_Law_law_520 : decode y_Law_law.2.1 520 = .ok (.aload_n 3, 1) := by decide +kernel
theorem d_Law_law_521 : decode y_Law_law.2.1 521 = .ok (.iconst 0, 1) := by decide +kernel
theorem d_Law_law_522 : decode y_Law_law.2.1 522 = .ok (.laload, 1) := by decide +kernel
theorem d_Law_law_523 : decode y_Law_law.2.1 523 = .ok (.iload 6, 2) := by decide +kernel
theorem d_Law_law_525 : decode y_Law_law.2.1 525 = .ok (.i2l, 1) := by decide +kernel
theorem d_Law_law_526 : decode y_Law_law.2.1 526 = .ok (.lcmp, 1) := by decide +kernel
theorem d_Law_law_527 : decode y_Law_law.2.1 527 = .ok (.ifCond .eq 5, 3) := by decide +kernel
theorem d_Law_law_530 : decode y_Law_law.2.1 530 = .ok (.iconst 0, 1) := by decide +kernel
theorem d_Law_law_531 : decode y_Law_law.2.1 531 = .ok (.ireturn, 1) := by decide +kernel
theorem d_Law_law_532 : decode y_Law_law.2.1 532 = .ok (.goto 271, 3) := by decide +kernel
theorem d_Law_law_535 : decode y_Law_law.2.1 535 = .ok (.aload_n 1, 1) := by decide +kernel
theorem d_Law_law_536 : decode y_Law_law.2.1 536 = .ok (.aload_n 0, 1) := by decide +kernel
theorem d_Law_law_537 : decode y_Law_law.2.1 537 = .ok (.iload 4, 2) := by decide +kernel
theorem d_Law_law_539 : decode y_Law_law.2.1 539 = .ok (.iconst 1, 1) := by decide +kernel
theorem d_Law_law_540 : decode y_Law_law.2.1 540 = .ok (.iadd, 1) := by decide +kernel
theorem d_Law_law_541 : decode y_Law_law.2.1 541 = .ok (.iaload, 1) := by decide +kernel
theorem d_Law_law_542 : decode y_Law_law.2.1 542 = .ok (.aload_n 0, 1) := by decide +kernel
theorem d_Law_law_543 : decode y_Law_law.2.1 543 = .ok (.iload 4, 2) := by decide +kernel
theorem d_Law_law_545 : decode y_Law_law.2.1 545 = .ok (.iconst 2, 1) := by decide +kernel
theorem d_Law_law_546 : decode y_Law_law.2.1 546 = .ok (.iadd, 1) := by decide +kernel
theorem d_Law_law_547 : decode y_Law_law.2.1 547 = .ok (.iaload, 1) := by decide +kernel
theorem d_Law_law_548 : decode y_Law_law.2.1 548 = .ok (.aload_n 3, 1) := by decide +kernel
theorem d_Law_law_549 : decode y_Law_law.2.1 549 = .ok (.invokestatic 80, 3) := by decide +kernel
theorem d_Law_law_552 : decode y_Law_law.2.1 552 = .ok (.istore 5, 2) := by decide +kernel
theorem d_Law_law_554 : decode y_Law_law.2.1 554 = .ok (.aload_n 2, 1) := by decide +kernel
theorem d_Law_law_555 : decode y_Law_law.2.1 555 = .ok (.aload_n 0, 1) := by decide +kernel
theorem d_Law_law_556 : decode y_Law_law.2.1 556 = .ok (.iload 4, 2) := by decide +kernel
theorem d_Law_law_558 : decode y_Law_law.2.1 558 = .ok (.iconst 1, 1) := by decide +kernel
theorem d_Law_law_559 : decode y_Law_law.2.1 559 = .ok (.iadd, 1) := by decide +kernel
theorem d_Law_law_560 : decode y_Law_law.2.1 560 = .ok (.iaload, 1) := by decide +kernel
theorem d_Law_law_561 : decode y_Law_law.2.1 561 = .ok (.aload_n 0, 1) := by decide +kernel
theorem d_Law_law_562 : decode y_Law_law.2.1 562 = .ok (.iload 4, 2) := by decide +kernel
theorem d_Law_law_564 : decode y_Law_law.2.1 564 = .ok (.iconst 2, 1) := by decide +kernel
theorem d_Law_law_565 : decode y_Law_law.2.1 565 = .ok (.iadd, 1) := by decide +kernel
theorem d_Law_law_566 : decode y_Law_law.2.1 566 = .ok (.iaload, 1) := by decide +kernel
theorem d_Law_law_567 : decode y_Law_law.2.1 567 = .ok (.invokevirtual 82, 3) := by decide +kernel
theorem d_Law_law_570 : decode y_Law_law.2.1 570 = .ok (.istore 6, 2) := by decide +kernel
theorem d_Law_law_572 : decode y_Law_law.2.1 572 = .ok (.aload_n 2, 1) := by decide +kernel
theorem d_Law_law_573 : decode y_Law_law.2.1 573 = .ok (.invokevirtual 59, 3) := by decide +kernel
theorem d_Law_law_576 : decode y_Law_law.2.1 576 = .ok (.iload 5, 2) := by decide +kernel
theorem d_Law_law_578 : decode y_Law_law.2.1 578 = .ok (.if_icmp .eq 5, 3) := by decide +kernel
theorem d_Law_law_581 : decode y_Law_law.2.1 581 = .ok (.iconst 0, 1) := by decide +kernel
theorem d_Law_law_582 : decode y_Law_law.2.1 582 = .ok (.ireturn, 1) := by decide +kernel
theorem d_Law_law_583 : decode y_Law_law.2.1 583 = .ok (.iload 5, 2) := by decide +kernel
theorem d_Law_law_585 : decode y_Law_law.2.1 585 = .ok (.ifCond .ne 15, 3) := by decide +kernel
theorem d_Law_law_588 : decode y_Law_law.2.1 588 = .ok (.aload_n 3, 1) := by decide +kernel
theorem d_Law_law_589 : decode y_Law_law.2.1 589 = .ok (.iconst 0, 1) := by decide +kernel
theorem d_Law_law_590 : decode y_Law_law.2.1 590 = .ok (.laload, 1) := by decide +kernel
theorem d_Law_law_591 : decode y_Law_law.2.1 591 = .ok (.iload 6, 2) := by decide +kernel
theorem d_Law_law_593 : decode y_Law_law.2.1 593 = .ok (.i2l, 1) := by decide +kernel
theorem d_Law_law_594 : decode y_Law_law.2.1 594 = .ok (.lcmp, 1) := by decide +kernel
theorem d_Law_law_595 : decode y_Law_law.2.1 595 = .ok (.ifCond .eq 5, 3) := by decide +kernel
theorem d_Law_law_598 : decode y_Law_law.2.1 598 = .ok (.iconst 0, 1) := by decide +kernel
theorem d_Law_law_599 : decode y_Law_law.2.1 599 = .ok (.ireturn, 1) := by decide +kernel
theorem d_Law_law_600 : decode y_Law_law.2.1 600 = .ok (.goto 203, 3) := by decide +kernel
theorem d_Law_law_603 : decode y_Law_law.2.1 603 = .ok (.aload_n 1, 1) := by decide +kernel
theorem d_Law_law_604 : decode y_Law_law.2.1 604 = .ok (.aload_n 0, 1) := by decide +kernel
theorem d_Law_law_605 : decode y_Law_law.2.1 605 = .ok (.iload 4, 2) := by decide +kernel
theorem d_Law_law_607 : decode y_Law_law.2.1 607 = .ok (.iconst 1, 1) := by decide +kernel
theorem d_Law_law_608 : decode y_Law_law.2.1 608 = .ok (.iadd, 1) := by decide +kernel
theorem d_Law_law_609 : decode y_Law_law.2.1 609 = .ok (.iaload, 1) := by decide +kernel
theorem d_Law_law_610 : decode y_Law_law.2.1 610 = .ok (.aload_n 0, 1) := by decide +kernel
theorem d_Law_law_611 : decode y_Law_law.2.1 611 = .ok (.iload 4, 2) := by decide +kernel
theorem d_Law_law_613 : decode y_Law_law.2.1 613 = .ok (.iconst 2, 1) := by decide +kernel
theorem d_Law_law_614 : decode y_Law_law.2.1 614 = .ok (.iadd, 1) := by decide +kernel
theorem d_Law_law_615 : decode y_Law_law.2.1 615 = .ok (.iaload, 1) := by decide +kernel
theorem d_Law_law_616 : decode y_Law_law.2.1 616 = .ok (.aload_n 0, 1) := by decide +kernel
theorem d_Law_law_617 : decode y_Law_law.2.1 617 = .ok (.iload 4, 2) := by decide +kernel
theorem d_Law_law_619 : decode y_Law_law.2.1 619 = .ok (.iconst 3, 1) := by decide +kernel
theorem d_Law_law_620 : decode y_Law_law.2.1 620 = .ok (.iadd, 1) := by decide +kernel
theorem d_Law_law_621 : decode y_Law_law.2.1 621 = .ok (.iaload, 1) := by decide +kernel
theorem d_Law_law_622 : decode y_Law_law.2.1 622 = .ok (.aload_n 3, 1) := by decide +kernel
theorem d_Law_law_623 : decode y_Law_law.2.1 623 = .ok (.invokestatic 83, 3) := by decide +kernel
theorem d_Law_law_626 : decode y_Law_law.2.1 626 = .ok (.istore 5, 2) := by decide +kernel
theorem d_Law_law_628 : decode y_Law_law.2.1 628 = .ok (.aload_n 2, 1) := by decide +kernel
theorem d_Law_law_629 : decode y_Law_law.2.1 629 = .ok (.aload_n 0, 1) := by decide +kernel
theorem d_Law_law_630 : decode y_Law_law.2.1 630 = .ok (.iload 4, 2) := by decide +kernel
theorem d_Law_law_632 : decode y_Law_law.2.1 632 = .ok (.iconst 1, 1) := by decide +kernel
theorem d_Law_law_633 : decode y_Law_law.2.1 633 = .ok (.iadd, 1) := by decide +kernel
theorem d_Law_law_634 : decode y_Law_law.2.1 634 = .ok (.iaload, 1) := by decide +kernel
theorem d_Law_law_635 : decode y_Law_law.2.1 635 = .ok (.aload_n 0, 1) := by decide +kernel
theorem d_Law_law_636 : decode y_Law_law.2.1 636 = .ok (.iload 4, 2) := by decide +kernel
theorem d_Law_law_638 : decode y_Law_law.2.1 638 = .ok (.iconst 2, 1) := by decide +kernel
theorem d_Law_law_639 : decode y_Law_law.2.1 639 = .ok (.iadd, 1) := by decide +kernel
theorem d_Law_law_640 : decode y_Law_law.2.1 640 = .ok (.iaload, 1) := by decide +kernel
theorem d_Law_law_641 : decode y_Law_law.2.1 641 = .ok (.aload_n 0, 1) := by decide +kernel
theorem d_Law_law_642 : decode y_Law_law.2.1 642 = .ok (.iload 4, 2) := by decide +kernel
theorem d_Law_law_644 : decode y_Law_law.2.1 644 = .ok (.iconst 3, 1) := by decide +kernel
theorem d_Law_law_645 : decode y_Law_law.2.1 645 = .ok (.iadd, 1) := by decide +kernel
theorem d_Law_law_646 : decode y_Law_law.2.1 646 = .ok (.iaload, 1) := by decide +kernel
theorem d_Law_law_647 : decode y_Law_law.2.1 647 = .ok (.invokevirtual 86, 3) := by decide +kernel
theorem d_Law_law_650 : decode y_Law_law.2.1 650 = .ok (.istore 6, 2) := by decide +kernel
theorem d_Law_law_652 : decode y_Law_law.2.1 652 = .ok (.aload_n 2, 1) := by decide +kernel
theorem d_Law_law_653 : decode y_Law_law.2.1 653 = .ok (.invokevirtual 59, 3) := by decide +kernel
theorem d_Law_law_656 : decode y_Law_law.2.1 656 = .ok (.iload 5, 2) := by decide +kernel
theorem d_Law_law_658 : decode y_Law_law.2.1 658 = .ok (.if_icmp .eq 5, 3) := by decide +kernel
theorem d_Law_law_661 : decode y_Law_law.2.1 661 = .ok (.iconst 0, 1) := by decide +kernel
theorem d_Law_law_662 : decode y_Law_law.2.1 662 = .ok (.ireturn, 1) := by decide +kernel
theorem d_Law_law_663 : decode y_Law_law.2.1 663 = .ok (.iload 5, 2) := by decide +kernel
theorem d_Law_law_665 : decode y_Law_law.2.1 665 = .ok (.ifCond .ne 15, 3) := by decide +kernel
theorem d_Law_law_668 : decode y_Law_law.2.1 668 = .ok (.aload_n 3, 1) := by decide +kernel
theorem d_Law_law_669 : decode y_Law_law.2.1 669 = .ok (.iconst 0, 1) := by decide +kernel
theorem d_Law_law_670 : decode y_Law_law.2.1 670 = .ok (.laload, 1) := by decide +kernel
theorem d_Law_law_671 : decode y_Law_law.2.1 671 = .ok (.iload 6, 2) := by decide +kernel
theorem d_Law_law_673 : decode y_Law_law.2.1 673 = .ok (.i2l, 1) := by decide +kernel
theorem d_Law_law_674 : decode y_Law_law.2.1 674 = .ok (.lcmp, 1) := by decide +kernel
theorem d_Law_law_675 : decode y_Law_law.2.1 675 = .ok (.ifCond .eq 5, 3) := by decide +kernel
theorem d_Law_law_678 : decode y_Law_law.2.1 678 = .ok (.iconst 0, 1) := by decide +kernel
theorem d_Law_law_679 : decode y_Law_law.2.1 679 = .ok (.ireturn, 1) := by decide +kernel
theorem d_Law_law_680 : decode y_Law_law.2.1 680 = .ok (.goto 123, 3) := by decide +kernel
theorem d_Law_law_683 : decode y_Law_law.2.1 683 = .ok (.aload_n 1, 1) := by decide +kernel
theorem d_Law_law_684 : decode y_Law_law.2.1 684 = .ok (.aload_n 0, 1) := by decide +kernel
theorem d_Law_law_685 : decode y_Law_law.2.1 685 = .ok (.iload 4, 2) := by decide +kernel
theorem d_Law_law_687 : decode y_Law_law.2.1 687 = .ok (.iconst 1, 1) := by decide +kernel
theorem d_Law_law_688 : decode y_Law_law.2.1 688 = .ok (.iadd, 1) := by decide +kernel
theorem d_Law_law_689 : decode y_Law_law.2.1 689 = .ok (.iaload, 1) := by decide +kernel
theorem d_Law_law_690 : decode y_Law_law.2.1 690 = .ok (.aload_n 3, 1) := by decide +kernel
theorem d_Law_law_691 : decode y_Law_law.2.1 691 = .ok (.invokestatic 87, 3) := by decide +kernel
theorem d_Law_law_694 : decode y_Law_law.2.1 694 = .ok (.istore 5, 2) := by decide +kernel
theorem d_Law_law_696 : decode y_Law_law.2.1 696 = .ok (.aload_n 2, 1) := by decide +kernel
theorem d_Law_law_697 : decode y_Law_law.2.1 697 = .ok (.aload_n 0, 1) := by decide +kernel
theorem d_Law_law_698 : decode y_Law_law.2.1 698 = .ok (.iload 4, 2) := by decide +kernel
theorem d_Law_law_700 : decode y_Law_law.2.1 700 = .ok (.iconst 1, 1) := by decide +kernel
theorem d_Law_law_701 : decode y_Law_law.2.1 701 = .ok (.iadd, 1) := by decide +kernel
theorem d_Law_law_702 : decode y_Law_law.2.1 702 = .ok (.iaload, 1) := by decide +kernel
theorem d_Law_law_703 : decode y_Law_law.2.1 703 = .ok (.invokevirtual 89, 3) := by decide +kernel
theorem d_Law_law_706 : decode y_Law_law.2.1 706 = .ok (.istore 6, 2) := by decide +kernel
theorem d_Law_law_708 : decode y_Law_law.2.1 708 = .ok (.aload_n 2, 1) := by decide +kernel
theorem d_Law_law_709 : decode y_Law_law.2.1 709 = .ok (.invokevirtual 59, 3) := by decide +kernel
theorem d_Law_law_712 : decode y_Law_law.2.1 712 = .ok (.iload 5, 2) := by decide +kernel
theorem d_Law_law_714 : decode y_Law_law.2.1 714 = .ok (.if_icmp .eq 5, 3) := by decide +kernel
theorem d_Law_law_717 : decode y_Law_law.2.1 717 = .ok (.iconst 0, 1) := by decide +kernel
theorem d_Law_law_718 : decode y_Law_law.2.1 718 = .ok (.ireturn, 1) := by decide +kernel
theorem d_Law_law_719 : decode y_Law_law.2.1 719 = .ok (.iload 5, 2) := by decide +kernel
theorem d_Law_law_721 : decode y_Law_law.2.1 721 = .ok (.ifCond .ne 15, 3) := by decide +kernel
theorem d_Law_law_724 : decode y_Law_law.2.1 724 = .ok (.aload_n 3, 1) := by decide +kernel
theorem d_Law_law_725 : decode y_Law_law.2.1 725 = .ok (.iconst 0, 1) := by decide +kernel
theorem d_Law_law_726 : decode y_Law_law.2.1 726 = .ok (.laload, 1) := by decide +kernel
theorem d_Law_law_727 : decode y_Law_law.2.1 727 = .ok (.iload 6, 2) := by decide +kernel
theorem d_Law_law_729 : decode y_Law_law.2.1 729 = .ok (.i2l, 1) := by decide +kernel
theorem d_Law_law_730 : decode y_Law_law.2.1 730 = .ok (.lcmp, 1) := by decide +kernel
theorem d_Law_law_731 : decode y_Law_law.2.1 731 = .ok (.ifCond .eq 5, 3) := by decide +kernel
theorem d_Law_law_734 : decode y_Law_law.2.1 734 = .ok (.iconst 0, 1) := by decide +kernel
theorem d_Law_law_735 : decode y_Law_law.2.1 735 = .ok (.ireturn, 1) := by decide +kernel
theorem d_Law_law_736 : decode y_Law_law.2.1 736 = .ok (.goto 67, 3) := by decide +kernel
theorem d_Law_law_739 : decode y_Law_law.2.1 739 = .ok (.aload_n 1, 1) := by decide +kernel
theorem d_Law_law_740 : decode y_Law_law.2.1 740 = .ok (.invokevirtual 90, 3) := by decide +kernel
theorem d_Law_law_743 : decode y_Law_law.2.1 743 = .ok (.aload_n 2, 1) := by decide +kernel
theorem d_Law_law_744 : decode y_Law_law.2.1 744 = .ok (.invokevirtual 93, 3) := by decide +kernel
theorem d_Law_law_747 : decode y_Law_law.2.1 747 = .ok (.if_icmp .eq 56, 3) := by decide +kernel
theorem d_Law_law_750 : decode y_Law_law.2.1 750 = .ok (.iconst 0, 1) := by decide +kernel
theorem d_Law_law_751 : decode y_Law_law.2.1 751 = .ok (.ireturn, 1) := by decide +kernel
theorem d_Law_law_752 : decode y_Law_law.2.1 752 = .ok (.aload_n 1, 1) := by decide +kernel
theorem d_Law_law_753 : decode y_Law_law.2.1 753 = .ok (.invokevirtual 94, 3) := by decide +kernel
theorem d_Law_law_756 : decode y_Law_law.2.1 756 = .ok (.aload_n 2, 1) := by decide +kernel
theorem d_Law_law_757 : decode y_Law_law.2.1 757 = .ok (.invokevirtual 97, 3) := by decide +kernel
theorem d_Law_law_760 : decode y_Law_law.2.1 760 = .ok (.if_icmp .eq 43, 3) := by decide +kernel
theorem d_Law_law_763 : decode y_Law_law.2.1 763 = .ok (.iconst 0, 1) := by decide +kernel
theorem d_Law_law_764 : decode y_Law_law.2.1 764 = .ok (.ireturn, 1) := by decide +kernel
theorem d_Law_law_765 : decode y_Law_law.2.1 765 = .ok (.aload_n 1, 1) := by decide +kernel
theorem d_Law_law_766 : decode y_Law_law.2.1 766 = .ok (.invokevirtual 98, 3) := by decide +kernel
theorem d_Law_law_769 : decode y_Law_law.2.1 769 = .ok (.aload_n 2, 1) := by decide +kernel
theorem d_Law_law_770 : decode y_Law_law.2.1 770 = .ok (.invokevirtual 101, 3) := by decide +kernel
theorem d_Law_law_773 : decode y_Law_law.2.1 773 = .ok (.if_icmp .eq 30, 3) := by decide +kernel
theorem d_Law_law_776 : decode y_Law_law.2.1 776 = .ok (.iconst 0, 1) := by decide +kernel
theorem d_Law_law_777 : decode y_Law_law.2.1 777 = .ok (.ireturn, 1) := by decide +kernel
theorem d_Law_law_778 : decode y_Law_law.2.1 778 = .ok (.aload_n 1, 1) := by decide +kernel
theorem d_Law_law_779 : decode y_Law_law.2.1 779 = .ok (.aload_n 0, 1) := by decide +kernel
theorem d_Law_law_780 : decode y_Law_law.2.1 780 = .ok (.iload 4, 2) := by decide +kernel
theorem d_Law_law_782 : decode y_Law_law.2.1 782 = .ok (.iconst 1, 1) := by decide +kernel
theorem d_Law_law_783 : decode y_Law_law.2.1 783 = .ok (.iadd, 1) := by decide +kernel
theorem d_Law_law_784 : decode y_Law_law.2.1 784 = .ok (.iaload, 1) := by decide +kernel
theorem d_Law_law_785 : decode y_Law_law.2.1 785 = .ok (.invokevirtual 102, 3) := by decide +kernel
theorem d_Law_law_788 : decode y_Law_law.2.1 788 = .ok (.aload_n 2, 1) := by decide +kernel
theorem d_Law_law_789 : decode y_Law_law.2.1 789 = .ok (.aload_n 0, 1) := by decide +kernel
theorem d_Law_law_790 : decode y_Law_law.2.1 790 = .ok (.iload 4, 2) := by decide +kernel
theorem d_Law_law_792 : decode y_Law_law.2.1 792 = .ok (.iconst 1, 1) := by decide +kernel
theorem d_Law_law_793 : decode y_Law_law.2.1 793 = .ok (.iadd, 1) := by decide +kernel
theorem d_Law_law_794 : decode y_Law_law.2.1 794 = .ok (.iaload, 1) := by decide +kernel
theorem d_Law_law_795 : decode y_Law_law.2.1 795 = .ok (.invokevirtual 105, 3) := by decide +kernel
theorem d_Law_law_798 : decode y_Law_law.2.1 798 = .ok (.if_icmp .eq 5, 3) := by decide +kernel
theorem d_Law_law_801 : decode y_Law_law.2.1 801 = .ok (.iconst 0, 1) := by decide +kernel
theorem d_Law_law_802 : decode y_Law_law.2.1 802 = .ok (.ireturn, 1) := by decide +kernel
theorem d_Law_law_803 : decode y_Law_law.2.1 803 = .ok (.iinc 4 6, 3) := by decide +kernel
theorem d_Law_law_806 : decode y_Law_law.2.1 806 = .ok (.goto (-783), 3) := by decide +kernel
theorem d_Law_law_809 : decode y_Law_law.2.1 809 = .ok (.iconst 1, 1) := by decide +kernel
theorem d_Law_law_810 : decode y_Law_law.2.1 810 = .ok (.ireturn, 1) := by decide +kernel
