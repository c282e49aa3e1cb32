theorem d_Cells_init_0 : decode y_Cells_init.2.1 0 = .ok (.aload_n 0, 1) := by decide +kernel
theorem d_Cells_init_1 : decode y_Cells_init.2.1 1 = .ok (.aload_n 1, 1) := by decide +kernel
theorem d_Cells_init_2 : decode y_Cells_init.2.1 2 = .ok (.invokespecial 1, 3) := by decide +kernel
theorem d_Cells_init_5 : decode y_Cells_init.2.1 5 = .ok (.aload_n 0, 1) := by decide +kernel
theorem d_Cells_init_6 : decode y_Cells_init.2.1 6 = .ok (.aload_n 1, 1) := by decide +kernel
theorem d_Cells_init_7 : decode y_Cells_init.2.1 7 = .ok (.getfield 7, 3) := by decide +kernel
theorem d_Cells_init_10 : decode y_Cells_init.2.1 10 = .ok (.ifCond .lt 10, 3) := by decide +kernel
theorem d_Cells_init_13 : decode y_Cells_init.2.1 13 = .ok (.aload_n 1, 1) := by decide +kernel
theorem d_Cells_init_14 : decode y_Cells_init.2.1 14 = .ok (.getfield 7, 3) := by decide +kernel
theorem d_Cells_init_17 : decode y_Cells_init.2.1 17 = .ok (.goto 4, 3) := by decide +kernel
theorem d_Cells_init_20 : decode y_Cells_init.2.1 20 = .ok (.iconst 0, 1) := by decide +kernel
theorem d_Cells_init_21 : decode y_Cells_init.2.1 21 = .ok (.newarray .int, 2) := by decide +kernel
theorem d_Cells_init_23 : decode y_Cells_init.2.1 23 = .ok (.putfield 13, 3) := by decide +kernel
theorem d_Cells_init_26 : decode y_Cells_init.2.1 26 = .ok (.aload_n 0, 1) := by decide +kernel
theorem d_Cells_init_27 : decode y_Cells_init.2.1 27 = .ok (.iload_n 2, 1) := by decide +kernel
theorem d_Cells_init_28 : decode y_Cells_init.2.1 28 = .ok (.putfield 19, 3) := by decide +kernel
theorem d_Cells_init_31 : decode y_Cells_init.2.1 31 = .ok (.return_, 1) := by decide +kernel
theorem d_Cells_look_0 : decode y_Cells_look.2.1 0 = .ok (.iload_n 1, 1) := by decide +kernel
theorem d_Cells_look_1 : decode y_Cells_look.2.1 1 = .ok (.ifCond .lt 21, 3) := by decide +kernel
theorem d_Cells_look_4 : decode y_Cells_look.2.1 4 = .ok (.iload_n 1, 1) := by decide +kernel
theorem d_Cells_look_5 : decode y_Cells_look.2.1 5 = .ok (.aload_n 0, 1) := by decide +kernel
theorem d_Cells_look_6 : decode y_Cells_look.2.1 6 = .ok (.getfield 13, 3) := by decide +kernel
theorem d_Cells_look_9 : decode y_Cells_look.2.1 9 = .ok (.arraylength, 1) := by decide +kernel
theorem d_Cells_look_10 : decode y_Cells_look.2.1 10 = .ok (.if_icmp .ge 12, 3) := by decide +kernel
theorem d_Cells_look_13 : decode y_Cells_look.2.1 13 = .ok (.aload_n 0, 1) := by decide +kernel
theorem d_Cells_look_14 : decode y_Cells_look.2.1 14 = .ok (.getfield 13, 3) := by decide +kernel
theorem d_Cells_look_17 : decode y_Cells_look.2.1 17 = .ok (.iload_n 1, 1) := by decide +kernel
theorem d_Cells_look_18 : decode y_Cells_look.2.1 18 = .ok (.iaload, 1) := by decide +kernel
theorem d_Cells_look_19 : decode y_Cells_look.2.1 19 = .ok (.goto 4, 3) := by decide +kernel
theorem d_Cells_look_22 : decode y_Cells_look.2.1 22 = .ok (.iconst 0, 1) := by decide +kernel
theorem d_Cells_look_23 : decode y_Cells_look.2.1 23 = .ok (.ireturn, 1) := by decide +kernel
theorem d_Cells_put_0 : decode y_Cells_put.2.1 0 = .ok (.iload_n 1, 1) := by decide +kernel
theorem d_Cells_put_1 : decode y_Cells_put.2.1 1 = .ok (.ifCond .lt 19, 3) := by decide +kernel
theorem d_Cells_put_4 : decode y_Cells_put.2.1 4 = .ok (.iload_n 1, 1) := by decide +kernel
theorem d_Cells_put_5 : decode y_Cells_put.2.1 5 = .ok (.aload_n 0, 1) := by decide +kernel
theorem d_Cells_put_6 : decode y_Cells_put.2.1 6 = .ok (.getfield 13, 3) := by decide +kernel
theorem d_Cells_put_9 : decode y_Cells_put.2.1 9 = .ok (.arraylength, 1) := by decide +kernel
theorem d_Cells_put_10 : decode y_Cells_put.2.1 10 = .ok (.if_icmp .ge 10, 3) := by decide +kernel
theorem d_Cells_put_13 : decode y_Cells_put.2.1 13 = .ok (.aload_n 0, 1) := by decide +kernel
theorem d_Cells_put_14 : decode y_Cells_put.2.1 14 = .ok (.getfield 13, 3) := by decide +kernel
theorem d_Cells_put_17 : decode y_Cells_put.2.1 17 = .ok (.iload_n 1, 1) := by decide +kernel
theorem d_Cells_put_18 : decode y_Cells_put.2.1 18 = .ok (.iload_n 2, 1) := by decide +kernel
theorem d_Cells_put_19 : decode y_Cells_put.2.1 19 = .ok (.iastore, 1) := by decide +kernel
theorem d_Cells_put_20 : decode y_Cells_put.2.1 20 = .ok (.return_, 1) := by decide +kernel
theorem d_Cells_refusesWrites_0 : decode y_Cells_refusesWrites.2.1 0 = .ok (.aload_n 0, 1) := by decide +kernel
theorem d_Cells_refusesWrites_1 : decode y_Cells_refusesWrites.2.1 1 = .ok (.getfield 19, 3) := by decide +kernel
theorem d_Cells_refusesWrites_4 : decode y_Cells_refusesWrites.2.1 4 = .ok (.ireturn, 1) := by decide +kernel
theorem d_Lines_init_0 : decode y_Lines_init.2.1 0 = .ok (.aload_n 0, 1) := by decide +kernel
theorem d_Lines_init_1 : decode y_Lines_init.2.1 1 = .ok (.invokespecial 3, 3) := by decide +kernel
theorem d_Lines_init_4 : decode y_Lines_init.2.1 4 = .ok (.aload_n 0, 1) := by decide +kernel
theorem d_Lines_init_5 : decode y_Lines_init.2.1 5 = .ok (.bipush 16, 2) := by decide +kernel
theorem d_Lines_init_7 : decode y_Lines_init.2.1 7 = .ok (.newarray .int, 2) := by decide +kernel
theorem d_Lines_init_9 : decode y_Lines_init.2.1 9 = .ok (.putfield 11, 3) := by decide +kernel
theorem d_Lines_init_12 : decode y_Lines_init.2.1 12 = .ok (.aload_n 0, 1) := by decide +kernel
theorem d_Lines_init_13 : decode y_Lines_init.2.1 13 = .ok (.bipush 16, 2) := by decide +kernel
theorem d_Lines_init_15 : decode y_Lines_init.2.1 15 = .ok (.newarray .int, 2) := by decide +kernel
theorem d_Lines_init_17 : decode y_Lines_init.2.1 17 = .ok (.putfield 15, 3) := by decide +kernel
theorem d_Lines_init_20 : decode y_Lines_init.2.1 20 = .ok (.aload_n 0, 1) := by decide +kernel
theorem d_Lines_init_21 : decode y_Lines_init.2.1 21 = .ok (.iconst 0, 1) := by decide +kernel
theorem d_Lines_init_22 : decode y_Lines_init.2.1 22 = .ok (.putfield 18, 3) := by decide +kernel
theorem d_Lines_init_25 : decode y_Lines_init.2.1 25 = .ok (.aload_n 0, 1) := by decide +kernel
theorem d_Lines_init_26 : decode y_Lines_init.2.1 26 = .ok (.iconst 0, 1) := by decide +kernel
theorem d_Lines_init_27 : decode y_Lines_init.2.1 27 = .ok (.putfield 22, 3) := by decide +kernel
theorem d_Lines_init_30 : decode y_Lines_init.2.1 30 = .ok (.aload_n 0, 1) := by decide +kernel
theorem d_Lines_init_31 : decode y_Lines_init.2.1 31 = .ok (.iconst 0, 1) := by decide +kernel
theorem d_Lines_init_32 : decode y_Lines_init.2.1 32 = .ok (.putfield 25, 3) := by decide +kernel
theorem d_Lines_init_35 : decode y_Lines_init.2.1 35 = .ok (.return_, 1) := by decide +kernel
theorem d_Lines_greatest_0 : decode y_Lines_greatest.2.1 0 = .ok (.iload_n 0, 1) := by decide +kernel
theorem d_Lines_greatest_1 : decode y_Lines_greatest.2.1 1 = .ok (.tableswitch 34 0 2 #[27, 29, 32], 27) := by decide +kernel
theorem d_Lines_greatest_28 : decode y_Lines_greatest.2.1 28 = .ok (.iconst 2, 1) := by decide +kernel
theorem d_Lines_greatest_29 : decode y_Lines_greatest.2.1 29 = .ok (.ireturn, 1) := by decide +kernel
theorem d_Lines_greatest_30 : decode y_Lines_greatest.2.1 30 = .ok (.bipush 15, 2) := by decide +kernel
theorem d_Lines_greatest_32 : decode y_Lines_greatest.2.1 32 = .ok (.ireturn, 1) := by decide +kernel
theorem d_Lines_greatest_33 : decode y_Lines_greatest.2.1 33 = .ok (.iconst 1, 1) := by decide +kernel
theorem d_Lines_greatest_34 : decode y_Lines_greatest.2.1 34 = .ok (.ireturn, 1) := by decide +kernel
theorem d_Lines_greatest_35 : decode y_Lines_greatest.2.1 35 = .ok (.iconst (-1), 1) := by decide +kernel
theorem d_Lines_greatest_36 : decode y_Lines_greatest.2.1 36 = .ok (.ireturn, 1) := by decide +kernel
theorem d_Lines_change_0 : decode y_Lines_change.2.1 0 = .ok (.iload_n 1, 1) := by decide +kernel
theorem d_Lines_change_1 : decode y_Lines_change.2.1 1 = .ok (.ifCond .lt 9, 3) := by decide +kernel
theorem d_Lines_change_4 : decode y_Lines_change.2.1 4 = .ok (.iload_n 1, 1) := by decide +kernel
theorem d_Lines_change_5 : decode y_Lines_change.2.1 5 = .ok (.bipush 16, 2) := by decide +kernel
theorem d_Lines_change_7 : decode y_Lines_change.2.1 7 = .ok (.if_icmp .lt 5, 3) := by decide +kernel
theorem d_Lines_change_10 : decode y_Lines_change.2.1 10 = .ok (.iconst (-1), 1) := by decide +kernel
theorem d_Lines_change_11 : decode y_Lines_change.2.1 11 = .ok (.ireturn, 1) := by decide +kernel
theorem d_Lines_change_12 : decode y_Lines_change.2.1 12 = .ok (.iload_n 2, 1) := by decide +kernel
theorem d_Lines_change_13 : decode y_Lines_change.2.1 13 = .ok (.lookupswitch 41 #[(0, 27), (1, 34)], 27) := by decide +kernel
theorem d_Lines_change_40 : decode y_Lines_change.2.1 40 = .ok (.aload_n 0, 1) := by decide +kernel
theorem d_Lines_change_41 : decode y_Lines_change.2.1 41 = .ok (.iload_n 1, 1) := by decide +kernel
theorem d_Lines_change_42 : decode y_Lines_change.2.1 42 = .ok (.iload_n 3, 1) := by decide +kernel
theorem d_Lines_change_43 : decode y_Lines_change.2.1 43 = .ok (.invokevirtual 28, 3) := by decide +kernel
theorem d_Lines_change_46 : decode y_Lines_change.2.1 46 = .ok (.ireturn, 1) := by decide +kernel
theorem d_Lines_change_47 : decode y_Lines_change.2.1 47 = .ok (.aload_n 0, 1) := by decide +kernel
theorem d_Lines_change_48 : decode y_Lines_change.2.1 48 = .ok (.iload_n 1, 1) := by decide +kernel
theorem d_Lines_change_49 : decode y_Lines_change.2.1 49 = .ok (.iload_n 3, 1) := by decide +kernel
theorem d_Lines_change_50 : decode y_Lines_change.2.1 50 = .ok (.invokevirtual 32, 3) := by decide +kernel
theorem d_Lines_change_53 : decode y_Lines_change.2.1 53 = .ok (.ireturn, 1) := by decide +kernel
theorem d_Lines_change_54 : decode y_Lines_change.2.1 54 = .ok (.aload_n 0, 1) := by decide +kernel
theorem d_Lines_change_55 : decode y_Lines_change.2.1 55 = .ok (.iload_n 1, 1) := by decide +kernel
theorem d_Lines_change_56 : decode y_Lines_change.2.1 56 = .ok (.iload_n 3, 1) := by decide +kernel
theorem d_Lines_change_57 : decode y_Lines_change.2.1 57 = .ok (.invokevirtual 35, 3) := by decide +kernel
theorem d_Lines_change_60 : decode y_Lines_change.2.1 60 = .ok (.ireturn, 1) := by decide +kernel
theorem d_Lines_changeWay_0 : decode y_Lines_changeWay.2.1 0 = .ok (.aload_n 0, 1) := by decide +kernel
theorem d_Lines_changeWay_1 : decode y_Lines_changeWay.2.1 1 = .ok (.getfield 11, 3) := by decide +kernel
theorem d_Lines_changeWay_4 : decode y_Lines_changeWay.2.1 4 = .ok (.iload_n 1, 1) := by decide +kernel
theorem d_Lines_changeWay_5 : decode y_Lines_changeWay.2.1 5 = .ok (.iaload, 1) := by decide +kernel
theorem d_Lines_changeWay_6 : decode y_Lines_changeWay.2.1 6 = .ok (.istore_n 3, 1) := by decide +kernel
theorem d_Lines_changeWay_7 : decode y_Lines_changeWay.2.1 7 = .ok (.iload_n 2, 1) := by decide +kernel
theorem d_Lines_changeWay_8 : decode y_Lines_changeWay.2.1 8 = .ok (.iload_n 3, 1) := by decide +kernel
theorem d_Lines_changeWay_9 : decode y_Lines_changeWay.2.1 9 = .ok (.if_icmp .eq 15, 3) := by decide +kernel
theorem d_Lines_changeWay_12 : decode y_Lines_changeWay.2.1 12 = .ok (.aload_n 0, 1) := by decide +kernel
theorem d_Lines_changeWay_13 : decode y_Lines_changeWay.2.1 13 = .ok (.getfield 11, 3) := by decide +kernel
theorem d_Lines_changeWay_16 : decode y_Lines_changeWay.2.1 16 = .ok (.iload_n 1, 1) := by decide +kernel
theorem d_Lines_changeWay_17 : decode y_Lines_changeWay.2.1 17 = .ok (.iload_n 2, 1) := by decide +kernel
theorem d_Lines_changeWay_18 : decode y_Lines_changeWay.2.1 18 = .ok (.iastore, 1) := by decide +kernel
theorem d_Lines_changeWay_19 : decode y_Lines_changeWay.2.1 19 = .ok (.aload_n 0, 1) := by decide +kernel
theorem d_Lines_changeWay_20 : decode y_Lines_changeWay.2.1 20 = .ok (.iload_n 1, 1) := by decide +kernel
theorem d_Lines_changeWay_21 : decode y_Lines_changeWay.2.1 21 = .ok (.invokevirtual 38, 3) := by decide +kernel
theorem d_Lines_changeWay_24 : decode y_Lines_changeWay.2.1 24 = .ok (.iload_n 3, 1) := by decide +kernel
theorem d_Lines_changeWay_25 : decode y_Lines_changeWay.2.1 25 = .ok (.ireturn, 1) := by decide +kernel
theorem d_Lines_changeRank_0 : decode y_Lines_changeRank.2.1 0 = .ok (.aload_n 0, 1) := by decide +kernel
theorem d_Lines_changeRank_1 : decode y_Lines_changeRank.2.1 1 = .ok (.getfield 15, 3) := by decide +kernel
theorem d_Lines_changeRank_4 : decode y_Lines_changeRank.2.1 4 = .ok (.iload_n 1, 1) := by decide +kernel
theorem d_Lines_changeRank_5 : decode y_Lines_changeRank.2.1 5 = .ok (.iaload, 1) := by decide +kernel
theorem d_Lines_changeRank_6 : decode y_Lines_changeRank.2.1 6 = .ok (.istore_n 3, 1) := by decide +kernel
theorem d_Lines_changeRank_7 : decode y_Lines_changeRank.2.1 7 = .ok (.aload_n 0, 1) := by decide +kernel
theorem d_Lines_changeRank_8 : decode y_Lines_changeRank.2.1 8 = .ok (.getfield 15, 3) := by decide +kernel
theorem d_Lines_changeRank_11 : decode y_Lines_changeRank.2.1 11 = .ok (.iload_n 1, 1) := by decide +kernel
theorem d_Lines_changeRank_12 : decode y_Lines_changeRank.2.1 12 = .ok (.iload_n 2, 1) := by decide +kernel
theorem d_Lines_changeRank_13 : decode y_Lines_changeRank.2.1 13 = .ok (.iastore, 1) := by decide +kernel
theorem d_Lines_changeRank_14 : decode y_Lines_changeRank.2.1 14 = .ok (.iload_n 3, 1) := by decide +kernel
theorem d_Lines_changeRank_15 : decode y_Lines_changeRank.2.1 15 = .ok (.ireturn, 1) := by decide +kernel
theorem d_Lines_changeHidden_0 : decode y_Lines_changeHidden.2.1 0 = .ok (.aload_n 0, 1) := by decide +kernel
theorem d_Lines_changeHidden_1 : decode y_Lines_changeHidden.2.1 1 = .ok (.getfield 18, 3) := by decide +kernel
theorem d_Lines_changeHidden_4 : decode y_Lines_changeHidden.2.1 4 = .ok (.iload_n 1, 1) := by decide +kernel
theorem d_Lines_changeHidden_5 : decode y_Lines_changeHidden.2.1 5 = .ok (.ishr, 1) := by decide +kernel
theorem d_Lines_changeHidden_6 : decode y_Lines_changeHidden.2.1 6 = .ok (.iconst 1, 1) := by decide +kernel
theorem d_Lines_changeHidden_7 : decode y_Lines_changeHidden.2.1 7 = .ok (.iand, 1) := by decide +kernel
theorem d_Lines_changeHidden_8 : decode y_Lines_changeHidden.2.1 8 = .ok (.istore_n 3, 1) := by decide +kernel
theorem d_Lines_changeHidden_9 : decode y_Lines_changeHidden.2.1 9 = .ok (.aload_n 0, 1) := by decide +kernel
theorem d_Lines_changeHidden_10 : decode y_Lines_changeHidden.2.1 10 = .ok (.aload_n 0, 1) := by decide +kernel
theorem d_Lines_changeHidden_11 : decode y_Lines_changeHidden.2.1 11 = .ok (.getfield 18, 3) := by decide +kernel
theorem d_Lines_changeHidden_14 : decode y_Lines_changeHidden.2.1 14 = .ok (.iconst 1, 1) := by decide +kernel
theorem d_Lines_changeHidden_15 : decode y_Lines_changeHidden.2.1 15 = .ok (.iload_n 1, 1) := by decide +kernel
theorem d_Lines_changeHidden_16 : decode y_Lines_changeHidden.2.1 16 = .ok (.ishl, 1) := by decide +kernel
theorem d_Lines_changeHidden_17 : decode y_Lines_changeHidden.2.1 17 = .ok (.iconst (-1), 1) := by decide +kernel
theorem d_Lines_changeHidden_18 : decode y_Lines_changeHidden.2.1 18 = .ok (.ixor, 1) := by decide +kernel
theorem d_Lines_changeHidden_19 : decode y_Lines_changeHidden.2.1 19 = .ok (.iand, 1) := by decide +kernel
theorem d_Lines_changeHidden_20 : decode y_Lines_changeHidden.2.1 20 = .ok (.iload_n 2, 1) := by decide +kernel
theorem d_Lines_changeHidden_21 : decode y_Lines_changeHidden.2.1 21 = .ok (.iload_n 1, 1) := by decide +kernel
theorem d_Lines_changeHidden_22 : decode y_Lines_changeHidden.2.1 22 = .ok (.ishl, 1) := by decide +kernel
theorem d_Lines_changeHidden_23 : decode y_Lines_changeHidden.2.1 23 = .ok (.ior, 1) := by decide +kernel
theorem d_Lines_changeHidden_24 : decode y_Lines_changeHidden.2.1 24 = .ok (.putfield 18, 3) := by decide +kernel
theorem d_Lines_changeHidden_27 : decode y_Lines_changeHidden.2.1 27 = .ok (.iload_n 3, 1) := by decide +kernel
theorem d_Lines_changeHidden_28 : decode y_Lines_changeHidden.2.1 28 = .ok (.ireturn, 1) := by decide +kernel
theorem d_Lines_follow_0 : decode y_Lines_follow.2.1 0 = .ok (.iload_n 1, 1) := by decide +kernel
theorem d_Lines_follow_1 : decode y_Lines_follow.2.1 1 = .ok (.aload_n 0, 1) := by decide +kernel
theorem d_Lines_follow_2 : decode y_Lines_follow.2.1 2 = .ok (.getfield 22, 3) := by decide +kernel
theorem d_Lines_follow_5 : decode y_Lines_follow.2.1 5 = .ok (.ixor, 1) := by decide +kernel
theorem d_Lines_follow_6 : decode y_Lines_follow.2.1 6 = .ok (.istore_n 2, 1) := by decide +kernel
theorem d_Lines_follow_7 : decode y_Lines_follow.2.1 7 = .ok (.iload_n 2, 1) := by decide +kernel
theorem d_Lines_follow_8 : decode y_Lines_follow.2.1 8 = .ok (.ifCond .ne 4, 3) := by decide +kernel
theorem d_Lines_follow_11 : decode y_Lines_follow.2.1 11 = .ok (.return_, 1) := by decide +kernel
theorem d_Lines_follow_12 : decode y_Lines_follow.2.1 12 = .ok (.aload_n 0, 1) := by decide +kernel
theorem d_Lines_follow_13 : decode y_Lines_follow.2.1 13 = .ok (.iload_n 1, 1) := by decide +kernel
theorem d_Lines_follow_14 : decode y_Lines_follow.2.1 14 = .ok (.putfield 22, 3) := by decide +kernel
theorem d_Lines_follow_17 : decode y_Lines_follow.2.1 17 = .ok (.iload_n 2, 1) := by decide +kernel
theorem d_Lines_follow_18 : decode y_Lines_follow.2.1 18 = .ok (.iload_n 1, 1) := by decide +kernel
theorem d_Lines_follow_19 : decode y_Lines_follow.2.1 19 = .ok (.iand, 1) := by decide +kernel
theorem d_Lines_follow_20 : decode y_Lines_follow.2.1 20 = .ok (.istore_n 3, 1) := by decide +kernel
theorem d_Lines_follow_21 : decode y_Lines_follow.2.1 21 = .ok (.iconst 0, 1) := by decide +kernel
theorem d_Lines_follow_22 : decode y_Lines_follow.2.1 22 = .ok (.istore 4, 2) := by decide +kernel
theorem d_Lines_follow_24 : decode y_Lines_follow.2.1 24 = .ok (.iload 4, 2) := by decide +kernel
theorem d_Lines_follow_26 : decode y_Lines_follow.2.1 26 = .ok (.aload_n 0, 1) := by decide +kernel
theorem d_Lines_follow_27 : decode y_Lines_follow.2.1 27 = .ok (.getfield 11, 3) := by decide +kernel
theorem d_Lines_follow_30 : decode y_Lines_follow.2.1 30 = .ok (.arraylength, 1) := by decide +kernel
theorem d_Lines_follow_31 : decode y_Lines_follow.2.1 31 = .ok (.if_icmp .ge 49, 3) := by decide +kernel
theorem d_Lines_follow_34 : decode y_Lines_follow.2.1 34 = .ok (.aload_n 0, 1) := by decide +kernel
theorem d_Lines_follow_35 : decode y_Lines_follow.2.1 35 = .ok (.getfield 11, 3) := by decide +kernel
theorem d_Lines_follow_38 : decode y_Lines_follow.2.1 38 = .ok (.iload 4, 2) := by decide +kernel
theorem d_Lines_follow_40 : decode y_Lines_follow.2.1 40 = .ok (.iaload, 1) := by decide +kernel
theorem d_Lines_follow_41 : decode y_Lines_follow.2.1 41 = .ok (.ifCond .eq 33, 3) := by decide +kernel
theorem d_Lines_follow_44 : decode y_Lines_follow.2.1 44 = .ok (.aload_n 0, 1) := by decide +kernel
theorem d_Lines_follow_45 : decode y_Lines_follow.2.1 45 = .ok (.dup, 1) := by decide +kernel
theorem d_Lines_follow_46 : decode y_Lines_follow.2.1 46 = .ok (.getfield 25, 3) := by decide +kernel
theorem d_Lines_follow_49 : decode y_Lines_follow.2.1 49 = .ok (.aload_n 0, 1) := by decide +kernel
theorem d_Lines_follow_50 : decode y_Lines_follow.2.1 50 = .ok (.getfield 11, 3) := by decide +kernel
theorem d_Lines_follow_53 : decode y_Lines_follow.2.1 53 = .ok (.iload 4, 2) := by decide +kernel
theorem d_Lines_follow_55 : decode y_Lines_follow.2.1 55 = .ok (.iaload, 1) := by decide +kernel
theorem d_Lines_follow_56 : decode y_Lines_follow.2.1 56 = .ok (.iconst 2, 1) := by decide +kernel
theorem d_Lines_follow_57 : decode y_Lines_follow.2.1 57 = .ok (.if_icmp .ne 7, 3) := by decide +kernel
theorem d_Lines_follow_60 : decode y_Lines_follow.2.1 60 = .ok (.iload_n 2, 1) := by decide +kernel
theorem d_Lines_follow_61 : decode y_Lines_follow.2.1 61 = .ok (.goto 4, 3) := by decide +kernel
theorem d_Lines_follow_64 : decode y_Lines_follow.2.1 64 = .ok (.iload_n 3, 1) := by decide +kernel
theorem d_Lines_follow_65 : decode y_Lines_follow.2.1 65 = .ok (.iconst 1, 1) := by decide +kernel
theorem d_Lines_follow_66 : decode y_Lines_follow.2.1 66 = .ok (.iload 4, 2) := by decide +kernel
theorem d_Lines_follow_68 : decode y_Lines_follow.2.1 68 = .ok (.ishl, 1) := by decide +kernel
theorem d_Lines_follow_69 : decode y_Lines_follow.2.1 69 = .ok (.iand, 1) := by decide +kernel
theorem d_Lines_follow_70 : decode y_Lines_follow.2.1 70 = .ok (.ior, 1) := by decide +kernel
theorem d_Lines_follow_71 : decode y_Lines_follow.2.1 71 = .ok (.putfield 25, 3) := by decide +kernel
theorem d_Lines_follow_74 : decode y_Lines_follow.2.1 74 = .ok (.iinc 4 1, 3) := by decide +kernel
theorem d_Lines_follow_77 : decode y_Lines_follow.2.1 77 = .ok (.goto (-53), 3) := by decide +kernel
theorem d_Lines_follow_80 : decode y_Lines_follow.2.1 80 = .ok (.return_, 1) := by decide +kernel
theorem d_Lines_pending_0 : decode y_Lines_pending.2.1 0 = .ok (.aload_n 0, 1) := by decide +kernel
theorem d_Lines_pending_1 : decode y_Lines_pending.2.1 1 = .ok (.getfield 25, 3) := by decide +kernel
theorem d_Lines_pending_4 : decode y_Lines_pending.2.1 4 = .ok (.istore_n 1, 1) := by decide +kernel
theorem d_Lines_pending_5 : decode y_Lines_pending.2.1 5 = .ok (.iconst 0, 1) := by decide +kernel
theorem d_Lines_pending_6 : decode y_Lines_pending.2.1 6 = .ok (.istore_n 2, 1) := by decide +kernel
theorem d_Lines_pending_7 : decode y_Lines_pending.2.1 7 = .ok (.iload_n 2, 1) := by decide +kernel
theorem d_Lines_pending_8 : decode y_Lines_pending.2.1 8 = .ok (.aload_n 0, 1) := by decide +kernel
theorem d_Lines_pending_9 : decode y_Lines_pending.2.1 9 = .ok (.getfield 11, 3) := by decide +kernel
theorem d_Lines_pending_12 : decode y_Lines_pending.2.1 12 = .ok (.arraylength, 1) := by decide +kernel
theorem d_Lines_pending_13 : decode y_Lines_pending.2.1 13 = .ok (.if_icmp .ge 29, 3) := by decide +kernel
theorem d_Lines_pending_16 : decode y_Lines_pending.2.1 16 = .ok (.aload_n 0, 1) := by decide +kernel
theorem d_Lines_pending_17 : decode y_Lines_pending.2.1 17 = .ok (.getfield 11, 3) := by decide +kernel
theorem d_Lines_pending_20 : decode y_Lines_pending.2.1 20 = .ok (.iload_n 2, 1) := by decide +kernel
theorem d_Lines_pending_21 : decode y_Lines_pending.2.1 21 = .ok (.iaload, 1) := by decide +kernel
theorem d_Lines_pending_22 : decode y_Lines_pending.2.1 22 = .ok (.ifCond .ne 14, 3) := by decide +kernel
theorem d_Lines_pending_25 : decode y_Lines_pending.2.1 25 = .ok (.iload_n 1, 1) := by decide +kernel
theorem d_Lines_pending_26 : decode y_Lines_pending.2.1 26 = .ok (.aload_n 0, 1) := by decide +kernel
theorem d_Lines_pending_27 : decode y_Lines_pending.2.1 27 = .ok (.getfield 22, 3) := by decide +kernel
theorem d_Lines_pending_30 : decode y_Lines_pending.2.1 30 = .ok (.iconst 1, 1) := by decide +kernel
theorem d_Lines_pending_31 : decode y_Lines_pending.2.1 31 = .ok (.iload_n 2, 1) := by decide +kernel
theorem d_Lines_pending_32 : decode y_Lines_pending.2.1 32 = .ok (.ishl, 1) := by decide +kernel
theorem d_Lines_pending_33 : decode y_Lines_pending.2.1 33 = .ok (.iand, 1) := by decide +kernel
theorem d_Lines_pending_34 : decode y_Lines_pending.2.1 34 = .ok (.ior, 1) := by decide +kernel
theorem d_Lines_pending_35 : decode y_Lines_pending.2.1 35 = .ok (.istore_n 1, 1) := by decide +kernel
theorem d_Lines_pending_36 : decode y_Lines_pending.2.1 36 = .ok (.iinc 2 1, 3) := by decide +kernel
theorem d_Lines_pending_39 : decode y_Lines_pending.2.1 39 = .ok (.goto (-32), 3) := by decide +kernel
theorem d_Lines_pending_42 : decode y_Lines_pending.2.1 42 = .ok (.iload_n 1, 1) := by decide +kernel
theorem d_Lines_pending_43 : decode y_Lines_pending.2.1 43 = .ok (.ireturn, 1) := by decide +kernel
theorem d_Lines_best_0 : decode y_Lines_best.2.1 0 = .ok (.aload_n 0, 1) := by decide +kernel
theorem d_Lines_best_1 : decode y_Lines_best.2.1 1 = .ok (.invokevirtual 42, 3) := by decide +kernel
theorem d_Lines_best_4 : decode y_Lines_best.2.1 4 = .ok (.aload_n 0, 1) := by decide +kernel
theorem d_Lines_best_5 : decode y_Lines_best.2.1 5 = .ok (.getfield 18, 3) := by decide +kernel
theorem d_Lines_best_8 : decode y_Lines_best.2.1 8 = .ok (.iconst (-1), 1) := by decide +kernel
theorem d_Lines_best_9 : decode y_Lines_best.2.1 9 = .ok (.ixor, 1) := by decide +kernel
theorem d_Lines_best_10 : decode y_Lines_best.2.1 10 = .ok (.iand, 1) := by decide +kernel
theorem d_Lines_best_11 : decode y_Lines_best.2.1 11 = .ok (.istore_n 1, 1) := by decide +kernel
theorem d_Lines_best_12 : decode y_Lines_best.2.1 12 = .ok (.iconst (-1), 1) := by decide +kernel
theorem d_Lines_best_13 : decode y_Lines_best.2.1 13 = .ok (.istore_n 2, 1) := by decide +kernel
theorem d_Lines_best_14 : decode y_Lines_best.2.1 14 = .ok (.iconst (-1), 1) := by decide +kernel
theorem d_Lines_best_15 : decode y_Lines_best.2.1 15 = .ok (.istore_n 3, 1) := by decide +kernel
theorem d_Lines_best_16 : decode y_Lines_best.2.1 16 = .ok (.iconst 0, 1) := by decide +kernel
theorem d_Lines_best_17 : decode y_Lines_best.2.1 17 = .ok (.istore 4, 2) := by decide +kernel
theorem d_Lines_best_19 : decode y_Lines_best.2.1 19 = .ok (.iload 4, 2) := by decide +kernel
theorem d_Lines_best_21 : decode y_Lines_best.2.1 21 = .ok (.aload_n 0, 1) := by decide +kernel
theorem d_Lines_best_22 : decode y_Lines_best.2.1 22 = .ok (.getfield 15, 3) := by decide +kernel
theorem d_Lines_best_25 : decode y_Lines_best.2.1 25 = .ok (.arraylength, 1) := by decide +kernel
theorem d_Lines_best_26 : decode y_Lines_best.2.1 26 = .ok (.if_icmp .ge 40, 3) := by decide +kernel
theorem d_Lines_best_29 : decode y_Lines_best.2.1 29 = .ok (.iload_n 1, 1) := by decide +kernel
theorem d_Lines_best_30 : decode y_Lines_best.2.1 30 = .ok (.iload 4, 2) := by decide +kernel
theorem d_Lines_best_32 : decode y_Lines_best.2.1 32 = .ok (.ishr, 1) := by decide +kernel
theorem d_Lines_best_33 : decode y_Lines_best.2.1 33 = .ok (.iconst 1, 1) := by decide +kernel
theorem d_Lines_best_34 : decode y_Lines_best.2.1 34 = .ok (.iand, 1) := by decide +kernel
theorem d_Lines_best_35 : decode y_Lines_best.2.1 35 = .ok (.ifCond .eq 25, 3) := by decide +kernel
theorem d_Lines_best_38 : decode y_Lines_best.2.1 38 = .ok (.aload_n 0, 1) := by decide +kernel
theorem d_Lines_best_39 : decode y_Lines_best.2.1 39 = .ok (.getfield 15, 3) := by decide +kernel
theorem d_Lines_best_42 : decode y_Lines_best.2.1 42 = .ok (.iload 4, 2) := by decide +kernel
theorem d_Lines_best_44 : decode y_Lines_best.2.1 44 = .ok (.iaload, 1) := by decide +kernel
theorem d_Lines_best_45 : decode y_Lines_best.2.1 45 = .ok (.iload_n 3, 1) := by decide +kernel
theorem d_Lines_best_46 : decode y_Lines_best.2.1 46 = .ok (.if_icmp .le 14, 3) := by decide +kernel
theorem d_Lines_best_49 : decode y_Lines_best.2.1 49 = .ok (.iload 4, 2) := by decide +kernel
theorem d_Lines_best_51 : decode y_Lines_best.2.1 51 = .ok (.istore_n 2, 1) := by decide +kernel
theorem d_Lines_best_52 : decode y_Lines_best.2.1 52 = .ok (.aload_n 0, 1) := by decide +kernel
theorem d_Lines_best_53 : decode y_Lines_best.2.1 53 = .ok (.getfield 15, 3) := by decide +kernel
theorem d_Lines_best_56 : decode y_Lines_best.2.1 56 = .ok (.iload 4, 2) := by decide +kernel
theorem d_Lines_best_58 : decode y_Lines_best.2.1 58 = .ok (.iaload, 1) := by decide +kernel
theorem d_Lines_best_59 : decode y_Lines_best.2.1 59 = .ok (.istore_n 3, 1) := by decide +kernel
theorem d_Lines_best_60 : decode y_Lines_best.2.1 60 = .ok (.iinc 4 1, 3) := by decide +kernel
theorem d_Lines_best_63 : decode y_Lines_best.2.1 63 = .ok (.goto (-44), 3) := by decide +kernel
theorem d_Lines_best_66 : decode y_Lines_best.2.1 66 = .ok (.iload_n 2, 1) := by decide +kernel
theorem d_Lines_best_67 : decode y_Lines_best.2.1 67 = .ok (.ireturn, 1) := by decide +kernel
theorem d_Lines_forget_0 : decode y_Lines_forget.2.1 0 = .ok (.aload_n 0, 1) := by decide +kernel
theorem d_Lines_forget_1 : decode y_Lines_forget.2.1 1 = .ok (.dup, 1) := by decide +kernel
theorem d_Lines_forget_2 : decode y_Lines_forget.2.1 2 = .ok (.getfield 25, 3) := by decide +kernel
theorem d_Lines_forget_5 : decode y_Lines_forget.2.1 5 = .ok (.iconst 1, 1) := by decide +kernel
theorem d_Lines_forget_6 : decode y_Lines_forget.2.1 6 = .ok (.iload_n 1, 1) := by decide +kernel
theorem d_Lines_forget_7 : decode y_Lines_forget.2.1 7 = .ok (.ishl, 1) := by decide +kernel
theorem d_Lines_forget_8 : decode y_Lines_forget.2.1 8 = .ok (.iconst (-1), 1) := by decide +kernel
theorem d_Lines_forget_9 : decode y_Lines_forget.2.1 9 = .ok (.ixor, 1) := by decide +kernel
theorem d_Lines_forget_10 : decode y_Lines_forget.2.1 10 = .ok (.iand, 1) := by decide +kernel
theorem d_Lines_forget_11 : decode y_Lines_forget.2.1 11 = .ok (.putfield 25, 3) := by decide +kernel
theorem d_Lines_forget_14 : decode y_Lines_forget.2.1 14 = .ok (.return_, 1) := by decide +kernel
theorem d_Lines_allDown_0 : decode y_Lines_allDown.2.1 0 = .ok (.aload_n 0, 1) := by decide +kernel
theorem d_Lines_allDown_1 : decode y_Lines_allDown.2.1 1 = .ok (.iconst 0, 1) := by decide +kernel
theorem d_Lines_allDown_2 : decode y_Lines_allDown.2.1 2 = .ok (.putfield 22, 3) := by decide +kernel
theorem d_Lines_allDown_5 : decode y_Lines_allDown.2.1 5 = .ok (.aload_n 0, 1) := by decide +kernel
theorem d_Lines_allDown_6 : decode y_Lines_allDown.2.1 6 = .ok (.iconst 0, 1) := by decide +kernel
theorem d_Lines_allDown_7 : decode y_Lines_allDown.2.1 7 = .ok (.putfield 25, 3) := by decide +kernel
theorem d_Lines_allDown_10 : decode y_Lines_allDown.2.1 10 = .ok (.return_, 1) := by decide +kernel
theorem d_Seat_init_0 : decode y_Seat_init.2.1 0 = .ok (.aload_n 0, 1) := by decide +kernel
theorem d_Seat_init_1 : decode y_Seat_init.2.1 1 = .ok (.invokespecial 1, 3) := by decide +kernel
theorem d_Seat_init_4 : decode y_Seat_init.2.1 4 = .ok (.aload_n 0, 1) := by decide +kernel
theorem d_Seat_init_5 : decode y_Seat_init.2.1 5 = .ok (.iload_n 1, 1) := by decide +kernel
theorem d_Seat_init_6 : decode y_Seat_init.2.1 6 = .ok (.putfield 7, 3) := by decide +kernel
theorem d_Seat_init_9 : decode y_Seat_init.2.1 9 = .ok (.aload_n 0, 1) := by decide +kernel
theorem d_Seat_init_10 : decode y_Seat_init.2.1 10 = .ok (.iload_n 2, 1) := by decide +kernel
theorem d_Seat_init_11 : decode y_Seat_init.2.1 11 = .ok (.putfield 13, 3) := by decide +kernel
theorem d_Seat_init_14 : decode y_Seat_init.2.1 14 = .ok (.aload_n 0, 1) := by decide +kernel
theorem d_Seat_init_15 : decode y_Seat_init.2.1 15 = .ok (.iload_n 3, 1) := by decide +kernel
theorem d_Seat_init_16 : decode y_Seat_init.2.1 16 = .ok (.putfield 16, 3) := by decide +kernel
theorem d_Seat_init_19 : decode y_Seat_init.2.1 19 = .ok (.aload_n 0, 1) := by decide +kernel
theorem d_Seat_init_20 : decode y_Seat_init.2.1 20 = .ok (.iload 4, 2) := by decide +kernel
theorem d_Seat_init_22 : decode y_Seat_init.2.1 22 = .ok (.putfield 19, 3) := by decide +kernel
theorem d_Seat_init_25 : decode y_Seat_init.2.1 25 = .ok (.return_, 1) := by decide +kernel
theorem d_Seat_accessSteps_0 : decode y_Seat_accessSteps.2.1 0 = .ok (.iconst 1, 1) := by decide +kernel
theorem d_Seat_accessSteps_1 : decode y_Seat_accessSteps.2.1 1 = .ok (.aload_n 0, 1) := by decide +kernel
theorem d_Seat_accessSteps_2 : decode y_Seat_accessSteps.2.1 2 = .ok (.getfield 19, 3) := by decide +kernel
theorem d_Seat_accessSteps_5 : decode y_Seat_accessSteps.2.1 5 = .ok (.iadd, 1) := by decide +kernel
theorem d_Seat_accessSteps_6 : decode y_Seat_accessSteps.2.1 6 = .ok (.ireturn, 1) := by decide +kernel
theorem d_Seat_meets_0 : decode y_Seat_meets.2.1 0 = .ok (.iload_n 1, 1) := by decide +kernel
theorem d_Seat_meets_1 : decode y_Seat_meets.2.1 1 = .ok (.aload_n 0, 1) := by decide +kernel
theorem d_Seat_meets_2 : decode y_Seat_meets.2.1 2 = .ok (.getfield 7, 3) := by decide +kernel
theorem d_Seat_meets_5 : decode y_Seat_meets.2.1 5 = .ok (.if_icmp .lt 24, 3) := by decide +kernel
theorem d_Seat_meets_8 : decode y_Seat_meets.2.1 8 = .ok (.iload_n 1, 1) := by decide +kernel
theorem d_Seat_meets_9 : decode y_Seat_meets.2.1 9 = .ok (.aload_n 0, 1) := by decide +kernel
theorem d_Seat_meets_10 : decode y_Seat_meets.2.1 10 = .ok (.getfield 7, 3) := by decide +kernel
theorem d_Seat_meets_13 : decode y_Seat_meets.2.1 13 = .ok (.isub, 1) := by decide +kernel
theorem d_Seat_meets_14 : decode y_Seat_meets.2.1 14 = .ok (.aload_n 0, 1) := by decide +kernel
theorem d_Seat_meets_15 : decode y_Seat_meets.2.1 15 = .ok (.getfield 13, 3) := by decide +kernel
theorem d_Seat_meets_18 : decode y_Seat_meets.2.1 18 = .ok (.if_icmp .ge 7, 3) := by decide +kernel
theorem d_Seat_meets_21 : decode y_Seat_meets.2.1 21 = .ok (.iconst 1, 1) := by decide +kernel
theorem d_Seat_meets_22 : decode y_Seat_meets.2.1 22 = .ok (.goto 26, 3) := by decide +kernel
theorem d_Seat_meets_25 : decode y_Seat_meets.2.1 25 = .ok (.iconst 0, 1) := by decide +kernel
theorem d_Seat_meets_26 : decode y_Seat_meets.2.1 26 = .ok (.goto 22, 3) := by decide +kernel
theorem d_Seat_meets_29 : decode y_Seat_meets.2.1 29 = .ok (.iload_n 1, 1) := by decide +kernel
theorem d_Seat_meets_30 : decode y_Seat_meets.2.1 30 = .ok (.ifCond .lt 17, 3) := by decide +kernel
theorem d_Seat_meets_33 : decode y_Seat_meets.2.1 33 = .ok (.aload_n 0, 1) := by decide +kernel
theorem d_Seat_meets_34 : decode y_Seat_meets.2.1 34 = .ok (.getfield 7, 3) := by decide +kernel
theorem d_Seat_meets_37 : decode y_Seat_meets.2.1 37 = .ok (.iload_n 1, 1) := by decide +kernel
theorem d_Seat_meets_38 : decode y_Seat_meets.2.1 38 = .ok (.isub, 1) := by decide +kernel
theorem d_Seat_meets_39 : decode y_Seat_meets.2.1 39 = .ok (.iload_n 2, 1) := by decide +kernel
theorem d_Seat_meets_40 : decode y_Seat_meets.2.1 40 = .ok (.if_icmp .ge 7, 3) := by decide +kernel
theorem d_Seat_meets_43 : decode y_Seat_meets.2.1 43 = .ok (.iconst 1, 1) := by decide +kernel
theorem d_Seat_meets_44 : decode y_Seat_meets.2.1 44 = .ok (.goto 4, 3) := by decide +kernel
theorem d_Seat_meets_47 : decode y_Seat_meets.2.1 47 = .ok (.iconst 0, 1) := by decide +kernel
theorem d_Seat_meets_48 : decode y_Seat_meets.2.1 48 = .ok (.ireturn, 1) := by decide +kernel
theorem d_Timer_init_0 : decode y_Timer_init.2.1 0 = .ok (.aload_n 0, 1) := by decide +kernel
theorem d_Timer_init_1 : decode y_Timer_init.2.1 1 = .ok (.aload_n 1, 1) := by decide +kernel
theorem d_Timer_init_2 : decode y_Timer_init.2.1 2 = .ok (.invokespecial 1, 3) := by decide +kernel
theorem d_Timer_init_5 : decode y_Timer_init.2.1 5 = .ok (.aload_n 0, 1) := by decide +kernel
theorem d_Timer_init_6 : decode y_Timer_init.2.1 6 = .ok (.iconst 0, 1) := by decide +kernel
theorem d_Timer_init_7 : decode y_Timer_init.2.1 7 = .ok (.putfield 7, 3) := by decide +kernel
theorem d_Timer_init_10 : decode y_Timer_init.2.1 10 = .ok (.aload_n 0, 1) := by decide +kernel
theorem d_Timer_init_11 : decode y_Timer_init.2.1 11 = .ok (.iconst 0, 1) := by decide +kernel
theorem d_Timer_init_12 : decode y_Timer_init.2.1 12 = .ok (.putfield 13, 3) := by decide +kernel
theorem d_Timer_init_15 : decode y_Timer_init.2.1 15 = .ok (.aload_n 0, 1) := by decide +kernel
theorem d_Timer_init_16 : decode y_Timer_init.2.1 16 = .ok (.iconst 0, 1) := by decide +kernel
theorem d_Timer_init_17 : decode y_Timer_init.2.1 17 = .ok (.putfield 16, 3) := by decide +kernel
theorem d_Timer_init_20 : decode y_Timer_init.2.1 20 = .ok (.aload_n 0, 1) := by decide +kernel
theorem d_Timer_init_21 : decode y_Timer_init.2.1 21 = .ok (.iconst 0, 1) := by decide +kernel
theorem d_Timer_init_22 : decode y_Timer_init.2.1 22 = .ok (.putfield 19, 3) := by decide +kernel
theorem d_Timer_init_25 : decode y_Timer_init.2.1 25 = .ok (.return_, 1) := by decide +kernel
theorem d_Timer_look_0 : decode y_Timer_look.2.1 0 = .ok (.iload_n 1, 1) := by decide +kernel
theorem d_Timer_look_1 : decode y_Timer_look.2.1 1 = .ok (.tableswitch 51 0 3 #[31, 36, 41, 46], 31) := by decide +kernel
theorem d_Timer_look_32 : decode y_Timer_look.2.1 32 = .ok (.aload_n 0, 1) := by decide +kernel
theorem d_Timer_look_33 : decode y_Timer_look.2.1 33 = .ok (.getfield 7, 3) := by decide +kernel
theorem d_Timer_look_36 : decode y_Timer_look.2.1 36 = .ok (.ireturn, 1) := by decide +kernel
theorem d_Timer_look_37 : decode y_Timer_look.2.1 37 = .ok (.aload_n 0, 1) := by decide +kernel
theorem d_Timer_look_38 : decode y_Timer_look.2.1 38 = .ok (.getfield 13, 3) := by decide +kernel
theorem d_Timer_look_41 : decode y_Timer_look.2.1 41 = .ok (.ireturn, 1) := by decide +kernel
theorem d_Timer_look_42 : decode y_Timer_look.2.1 42 = .ok (.aload_n 0, 1) := by decide +kernel
theorem d_Timer_look_43 : decode y_Timer_look.2.1 43 = .ok (.getfield 16, 3) := by decide +kernel
theorem d_Timer_look_46 : decode y_Timer_look.2.1 46 = .ok (.ireturn, 1) := by decide +kernel
theorem d_Timer_look_47 : decode y_Timer_look.2.1 47 = .ok (.aload_n 0, 1) := by decide +kernel
theorem d_Timer_look_48 : decode y_Timer_look.2.1 48 = .ok (.getfield 19, 3) := by decide +kernel
theorem d_Timer_look_51 : decode y_Timer_look.2.1 51 = .ok (.ireturn, 1) := by decide +kernel
theorem d_Timer_look_52 : decode y_Timer_look.2.1 52 = .ok (.iconst 0, 1) := by decide +kernel
theorem d_Timer_look_53 : decode y_Timer_look.2.1 53 = .ok (.ireturn, 1) := by decide +kernel
theorem d_Timer_put_0 : decode y_Timer_put.2.1 0 = .ok (.iload_n 1, 1) := by decide +kernel
theorem d_Timer_put_1 : decode y_Timer_put.2.1 1 = .ok (.tableswitch 66 0 3 #[31, 39, 47, 58], 31) := by decide +kernel
theorem d_Timer_put_32 : decode y_Timer_put.2.1 32 = .ok (.aload_n 0, 1) := by decide +kernel
theorem d_Timer_put_33 : decode y_Timer_put.2.1 33 = .ok (.iload_n 2, 1) := by decide +kernel
theorem d_Timer_put_34 : decode y_Timer_put.2.1 34 = .ok (.putfield 7, 3) := by decide +kernel
theorem d_Timer_put_37 : decode y_Timer_put.2.1 37 = .ok (.goto 30, 3) := by decide +kernel
theorem d_Timer_put_40 : decode y_Timer_put.2.1 40 = .ok (.aload_n 0, 1) := by decide +kernel
theorem d_Timer_put_41 : decode y_Timer_put.2.1 41 = .ok (.iload_n 2, 1) := by decide +kernel
theorem d_Timer_put_42 : decode y_Timer_put.2.1 42 = .ok (.putfield 13, 3) := by decide +kernel
theorem d_Timer_put_45 : decode y_Timer_put.2.1 45 = .ok (.goto 22, 3) := by decide +kernel
theorem d_Timer_put_48 : decode y_Timer_put.2.1 48 = .ok (.aload_n 0, 1) := by decide +kernel
theorem d_Timer_put_49 : decode y_Timer_put.2.1 49 = .ok (.iload_n 2, 1) := by decide +kernel
theorem d_Timer_put_50 : decode y_Timer_put.2.1 50 = .ok (.bipush 15, 2) := by decide +kernel
theorem d_Timer_put_52 : decode y_Timer_put.2.1 52 = .ok (.iand, 1) := by decide +kernel
theorem d_Timer_put_53 : decode y_Timer_put.2.1 53 = .ok (.putfield 16, 3) := by decide +kernel
theorem d_Timer_put_56 : decode y_Timer_put.2.1 56 = .ok (.goto 11, 3) := by decide +kernel
theorem d_Timer_put_59 : decode y_Timer_put.2.1 59 = .ok (.aload_n 0, 1) := by decide +kernel
theorem d_Timer_put_60 : decode y_Timer_put.2.1 60 = .ok (.iconst 0, 1) := by decide +kernel
theorem d_Timer_put_61 : decode y_Timer_put.2.1 61 = .ok (.putfield 19, 3) := by decide +kernel
theorem d_Timer_put_64 : decode y_Timer_put.2.1 64 = .ok (.goto 3, 3) := by decide +kernel
theorem d_Timer_put_67 : decode y_Timer_put.2.1 67 = .ok (.return_, 1) := by decide +kernel
theorem d_Timer_goOn_0 : decode y_Timer_goOn.2.1 0 = .ok (.aload_n 0, 1) := by decide +kernel
theorem d_Timer_goOn_1 : decode y_Timer_goOn.2.1 1 = .ok (.getfield 16, 3) := by decide +kernel
theorem d_Timer_goOn_4 : decode y_Timer_goOn.2.1 4 = .ok (.iconst 1, 1) := by decide +kernel
theorem d_Timer_goOn_5 : decode y_Timer_goOn.2.1 5 = .ok (.iand, 1) := by decide +kernel
theorem d_Timer_goOn_6 : decode y_Timer_goOn.2.1 6 = .ok (.ifCond .ne 5, 3) := by decide +kernel
theorem d_Timer_goOn_9 : decode y_Timer_goOn.2.1 9 = .ok (.iconst 0, 1) := by decide +kernel
theorem d_Timer_goOn_10 : decode y_Timer_goOn.2.1 10 = .ok (.ireturn, 1) := by decide +kernel
theorem d_Timer_goOn_11 : decode y_Timer_goOn.2.1 11 = .ok (.aload_n 0, 1) := by decide +kernel
theorem d_Timer_goOn_12 : decode y_Timer_goOn.2.1 12 = .ok (.dup, 1) := by decide +kernel
theorem d_Timer_goOn_13 : decode y_Timer_goOn.2.1 13 = .ok (.getfield 7, 3) := by decide +kernel
theorem d_Timer_goOn_16 : decode y_Timer_goOn.2.1 16 = .ok (.iconst 1, 1) := by decide +kernel
theorem d_Timer_goOn_17 : decode y_Timer_goOn.2.1 17 = .ok (.iadd, 1) := by decide +kernel
theorem d_Timer_goOn_18 : decode y_Timer_goOn.2.1 18 = .ok (.putfield 7, 3) := by decide +kernel
theorem d_Timer_goOn_21 : decode y_Timer_goOn.2.1 21 = .ok (.aload_n 0, 1) := by decide +kernel
theorem d_Timer_goOn_22 : decode y_Timer_goOn.2.1 22 = .ok (.getfield 7, 3) := by decide +kernel
theorem d_Timer_goOn_25 : decode y_Timer_goOn.2.1 25 = .ok (.aload_n 0, 1) := by decide +kernel
theorem d_Timer_goOn_26 : decode y_Timer_goOn.2.1 26 = .ok (.getfield 13, 3) := by decide +kernel
theorem d_Timer_goOn_29 : decode y_Timer_goOn.2.1 29 = .ok (.if_icmp .eq 5, 3) := by decide +kernel
theorem d_Timer_goOn_32 : decode y_Timer_goOn.2.1 32 = .ok (.iconst 0, 1) := by decide +kernel
theorem d_Timer_goOn_33 : decode y_Timer_goOn.2.1 33 = .ok (.ireturn, 1) := by decide +kernel
theorem d_Timer_goOn_34 : decode y_Timer_goOn.2.1 34 = .ok (.aload_n 0, 1) := by decide +kernel
theorem d_Timer_goOn_35 : decode y_Timer_goOn.2.1 35 = .ok (.iconst 1, 1) := by decide +kernel
theorem d_Timer_goOn_36 : decode y_Timer_goOn.2.1 36 = .ok (.putfield 19, 3) := by decide +kernel
theorem d_Timer_goOn_39 : decode y_Timer_goOn.2.1 39 = .ok (.aload_n 0, 1) := by decide +kernel
theorem d_Timer_goOn_40 : decode y_Timer_goOn.2.1 40 = .ok (.getfield 16, 3) := by decide +kernel
theorem d_Timer_goOn_43 : decode y_Timer_goOn.2.1 43 = .ok (.iconst 2, 1) := by decide +kernel
theorem d_Timer_goOn_44 : decode y_Timer_goOn.2.1 44 = .ok (.iand, 1) := by decide +kernel
theorem d_Timer_goOn_45 : decode y_Timer_goOn.2.1 45 = .ok (.ifCond .eq 11, 3) := by decide +kernel
theorem d_Timer_goOn_48 : decode y_Timer_goOn.2.1 48 = .ok (.aload_n 0, 1) := by decide +kernel
theorem d_Timer_goOn_49 : decode y_Timer_goOn.2.1 49 = .ok (.iconst 0, 1) := by decide +kernel
theorem d_Timer_goOn_50 : decode y_Timer_goOn.2.1 50 = .ok (.putfield 7, 3) := by decide +kernel
theorem d_Timer_goOn_53 : decode y_Timer_goOn.2.1 53 = .ok (.goto 14, 3) := by decide +kernel
theorem d_Timer_goOn_56 : decode y_Timer_goOn.2.1 56 = .ok (.aload_n 0, 1) := by decide +kernel
theorem d_Timer_goOn_57 : decode y_Timer_goOn.2.1 57 = .ok (.dup, 1) := by decide +kernel
theorem d_Timer_goOn_58 : decode y_Timer_goOn.2.1 58 = .ok (.getfield 16, 3) := by decide +kernel
theorem d_Timer_goOn_61 : decode y_Timer_goOn.2.1 61 = .ok (.bipush (-2), 2) := by decide +kernel
theorem d_Timer_goOn_63 : decode y_Timer_goOn.2.1 63 = .ok (.iand, 1) := by decide +kernel
theorem d_Timer_goOn_64 : decode y_Timer_goOn.2.1 64 = .ok (.putfield 16, 3) := by decide +kernel
theorem d_Timer_goOn_67 : decode y_Timer_goOn.2.1 67 = .ok (.aload_n 0, 1) := by decide +kernel
theorem d_Timer_goOn_68 : decode y_Timer_goOn.2.1 68 = .ok (.getfield 16, 3) := by decide +kernel
theorem d_Timer_goOn_71 : decode y_Timer_goOn.2.1 71 = .ok (.bipush 8, 2) := by decide +kernel
theorem d_Timer_goOn_73 : decode y_Timer_goOn.2.1 73 = .ok (.iand, 1) := by decide +kernel
theorem d_Timer_goOn_74 : decode y_Timer_goOn.2.1 74 = .ok (.ifCond .eq 7, 3) := by decide +kernel
theorem d_Timer_goOn_77 : decode y_Timer_goOn.2.1 77 = .ok (.iconst 1, 1) := by decide +kernel
theorem d_Timer_goOn_78 : decode y_Timer_goOn.2.1 78 = .ok (.goto 4, 3) := by decide +kernel
theorem d_Timer_goOn_81 : decode y_Timer_goOn.2.1 81 = .ok (.iconst 0, 1) := by decide +kernel
theorem d_Timer_goOn_82 : decode y_Timer_goOn.2.1 82 = .ok (.ireturn, 1) := by decide +kernel
theorem d_Timer_wantsAttention_0 : decode y_Timer_wantsAttention.2.1 0 = .ok (.aload_n 0, 1) := by decide +kernel
theorem d_Timer_wantsAttention_1 : decode y_Timer_wantsAttention.2.1 1 = .ok (.getfield 16, 3) := by decide +kernel
theorem d_Timer_wantsAttention_4 : decode y_Timer_wantsAttention.2.1 4 = .ok (.iconst 4, 1) := by decide +kernel
theorem d_Timer_wantsAttention_5 : decode y_Timer_wantsAttention.2.1 5 = .ok (.iand, 1) := by decide +kernel
theorem d_Timer_wantsAttention_6 : decode y_Timer_wantsAttention.2.1 6 = .ok (.ifCond .eq 15, 3) := by decide +kernel
theorem d_Timer_wantsAttention_9 : decode y_Timer_wantsAttention.2.1 9 = .ok (.aload_n 0, 1) := by decide +kernel
theorem d_Timer_wantsAttention_10 : decode y_Timer_wantsAttention.2.1 10 = .ok (.getfield 19, 3) := by decide +kernel
theorem d_Timer_wantsAttention_13 : decode y_Timer_wantsAttention.2.1 13 = .ok (.iconst 1, 1) := by decide +kernel
theorem d_Timer_wantsAttention_14 : decode y_Timer_wantsAttention.2.1 14 = .ok (.if_icmp .ne 7, 3) := by decide +kernel
theorem d_Timer_wantsAttention_17 : decode y_Timer_wantsAttention.2.1 17 = .ok (.iconst 1, 1) := by decide +kernel
theorem d_Timer_wantsAttention_18 : decode y_Timer_wantsAttention.2.1 18 = .ok (.goto 4, 3) := by decide +kernel
theorem d_Timer_wantsAttention_21 : decode y_Timer_wantsAttention.2.1 21 = .ok (.iconst 0, 1) := by decide +kernel
theorem d_Timer_wantsAttention_22 : decode y_Timer_wantsAttention.2.1 22 = .ok (.ireturn, 1) := by decide +kernel
theorem d_Timer_beginAnew_0 : decode y_Timer_beginAnew.2.1 0 = .ok (.aload_n 0, 1) := by decide +kernel
theorem d_Timer_beginAnew_1 : decode y_Timer_beginAnew.2.1 1 = .ok (.iconst 0, 1) := by decide +kernel
theorem d_Timer_beginAnew_2 : decode y_Timer_beginAnew.2.1 2 = .ok (.putfield 7, 3) := by decide +kernel
theorem d_Timer_beginAnew_5 : decode y_Timer_beginAnew.2.1 5 = .ok (.aload_n 0, 1) := by decide +kernel
theorem d_Timer_beginAnew_6 : decode y_Timer_beginAnew.2.1 6 = .ok (.iconst 0, 1) := by decide +kernel
theorem d_Timer_beginAnew_7 : decode y_Timer_beginAnew.2.1 7 = .ok (.putfield 13, 3) := by decide +kernel
theorem d_Timer_beginAnew_10 : decode y_Timer_beginAnew.2.1 10 = .ok (.aload_n 0, 1) := by decide +kernel
theorem d_Timer_beginAnew_11 : decode y_Timer_beginAnew.2.1 11 = .ok (.iconst 0, 1) := by decide +kernel
theorem d_Timer_beginAnew_12 : decode y_Timer_beginAnew.2.1 12 = .ok (.putfield 16, 3) := by decide +kernel
theorem d_Timer_beginAnew_15 : decode y_Timer_beginAnew.2.1 15 = .ok (.aload_n 0, 1) := by decide +kernel
theorem d_Timer_beginAnew_16 : decode y_Timer_beginAnew.2.1 16 = .ok (.iconst 0, 1) := by decide +kernel
theorem d_Timer_beginAnew_17 : decode y_Timer_beginAnew.2.1 17 = .ok (.putfield 19, 3) := by decide +kernel
theorem d_Timer_beginAnew_20 : decode y_Timer_beginAnew.2.1 20 = .ok (.return_, 1) := by decide +kernel
