theorem d_Counts_init_0 : decode y_Counts_init.2.1 0 = .ok (.aload_n 0, 1) := by decide +kernel
theorem d_Counts_init_1 : decode y_Counts_init.2.1 1 = .ok (.aload_n 1, 1) := by decide +kernel
theorem d_Counts_init_2 : decode y_Counts_init.2.1 2 = .ok (.invokespecial 3, 3) := by decide +kernel
theorem d_Counts_init_5 : decode y_Counts_init.2.1 5 = .ok (.aload_n 0, 1) := by decide +kernel
theorem d_Counts_init_6 : decode y_Counts_init.2.1 6 = .ok (.iconst 4, 1) := by decide +kernel
theorem d_Counts_init_7 : decode y_Counts_init.2.1 7 = .ok (.newarray .int, 2) := by decide +kernel
theorem d_Counts_init_9 : decode y_Counts_init.2.1 9 = .ok (.putfield 9, 3) := by decide +kernel
theorem d_Counts_init_12 : decode y_Counts_init.2.1 12 = .ok (.return_, 1) := by decide +kernel
theorem d_Counts_add_0 : decode y_Counts_add.2.1 0 = .ok (.iload_n 1, 1) := by decide +kernel
theorem d_Counts_add_1 : decode y_Counts_add.2.1 1 = .ok (.ifCond .lt 22, 3) := by decide +kernel
theorem d_Counts_add_4 : decode y_Counts_add.2.1 4 = .ok (.iload_n 1, 1) := by decide +kernel
theorem d_Counts_add_5 : decode y_Counts_add.2.1 5 = .ok (.aload_n 0, 1) := by decide +kernel
theorem d_Counts_add_6 : decode y_Counts_add.2.1 6 = .ok (.getfield 9, 3) := by decide +kernel
theorem d_Counts_add_9 : decode y_Counts_add.2.1 9 = .ok (.arraylength, 1) := by decide +kernel
theorem d_Counts_add_10 : decode y_Counts_add.2.1 10 = .ok (.if_icmp .ge 13, 3) := by decide +kernel
theorem d_Counts_add_13 : decode y_Counts_add.2.1 13 = .ok (.aload_n 0, 1) := by decide +kernel
theorem d_Counts_add_14 : decode y_Counts_add.2.1 14 = .ok (.getfield 9, 3) := by decide +kernel
theorem d_Counts_add_17 : decode y_Counts_add.2.1 17 = .ok (.iload_n 1, 1) := by decide +kernel
theorem d_Counts_add_18 : decode y_Counts_add.2.1 18 = .ok (.dup2, 1) := by decide +kernel
theorem d_Counts_add_19 : decode y_Counts_add.2.1 19 = .ok (.iaload, 1) := by decide +kernel
theorem d_Counts_add_20 : decode y_Counts_add.2.1 20 = .ok (.iconst 1, 1) := by decide +kernel
theorem d_Counts_add_21 : decode y_Counts_add.2.1 21 = .ok (.iadd, 1) := by decide +kernel
theorem d_Counts_add_22 : decode y_Counts_add.2.1 22 = .ok (.iastore, 1) := by decide +kernel
theorem d_Counts_add_23 : decode y_Counts_add.2.1 23 = .ok (.return_, 1) := by decide +kernel
theorem d_Counts_look_0 : decode y_Counts_look.2.1 0 = .ok (.iload_n 1, 1) := by decide +kernel
theorem d_Counts_look_1 : decode y_Counts_look.2.1 1 = .ok (.ifCond .lt 21, 3) := by decide +kernel
theorem d_Counts_look_4 : decode y_Counts_look.2.1 4 = .ok (.iload_n 1, 1) := by decide +kernel
theorem d_Counts_look_5 : decode y_Counts_look.2.1 5 = .ok (.aload_n 0, 1) := by decide +kernel
theorem d_Counts_look_6 : decode y_Counts_look.2.1 6 = .ok (.getfield 9, 3) := by decide +kernel
theorem d_Counts_look_9 : decode y_Counts_look.2.1 9 = .ok (.arraylength, 1) := by decide +kernel
theorem d_Counts_look_10 : decode y_Counts_look.2.1 10 = .ok (.if_icmp .ge 12, 3) := by decide +kernel
theorem d_Counts_look_13 : decode y_Counts_look.2.1 13 = .ok (.aload_n 0, 1) := by decide +kernel
theorem d_Counts_look_14 : decode y_Counts_look.2.1 14 = .ok (.getfield 9, 3) := by decide +kernel
theorem d_Counts_look_17 : decode y_Counts_look.2.1 17 = .ok (.iload_n 1, 1) := by decide +kernel
theorem d_Counts_look_18 : decode y_Counts_look.2.1 18 = .ok (.iaload, 1) := by decide +kernel
theorem d_Counts_look_19 : decode y_Counts_look.2.1 19 = .ok (.goto 4, 3) := by decide +kernel
theorem d_Counts_look_22 : decode y_Counts_look.2.1 22 = .ok (.iconst 0, 1) := by decide +kernel
theorem d_Counts_look_23 : decode y_Counts_look.2.1 23 = .ok (.ireturn, 1) := by decide +kernel
theorem d_Counts_put_0 : decode y_Counts_put.2.1 0 = .ok (.iload_n 1, 1) := by decide +kernel
theorem d_Counts_put_1 : decode y_Counts_put.2.1 1 = .ok (.ifCond .lt 19, 3) := by decide +kernel
theorem d_Counts_put_4 : decode y_Counts_put.2.1 4 = .ok (.iload_n 1, 1) := by decide +kernel
theorem d_Counts_put_5 : decode y_Counts_put.2.1 5 = .ok (.aload_n 0, 1) := by decide +kernel
theorem d_Counts_put_6 : decode y_Counts_put.2.1 6 = .ok (.getfield 9, 3) := by decide +kernel
theorem d_Counts_put_9 : decode y_Counts_put.2.1 9 = .ok (.arraylength, 1) := by decide +kernel
theorem d_Counts_put_10 : decode y_Counts_put.2.1 10 = .ok (.if_icmp .ge 10, 3) := by decide +kernel
theorem d_Counts_put_13 : decode y_Counts_put.2.1 13 = .ok (.aload_n 0, 1) := by decide +kernel
theorem d_Counts_put_14 : decode y_Counts_put.2.1 14 = .ok (.getfield 9, 3) := by decide +kernel
theorem d_Counts_put_17 : decode y_Counts_put.2.1 17 = .ok (.iload_n 1, 1) := by decide +kernel
theorem d_Counts_put_18 : decode y_Counts_put.2.1 18 = .ok (.iconst 0, 1) := by decide +kernel
theorem d_Counts_put_19 : decode y_Counts_put.2.1 19 = .ok (.iastore, 1) := by decide +kernel
theorem d_Counts_put_20 : decode y_Counts_put.2.1 20 = .ok (.return_, 1) := by decide +kernel
theorem d_Counts_goOn_0 : decode y_Counts_goOn.2.1 0 = .ok (.aload_n 0, 1) := by decide +kernel
theorem d_Counts_goOn_1 : decode y_Counts_goOn.2.1 1 = .ok (.iconst 0, 1) := by decide +kernel
theorem d_Counts_goOn_2 : decode y_Counts_goOn.2.1 2 = .ok (.invokevirtual 15, 3) := by decide +kernel
theorem d_Counts_goOn_5 : decode y_Counts_goOn.2.1 5 = .ok (.iconst 0, 1) := by decide +kernel
theorem d_Counts_goOn_6 : decode y_Counts_goOn.2.1 6 = .ok (.ireturn, 1) := by decide +kernel
theorem d_Counts_beginAnew_0 : decode y_Counts_beginAnew.2.1 0 = .ok (.iconst 0, 1) := by decide +kernel
theorem d_Counts_beginAnew_1 : decode y_Counts_beginAnew.2.1 1 = .ok (.istore_n 1, 1) := by decide +kernel
theorem d_Counts_beginAnew_2 : decode y_Counts_beginAnew.2.1 2 = .ok (.iload_n 1, 1) := by decide +kernel
theorem d_Counts_beginAnew_3 : decode y_Counts_beginAnew.2.1 3 = .ok (.aload_n 0, 1) := by decide +kernel
theorem d_Counts_beginAnew_4 : decode y_Counts_beginAnew.2.1 4 = .ok (.getfield 9, 3) := by decide +kernel
theorem d_Counts_beginAnew_7 : decode y_Counts_beginAnew.2.1 7 = .ok (.arraylength, 1) := by decide +kernel
theorem d_Counts_beginAnew_8 : decode y_Counts_beginAnew.2.1 8 = .ok (.if_icmp .ge 16, 3) := by decide +kernel
theorem d_Counts_beginAnew_11 : decode y_Counts_beginAnew.2.1 11 = .ok (.aload_n 0, 1) := by decide +kernel
theorem d_Counts_beginAnew_12 : decode y_Counts_beginAnew.2.1 12 = .ok (.getfield 9, 3) := by decide +kernel
theorem d_Counts_beginAnew_15 : decode y_Counts_beginAnew.2.1 15 = .ok (.iload_n 1, 1) := by decide +kernel
theorem d_Counts_beginAnew_16 : decode y_Counts_beginAnew.2.1 16 = .ok (.iconst 0, 1) := by decide +kernel
theorem d_Counts_beginAnew_17 : decode y_Counts_beginAnew.2.1 17 = .ok (.iastore, 1) := by decide +kernel
theorem d_Counts_beginAnew_18 : decode y_Counts_beginAnew.2.1 18 = .ok (.iinc 1 1, 3) := by decide +kernel
theorem d_Counts_beginAnew_21 : decode y_Counts_beginAnew.2.1 21 = .ok (.goto (-19), 3) := by decide +kernel
theorem d_Counts_beginAnew_24 : decode y_Counts_beginAnew.2.1 24 = .ok (.return_, 1) := by decide +kernel
theorem d_Part_init_0 : decode y_Part_init.2.1 0 = .ok (.aload_n 0, 1) := by decide +kernel
theorem d_Part_init_1 : decode y_Part_init.2.1 1 = .ok (.invokespecial 1, 3) := by decide +kernel
theorem d_Part_init_4 : decode y_Part_init.2.1 4 = .ok (.aload_n 0, 1) := by decide +kernel
theorem d_Part_init_5 : decode y_Part_init.2.1 5 = .ok (.aload_n 1, 1) := by decide +kernel
theorem d_Part_init_6 : decode y_Part_init.2.1 6 = .ok (.putfield 7, 3) := by decide +kernel
theorem d_Part_init_9 : decode y_Part_init.2.1 9 = .ok (.return_, 1) := by decide +kernel
theorem d_Part_refusesWrites_0 : decode y_Part_refusesWrites.2.1 0 = .ok (.iconst 0, 1) := by decide +kernel
theorem d_Part_refusesWrites_1 : decode y_Part_refusesWrites.2.1 1 = .ok (.ireturn, 1) := by decide +kernel
theorem d_Part_goOn_0 : decode y_Part_goOn.2.1 0 = .ok (.iconst 0, 1) := by decide +kernel
theorem d_Part_goOn_1 : decode y_Part_goOn.2.1 1 = .ok (.ireturn, 1) := by decide +kernel
theorem d_Part_wantsAttention_0 : decode y_Part_wantsAttention.2.1 0 = .ok (.iconst 0, 1) := by decide +kernel
theorem d_Part_wantsAttention_1 : decode y_Part_wantsAttention.2.1 1 = .ok (.ireturn, 1) := by decide +kernel
theorem d_Part_beginAnew_0 : decode y_Part_beginAnew.2.1 0 = .ok (.return_, 1) := by decide +kernel
theorem d_Rows_init_0 : decode y_Rows_init.2.1 0 = .ok (.aload_n 0, 1) := by decide +kernel
theorem d_Rows_init_1 : decode y_Rows_init.2.1 1 = .ok (.aload_n 1, 1) := by decide +kernel
theorem d_Rows_init_2 : decode y_Rows_init.2.1 2 = .ok (.invokespecial 3, 3) := by decide +kernel
theorem d_Rows_init_5 : decode y_Rows_init.2.1 5 = .ok (.aload_n 0, 1) := by decide +kernel
theorem d_Rows_init_6 : decode y_Rows_init.2.1 6 = .ok (.bipush 64, 2) := by decide +kernel
theorem d_Rows_init_8 : decode y_Rows_init.2.1 8 = .ok (.newarray .int, 2) := by decide +kernel
theorem d_Rows_init_10 : decode y_Rows_init.2.1 10 = .ok (.putfield 9, 3) := by decide +kernel
theorem d_Rows_init_13 : decode y_Rows_init.2.1 13 = .ok (.aload_n 0, 1) := by decide +kernel
theorem d_Rows_init_14 : decode y_Rows_init.2.1 14 = .ok (.bipush 8, 2) := by decide +kernel
theorem d_Rows_init_16 : decode y_Rows_init.2.1 16 = .ok (.newarray .int, 2) := by decide +kernel
theorem d_Rows_init_18 : decode y_Rows_init.2.1 18 = .ok (.putfield 13, 3) := by decide +kernel
theorem d_Rows_init_21 : decode y_Rows_init.2.1 21 = .ok (.aload_n 0, 1) := by decide +kernel
theorem d_Rows_init_22 : decode y_Rows_init.2.1 22 = .ok (.iconst 0, 1) := by decide +kernel
theorem d_Rows_init_23 : decode y_Rows_init.2.1 23 = .ok (.putfield 16, 3) := by decide +kernel
theorem d_Rows_init_26 : decode y_Rows_init.2.1 26 = .ok (.aload_n 0, 1) := by decide +kernel
theorem d_Rows_init_27 : decode y_Rows_init.2.1 27 = .ok (.iconst 0, 1) := by decide +kernel
theorem d_Rows_init_28 : decode y_Rows_init.2.1 28 = .ok (.putfield 20, 3) := by decide +kernel
theorem d_Rows_init_31 : decode y_Rows_init.2.1 31 = .ok (.aload_n 0, 1) := by decide +kernel
theorem d_Rows_init_32 : decode y_Rows_init.2.1 32 = .ok (.iconst 0, 1) := by decide +kernel
theorem d_Rows_init_33 : decode y_Rows_init.2.1 33 = .ok (.putfield 23, 3) := by decide +kernel
theorem d_Rows_init_36 : decode y_Rows_init.2.1 36 = .ok (.aload_n 0, 1) := by decide +kernel
theorem d_Rows_init_37 : decode y_Rows_init.2.1 37 = .ok (.iconst 0, 1) := by decide +kernel
theorem d_Rows_init_38 : decode y_Rows_init.2.1 38 = .ok (.putfield 26, 3) := by decide +kernel
theorem d_Rows_init_41 : decode y_Rows_init.2.1 41 = .ok (.aload_n 0, 1) := by decide +kernel
theorem d_Rows_init_42 : decode y_Rows_init.2.1 42 = .ok (.iconst 0, 1) := by decide +kernel
theorem d_Rows_init_43 : decode y_Rows_init.2.1 43 = .ok (.putfield 29, 3) := by decide +kernel
theorem d_Rows_init_46 : decode y_Rows_init.2.1 46 = .ok (.return_, 1) := by decide +kernel
theorem d_Rows_look_0 : decode y_Rows_look.2.1 0 = .ok (.iload_n 1, 1) := by decide +kernel
theorem d_Rows_look_1 : decode y_Rows_look.2.1 1 = .ok (.tableswitch 42 0 2 #[27, 32, 37], 27) := by decide +kernel
theorem d_Rows_look_28 : decode y_Rows_look.2.1 28 = .ok (.aload_n 0, 1) := by decide +kernel
theorem d_Rows_look_29 : decode y_Rows_look.2.1 29 = .ok (.getfield 16, 3) := by decide +kernel
theorem d_Rows_look_32 : decode y_Rows_look.2.1 32 = .ok (.ireturn, 1) := by decide +kernel
theorem d_Rows_look_33 : decode y_Rows_look.2.1 33 = .ok (.aload_n 0, 1) := by decide +kernel
theorem d_Rows_look_34 : decode y_Rows_look.2.1 34 = .ok (.getfield 20, 3) := by decide +kernel
theorem d_Rows_look_37 : decode y_Rows_look.2.1 37 = .ok (.ireturn, 1) := by decide +kernel
theorem d_Rows_look_38 : decode y_Rows_look.2.1 38 = .ok (.aload_n 0, 1) := by decide +kernel
theorem d_Rows_look_39 : decode y_Rows_look.2.1 39 = .ok (.getfield 29, 3) := by decide +kernel
theorem d_Rows_look_42 : decode y_Rows_look.2.1 42 = .ok (.ireturn, 1) := by decide +kernel
theorem d_Rows_look_43 : decode y_Rows_look.2.1 43 = .ok (.aload_n 0, 1) := by decide +kernel
theorem d_Rows_look_44 : decode y_Rows_look.2.1 44 = .ok (.iload_n 1, 1) := by decide +kernel
theorem d_Rows_look_45 : decode y_Rows_look.2.1 45 = .ok (.invokevirtual 32, 3) := by decide +kernel
theorem d_Rows_look_48 : decode y_Rows_look.2.1 48 = .ok (.ifCond .eq 14, 3) := by decide +kernel
theorem d_Rows_look_51 : decode y_Rows_look.2.1 51 = .ok (.aload_n 0, 1) := by decide +kernel
theorem d_Rows_look_52 : decode y_Rows_look.2.1 52 = .ok (.getfield 13, 3) := by decide +kernel
theorem d_Rows_look_55 : decode y_Rows_look.2.1 55 = .ok (.iload_n 1, 1) := by decide +kernel
theorem d_Rows_look_56 : decode y_Rows_look.2.1 56 = .ok (.iconst 3, 1) := by decide +kernel
theorem d_Rows_look_57 : decode y_Rows_look.2.1 57 = .ok (.isub, 1) := by decide +kernel
theorem d_Rows_look_58 : decode y_Rows_look.2.1 58 = .ok (.iaload, 1) := by decide +kernel
theorem d_Rows_look_59 : decode y_Rows_look.2.1 59 = .ok (.goto 4, 3) := by decide +kernel
theorem d_Rows_look_62 : decode y_Rows_look.2.1 62 = .ok (.iconst 0, 1) := by decide +kernel
theorem d_Rows_look_63 : decode y_Rows_look.2.1 63 = .ok (.ireturn, 1) := by decide +kernel
theorem d_Rows_inWindow_0 : decode y_Rows_inWindow.2.1 0 = .ok (.iload_n 1, 1) := by decide +kernel
theorem d_Rows_inWindow_1 : decode y_Rows_inWindow.2.1 1 = .ok (.iconst 3, 1) := by decide +kernel
theorem d_Rows_inWindow_2 : decode y_Rows_inWindow.2.1 2 = .ok (.if_icmp .lt 13, 3) := by decide +kernel
theorem d_Rows_inWindow_5 : decode y_Rows_inWindow.2.1 5 = .ok (.iload_n 1, 1) := by decide +kernel
theorem d_Rows_inWindow_6 : decode y_Rows_inWindow.2.1 6 = .ok (.bipush 11, 2) := by decide +kernel
theorem d_Rows_inWindow_8 : decode y_Rows_inWindow.2.1 8 = .ok (.if_icmp .ge 7, 3) := by decide +kernel
theorem d_Rows_inWindow_11 : decode y_Rows_inWindow.2.1 11 = .ok (.iconst 1, 1) := by decide +kernel
theorem d_Rows_inWindow_12 : decode y_Rows_inWindow.2.1 12 = .ok (.goto 4, 3) := by decide +kernel
theorem d_Rows_inWindow_15 : decode y_Rows_inWindow.2.1 15 = .ok (.iconst 0, 1) := by decide +kernel
theorem d_Rows_inWindow_16 : decode y_Rows_inWindow.2.1 16 = .ok (.ireturn, 1) := by decide +kernel
theorem d_Rows_put_0 : decode y_Rows_put.2.1 0 = .ok (.iload_n 1, 1) := by decide +kernel
theorem d_Rows_put_1 : decode y_Rows_put.2.1 1 = .ok (.tableswitch 54 0 2 #[27, 38, 46], 27) := by decide +kernel
theorem d_Rows_put_28 : decode y_Rows_put.2.1 28 = .ok (.aload_n 0, 1) := by decide +kernel
theorem d_Rows_put_29 : decode y_Rows_put.2.1 29 = .ok (.iload_n 2, 1) := by decide +kernel
theorem d_Rows_put_30 : decode y_Rows_put.2.1 30 = .ok (.bipush 7, 2) := by decide +kernel
theorem d_Rows_put_32 : decode y_Rows_put.2.1 32 = .ok (.iand, 1) := by decide +kernel
theorem d_Rows_put_33 : decode y_Rows_put.2.1 33 = .ok (.putfield 16, 3) := by decide +kernel
theorem d_Rows_put_36 : decode y_Rows_put.2.1 36 = .ok (.goto 43, 3) := by decide +kernel
theorem d_Rows_put_39 : decode y_Rows_put.2.1 39 = .ok (.aload_n 0, 1) := by decide +kernel
theorem d_Rows_put_40 : decode y_Rows_put.2.1 40 = .ok (.iload_n 2, 1) := by decide +kernel
theorem d_Rows_put_41 : decode y_Rows_put.2.1 41 = .ok (.invokevirtual 36, 3) := by decide +kernel
theorem d_Rows_put_44 : decode y_Rows_put.2.1 44 = .ok (.goto 35, 3) := by decide +kernel
theorem d_Rows_put_47 : decode y_Rows_put.2.1 47 = .ok (.aload_n 0, 1) := by decide +kernel
theorem d_Rows_put_48 : decode y_Rows_put.2.1 48 = .ok (.iconst 0, 1) := by decide +kernel
theorem d_Rows_put_49 : decode y_Rows_put.2.1 49 = .ok (.putfield 29, 3) := by decide +kernel
theorem d_Rows_put_52 : decode y_Rows_put.2.1 52 = .ok (.goto 27, 3) := by decide +kernel
theorem d_Rows_put_55 : decode y_Rows_put.2.1 55 = .ok (.aload_n 0, 1) := by decide +kernel
theorem d_Rows_put_56 : decode y_Rows_put.2.1 56 = .ok (.iload_n 1, 1) := by decide +kernel
theorem d_Rows_put_57 : decode y_Rows_put.2.1 57 = .ok (.invokevirtual 32, 3) := by decide +kernel
theorem d_Rows_put_60 : decode y_Rows_put.2.1 60 = .ok (.ifCond .eq 19, 3) := by decide +kernel
theorem d_Rows_put_63 : decode y_Rows_put.2.1 63 = .ok (.aload_n 0, 1) := by decide +kernel
theorem d_Rows_put_64 : decode y_Rows_put.2.1 64 = .ok (.getfield 20, 3) := by decide +kernel
theorem d_Rows_put_67 : decode y_Rows_put.2.1 67 = .ok (.ifCond .ne 12, 3) := by decide +kernel
theorem d_Rows_put_70 : decode y_Rows_put.2.1 70 = .ok (.aload_n 0, 1) := by decide +kernel
theorem d_Rows_put_71 : decode y_Rows_put.2.1 71 = .ok (.getfield 13, 3) := by decide +kernel
theorem d_Rows_put_74 : decode y_Rows_put.2.1 74 = .ok (.iload_n 1, 1) := by decide +kernel
theorem d_Rows_put_75 : decode y_Rows_put.2.1 75 = .ok (.iconst 3, 1) := by decide +kernel
theorem d_Rows_put_76 : decode y_Rows_put.2.1 76 = .ok (.isub, 1) := by decide +kernel
theorem d_Rows_put_77 : decode y_Rows_put.2.1 77 = .ok (.iload_n 2, 1) := by decide +kernel
theorem d_Rows_put_78 : decode y_Rows_put.2.1 78 = .ok (.iastore, 1) := by decide +kernel
theorem d_Rows_put_79 : decode y_Rows_put.2.1 79 = .ok (.return_, 1) := by decide +kernel
theorem d_Rows_begin_0 : decode y_Rows_begin.2.1 0 = .ok (.aload_n 0, 1) := by decide +kernel
theorem d_Rows_begin_1 : decode y_Rows_begin.2.1 1 = .ok (.getfield 20, 3) := by decide +kernel
theorem d_Rows_begin_4 : decode y_Rows_begin.2.1 4 = .ok (.ifCond .ne 13, 3) := by decide +kernel
theorem d_Rows_begin_7 : decode y_Rows_begin.2.1 7 = .ok (.iload_n 1, 1) := by decide +kernel
theorem d_Rows_begin_8 : decode y_Rows_begin.2.1 8 = .ok (.iconst 1, 1) := by decide +kernel
theorem d_Rows_begin_9 : decode y_Rows_begin.2.1 9 = .ok (.if_icmp .eq 9, 3) := by decide +kernel
theorem d_Rows_begin_12 : decode y_Rows_begin.2.1 12 = .ok (.iload_n 1, 1) := by decide +kernel
theorem d_Rows_begin_13 : decode y_Rows_begin.2.1 13 = .ok (.iconst 2, 1) := by decide +kernel
theorem d_Rows_begin_14 : decode y_Rows_begin.2.1 14 = .ok (.if_icmp .eq 4, 3) := by decide +kernel
theorem d_Rows_begin_17 : decode y_Rows_begin.2.1 17 = .ok (.return_, 1) := by decide +kernel
theorem d_Rows_begin_18 : decode y_Rows_begin.2.1 18 = .ok (.aload_n 0, 1) := by decide +kernel
theorem d_Rows_begin_19 : decode y_Rows_begin.2.1 19 = .ok (.iload_n 1, 1) := by decide +kernel
theorem d_Rows_begin_20 : decode y_Rows_begin.2.1 20 = .ok (.putfield 20, 3) := by decide +kernel
theorem d_Rows_begin_23 : decode y_Rows_begin.2.1 23 = .ok (.aload_n 0, 1) := by decide +kernel
theorem d_Rows_begin_24 : decode y_Rows_begin.2.1 24 = .ok (.aload_n 0, 1) := by decide +kernel
theorem d_Rows_begin_25 : decode y_Rows_begin.2.1 25 = .ok (.getfield 16, 3) := by decide +kernel
theorem d_Rows_begin_28 : decode y_Rows_begin.2.1 28 = .ok (.putfield 23, 3) := by decide +kernel
theorem d_Rows_begin_31 : decode y_Rows_begin.2.1 31 = .ok (.aload_n 0, 1) := by decide +kernel
theorem d_Rows_begin_32 : decode y_Rows_begin.2.1 32 = .ok (.bipush 10, 2) := by decide +kernel
theorem d_Rows_begin_34 : decode y_Rows_begin.2.1 34 = .ok (.putfield 26, 3) := by decide +kernel
theorem d_Rows_begin_37 : decode y_Rows_begin.2.1 37 = .ok (.return_, 1) := by decide +kernel
theorem d_Rows_goOn_0 : decode y_Rows_goOn.2.1 0 = .ok (.aload_n 0, 1) := by decide +kernel
theorem d_Rows_goOn_1 : decode y_Rows_goOn.2.1 1 = .ok (.getfield 20, 3) := by decide +kernel
theorem d_Rows_goOn_4 : decode y_Rows_goOn.2.1 4 = .ok (.ifCond .eq 34, 3) := by decide +kernel
theorem d_Rows_goOn_7 : decode y_Rows_goOn.2.1 7 = .ok (.aload_n 0, 1) := by decide +kernel
theorem d_Rows_goOn_8 : decode y_Rows_goOn.2.1 8 = .ok (.dup, 1) := by decide +kernel
theorem d_Rows_goOn_9 : decode y_Rows_goOn.2.1 9 = .ok (.getfield 26, 3) := by decide +kernel
theorem d_Rows_goOn_12 : decode y_Rows_goOn.2.1 12 = .ok (.iconst 1, 1) := by decide +kernel
theorem d_Rows_goOn_13 : decode y_Rows_goOn.2.1 13 = .ok (.isub, 1) := by decide +kernel
theorem d_Rows_goOn_14 : decode y_Rows_goOn.2.1 14 = .ok (.putfield 26, 3) := by decide +kernel
theorem d_Rows_goOn_17 : decode y_Rows_goOn.2.1 17 = .ok (.aload_n 0, 1) := by decide +kernel
theorem d_Rows_goOn_18 : decode y_Rows_goOn.2.1 18 = .ok (.getfield 26, 3) := by decide +kernel
theorem d_Rows_goOn_21 : decode y_Rows_goOn.2.1 21 = .ok (.ifCond .ne 17, 3) := by decide +kernel
theorem d_Rows_goOn_24 : decode y_Rows_goOn.2.1 24 = .ok (.aload_n 0, 1) := by decide +kernel
theorem d_Rows_goOn_25 : decode y_Rows_goOn.2.1 25 = .ok (.invokevirtual 40, 3) := by decide +kernel
theorem d_Rows_goOn_28 : decode y_Rows_goOn.2.1 28 = .ok (.aload_n 0, 1) := by decide +kernel
theorem d_Rows_goOn_29 : decode y_Rows_goOn.2.1 29 = .ok (.iconst 0, 1) := by decide +kernel
theorem d_Rows_goOn_30 : decode y_Rows_goOn.2.1 30 = .ok (.putfield 20, 3) := by decide +kernel
theorem d_Rows_goOn_33 : decode y_Rows_goOn.2.1 33 = .ok (.aload_n 0, 1) := by decide +kernel
theorem d_Rows_goOn_34 : decode y_Rows_goOn.2.1 34 = .ok (.iconst 1, 1) := by decide +kernel
theorem d_Rows_goOn_35 : decode y_Rows_goOn.2.1 35 = .ok (.putfield 29, 3) := by decide +kernel
theorem d_Rows_goOn_38 : decode y_Rows_goOn.2.1 38 = .ok (.iconst 0, 1) := by decide +kernel
theorem d_Rows_goOn_39 : decode y_Rows_goOn.2.1 39 = .ok (.ireturn, 1) := by decide +kernel
theorem d_Rows_moveNumbers_0 : decode y_Rows_moveNumbers.2.1 0 = .ok (.aload_n 0, 1) := by decide +kernel
theorem d_Rows_moveNumbers_1 : decode y_Rows_moveNumbers.2.1 1 = .ok (.getfield 23, 3) := by decide +kernel
theorem d_Rows_moveNumbers_4 : decode y_Rows_moveNumbers.2.1 4 = .ok (.bipush 7, 2) := by decide +kernel
theorem d_Rows_moveNumbers_6 : decode y_Rows_moveNumbers.2.1 6 = .ok (.iand, 1) := by decide +kernel
theorem d_Rows_moveNumbers_7 : decode y_Rows_moveNumbers.2.1 7 = .ok (.bipush 8, 2) := by decide +kernel
theorem d_Rows_moveNumbers_9 : decode y_Rows_moveNumbers.2.1 9 = .ok (.imul, 1) := by decide +kernel
theorem d_Rows_moveNumbers_10 : decode y_Rows_moveNumbers.2.1 10 = .ok (.istore_n 1, 1) := by decide +kernel
theorem d_Rows_moveNumbers_11 : decode y_Rows_moveNumbers.2.1 11 = .ok (.iconst 0, 1) := by decide +kernel
theorem d_Rows_moveNumbers_12 : decode y_Rows_moveNumbers.2.1 12 = .ok (.istore_n 2, 1) := by decide +kernel
theorem d_Rows_moveNumbers_13 : decode y_Rows_moveNumbers.2.1 13 = .ok (.iload_n 2, 1) := by decide +kernel
theorem d_Rows_moveNumbers_14 : decode y_Rows_moveNumbers.2.1 14 = .ok (.bipush 8, 2) := by decide +kernel
theorem d_Rows_moveNumbers_16 : decode y_Rows_moveNumbers.2.1 16 = .ok (.if_icmp .ge 48, 3) := by decide +kernel
theorem d_Rows_moveNumbers_19 : decode y_Rows_moveNumbers.2.1 19 = .ok (.aload_n 0, 1) := by decide +kernel
theorem d_Rows_moveNumbers_20 : decode y_Rows_moveNumbers.2.1 20 = .ok (.getfield 20, 3) := by decide +kernel
theorem d_Rows_moveNumbers_23 : decode y_Rows_moveNumbers.2.1 23 = .ok (.iconst 1, 1) := by decide +kernel
theorem d_Rows_moveNumbers_24 : decode y_Rows_moveNumbers.2.1 24 = .ok (.if_icmp .ne 20, 3) := by decide +kernel
theorem d_Rows_moveNumbers_27 : decode y_Rows_moveNumbers.2.1 27 = .ok (.aload_n 0, 1) := by decide +kernel
theorem d_Rows_moveNumbers_28 : decode y_Rows_moveNumbers.2.1 28 = .ok (.getfield 13, 3) := by decide +kernel
theorem d_Rows_moveNumbers_31 : decode y_Rows_moveNumbers.2.1 31 = .ok (.iload_n 2, 1) := by decide +kernel
theorem d_Rows_moveNumbers_32 : decode y_Rows_moveNumbers.2.1 32 = .ok (.aload_n 0, 1) := by decide +kernel
theorem d_Rows_moveNumbers_33 : decode y_Rows_moveNumbers.2.1 33 = .ok (.getfield 9, 3) := by decide +kernel
theorem d_Rows_moveNumbers_36 : decode y_Rows_moveNumbers.2.1 36 = .ok (.iload_n 1, 1) := by decide +kernel
theorem d_Rows_moveNumbers_37 : decode y_Rows_moveNumbers.2.1 37 = .ok (.iload_n 2, 1) := by decide +kernel
theorem d_Rows_moveNumbers_38 : decode y_Rows_moveNumbers.2.1 38 = .ok (.iadd, 1) := by decide +kernel
theorem d_Rows_moveNumbers_39 : decode y_Rows_moveNumbers.2.1 39 = .ok (.iaload, 1) := by decide +kernel
theorem d_Rows_moveNumbers_40 : decode y_Rows_moveNumbers.2.1 40 = .ok (.iastore, 1) := by decide +kernel
theorem d_Rows_moveNumbers_41 : decode y_Rows_moveNumbers.2.1 41 = .ok (.goto 17, 3) := by decide +kernel
theorem d_Rows_moveNumbers_44 : decode y_Rows_moveNumbers.2.1 44 = .ok (.aload_n 0, 1) := by decide +kernel
theorem d_Rows_moveNumbers_45 : decode y_Rows_moveNumbers.2.1 45 = .ok (.getfield 9, 3) := by decide +kernel
theorem d_Rows_moveNumbers_48 : decode y_Rows_moveNumbers.2.1 48 = .ok (.iload_n 1, 1) := by decide +kernel
theorem d_Rows_moveNumbers_49 : decode y_Rows_moveNumbers.2.1 49 = .ok (.iload_n 2, 1) := by decide +kernel
theorem d_Rows_moveNumbers_50 : decode y_Rows_moveNumbers.2.1 50 = .ok (.iadd, 1) := by decide +kernel
theorem d_Rows_moveNumbers_51 : decode y_Rows_moveNumbers.2.1 51 = .ok (.aload_n 0, 1) := by decide +kernel
theorem d_Rows_moveNumbers_52 : decode y_Rows_moveNumbers.2.1 52 = .ok (.getfield 13, 3) := by decide +kernel
theorem d_Rows_moveNumbers_55 : decode y_Rows_moveNumbers.2.1 55 = .ok (.iload_n 2, 1) := by decide +kernel
theorem d_Rows_moveNumbers_56 : decode y_Rows_moveNumbers.2.1 56 = .ok (.iaload, 1) := by decide +kernel
theorem d_Rows_moveNumbers_57 : decode y_Rows_moveNumbers.2.1 57 = .ok (.iastore, 1) := by decide +kernel
theorem d_Rows_moveNumbers_58 : decode y_Rows_moveNumbers.2.1 58 = .ok (.iinc 2 1, 3) := by decide +kernel
theorem d_Rows_moveNumbers_61 : decode y_Rows_moveNumbers.2.1 61 = .ok (.goto (-48), 3) := by decide +kernel
theorem d_Rows_moveNumbers_64 : decode y_Rows_moveNumbers.2.1 64 = .ok (.return_, 1) := by decide +kernel
theorem d_Rows_wantsAttention_0 : decode y_Rows_wantsAttention.2.1 0 = .ok (.aload_n 0, 1) := by decide +kernel
theorem d_Rows_wantsAttention_1 : decode y_Rows_wantsAttention.2.1 1 = .ok (.getfield 29, 3) := by decide +kernel
theorem d_Rows_wantsAttention_4 : decode y_Rows_wantsAttention.2.1 4 = .ok (.iconst 1, 1) := by decide +kernel
theorem d_Rows_wantsAttention_5 : decode y_Rows_wantsAttention.2.1 5 = .ok (.if_icmp .ne 7, 3) := by decide +kernel
theorem d_Rows_wantsAttention_8 : decode y_Rows_wantsAttention.2.1 8 = .ok (.iconst 1, 1) := by decide +kernel
theorem d_Rows_wantsAttention_9 : decode y_Rows_wantsAttention.2.1 9 = .ok (.goto 4, 3) := by decide +kernel
theorem d_Rows_wantsAttention_12 : decode y_Rows_wantsAttention.2.1 12 = .ok (.iconst 0, 1) := by decide +kernel
theorem d_Rows_wantsAttention_13 : decode y_Rows_wantsAttention.2.1 13 = .ok (.ireturn, 1) := by decide +kernel
theorem d_Rows_beginAnew_0 : decode y_Rows_beginAnew.2.1 0 = .ok (.iconst 0, 1) := by decide +kernel
theorem d_Rows_beginAnew_1 : decode y_Rows_beginAnew.2.1 1 = .ok (.istore_n 1, 1) := by decide +kernel
theorem d_Rows_beginAnew_2 : decode y_Rows_beginAnew.2.1 2 = .ok (.iload_n 1, 1) := by decide +kernel
theorem d_Rows_beginAnew_3 : decode y_Rows_beginAnew.2.1 3 = .ok (.aload_n 0, 1) := by decide +kernel
theorem d_Rows_beginAnew_4 : decode y_Rows_beginAnew.2.1 4 = .ok (.getfield 13, 3) := by decide +kernel
theorem d_Rows_beginAnew_7 : decode y_Rows_beginAnew.2.1 7 = .ok (.arraylength, 1) := by decide +kernel
theorem d_Rows_beginAnew_8 : decode y_Rows_beginAnew.2.1 8 = .ok (.if_icmp .ge 16, 3) := by decide +kernel
theorem d_Rows_beginAnew_11 : decode y_Rows_beginAnew.2.1 11 = .ok (.aload_n 0, 1) := by decide +kernel
theorem d_Rows_beginAnew_12 : decode y_Rows_beginAnew.2.1 12 = .ok (.getfield 13, 3) := by decide +kernel
theorem d_Rows_beginAnew_15 : decode y_Rows_beginAnew.2.1 15 = .ok (.iload_n 1, 1) := by decide +kernel
theorem d_Rows_beginAnew_16 : decode y_Rows_beginAnew.2.1 16 = .ok (.iconst 0, 1) := by decide +kernel
theorem d_Rows_beginAnew_17 : decode y_Rows_beginAnew.2.1 17 = .ok (.iastore, 1) := by decide +kernel
theorem d_Rows_beginAnew_18 : decode y_Rows_beginAnew.2.1 18 = .ok (.iinc 1 1, 3) := by decide +kernel
theorem d_Rows_beginAnew_21 : decode y_Rows_beginAnew.2.1 21 = .ok (.goto (-19), 3) := by decide +kernel
theorem d_Rows_beginAnew_24 : decode y_Rows_beginAnew.2.1 24 = .ok (.aload_n 0, 1) := by decide +kernel
theorem d_Rows_beginAnew_25 : decode y_Rows_beginAnew.2.1 25 = .ok (.iconst 0, 1) := by decide +kernel
theorem d_Rows_beginAnew_26 : decode y_Rows_beginAnew.2.1 26 = .ok (.putfield 16, 3) := by decide +kernel
theorem d_Rows_beginAnew_29 : decode y_Rows_beginAnew.2.1 29 = .ok (.aload_n 0, 1) := by decide +kernel
theorem d_Rows_beginAnew_30 : decode y_Rows_beginAnew.2.1 30 = .ok (.iconst 0, 1) := by decide +kernel
theorem d_Rows_beginAnew_31 : decode y_Rows_beginAnew.2.1 31 = .ok (.putfield 20, 3) := by decide +kernel
theorem d_Rows_beginAnew_34 : decode y_Rows_beginAnew.2.1 34 = .ok (.aload_n 0, 1) := by decide +kernel
theorem d_Rows_beginAnew_35 : decode y_Rows_beginAnew.2.1 35 = .ok (.iconst 0, 1) := by decide +kernel
theorem d_Rows_beginAnew_36 : decode y_Rows_beginAnew.2.1 36 = .ok (.putfield 23, 3) := by decide +kernel
theorem d_Rows_beginAnew_39 : decode y_Rows_beginAnew.2.1 39 = .ok (.aload_n 0, 1) := by decide +kernel
theorem d_Rows_beginAnew_40 : decode y_Rows_beginAnew.2.1 40 = .ok (.iconst 0, 1) := by decide +kernel
theorem d_Rows_beginAnew_41 : decode y_Rows_beginAnew.2.1 41 = .ok (.putfield 26, 3) := by decide +kernel
theorem d_Rows_beginAnew_44 : decode y_Rows_beginAnew.2.1 44 = .ok (.aload_n 0, 1) := by decide +kernel
theorem d_Rows_beginAnew_45 : decode y_Rows_beginAnew.2.1 45 = .ok (.iconst 0, 1) := by decide +kernel
theorem d_Rows_beginAnew_46 : decode y_Rows_beginAnew.2.1 46 = .ok (.putfield 29, 3) := by decide +kernel
theorem d_Rows_beginAnew_49 : decode y_Rows_beginAnew.2.1 49 = .ok (.return_, 1) := by decide +kernel
theorem d_Serial_init_0 : decode y_Serial_init.2.1 0 = .ok (.aload_n 0, 1) := by decide +kernel
theorem d_Serial_init_1 : decode y_Serial_init.2.1 1 = .ok (.aload_n 1, 1) := by decide +kernel
theorem d_Serial_init_2 : decode y_Serial_init.2.1 2 = .ok (.invokespecial 3, 3) := by decide +kernel
theorem d_Serial_init_5 : decode y_Serial_init.2.1 5 = .ok (.aload_n 0, 1) := by decide +kernel
theorem d_Serial_init_6 : decode y_Serial_init.2.1 6 = .ok (.bipush 32, 2) := by decide +kernel
theorem d_Serial_init_8 : decode y_Serial_init.2.1 8 = .ok (.newarray .int, 2) := by decide +kernel
theorem d_Serial_init_10 : decode y_Serial_init.2.1 10 = .ok (.putfield 9, 3) := by decide +kernel
theorem d_Serial_init_13 : decode y_Serial_init.2.1 13 = .ok (.aload_n 0, 1) := by decide +kernel
theorem d_Serial_init_14 : decode y_Serial_init.2.1 14 = .ok (.iconst 0, 1) := by decide +kernel
theorem d_Serial_init_15 : decode y_Serial_init.2.1 15 = .ok (.putfield 13, 3) := by decide +kernel
theorem d_Serial_init_18 : decode y_Serial_init.2.1 18 = .ok (.aload_n 0, 1) := by decide +kernel
theorem d_Serial_init_19 : decode y_Serial_init.2.1 19 = .ok (.iconst 0, 1) := by decide +kernel
theorem d_Serial_init_20 : decode y_Serial_init.2.1 20 = .ok (.putfield 17, 3) := by decide +kernel
theorem d_Serial_init_23 : decode y_Serial_init.2.1 23 = .ok (.aload_n 0, 1) := by decide +kernel
theorem d_Serial_init_24 : decode y_Serial_init.2.1 24 = .ok (.bipush 32, 2) := by decide +kernel
theorem d_Serial_init_26 : decode y_Serial_init.2.1 26 = .ok (.newarray .int, 2) := by decide +kernel
theorem d_Serial_init_28 : decode y_Serial_init.2.1 28 = .ok (.putfield 20, 3) := by decide +kernel
theorem d_Serial_init_31 : decode y_Serial_init.2.1 31 = .ok (.aload_n 0, 1) := by decide +kernel
theorem d_Serial_init_32 : decode y_Serial_init.2.1 32 = .ok (.iconst 0, 1) := by decide +kernel
theorem d_Serial_init_33 : decode y_Serial_init.2.1 33 = .ok (.putfield 23, 3) := by decide +kernel
theorem d_Serial_init_36 : decode y_Serial_init.2.1 36 = .ok (.aload_n 0, 1) := by decide +kernel
theorem d_Serial_init_37 : decode y_Serial_init.2.1 37 = .ok (.iconst 0, 1) := by decide +kernel
theorem d_Serial_init_38 : decode y_Serial_init.2.1 38 = .ok (.putfield 26, 3) := by decide +kernel
theorem d_Serial_init_41 : decode y_Serial_init.2.1 41 = .ok (.aload_n 0, 1) := by decide +kernel
theorem d_Serial_init_42 : decode y_Serial_init.2.1 42 = .ok (.iconst 0, 1) := by decide +kernel
theorem d_Serial_init_43 : decode y_Serial_init.2.1 43 = .ok (.putfield 29, 3) := by decide +kernel
theorem d_Serial_init_46 : decode y_Serial_init.2.1 46 = .ok (.aload_n 0, 1) := by decide +kernel
theorem d_Serial_init_47 : decode y_Serial_init.2.1 47 = .ok (.iconst 0, 1) := by decide +kernel
theorem d_Serial_init_48 : decode y_Serial_init.2.1 48 = .ok (.putfield 32, 3) := by decide +kernel
theorem d_Serial_init_51 : decode y_Serial_init.2.1 51 = .ok (.return_, 1) := by decide +kernel
theorem d_Serial_isFull_0 : decode y_Serial_isFull.2.1 0 = .ok (.aload_n 0, 1) := by decide +kernel
theorem d_Serial_isFull_1 : decode y_Serial_isFull.2.1 1 = .ok (.getfield 17, 3) := by decide +kernel
theorem d_Serial_isFull_4 : decode y_Serial_isFull.2.1 4 = .ok (.bipush 32, 2) := by decide +kernel
theorem d_Serial_isFull_6 : decode y_Serial_isFull.2.1 6 = .ok (.if_icmp .lt 7, 3) := by decide +kernel
theorem d_Serial_isFull_9 : decode y_Serial_isFull.2.1 9 = .ok (.iconst 1, 1) := by decide +kernel
theorem d_Serial_isFull_10 : decode y_Serial_isFull.2.1 10 = .ok (.goto 4, 3) := by decide +kernel
theorem d_Serial_isFull_13 : decode y_Serial_isFull.2.1 13 = .ok (.iconst 0, 1) := by decide +kernel
theorem d_Serial_isFull_14 : decode y_Serial_isFull.2.1 14 = .ok (.ireturn, 1) := by decide +kernel
theorem d_Serial_accept_0 : decode y_Serial_accept.2.1 0 = .ok (.aload_n 0, 1) := by decide +kernel
theorem d_Serial_accept_1 : decode y_Serial_accept.2.1 1 = .ok (.getfield 9, 3) := by decide +kernel
theorem d_Serial_accept_4 : decode y_Serial_accept.2.1 4 = .ok (.aload_n 0, 1) := by decide +kernel
theorem d_Serial_accept_5 : decode y_Serial_accept.2.1 5 = .ok (.getfield 13, 3) := by decide +kernel
theorem d_Serial_accept_8 : decode y_Serial_accept.2.1 8 = .ok (.aload_n 0, 1) := by decide +kernel
theorem d_Serial_accept_9 : decode y_Serial_accept.2.1 9 = .ok (.getfield 17, 3) := by decide +kernel
theorem d_Serial_accept_12 : decode y_Serial_accept.2.1 12 = .ok (.iadd, 1) := by decide +kernel
theorem d_Serial_accept_13 : decode y_Serial_accept.2.1 13 = .ok (.bipush 31, 2) := by decide +kernel
theorem d_Serial_accept_15 : decode y_Serial_accept.2.1 15 = .ok (.iand, 1) := by decide +kernel
theorem d_Serial_accept_16 : decode y_Serial_accept.2.1 16 = .ok (.iload_n 1, 1) := by decide +kernel
theorem d_Serial_accept_17 : decode y_Serial_accept.2.1 17 = .ok (.iastore, 1) := by decide +kernel
theorem d_Serial_accept_18 : decode y_Serial_accept.2.1 18 = .ok (.aload_n 0, 1) := by decide +kernel
theorem d_Serial_accept_19 : decode y_Serial_accept.2.1 19 = .ok (.dup, 1) := by decide +kernel
theorem d_Serial_accept_20 : decode y_Serial_accept.2.1 20 = .ok (.getfield 17, 3) := by decide +kernel
theorem d_Serial_accept_23 : decode y_Serial_accept.2.1 23 = .ok (.iconst 1, 1) := by decide +kernel
theorem d_Serial_accept_24 : decode y_Serial_accept.2.1 24 = .ok (.iadd, 1) := by decide +kernel
theorem d_Serial_accept_25 : decode y_Serial_accept.2.1 25 = .ok (.putfield 17, 3) := by decide +kernel
theorem d_Serial_accept_28 : decode y_Serial_accept.2.1 28 = .ok (.aload_n 0, 1) := by decide +kernel
theorem d_Serial_accept_29 : decode y_Serial_accept.2.1 29 = .ok (.getfield 17, 3) := by decide +kernel
theorem d_Serial_accept_32 : decode y_Serial_accept.2.1 32 = .ok (.ireturn, 1) := by decide +kernel
theorem d_Serial_goneKept_0 : decode y_Serial_goneKept.2.1 0 = .ok (.aload_n 0, 1) := by decide +kernel
theorem d_Serial_goneKept_1 : decode y_Serial_goneKept.2.1 1 = .ok (.getfield 23, 3) := by decide +kernel
theorem d_Serial_goneKept_4 : decode y_Serial_goneKept.2.1 4 = .ok (.bipush 32, 2) := by decide +kernel
theorem d_Serial_goneKept_6 : decode y_Serial_goneKept.2.1 6 = .ok (.invokestatic 35, 3) := by decide +kernel
theorem d_Serial_goneKept_9 : decode y_Serial_goneKept.2.1 9 = .ok (.ireturn, 1) := by decide +kernel
theorem d_Serial_goneAt_0 : decode y_Serial_goneAt.2.1 0 = .ok (.aload_n 0, 1) := by decide +kernel
theorem d_Serial_goneAt_1 : decode y_Serial_goneAt.2.1 1 = .ok (.getfield 20, 3) := by decide +kernel
theorem d_Serial_goneAt_4 : decode y_Serial_goneAt.2.1 4 = .ok (.aload_n 0, 1) := by decide +kernel
theorem d_Serial_goneAt_5 : decode y_Serial_goneAt.2.1 5 = .ok (.getfield 23, 3) := by decide +kernel
theorem d_Serial_goneAt_8 : decode y_Serial_goneAt.2.1 8 = .ok (.aload_n 0, 1) := by decide +kernel
theorem d_Serial_goneAt_9 : decode y_Serial_goneAt.2.1 9 = .ok (.invokevirtual 41, 3) := by decide +kernel
theorem d_Serial_goneAt_12 : decode y_Serial_goneAt.2.1 12 = .ok (.isub, 1) := by decide +kernel
theorem d_Serial_goneAt_13 : decode y_Serial_goneAt.2.1 13 = .ok (.iload_n 1, 1) := by decide +kernel
theorem d_Serial_goneAt_14 : decode y_Serial_goneAt.2.1 14 = .ok (.iadd, 1) := by decide +kernel
theorem d_Serial_goneAt_15 : decode y_Serial_goneAt.2.1 15 = .ok (.bipush 31, 2) := by decide +kernel
theorem d_Serial_goneAt_17 : decode y_Serial_goneAt.2.1 17 = .ok (.iand, 1) := by decide +kernel
theorem d_Serial_goneAt_18 : decode y_Serial_goneAt.2.1 18 = .ok (.iaload, 1) := by decide +kernel
theorem d_Serial_goneAt_19 : decode y_Serial_goneAt.2.1 19 = .ok (.ireturn, 1) := by decide +kernel
theorem d_Serial_look_0 : decode y_Serial_look.2.1 0 = .ok (.iload_n 1, 1) := by decide +kernel
theorem d_Serial_look_1 : decode y_Serial_look.2.1 1 = .ok (.tableswitch 63 0 2 #[27, 32, 58], 27) := by decide +kernel
theorem d_Serial_look_28 : decode y_Serial_look.2.1 28 = .ok (.aload_n 0, 1) := by decide +kernel
theorem d_Serial_look_29 : decode y_Serial_look.2.1 29 = .ok (.invokevirtual 45, 3) := by decide +kernel
theorem d_Serial_look_32 : decode y_Serial_look.2.1 32 = .ok (.ireturn, 1) := by decide +kernel
theorem d_Serial_look_33 : decode y_Serial_look.2.1 33 = .ok (.aload_n 0, 1) := by decide +kernel
theorem d_Serial_look_34 : decode y_Serial_look.2.1 34 = .ok (.getfield 17, 3) := by decide +kernel
theorem d_Serial_look_37 : decode y_Serial_look.2.1 37 = .ok (.ifCond .le 7, 3) := by decide +kernel
theorem d_Serial_look_40 : decode y_Serial_look.2.1 40 = .ok (.iconst 1, 1) := by decide +kernel
theorem d_Serial_look_41 : decode y_Serial_look.2.1 41 = .ok (.goto 4, 3) := by decide +kernel
theorem d_Serial_look_44 : decode y_Serial_look.2.1 44 = .ok (.iconst 0, 1) := by decide +kernel
theorem d_Serial_look_45 : decode y_Serial_look.2.1 45 = .ok (.aload_n 0, 1) := by decide +kernel
theorem d_Serial_look_46 : decode y_Serial_look.2.1 46 = .ok (.getfield 29, 3) := by decide +kernel
theorem d_Serial_look_49 : decode y_Serial_look.2.1 49 = .ok (.ifCond .ne 7, 3) := by decide +kernel
theorem d_Serial_look_52 : decode y_Serial_look.2.1 52 = .ok (.iconst 2, 1) := by decide +kernel
theorem d_Serial_look_53 : decode y_Serial_look.2.1 53 = .ok (.goto 4, 3) := by decide +kernel
theorem d_Serial_look_56 : decode y_Serial_look.2.1 56 = .ok (.iconst 0, 1) := by decide +kernel
theorem d_Serial_look_57 : decode y_Serial_look.2.1 57 = .ok (.iadd, 1) := by decide +kernel
theorem d_Serial_look_58 : decode y_Serial_look.2.1 58 = .ok (.ireturn, 1) := by decide +kernel
theorem d_Serial_look_59 : decode y_Serial_look.2.1 59 = .ok (.aload_n 0, 1) := by decide +kernel
theorem d_Serial_look_60 : decode y_Serial_look.2.1 60 = .ok (.getfield 32, 3) := by decide +kernel
theorem d_Serial_look_63 : decode y_Serial_look.2.1 63 = .ok (.ireturn, 1) := by decide +kernel
theorem d_Serial_look_64 : decode y_Serial_look.2.1 64 = .ok (.iconst 0, 1) := by decide +kernel
theorem d_Serial_look_65 : decode y_Serial_look.2.1 65 = .ok (.ireturn, 1) := by decide +kernel
theorem d_Serial_nextCome_0 : decode y_Serial_nextCome.2.1 0 = .ok (.aload_n 0, 1) := by decide +kernel
theorem d_Serial_nextCome_1 : decode y_Serial_nextCome.2.1 1 = .ok (.getfield 17, 3) := by decide +kernel
theorem d_Serial_nextCome_4 : decode y_Serial_nextCome.2.1 4 = .ok (.ifCond .gt 5, 3) := by decide +kernel
theorem d_Serial_nextCome_7 : decode y_Serial_nextCome.2.1 7 = .ok (.iconst 0, 1) := by decide +kernel
theorem d_Serial_nextCome_8 : decode y_Serial_nextCome.2.1 8 = .ok (.ireturn, 1) := by decide +kernel
theorem d_Serial_nextCome_9 : decode y_Serial_nextCome.2.1 9 = .ok (.aload_n 0, 1) := by decide +kernel
theorem d_Serial_nextCome_10 : decode y_Serial_nextCome.2.1 10 = .ok (.getfield 9, 3) := by decide +kernel
theorem d_Serial_nextCome_13 : decode y_Serial_nextCome.2.1 13 = .ok (.aload_n 0, 1) := by decide +kernel
theorem d_Serial_nextCome_14 : decode y_Serial_nextCome.2.1 14 = .ok (.getfield 13, 3) := by decide +kernel
theorem d_Serial_nextCome_17 : decode y_Serial_nextCome.2.1 17 = .ok (.bipush 31, 2) := by decide +kernel
theorem d_Serial_nextCome_19 : decode y_Serial_nextCome.2.1 19 = .ok (.iand, 1) := by decide +kernel
theorem d_Serial_nextCome_20 : decode y_Serial_nextCome.2.1 20 = .ok (.iaload, 1) := by decide +kernel
theorem d_Serial_nextCome_21 : decode y_Serial_nextCome.2.1 21 = .ok (.istore_n 1, 1) := by decide +kernel
theorem d_Serial_nextCome_22 : decode y_Serial_nextCome.2.1 22 = .ok (.aload_n 0, 1) := by decide +kernel
theorem d_Serial_nextCome_23 : decode y_Serial_nextCome.2.1 23 = .ok (.aload_n 0, 1) := by decide +kernel
theorem d_Serial_nextCome_24 : decode y_Serial_nextCome.2.1 24 = .ok (.getfield 13, 3) := by decide +kernel
theorem d_Serial_nextCome_27 : decode y_Serial_nextCome.2.1 27 = .ok (.iconst 1, 1) := by decide +kernel
theorem d_Serial_nextCome_28 : decode y_Serial_nextCome.2.1 28 = .ok (.iadd, 1) := by decide +kernel
theorem d_Serial_nextCome_29 : decode y_Serial_nextCome.2.1 29 = .ok (.bipush 31, 2) := by decide +kernel
theorem d_Serial_nextCome_31 : decode y_Serial_nextCome.2.1 31 = .ok (.iand, 1) := by decide +kernel
theorem d_Serial_nextCome_32 : decode y_Serial_nextCome.2.1 32 = .ok (.putfield 13, 3) := by decide +kernel
theorem d_Serial_nextCome_35 : decode y_Serial_nextCome.2.1 35 = .ok (.aload_n 0, 1) := by decide +kernel
theorem d_Serial_nextCome_36 : decode y_Serial_nextCome.2.1 36 = .ok (.dup, 1) := by decide +kernel
theorem d_Serial_nextCome_37 : decode y_Serial_nextCome.2.1 37 = .ok (.getfield 17, 3) := by decide +kernel
theorem d_Serial_nextCome_40 : decode y_Serial_nextCome.2.1 40 = .ok (.iconst 1, 1) := by decide +kernel
theorem d_Serial_nextCome_41 : decode y_Serial_nextCome.2.1 41 = .ok (.isub, 1) := by decide +kernel
theorem d_Serial_nextCome_42 : decode y_Serial_nextCome.2.1 42 = .ok (.putfield 17, 3) := by decide +kernel
theorem d_Serial_nextCome_45 : decode y_Serial_nextCome.2.1 45 = .ok (.iload_n 1, 1) := by decide +kernel
theorem d_Serial_nextCome_46 : decode y_Serial_nextCome.2.1 46 = .ok (.ireturn, 1) := by decide +kernel
theorem d_Serial_put_0 : decode y_Serial_put.2.1 0 = .ok (.iload_n 1, 1) := by decide +kernel
theorem d_Serial_put_1 : decode y_Serial_put.2.1 1 = .ok (.ifCond .ne 27, 3) := by decide +kernel
theorem d_Serial_put_4 : decode y_Serial_put.2.1 4 = .ok (.aload_n 0, 1) := by decide +kernel
theorem d_Serial_put_5 : decode y_Serial_put.2.1 5 = .ok (.getfield 29, 3) := by decide +kernel
theorem d_Serial_put_8 : decode y_Serial_put.2.1 8 = .ok (.ifCond .ne 20, 3) := by decide +kernel
theorem d_Serial_put_11 : decode y_Serial_put.2.1 11 = .ok (.aload_n 0, 1) := by decide +kernel
theorem d_Serial_put_12 : decode y_Serial_put.2.1 12 = .ok (.iload_n 2, 1) := by decide +kernel
theorem d_Serial_put_13 : decode y_Serial_put.2.1 13 = .ok (.sipush 255, 3) := by decide +kernel
theorem d_Serial_put_16 : decode y_Serial_put.2.1 16 = .ok (.iand, 1) := by decide +kernel
theorem d_Serial_put_17 : decode y_Serial_put.2.1 17 = .ok (.putfield 26, 3) := by decide +kernel
theorem d_Serial_put_20 : decode y_Serial_put.2.1 20 = .ok (.aload_n 0, 1) := by decide +kernel
theorem d_Serial_put_21 : decode y_Serial_put.2.1 21 = .ok (.iconst 4, 1) := by decide +kernel
theorem d_Serial_put_22 : decode y_Serial_put.2.1 22 = .ok (.putfield 29, 3) := by decide +kernel
theorem d_Serial_put_25 : decode y_Serial_put.2.1 25 = .ok (.goto 15, 3) := by decide +kernel
theorem d_Serial_put_28 : decode y_Serial_put.2.1 28 = .ok (.iload_n 1, 1) := by decide +kernel
theorem d_Serial_put_29 : decode y_Serial_put.2.1 29 = .ok (.iconst 2, 1) := by decide +kernel
theorem d_Serial_put_30 : decode y_Serial_put.2.1 30 = .ok (.if_icmp .ne 10, 3) := by decide +kernel
theorem d_Serial_put_33 : decode y_Serial_put.2.1 33 = .ok (.aload_n 0, 1) := by decide +kernel
theorem d_Serial_put_34 : decode y_Serial_put.2.1 34 = .ok (.iload_n 2, 1) := by decide +kernel
theorem d_Serial_put_35 : decode y_Serial_put.2.1 35 = .ok (.iconst 3, 1) := by decide +kernel
theorem d_Serial_put_36 : decode y_Serial_put.2.1 36 = .ok (.iand, 1) := by decide +kernel
theorem d_Serial_put_37 : decode y_Serial_put.2.1 37 = .ok (.putfield 32, 3) := by decide +kernel
theorem d_Serial_put_40 : decode y_Serial_put.2.1 40 = .ok (.return_, 1) := by decide +kernel
theorem d_Serial_goOn_0 : decode y_Serial_goOn.2.1 0 = .ok (.aload_n 0, 1) := by decide +kernel
theorem d_Serial_goOn_1 : decode y_Serial_goOn.2.1 1 = .ok (.getfield 29, 3) := by decide +kernel
theorem d_Serial_goOn_4 : decode y_Serial_goOn.2.1 4 = .ok (.ifCond .le 46, 3) := by decide +kernel
theorem d_Serial_goOn_7 : decode y_Serial_goOn.2.1 7 = .ok (.aload_n 0, 1) := by decide +kernel
theorem d_Serial_goOn_8 : decode y_Serial_goOn.2.1 8 = .ok (.dup, 1) := by decide +kernel
theorem d_Serial_goOn_9 : decode y_Serial_goOn.2.1 9 = .ok (.getfield 29, 3) := by decide +kernel
theorem d_Serial_goOn_12 : decode y_Serial_goOn.2.1 12 = .ok (.iconst 1, 1) := by decide +kernel
theorem d_Serial_goOn_13 : decode y_Serial_goOn.2.1 13 = .ok (.isub, 1) := by decide +kernel
theorem d_Serial_goOn_14 : decode y_Serial_goOn.2.1 14 = .ok (.putfield 29, 3) := by decide +kernel
theorem d_Serial_goOn_17 : decode y_Serial_goOn.2.1 17 = .ok (.aload_n 0, 1) := by decide +kernel
theorem d_Serial_goOn_18 : decode y_Serial_goOn.2.1 18 = .ok (.getfield 29, 3) := by decide +kernel
theorem d_Serial_goOn_21 : decode y_Serial_goOn.2.1 21 = .ok (.ifCond .ne 29, 3) := by decide +kernel
theorem d_Serial_goOn_24 : decode y_Serial_goOn.2.1 24 = .ok (.aload_n 0, 1) := by decide +kernel
theorem d_Serial_goOn_25 : decode y_Serial_goOn.2.1 25 = .ok (.getfield 20, 3) := by decide +kernel
theorem d_Serial_goOn_28 : decode y_Serial_goOn.2.1 28 = .ok (.aload_n 0, 1) := by decide +kernel
theorem d_Serial_goOn_29 : decode y_Serial_goOn.2.1 29 = .ok (.getfield 23, 3) := by decide +kernel
theorem d_Serial_goOn_32 : decode y_Serial_goOn.2.1 32 = .ok (.bipush 31, 2) := by decide +kernel
theorem d_Serial_goOn_34 : decode y_Serial_goOn.2.1 34 = .ok (.iand, 1) := by decide +kernel
theorem d_Serial_goOn_35 : decode y_Serial_goOn.2.1 35 = .ok (.aload_n 0, 1) := by decide +kernel
theorem d_Serial_goOn_36 : decode y_Serial_goOn.2.1 36 = .ok (.getfield 26, 3) := by decide +kernel
theorem d_Serial_goOn_39 : decode y_Serial_goOn.2.1 39 = .ok (.iastore, 1) := by decide +kernel
theorem d_Serial_goOn_40 : decode y_Serial_goOn.2.1 40 = .ok (.aload_n 0, 1) := by decide +kernel
theorem d_Serial_goOn_41 : decode y_Serial_goOn.2.1 41 = .ok (.dup, 1) := by decide +kernel
theorem d_Serial_goOn_42 : decode y_Serial_goOn.2.1 42 = .ok (.getfield 23, 3) := by decide +kernel
theorem d_Serial_goOn_45 : decode y_Serial_goOn.2.1 45 = .ok (.iconst 1, 1) := by decide +kernel
theorem d_Serial_goOn_46 : decode y_Serial_goOn.2.1 46 = .ok (.iadd, 1) := by decide +kernel
theorem d_Serial_goOn_47 : decode y_Serial_goOn.2.1 47 = .ok (.putfield 23, 3) := by decide +kernel
theorem d_Serial_goOn_50 : decode y_Serial_goOn.2.1 50 = .ok (.iconst 0, 1) := by decide +kernel
theorem d_Serial_goOn_51 : decode y_Serial_goOn.2.1 51 = .ok (.ireturn, 1) := by decide +kernel
theorem d_Serial_wantsAttention_0 : decode y_Serial_wantsAttention.2.1 0 = .ok (.aload_n 0, 1) := by decide +kernel
theorem d_Serial_wantsAttention_1 : decode y_Serial_wantsAttention.2.1 1 = .ok (.getfield 32, 3) := by decide +kernel
theorem d_Serial_wantsAttention_4 : decode y_Serial_wantsAttention.2.1 4 = .ok (.iconst 1, 1) := by decide +kernel
theorem d_Serial_wantsAttention_5 : decode y_Serial_wantsAttention.2.1 5 = .ok (.iand, 1) := by decide +kernel
theorem d_Serial_wantsAttention_6 : decode y_Serial_wantsAttention.2.1 6 = .ok (.ifCond .eq 10, 3) := by decide +kernel
theorem d_Serial_wantsAttention_9 : decode y_Serial_wantsAttention.2.1 9 = .ok (.aload_n 0, 1) := by decide +kernel
theorem d_Serial_wantsAttention_10 : decode y_Serial_wantsAttention.2.1 10 = .ok (.getfield 17, 3) := by decide +kernel
theorem d_Serial_wantsAttention_13 : decode y_Serial_wantsAttention.2.1 13 = .ok (.ifCond .gt 19, 3) := by decide +kernel
theorem d_Serial_wantsAttention_16 : decode y_Serial_wantsAttention.2.1 16 = .ok (.aload_n 0, 1) := by decide +kernel
theorem d_Serial_wantsAttention_17 : decode y_Serial_wantsAttention.2.1 17 = .ok (.getfield 32, 3) := by decide +kernel
theorem d_Serial_wantsAttention_20 : decode y_Serial_wantsAttention.2.1 20 = .ok (.iconst 2, 1) := by decide +kernel
theorem d_Serial_wantsAttention_21 : decode y_Serial_wantsAttention.2.1 21 = .ok (.iand, 1) := by decide +kernel
theorem d_Serial_wantsAttention_22 : decode y_Serial_wantsAttention.2.1 22 = .ok (.ifCond .eq 14, 3) := by decide +kernel
theorem d_Serial_wantsAttention_25 : decode y_Serial_wantsAttention.2.1 25 = .ok (.aload_n 0, 1) := by decide +kernel
theorem d_Serial_wantsAttention_26 : decode y_Serial_wantsAttention.2.1 26 = .ok (.getfield 29, 3) := by decide +kernel
theorem d_Serial_wantsAttention_29 : decode y_Serial_wantsAttention.2.1 29 = .ok (.ifCond .ne 7, 3) := by decide +kernel
theorem d_Serial_wantsAttention_32 : decode y_Serial_wantsAttention.2.1 32 = .ok (.iconst 1, 1) := by decide +kernel
theorem d_Serial_wantsAttention_33 : decode y_Serial_wantsAttention.2.1 33 = .ok (.goto 4, 3) := by decide +kernel
theorem d_Serial_wantsAttention_36 : decode y_Serial_wantsAttention.2.1 36 = .ok (.iconst 0, 1) := by decide +kernel
theorem d_Serial_wantsAttention_37 : decode y_Serial_wantsAttention.2.1 37 = .ok (.ireturn, 1) := by decide +kernel
theorem d_Serial_beginAnew_0 : decode y_Serial_beginAnew.2.1 0 = .ok (.aload_n 0, 1) := by decide +kernel
theorem d_Serial_beginAnew_1 : decode y_Serial_beginAnew.2.1 1 = .ok (.iconst 0, 1) := by decide +kernel
theorem d_Serial_beginAnew_2 : decode y_Serial_beginAnew.2.1 2 = .ok (.putfield 13, 3) := by decide +kernel
theorem d_Serial_beginAnew_5 : decode y_Serial_beginAnew.2.1 5 = .ok (.aload_n 0, 1) := by decide +kernel
theorem d_Serial_beginAnew_6 : decode y_Serial_beginAnew.2.1 6 = .ok (.iconst 0, 1) := by decide +kernel
theorem d_Serial_beginAnew_7 : decode y_Serial_beginAnew.2.1 7 = .ok (.putfield 17, 3) := by decide +kernel
theorem d_Serial_beginAnew_10 : decode y_Serial_beginAnew.2.1 10 = .ok (.aload_n 0, 1) := by decide +kernel
theorem d_Serial_beginAnew_11 : decode y_Serial_beginAnew.2.1 11 = .ok (.iconst 0, 1) := by decide +kernel
theorem d_Serial_beginAnew_12 : decode y_Serial_beginAnew.2.1 12 = .ok (.putfield 23, 3) := by decide +kernel
theorem d_Serial_beginAnew_15 : decode y_Serial_beginAnew.2.1 15 = .ok (.aload_n 0, 1) := by decide +kernel
theorem d_Serial_beginAnew_16 : decode y_Serial_beginAnew.2.1 16 = .ok (.iconst 0, 1) := by decide +kernel
theorem d_Serial_beginAnew_17 : decode y_Serial_beginAnew.2.1 17 = .ok (.putfield 26, 3) := by decide +kernel
theorem d_Serial_beginAnew_20 : decode y_Serial_beginAnew.2.1 20 = .ok (.aload_n 0, 1) := by decide +kernel
theorem d_Serial_beginAnew_21 : decode y_Serial_beginAnew.2.1 21 = .ok (.iconst 0, 1) := by decide +kernel
theorem d_Serial_beginAnew_22 : decode y_Serial_beginAnew.2.1 22 = .ok (.putfield 29, 3) := by decide +kernel
theorem d_Serial_beginAnew_25 : decode y_Serial_beginAnew.2.1 25 = .ok (.aload_n 0, 1) := by decide +kernel
theorem d_Serial_beginAnew_26 : decode y_Serial_beginAnew.2.1 26 = .ok (.iconst 0, 1) := by decide +kernel
theorem d_Serial_beginAnew_27 : decode y_Serial_beginAnew.2.1 27 = .ok (.putfield 32, 3) := by decide +kernel
theorem d_Serial_beginAnew_30 : decode y_Serial_beginAnew.2.1 30 = .ok (.return_, 1) := by decide +kernel
