/-! decode rows -/
theorem dM_init_0 : decode cM_init 0 = .ok (.aload_n 0, 1) := by decide +kernel
theorem dM_init_1 : decode cM_init 1 = .ok (.invokespecial 1, 3) := by decide +kernel
theorem dM_init_4 : decode cM_init 4 = .ok (.aload_n 0, 1) := by decide +kernel
theorem dM_init_5 : decode cM_init 5 = .ok (.sipush 512, 3) := by decide +kernel
theorem dM_init_8 : decode cM_init 8 = .ok (.newarray .int, 2) := by decide +kernel
theorem dM_init_10 : decode cM_init 10 = .ok (.putfield 7, 3) := by decide +kernel
theorem dM_init_13 : decode cM_init 13 = .ok (.aload_n 0, 1) := by decide +kernel
theorem dM_init_14 : decode cM_init 14 = .ok (.sipush 512, 3) := by decide +kernel
theorem dM_init_17 : decode cM_init 17 = .ok (.newarray .int, 2) := by decide +kernel
theorem dM_init_19 : decode cM_init 19 = .ok (.putfield 13, 3) := by decide +kernel
theorem dM_init_22 : decode cM_init 22 = .ok (.aload_n 0, 1) := by decide +kernel
theorem dM_init_23 : decode cM_init 23 = .ok (.sipush 512, 3) := by decide +kernel
theorem dM_init_26 : decode cM_init 26 = .ok (.newarray .boolean, 2) := by decide +kernel
theorem dM_init_28 : decode cM_init 28 = .ok (.putfield 16, 3) := by decide +kernel
theorem dM_init_31 : decode cM_init 31 = .ok (.aload_n 0, 1) := by decide +kernel
theorem dM_init_32 : decode cM_init 32 = .ok (.bipush 64, 2) := by decide +kernel
theorem dM_init_34 : decode cM_init 34 = .ok (.newarray .int, 2) := by decide +kernel
theorem dM_init_36 : decode cM_init 36 = .ok (.putfield 20, 3) := by decide +kernel
theorem dM_init_39 : decode cM_init 39 = .ok (.aload_n 0, 1) := by decide +kernel
theorem dM_init_40 : decode cM_init 40 = .ok (.sipush 1024, 3) := by decide +kernel
theorem dM_init_43 : decode cM_init 43 = .ok (.newarray .int, 2) := by decide +kernel
theorem dM_init_45 : decode cM_init 45 = .ok (.putfield 23, 3) := by decide +kernel
theorem dM_init_48 : decode cM_init 48 = .ok (.aload_n 0, 1) := by decide +kernel
theorem dM_init_49 : decode cM_init 49 = .ok (.sipush 1024, 3) := by decide +kernel
theorem dM_init_52 : decode cM_init 52 = .ok (.newarray .int, 2) := by decide +kernel
theorem dM_init_54 : decode cM_init 54 = .ok (.putfield 26, 3) := by decide +kernel
theorem dM_init_57 : decode cM_init 57 = .ok (.aload_n 0, 1) := by decide +kernel
theorem dM_init_58 : decode cM_init 58 = .ok (.sipush 1024, 3) := by decide +kernel
theorem dM_init_61 : decode cM_init 61 = .ok (.newarray .boolean, 2) := by decide +kernel
theorem dM_init_63 : decode cM_init 63 = .ok (.putfield 29, 3) := by decide +kernel
theorem dM_init_66 : decode cM_init 66 = .ok (.aload_n 0, 1) := by decide +kernel
theorem dM_init_67 : decode cM_init 67 = .ok (.sipush 3072, 3) := by decide +kernel
theorem dM_init_70 : decode cM_init 70 = .ok (.newarray .int, 2) := by decide +kernel
theorem dM_init_72 : decode cM_init 72 = .ok (.putfield 32, 3) := by decide +kernel
theorem dM_init_75 : decode cM_init 75 = .ok (.aload_n 0, 1) := by decide +kernel
theorem dM_init_76 : decode cM_init 76 = .ok (.sipush 512, 3) := by decide +kernel
theorem dM_init_79 : decode cM_init 79 = .ok (.newarray .boolean, 2) := by decide +kernel
theorem dM_init_81 : decode cM_init 81 = .ok (.putfield 35, 3) := by decide +kernel
theorem dM_init_84 : decode cM_init 84 = .ok (.return_, 1) := by decide +kernel
theorem dM_thrown_0 : decode cM_thrown 0 = .ok (.aload_n 0, 1) := by decide +kernel
theorem dM_thrown_1 : decode cM_thrown 1 = .ok (.getfield 38, 3) := by decide +kernel
theorem dM_thrown_4 : decode cM_thrown 4 = .ok (.ireturn, 1) := by decide +kernel
theorem dM_add_0 : decode cM_add 0 = .ok (.aload_n 0, 1) := by decide +kernel
theorem dM_add_1 : decode cM_add 1 = .ok (.iload_n 1, 1) := by decide +kernel
theorem dM_add_2 : decode cM_add 2 = .ok (.i2l, 1) := by decide +kernel
theorem dM_add_3 : decode cM_add 3 = .ok (.invokestatic 56, 3) := by decide +kernel
theorem dM_add_6 : decode cM_add 6 = .ok (.ifCond .eq 11, 3) := by decide +kernel
theorem dM_add_9 : decode cM_add 9 = .ok (.iload_n 2, 1) := by decide +kernel
theorem dM_add_10 : decode cM_add 10 = .ok (.i2l, 1) := by decide +kernel
theorem dM_add_11 : decode cM_add 11 = .ok (.invokestatic 56, 3) := by decide +kernel
theorem dM_add_14 : decode cM_add 14 = .ok (.ifCond .ne 7, 3) := by decide +kernel
theorem dM_add_17 : decode cM_add 17 = .ok (.iconst 1, 1) := by decide +kernel
theorem dM_add_18 : decode cM_add 18 = .ok (.goto 18, 3) := by decide +kernel
theorem dM_add_21 : decode cM_add 21 = .ok (.aload_n 0, 1) := by decide +kernel
theorem dM_add_22 : decode cM_add 22 = .ok (.getfield 46, 3) := by decide +kernel
theorem dM_add_25 : decode cM_add 25 = .ok (.sipush 512, 3) := by decide +kernel
theorem dM_add_28 : decode cM_add 28 = .ok (.if_icmp .ne 7, 3) := by decide +kernel
theorem dM_add_31 : decode cM_add 31 = .ok (.iconst 2, 1) := by decide +kernel
theorem dM_add_32 : decode cM_add 32 = .ok (.goto 4, 3) := by decide +kernel
theorem dM_add_35 : decode cM_add 35 = .ok (.iconst 0, 1) := by decide +kernel
theorem dM_add_36 : decode cM_add 36 = .ok (.invokevirtual 60, 3) := by decide +kernel
theorem dM_add_39 : decode cM_add 39 = .ok (.ifCond .eq 5, 3) := by decide +kernel
theorem dM_add_42 : decode cM_add 42 = .ok (.iconst 0, 1) := by decide +kernel
theorem dM_add_43 : decode cM_add 43 = .ok (.ireturn, 1) := by decide +kernel
theorem dM_add_44 : decode cM_add 44 = .ok (.aload_n 0, 1) := by decide +kernel
theorem dM_add_45 : decode cM_add 45 = .ok (.getfield 7, 3) := by decide +kernel
theorem dM_add_48 : decode cM_add 48 = .ok (.aload_n 0, 1) := by decide +kernel
theorem dM_add_49 : decode cM_add 49 = .ok (.getfield 46, 3) := by decide +kernel
theorem dM_add_52 : decode cM_add 52 = .ok (.iload_n 1, 1) := by decide +kernel
theorem dM_add_53 : decode cM_add 53 = .ok (.iastore, 1) := by decide +kernel
theorem dM_add_54 : decode cM_add 54 = .ok (.aload_n 0, 1) := by decide +kernel
theorem dM_add_55 : decode cM_add 55 = .ok (.getfield 13, 3) := by decide +kernel
theorem dM_add_58 : decode cM_add 58 = .ok (.aload_n 0, 1) := by decide +kernel
theorem dM_add_59 : decode cM_add 59 = .ok (.getfield 46, 3) := by decide +kernel
theorem dM_add_62 : decode cM_add 62 = .ok (.iload_n 2, 1) := by decide +kernel
theorem dM_add_63 : decode cM_add 63 = .ok (.iastore, 1) := by decide +kernel
theorem dM_add_64 : decode cM_add 64 = .ok (.aload_n 0, 1) := by decide +kernel
theorem dM_add_65 : decode cM_add 65 = .ok (.getfield 16, 3) := by decide +kernel
theorem dM_add_68 : decode cM_add 68 = .ok (.aload_n 0, 1) := by decide +kernel
theorem dM_add_69 : decode cM_add 69 = .ok (.getfield 46, 3) := by decide +kernel
theorem dM_add_72 : decode cM_add 72 = .ok (.iload_n 3, 1) := by decide +kernel
theorem dM_add_73 : decode cM_add 73 = .ok (.bastore, 1) := by decide +kernel
theorem dM_add_74 : decode cM_add 74 = .ok (.aload_n 0, 1) := by decide +kernel
theorem dM_add_75 : decode cM_add 75 = .ok (.dup, 1) := by decide +kernel
theorem dM_add_76 : decode cM_add 76 = .ok (.getfield 46, 3) := by decide +kernel
theorem dM_add_79 : decode cM_add 79 = .ok (.iconst 1, 1) := by decide +kernel
theorem dM_add_80 : decode cM_add 80 = .ok (.iadd, 1) := by decide +kernel
theorem dM_add_81 : decode cM_add 81 = .ok (.putfield 46, 3) := by decide +kernel
theorem dM_add_84 : decode cM_add 84 = .ok (.aload_n 0, 1) := by decide +kernel
theorem dM_add_85 : decode cM_add 85 = .ok (.invokevirtual 64, 3) := by decide +kernel
theorem dM_add_88 : decode cM_add 88 = .ok (.ireturn, 1) := by decide +kernel
theorem dM_isCoordinate_0 : decode cM_isCoordinate 0 = .ok (.lload_n 0, 1) := by decide +kernel
theorem dM_isCoordinate_1 : decode cM_isCoordinate 1 = .ok (.ldc2_w 42, 3) := by decide +kernel
theorem dM_isCoordinate_4 : decode cM_isCoordinate 4 = .ok (.lcmp, 1) := by decide +kernel
theorem dM_isCoordinate_5 : decode cM_isCoordinate 5 = .ok (.ifCond .lt 15, 3) := by decide +kernel
theorem dM_isCoordinate_8 : decode cM_isCoordinate 8 = .ok (.lload_n 0, 1) := by decide +kernel
theorem dM_isCoordinate_9 : decode cM_isCoordinate 9 = .ok (.ldc2_w 44, 3) := by decide +kernel
theorem dM_isCoordinate_12 : decode cM_isCoordinate 12 = .ok (.lcmp, 1) := by decide +kernel
theorem dM_isCoordinate_13 : decode cM_isCoordinate 13 = .ok (.ifCond .gt 7, 3) := by decide +kernel
theorem dM_isCoordinate_16 : decode cM_isCoordinate 16 = .ok (.iconst 1, 1) := by decide +kernel
theorem dM_isCoordinate_17 : decode cM_isCoordinate 17 = .ok (.goto 4, 3) := by decide +kernel
theorem dM_isCoordinate_20 : decode cM_isCoordinate 20 = .ok (.iconst 0, 1) := by decide +kernel
theorem dM_isCoordinate_21 : decode cM_isCoordinate 21 = .ok (.ireturn, 1) := by decide +kernel
theorem dM_refused_0 : decode cM_refused 0 = .ok (.aload_n 0, 1) := by decide +kernel
theorem dM_refused_1 : decode cM_refused 1 = .ok (.iload_n 1, 1) := by decide +kernel
theorem dM_refused_2 : decode cM_refused 2 = .ok (.putfield 38, 3) := by decide +kernel
theorem dM_refused_5 : decode cM_refused 5 = .ok (.iload_n 1, 1) := by decide +kernel
theorem dM_refused_6 : decode cM_refused 6 = .ok (.ifCond .le 7, 3) := by decide +kernel
theorem dM_refused_9 : decode cM_refused 9 = .ok (.iconst 1, 1) := by decide +kernel
theorem dM_refused_10 : decode cM_refused 10 = .ok (.goto 4, 3) := by decide +kernel
theorem dM_refused_13 : decode cM_refused 13 = .ok (.iconst 0, 1) := by decide +kernel
theorem dM_refused_14 : decode cM_refused 14 = .ok (.ireturn, 1) := by decide +kernel
theorem dM_open_0 : decode cM_open 0 = .ok (.aload_n 0, 1) := by decide +kernel
theorem dM_open_1 : decode cM_open 1 = .ok (.getfield 46, 3) := by decide +kernel
theorem dM_open_4 : decode cM_open 4 = .ok (.aload_n 0, 1) := by decide +kernel
theorem dM_open_5 : decode cM_open 5 = .ok (.invokevirtual 49, 3) := by decide +kernel
theorem dM_open_8 : decode cM_open 8 = .ok (.isub, 1) := by decide +kernel
theorem dM_open_9 : decode cM_open 9 = .ok (.ireturn, 1) := by decide +kernel
theorem dM_closed_0 : decode cM_closed 0 = .ok (.aload_n 0, 1) := by decide +kernel
theorem dM_closed_1 : decode cM_closed 1 = .ok (.getfield 53, 3) := by decide +kernel
theorem dM_closed_4 : decode cM_closed 4 = .ok (.ifCond .ne 7, 3) := by decide +kernel
theorem dM_closed_7 : decode cM_closed 7 = .ok (.iconst 0, 1) := by decide +kernel
theorem dM_closed_8 : decode cM_closed 8 = .ok (.goto 14, 3) := by decide +kernel
theorem dM_closed_11 : decode cM_closed 11 = .ok (.aload_n 0, 1) := by decide +kernel
theorem dM_closed_12 : decode cM_closed 12 = .ok (.getfield 20, 3) := by decide +kernel
theorem dM_closed_15 : decode cM_closed 15 = .ok (.aload_n 0, 1) := by decide +kernel
theorem dM_closed_16 : decode cM_closed 16 = .ok (.getfield 53, 3) := by decide +kernel
theorem dM_closed_19 : decode cM_closed 19 = .ok (.iconst 1, 1) := by decide +kernel
theorem dM_closed_20 : decode cM_closed 20 = .ok (.isub, 1) := by decide +kernel
theorem dM_closed_21 : decode cM_closed 21 = .ok (.iaload, 1) := by decide +kernel
theorem dM_closed_22 : decode cM_closed 22 = .ok (.ireturn, 1) := by decide +kernel
theorem dM_close_0 : decode cM_close 0 = .ok (.aload_n 0, 1) := by decide +kernel
theorem dM_close_1 : decode cM_close 1 = .ok (.aload_n 0, 1) := by decide +kernel
theorem dM_close_2 : decode cM_close 2 = .ok (.invokevirtual 64, 3) := by decide +kernel
theorem dM_close_5 : decode cM_close 5 = .ok (.ifCond .eq 12, 3) := by decide +kernel
theorem dM_close_8 : decode cM_close 8 = .ok (.aload_n 0, 1) := by decide +kernel
theorem dM_close_9 : decode cM_close 9 = .ok (.getfield 53, 3) := by decide +kernel
theorem dM_close_12 : decode cM_close 12 = .ok (.bipush 64, 2) := by decide +kernel
theorem dM_close_14 : decode cM_close 14 = .ok (.if_icmp .ne 7, 3) := by decide +kernel
theorem dM_close_17 : decode cM_close 17 = .ok (.iconst 1, 1) := by decide +kernel
theorem dM_close_18 : decode cM_close 18 = .ok (.goto 4, 3) := by decide +kernel
theorem dM_close_21 : decode cM_close 21 = .ok (.iconst 0, 1) := by decide +kernel
theorem dM_close_22 : decode cM_close 22 = .ok (.invokevirtual 60, 3) := by decide +kernel
theorem dM_close_25 : decode cM_close 25 = .ok (.ifCond .eq 5, 3) := by decide +kernel
theorem dM_close_28 : decode cM_close 28 = .ok (.iconst 0, 1) := by decide +kernel
theorem dM_close_29 : decode cM_close 29 = .ok (.ireturn, 1) := by decide +kernel
theorem dM_close_30 : decode cM_close 30 = .ok (.aload_n 0, 1) := by decide +kernel
theorem dM_close_31 : decode cM_close 31 = .ok (.getfield 20, 3) := by decide +kernel
theorem dM_close_34 : decode cM_close 34 = .ok (.aload_n 0, 1) := by decide +kernel
theorem dM_close_35 : decode cM_close 35 = .ok (.getfield 53, 3) := by decide +kernel
theorem dM_close_38 : decode cM_close 38 = .ok (.aload_n 0, 1) := by decide +kernel
theorem dM_close_39 : decode cM_close 39 = .ok (.getfield 46, 3) := by decide +kernel
theorem dM_close_42 : decode cM_close 42 = .ok (.iastore, 1) := by decide +kernel
theorem dM_close_43 : decode cM_close 43 = .ok (.aload_n 0, 1) := by decide +kernel
theorem dM_close_44 : decode cM_close 44 = .ok (.dup, 1) := by decide +kernel
theorem dM_close_45 : decode cM_close 45 = .ok (.getfield 53, 3) := by decide +kernel
theorem dM_close_48 : decode cM_close 48 = .ok (.iconst 1, 1) := by decide +kernel
theorem dM_close_49 : decode cM_close 49 = .ok (.iadd, 1) := by decide +kernel
theorem dM_close_50 : decode cM_close 50 = .ok (.putfield 53, 3) := by decide +kernel
theorem dM_close_53 : decode cM_close 53 = .ok (.aload_n 0, 1) := by decide +kernel
theorem dM_close_54 : decode cM_close 54 = .ok (.getfield 53, 3) := by decide +kernel
theorem dM_close_57 : decode cM_close 57 = .ok (.ireturn, 1) := by decide +kernel
theorem dM_drop_0 : decode cM_drop 0 = .ok (.aload_n 0, 1) := by decide +kernel
theorem dM_drop_1 : decode cM_drop 1 = .ok (.iconst 0, 1) := by decide +kernel
theorem dM_drop_2 : decode cM_drop 2 = .ok (.putfield 38, 3) := by decide +kernel
theorem dM_drop_5 : decode cM_drop 5 = .ok (.aload_n 0, 1) := by decide +kernel
theorem dM_drop_6 : decode cM_drop 6 = .ok (.invokevirtual 64, 3) := by decide +kernel
theorem dM_drop_9 : decode cM_drop 9 = .ok (.istore_n 1, 1) := by decide +kernel
theorem dM_drop_10 : decode cM_drop 10 = .ok (.aload_n 0, 1) := by decide +kernel
theorem dM_drop_11 : decode cM_drop 11 = .ok (.aload_n 0, 1) := by decide +kernel
theorem dM_drop_12 : decode cM_drop 12 = .ok (.invokevirtual 49, 3) := by decide +kernel
theorem dM_drop_15 : decode cM_drop 15 = .ok (.putfield 46, 3) := by decide +kernel
theorem dM_drop_18 : decode cM_drop 18 = .ok (.iload_n 1, 1) := by decide +kernel
theorem dM_drop_19 : decode cM_drop 19 = .ok (.ireturn, 1) := by decide +kernel
theorem dM_clear_0 : decode cM_clear 0 = .ok (.aload_n 0, 1) := by decide +kernel
theorem dM_clear_1 : decode cM_clear 1 = .ok (.iconst 0, 1) := by decide +kernel
theorem dM_clear_2 : decode cM_clear 2 = .ok (.putfield 38, 3) := by decide +kernel
theorem dM_clear_5 : decode cM_clear 5 = .ok (.aload_n 0, 1) := by decide +kernel
theorem dM_clear_6 : decode cM_clear 6 = .ok (.getfield 53, 3) := by decide +kernel
theorem dM_clear_9 : decode cM_clear 9 = .ok (.istore_n 1, 1) := by decide +kernel
theorem dM_clear_10 : decode cM_clear 10 = .ok (.aload_n 0, 1) := by decide +kernel
theorem dM_clear_11 : decode cM_clear 11 = .ok (.iconst 0, 1) := by decide +kernel
theorem dM_clear_12 : decode cM_clear 12 = .ok (.putfield 53, 3) := by decide +kernel
theorem dM_clear_15 : decode cM_clear 15 = .ok (.aload_n 0, 1) := by decide +kernel
theorem dM_clear_16 : decode cM_clear 16 = .ok (.iconst 0, 1) := by decide +kernel
theorem dM_clear_17 : decode cM_clear 17 = .ok (.putfield 46, 3) := by decide +kernel
theorem dM_clear_20 : decode cM_clear 20 = .ok (.iload_n 1, 1) := by decide +kernel
theorem dM_clear_21 : decode cM_clear 21 = .ok (.ireturn, 1) := by decide +kernel
theorem dM_move_0 : decode cM_move 0 = .ok (.iconst 1, 1) := by decide +kernel
theorem dM_move_1 : decode cM_move 1 = .ok (.istore_n 3, 1) := by decide +kernel
theorem dM_move_2 : decode cM_move 2 = .ok (.iconst 0, 1) := by decide +kernel
theorem dM_move_3 : decode cM_move 3 = .ok (.istore 4, 2) := by decide +kernel
theorem dM_move_5 : decode cM_move 5 = .ok (.iload 4, 2) := by decide +kernel
theorem dM_move_7 : decode cM_move 7 = .ok (.aload_n 0, 1) := by decide +kernel
theorem dM_move_8 : decode cM_move 8 = .ok (.getfield 46, 3) := by decide +kernel
theorem dM_move_11 : decode cM_move 11 = .ok (.if_icmp .ge 53, 3) := by decide +kernel
theorem dM_move_14 : decode cM_move 14 = .ok (.iload_n 3, 1) := by decide +kernel
theorem dM_move_15 : decode cM_move 15 = .ok (.ifCond .eq 41, 3) := by decide +kernel
theorem dM_move_18 : decode cM_move 18 = .ok (.aload_n 0, 1) := by decide +kernel
theorem dM_move_19 : decode cM_move 19 = .ok (.getfield 7, 3) := by decide +kernel
theorem dM_move_22 : decode cM_move 22 = .ok (.iload 4, 2) := by decide +kernel
theorem dM_move_24 : decode cM_move 24 = .ok (.iaload, 1) := by decide +kernel
theorem dM_move_25 : decode cM_move 25 = .ok (.i2l, 1) := by decide +kernel
theorem dM_move_26 : decode cM_move 26 = .ok (.iload_n 1, 1) := by decide +kernel
theorem dM_move_27 : decode cM_move 27 = .ok (.i2l, 1) := by decide +kernel
theorem dM_move_28 : decode cM_move 28 = .ok (.ladd, 1) := by decide +kernel
theorem dM_move_29 : decode cM_move 29 = .ok (.invokestatic 56, 3) := by decide +kernel
theorem dM_move_32 : decode cM_move 32 = .ok (.ifCond .eq 24, 3) := by decide +kernel
theorem dM_move_35 : decode cM_move 35 = .ok (.aload_n 0, 1) := by decide +kernel
theorem dM_move_36 : decode cM_move 36 = .ok (.getfield 13, 3) := by decide +kernel
theorem dM_move_39 : decode cM_move 39 = .ok (.iload 4, 2) := by decide +kernel
theorem dM_move_41 : decode cM_move 41 = .ok (.iaload, 1) := by decide +kernel
theorem dM_move_42 : decode cM_move 42 = .ok (.i2l, 1) := by decide +kernel
theorem dM_move_43 : decode cM_move 43 = .ok (.iload_n 2, 1) := by decide +kernel
theorem dM_move_44 : decode cM_move 44 = .ok (.i2l, 1) := by decide +kernel
theorem dM_move_45 : decode cM_move 45 = .ok (.ladd, 1) := by decide +kernel
theorem dM_move_46 : decode cM_move 46 = .ok (.invokestatic 56, 3) := by decide +kernel
theorem dM_move_49 : decode cM_move 49 = .ok (.ifCond .eq 7, 3) := by decide +kernel
theorem dM_move_52 : decode cM_move 52 = .ok (.iconst 1, 1) := by decide +kernel
theorem dM_move_53 : decode cM_move 53 = .ok (.goto 4, 3) := by decide +kernel
theorem dM_move_56 : decode cM_move 56 = .ok (.iconst 0, 1) := by decide +kernel
theorem dM_move_57 : decode cM_move 57 = .ok (.istore_n 3, 1) := by decide +kernel
theorem dM_move_58 : decode cM_move 58 = .ok (.iinc 4 1, 3) := by decide +kernel
theorem dM_move_61 : decode cM_move 61 = .ok (.goto (-56), 3) := by decide +kernel
theorem dM_move_64 : decode cM_move 64 = .ok (.aload_n 0, 1) := by decide +kernel
theorem dM_move_65 : decode cM_move 65 = .ok (.iload_n 3, 1) := by decide +kernel
theorem dM_move_66 : decode cM_move 66 = .ok (.ifCond .eq 7, 3) := by decide +kernel
theorem dM_move_69 : decode cM_move 69 = .ok (.iconst 0, 1) := by decide +kernel
theorem dM_move_70 : decode cM_move 70 = .ok (.goto 4, 3) := by decide +kernel
theorem dM_move_73 : decode cM_move 73 = .ok (.iconst 1, 1) := by decide +kernel
theorem dM_move_74 : decode cM_move 74 = .ok (.invokevirtual 60, 3) := by decide +kernel
theorem dM_move_77 : decode cM_move 77 = .ok (.ifCond .eq 4, 3) := by decide +kernel
theorem dM_move_80 : decode cM_move 80 = .ok (.return_, 1) := by decide +kernel
theorem dM_move_81 : decode cM_move 81 = .ok (.iconst 0, 1) := by decide +kernel
theorem dM_move_82 : decode cM_move 82 = .ok (.istore 4, 2) := by decide +kernel
theorem dM_move_84 : decode cM_move 84 = .ok (.iload 4, 2) := by decide +kernel
theorem dM_move_86 : decode cM_move 86 = .ok (.aload_n 0, 1) := by decide +kernel
theorem dM_move_87 : decode cM_move 87 = .ok (.getfield 46, 3) := by decide +kernel
theorem dM_move_90 : decode cM_move 90 = .ok (.if_icmp .ge 41, 3) := by decide +kernel
theorem dM_move_93 : decode cM_move 93 = .ok (.aload_n 0, 1) := by decide +kernel
theorem dM_move_94 : decode cM_move 94 = .ok (.getfield 7, 3) := by decide +kernel
theorem dM_move_97 : decode cM_move 97 = .ok (.iload 4, 2) := by decide +kernel
theorem dM_move_99 : decode cM_move 99 = .ok (.aload_n 0, 1) := by decide +kernel
theorem dM_move_100 : decode cM_move 100 = .ok (.getfield 7, 3) := by decide +kernel
theorem dM_move_103 : decode cM_move 103 = .ok (.iload 4, 2) := by decide +kernel
theorem dM_move_105 : decode cM_move 105 = .ok (.iaload, 1) := by decide +kernel
theorem dM_move_106 : decode cM_move 106 = .ok (.iload_n 1, 1) := by decide +kernel
theorem dM_move_107 : decode cM_move 107 = .ok (.iadd, 1) := by decide +kernel
theorem dM_move_108 : decode cM_move 108 = .ok (.iastore, 1) := by decide +kernel
theorem dM_move_109 : decode cM_move 109 = .ok (.aload_n 0, 1) := by decide +kernel
theorem dM_move_110 : decode cM_move 110 = .ok (.getfield 13, 3) := by decide +kernel
theorem dM_move_113 : decode cM_move 113 = .ok (.iload 4, 2) := by decide +kernel
theorem dM_move_115 : decode cM_move 115 = .ok (.aload_n 0, 1) := by decide +kernel
theorem dM_move_116 : decode cM_move 116 = .ok (.getfield 13, 3) := by decide +kernel
theorem dM_move_119 : decode cM_move 119 = .ok (.iload 4, 2) := by decide +kernel
theorem dM_move_121 : decode cM_move 121 = .ok (.iaload, 1) := by decide +kernel
theorem dM_move_122 : decode cM_move 122 = .ok (.iload_n 2, 1) := by decide +kernel
theorem dM_move_123 : decode cM_move 123 = .ok (.iadd, 1) := by decide +kernel
theorem dM_move_124 : decode cM_move 124 = .ok (.iastore, 1) := by decide +kernel
theorem dM_move_125 : decode cM_move 125 = .ok (.iinc 4 1, 3) := by decide +kernel
theorem dM_move_128 : decode cM_move 128 = .ok (.goto (-44), 3) := by decide +kernel
theorem dM_move_131 : decode cM_move 131 = .ok (.return_, 1) := by decide +kernel
theorem dM_parity_0 : decode cM_parity 0 = .ok (.aload_n 0, 1) := by decide +kernel
theorem dM_parity_1 : decode cM_parity 1 = .ok (.iconst 0, 1) := by decide +kernel
theorem dM_parity_2 : decode cM_parity 2 = .ok (.putfield 38, 3) := by decide +kernel
theorem dM_parity_5 : decode cM_parity 5 = .ok (.aload_n 0, 1) := by decide +kernel
theorem dM_parity_6 : decode cM_parity 6 = .ok (.getfield 67, 3) := by decide +kernel
theorem dM_parity_9 : decode cM_parity 9 = .ok (.istore_n 2, 1) := by decide +kernel
theorem dM_parity_10 : decode cM_parity 10 = .ok (.aload_n 0, 1) := by decide +kernel
theorem dM_parity_11 : decode cM_parity 11 = .ok (.iload_n 1, 1) := by decide +kernel
theorem dM_parity_12 : decode cM_parity 12 = .ok (.putfield 67, 3) := by decide +kernel
theorem dM_parity_15 : decode cM_parity 15 = .ok (.iload_n 2, 1) := by decide +kernel
theorem dM_parity_16 : decode cM_parity 16 = .ok (.ireturn, 1) := by decide +kernel
theorem dM_count_0 : decode cM_count 0 = .ok (.aload_n 0, 1) := by decide +kernel
theorem dM_count_1 : decode cM_count 1 = .ok (.iconst 0, 1) := by decide +kernel
theorem dM_count_2 : decode cM_count 2 = .ok (.putfield 38, 3) := by decide +kernel
theorem dM_count_5 : decode cM_count 5 = .ok (.iload_n 1, 1) := by decide +kernel
theorem dM_count_6 : decode cM_count 6 = .ok (.tableswitch 61 0 4 #[34, 39, 44, 50, 56], 34) := by decide +kernel
theorem dM_count_40 : decode cM_count 40 = .ok (.aload_n 0, 1) := by decide +kernel
theorem dM_count_41 : decode cM_count 41 = .ok (.getfield 53, 3) := by decide +kernel
theorem dM_count_44 : decode cM_count 44 = .ok (.ireturn, 1) := by decide +kernel
theorem dM_count_45 : decode cM_count 45 = .ok (.aload_n 0, 1) := by decide +kernel
theorem dM_count_46 : decode cM_count 46 = .ok (.getfield 46, 3) := by decide +kernel
theorem dM_count_49 : decode cM_count 49 = .ok (.ireturn, 1) := by decide +kernel
theorem dM_count_50 : decode cM_count 50 = .ok (.aload_n 0, 1) := by decide +kernel
theorem dM_count_51 : decode cM_count 51 = .ok (.iconst 0, 1) := by decide +kernel
theorem dM_count_52 : decode cM_count 52 = .ok (.invokevirtual 145, 3) := by decide +kernel
theorem dM_count_55 : decode cM_count 55 = .ok (.ireturn, 1) := by decide +kernel
theorem dM_count_56 : decode cM_count 56 = .ok (.aload_n 0, 1) := by decide +kernel
theorem dM_count_57 : decode cM_count 57 = .ok (.iconst 1, 1) := by decide +kernel
theorem dM_count_58 : decode cM_count 58 = .ok (.invokevirtual 145, 3) := by decide +kernel
theorem dM_count_61 : decode cM_count 61 = .ok (.ireturn, 1) := by decide +kernel
theorem dM_count_62 : decode cM_count 62 = .ok (.aload_n 0, 1) := by decide +kernel
theorem dM_count_63 : decode cM_count 63 = .ok (.invokevirtual 149, 3) := by decide +kernel
theorem dM_count_66 : decode cM_count 66 = .ok (.ireturn, 1) := by decide +kernel
theorem dM_count_67 : decode cM_count 67 = .ok (.iconst (-1), 1) := by decide +kernel
theorem dM_count_68 : decode cM_count 68 = .ok (.ireturn, 1) := by decide +kernel
theorem dM_countOf_0 : decode cM_countOf 0 = .ok (.aload_n 0, 1) := by decide +kernel
theorem dM_countOf_1 : decode cM_countOf 1 = .ok (.invokevirtual 139, 3) := by decide +kernel
theorem dM_countOf_4 : decode cM_countOf 4 = .ok (.iconst 0, 1) := by decide +kernel
theorem dM_countOf_5 : decode cM_countOf 5 = .ok (.istore_n 2, 1) := by decide +kernel
theorem dM_countOf_6 : decode cM_countOf 6 = .ok (.iconst 0, 1) := by decide +kernel
theorem dM_countOf_7 : decode cM_countOf 7 = .ok (.istore_n 3, 1) := by decide +kernel
theorem dM_countOf_8 : decode cM_countOf 8 = .ok (.iload_n 3, 1) := by decide +kernel
theorem dM_countOf_9 : decode cM_countOf 9 = .ok (.aload_n 0, 1) := by decide +kernel
theorem dM_countOf_10 : decode cM_countOf 10 = .ok (.getfield 78, 3) := by decide +kernel
theorem dM_countOf_13 : decode cM_countOf 13 = .ok (.if_icmp .ge 27, 3) := by decide +kernel
theorem dM_countOf_16 : decode cM_countOf 16 = .ok (.aload_n 0, 1) := by decide +kernel
theorem dM_countOf_17 : decode cM_countOf 17 = .ok (.getfield 35, 3) := by decide +kernel
theorem dM_countOf_20 : decode cM_countOf 20 = .ok (.iload_n 3, 1) := by decide +kernel
theorem dM_countOf_21 : decode cM_countOf 21 = .ok (.baload, 1) := by decide +kernel
theorem dM_countOf_22 : decode cM_countOf 22 = .ok (.iload_n 1, 1) := by decide +kernel
theorem dM_countOf_23 : decode cM_countOf 23 = .ok (.if_icmp .ne 9, 3) := by decide +kernel
theorem dM_countOf_26 : decode cM_countOf 26 = .ok (.iload_n 2, 1) := by decide +kernel
theorem dM_countOf_27 : decode cM_countOf 27 = .ok (.iconst 1, 1) := by decide +kernel
theorem dM_countOf_28 : decode cM_countOf 28 = .ok (.iadd, 1) := by decide +kernel
theorem dM_countOf_29 : decode cM_countOf 29 = .ok (.goto 4, 3) := by decide +kernel
theorem dM_countOf_32 : decode cM_countOf 32 = .ok (.iload_n 2, 1) := by decide +kernel
theorem dM_countOf_33 : decode cM_countOf 33 = .ok (.istore_n 2, 1) := by decide +kernel
theorem dM_countOf_34 : decode cM_countOf 34 = .ok (.iinc 3 1, 3) := by decide +kernel
theorem dM_countOf_37 : decode cM_countOf 37 = .ok (.goto (-29), 3) := by decide +kernel
theorem dM_countOf_40 : decode cM_countOf 40 = .ok (.iload_n 2, 1) := by decide +kernel
theorem dM_countOf_41 : decode cM_countOf 41 = .ok (.ireturn, 1) := by decide +kernel
theorem dM_makePieces_0 : decode cM_makePieces 0 = .ok (.aload_n 0, 1) := by decide +kernel
theorem dM_makePieces_1 : decode cM_makePieces 1 = .ok (.iconst 0, 1) := by decide +kernel
theorem dM_makePieces_2 : decode cM_makePieces 2 = .ok (.putfield 78, 3) := by decide +kernel
theorem dM_makePieces_5 : decode cM_makePieces 5 = .ok (.iconst 0, 1) := by decide +kernel
theorem dM_makePieces_6 : decode cM_makePieces 6 = .ok (.istore_n 1, 1) := by decide +kernel
theorem dM_makePieces_7 : decode cM_makePieces 7 = .ok (.iload_n 1, 1) := by decide +kernel
theorem dM_makePieces_8 : decode cM_makePieces 8 = .ok (.aload_n 0, 1) := by decide +kernel
theorem dM_makePieces_9 : decode cM_makePieces 9 = .ok (.getfield 53, 3) := by decide +kernel
theorem dM_makePieces_12 : decode cM_makePieces 12 = .ok (.if_icmp .ge 113, 3) := by decide +kernel
theorem dM_makePieces_15 : decode cM_makePieces 15 = .ok (.aload_n 0, 1) := by decide +kernel
theorem dM_makePieces_16 : decode cM_makePieces 16 = .ok (.iload_n 1, 1) := by decide +kernel
theorem dM_makePieces_17 : decode cM_makePieces 17 = .ok (.ifCond .ne 7, 3) := by decide +kernel
theorem dM_makePieces_20 : decode cM_makePieces 20 = .ok (.iconst 0, 1) := by decide +kernel
theorem dM_makePieces_21 : decode cM_makePieces 21 = .ok (.goto 11, 3) := by decide +kernel
theorem dM_makePieces_24 : decode cM_makePieces 24 = .ok (.aload_n 0, 1) := by decide +kernel
theorem dM_makePieces_25 : decode cM_makePieces 25 = .ok (.getfield 20, 3) := by decide +kernel
theorem dM_makePieces_28 : decode cM_makePieces 28 = .ok (.iload_n 1, 1) := by decide +kernel
theorem dM_makePieces_29 : decode cM_makePieces 29 = .ok (.iconst 1, 1) := by decide +kernel
theorem dM_makePieces_30 : decode cM_makePieces 30 = .ok (.isub, 1) := by decide +kernel
theorem dM_makePieces_31 : decode cM_makePieces 31 = .ok (.iaload, 1) := by decide +kernel
theorem dM_makePieces_32 : decode cM_makePieces 32 = .ok (.aload_n 0, 1) := by decide +kernel
theorem dM_makePieces_33 : decode cM_makePieces 33 = .ok (.getfield 20, 3) := by decide +kernel
theorem dM_makePieces_36 : decode cM_makePieces 36 = .ok (.iload_n 1, 1) := by decide +kernel
theorem dM_makePieces_37 : decode cM_makePieces 37 = .ok (.iaload, 1) := by decide +kernel
theorem dM_makePieces_38 : decode cM_makePieces 38 = .ok (.invokevirtual 81, 3) := by decide +kernel
theorem dM_makePieces_41 : decode cM_makePieces 41 = .ok (.iconst 0, 1) := by decide +kernel
theorem dM_makePieces_42 : decode cM_makePieces 42 = .ok (.istore_n 2, 1) := by decide +kernel
theorem dM_makePieces_43 : decode cM_makePieces 43 = .ok (.iload_n 2, 1) := by decide +kernel
theorem dM_makePieces_44 : decode cM_makePieces 44 = .ok (.aload_n 0, 1) := by decide +kernel
theorem dM_makePieces_45 : decode cM_makePieces 45 = .ok (.getfield 71, 3) := by decide +kernel
theorem dM_makePieces_48 : decode cM_makePieces 48 = .ok (.if_icmp .ge 71, 3) := by decide +kernel
theorem dM_makePieces_51 : decode cM_makePieces 51 = .ok (.iload_n 2, 1) := by decide +kernel
theorem dM_makePieces_52 : decode cM_makePieces 52 = .ok (.iconst 1, 1) := by decide +kernel
theorem dM_makePieces_53 : decode cM_makePieces 53 = .ok (.iadd, 1) := by decide +kernel
theorem dM_makePieces_54 : decode cM_makePieces 54 = .ok (.aload_n 0, 1) := by decide +kernel
theorem dM_makePieces_55 : decode cM_makePieces 55 = .ok (.getfield 71, 3) := by decide +kernel
theorem dM_makePieces_58 : decode cM_makePieces 58 = .ok (.irem, 1) := by decide +kernel
theorem dM_makePieces_59 : decode cM_makePieces 59 = .ok (.istore_n 3, 1) := by decide +kernel
theorem dM_makePieces_60 : decode cM_makePieces 60 = .ok (.aload_n 0, 1) := by decide +kernel
theorem dM_makePieces_61 : decode cM_makePieces 61 = .ok (.getfield 29, 3) := by decide +kernel
theorem dM_makePieces_64 : decode cM_makePieces 64 = .ok (.iload_n 2, 1) := by decide +kernel
theorem dM_makePieces_65 : decode cM_makePieces 65 = .ok (.baload, 1) := by decide +kernel
theorem dM_makePieces_66 : decode cM_makePieces 66 = .ok (.ifCond .eq 23, 3) := by decide +kernel
theorem dM_makePieces_69 : decode cM_makePieces 69 = .ok (.aload_n 0, 1) := by decide +kernel
theorem dM_makePieces_70 : decode cM_makePieces 70 = .ok (.getfield 29, 3) := by decide +kernel
theorem dM_makePieces_73 : decode cM_makePieces 73 = .ok (.iload_n 3, 1) := by decide +kernel
theorem dM_makePieces_74 : decode cM_makePieces 74 = .ok (.baload, 1) := by decide +kernel
theorem dM_makePieces_75 : decode cM_makePieces 75 = .ok (.ifCond .eq 14, 3) := by decide +kernel
theorem dM_makePieces_78 : decode cM_makePieces 78 = .ok (.aload_n 0, 1) := by decide +kernel
theorem dM_makePieces_79 : decode cM_makePieces 79 = .ok (.iload_n 2, 1) := by decide +kernel
theorem dM_makePieces_80 : decode cM_makePieces 80 = .ok (.iload_n 2, 1) := by decide +kernel
theorem dM_makePieces_81 : decode cM_makePieces 81 = .ok (.iload_n 3, 1) := by decide +kernel
theorem dM_makePieces_82 : decode cM_makePieces 82 = .ok (.iconst 0, 1) := by decide +kernel
theorem dM_makePieces_83 : decode cM_makePieces 83 = .ok (.invokevirtual 85, 3) := by decide +kernel
theorem dM_makePieces_86 : decode cM_makePieces 86 = .ok (.goto 27, 3) := by decide +kernel
theorem dM_makePieces_89 : decode cM_makePieces 89 = .ok (.aload_n 0, 1) := by decide +kernel
theorem dM_makePieces_90 : decode cM_makePieces 90 = .ok (.getfield 29, 3) := by decide +kernel
theorem dM_makePieces_93 : decode cM_makePieces 93 = .ok (.iload_n 2, 1) := by decide +kernel
theorem dM_makePieces_94 : decode cM_makePieces 94 = .ok (.baload, 1) := by decide +kernel
theorem dM_makePieces_95 : decode cM_makePieces 95 = .ok (.ifCond .eq 18, 3) := by decide +kernel
theorem dM_makePieces_98 : decode cM_makePieces 98 = .ok (.aload_n 0, 1) := by decide +kernel
theorem dM_makePieces_99 : decode cM_makePieces 99 = .ok (.iload_n 2, 1) := by decide +kernel
theorem dM_makePieces_100 : decode cM_makePieces 100 = .ok (.iload_n 3, 1) := by decide +kernel
theorem dM_makePieces_101 : decode cM_makePieces 101 = .ok (.iload_n 2, 1) := by decide +kernel
theorem dM_makePieces_102 : decode cM_makePieces 102 = .ok (.iconst 2, 1) := by decide +kernel
theorem dM_makePieces_103 : decode cM_makePieces 103 = .ok (.iadd, 1) := by decide +kernel
theorem dM_makePieces_104 : decode cM_makePieces 104 = .ok (.aload_n 0, 1) := by decide +kernel
theorem dM_makePieces_105 : decode cM_makePieces 105 = .ok (.getfield 71, 3) := by decide +kernel
theorem dM_makePieces_108 : decode cM_makePieces 108 = .ok (.irem, 1) := by decide +kernel
theorem dM_makePieces_109 : decode cM_makePieces 109 = .ok (.iconst 1, 1) := by decide +kernel
theorem dM_makePieces_110 : decode cM_makePieces 110 = .ok (.invokevirtual 85, 3) := by decide +kernel
theorem dM_makePieces_113 : decode cM_makePieces 113 = .ok (.iinc 2 1, 3) := by decide +kernel
theorem dM_makePieces_116 : decode cM_makePieces 116 = .ok (.goto (-73), 3) := by decide +kernel
theorem dM_makePieces_119 : decode cM_makePieces 119 = .ok (.iinc 1 1, 3) := by decide +kernel
theorem dM_makePieces_122 : decode cM_makePieces 122 = .ok (.goto (-115), 3) := by decide +kernel
theorem dM_makePieces_125 : decode cM_makePieces 125 = .ok (.return_, 1) := by decide +kernel
theorem dM_makeRing_0 : decode cM_makeRing 0 = .ok (.aload_n 0, 1) := by decide +kernel
theorem dM_makeRing_1 : decode cM_makeRing 1 = .ok (.iconst 0, 1) := by decide +kernel
theorem dM_makeRing_2 : decode cM_makeRing 2 = .ok (.putfield 71, 3) := by decide +kernel
theorem dM_makeRing_5 : decode cM_makeRing 5 = .ok (.iload_n 1, 1) := by decide +kernel
theorem dM_makeRing_6 : decode cM_makeRing 6 = .ok (.istore_n 3, 1) := by decide +kernel
theorem dM_makeRing_7 : decode cM_makeRing 7 = .ok (.iload_n 3, 1) := by decide +kernel
theorem dM_makeRing_8 : decode cM_makeRing 8 = .ok (.iload_n 2, 1) := by decide +kernel
theorem dM_makeRing_9 : decode cM_makeRing 9 = .ok (.if_icmp .ge 103, 3) := by decide +kernel
theorem dM_makeRing_12 : decode cM_makeRing 12 = .ok (.iload_n 3, 1) := by decide +kernel
theorem dM_makeRing_13 : decode cM_makeRing 13 = .ok (.iconst 1, 1) := by decide +kernel
theorem dM_makeRing_14 : decode cM_makeRing 14 = .ok (.iadd, 1) := by decide +kernel
theorem dM_makeRing_15 : decode cM_makeRing 15 = .ok (.iload_n 2, 1) := by decide +kernel
theorem dM_makeRing_16 : decode cM_makeRing 16 = .ok (.if_icmp .ge 9, 3) := by decide +kernel
theorem dM_makeRing_19 : decode cM_makeRing 19 = .ok (.iload_n 3, 1) := by decide +kernel
theorem dM_makeRing_20 : decode cM_makeRing 20 = .ok (.iconst 1, 1) := by decide +kernel
theorem dM_makeRing_21 : decode cM_makeRing 21 = .ok (.iadd, 1) := by decide +kernel
theorem dM_makeRing_22 : decode cM_makeRing 22 = .ok (.goto 4, 3) := by decide +kernel
theorem dM_makeRing_25 : decode cM_makeRing 25 = .ok (.iload_n 1, 1) := by decide +kernel
theorem dM_makeRing_26 : decode cM_makeRing 26 = .ok (.istore 4, 2) := by decide +kernel
theorem dM_makeRing_28 : decode cM_makeRing 28 = .ok (.aload_n 0, 1) := by decide +kernel
theorem dM_makeRing_29 : decode cM_makeRing 29 = .ok (.aload_n 0, 1) := by decide +kernel
theorem dM_makeRing_30 : decode cM_makeRing 30 = .ok (.getfield 7, 3) := by decide +kernel
theorem dM_makeRing_33 : decode cM_makeRing 33 = .ok (.iload_n 3, 1) := by decide +kernel
theorem dM_makeRing_34 : decode cM_makeRing 34 = .ok (.iaload, 1) := by decide +kernel
theorem dM_makeRing_35 : decode cM_makeRing 35 = .ok (.aload_n 0, 1) := by decide +kernel
theorem dM_makeRing_36 : decode cM_makeRing 36 = .ok (.getfield 13, 3) := by decide +kernel
theorem dM_makeRing_39 : decode cM_makeRing 39 = .ok (.iload_n 3, 1) := by decide +kernel
theorem dM_makeRing_40 : decode cM_makeRing 40 = .ok (.iaload, 1) := by decide +kernel
theorem dM_makeRing_41 : decode cM_makeRing 41 = .ok (.aload_n 0, 1) := by decide +kernel
theorem dM_makeRing_42 : decode cM_makeRing 42 = .ok (.getfield 16, 3) := by decide +kernel
theorem dM_makeRing_45 : decode cM_makeRing 45 = .ok (.iload_n 3, 1) := by decide +kernel
theorem dM_makeRing_46 : decode cM_makeRing 46 = .ok (.baload, 1) := by decide +kernel
theorem dM_makeRing_47 : decode cM_makeRing 47 = .ok (.invokevirtual 74, 3) := by decide +kernel
theorem dM_makeRing_50 : decode cM_makeRing 50 = .ok (.aload_n 0, 1) := by decide +kernel
theorem dM_makeRing_51 : decode cM_makeRing 51 = .ok (.getfield 16, 3) := by decide +kernel
theorem dM_makeRing_54 : decode cM_makeRing 54 = .ok (.iload_n 3, 1) := by decide +kernel
theorem dM_makeRing_55 : decode cM_makeRing 55 = .ok (.baload, 1) := by decide +kernel
theorem dM_makeRing_56 : decode cM_makeRing 56 = .ok (.ifCond .ne 50, 3) := by decide +kernel
theorem dM_makeRing_59 : decode cM_makeRing 59 = .ok (.aload_n 0, 1) := by decide +kernel
theorem dM_makeRing_60 : decode cM_makeRing 60 = .ok (.getfield 16, 3) := by decide +kernel
theorem dM_makeRing_63 : decode cM_makeRing 63 = .ok (.iload 4, 2) := by decide +kernel
theorem dM_makeRing_65 : decode cM_makeRing 65 = .ok (.baload, 1) := by decide +kernel
theorem dM_makeRing_66 : decode cM_makeRing 66 = .ok (.ifCond .ne 40, 3) := by decide +kernel
theorem dM_makeRing_69 : decode cM_makeRing 69 = .ok (.aload_n 0, 1) := by decide +kernel
theorem dM_makeRing_70 : decode cM_makeRing 70 = .ok (.aload_n 0, 1) := by decide +kernel
theorem dM_makeRing_71 : decode cM_makeRing 71 = .ok (.getfield 7, 3) := by decide +kernel
theorem dM_makeRing_74 : decode cM_makeRing 74 = .ok (.iload_n 3, 1) := by decide +kernel
theorem dM_makeRing_75 : decode cM_makeRing 75 = .ok (.iaload, 1) := by decide +kernel
theorem dM_makeRing_76 : decode cM_makeRing 76 = .ok (.aload_n 0, 1) := by decide +kernel
theorem dM_makeRing_77 : decode cM_makeRing 77 = .ok (.getfield 7, 3) := by decide +kernel
theorem dM_makeRing_80 : decode cM_makeRing 80 = .ok (.iload 4, 2) := by decide +kernel
