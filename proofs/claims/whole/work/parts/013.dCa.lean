/-! decode rows -/
theorem dC_init_0 : decode cC_init 0 = .ok (.aload_n 0, 1) := by decide +kernel
theorem dC_init_1 : decode cC_init 1 = .ok (.invokespecial 1, 3) := by decide +kernel
theorem dC_init_4 : decode cC_init 4 = .ok (.aload_n 0, 1) := by decide +kernel
theorem dC_init_5 : decode cC_init 5 = .ok (.sipush 512, 3) := by decide +kernel
theorem dC_init_8 : decode cC_init 8 = .ok (.newarray .int, 2) := by decide +kernel
theorem dC_init_10 : decode cC_init 10 = .ok (.putfield 9, 3) := by decide +kernel
theorem dC_init_13 : decode cC_init 13 = .ok (.aload_n 0, 1) := by decide +kernel
theorem dC_init_14 : decode cC_init 14 = .ok (.sipush 512, 3) := by decide +kernel
theorem dC_init_17 : decode cC_init 17 = .ok (.newarray .int, 2) := by decide +kernel
theorem dC_init_19 : decode cC_init 19 = .ok (.putfield 13, 3) := by decide +kernel
theorem dC_init_22 : decode cC_init 22 = .ok (.aload_n 0, 1) := by decide +kernel
theorem dC_init_23 : decode cC_init 23 = .ok (.sipush 512, 3) := by decide +kernel
theorem dC_init_26 : decode cC_init 26 = .ok (.newarray .boolean, 2) := by decide +kernel
theorem dC_init_28 : decode cC_init 28 = .ok (.putfield 16, 3) := by decide +kernel
theorem dC_init_31 : decode cC_init 31 = .ok (.aload_n 0, 1) := by decide +kernel
theorem dC_init_32 : decode cC_init 32 = .ok (.sipush 512, 3) := by decide +kernel
theorem dC_init_35 : decode cC_init 35 = .ok (.anewarray 20, 3) := by decide +kernel
theorem dC_init_38 : decode cC_init 38 = .ok (.putfield 22, 3) := by decide +kernel
theorem dC_init_41 : decode cC_init 41 = .ok (.aload_n 0, 1) := by decide +kernel
theorem dC_init_42 : decode cC_init 42 = .ok (.bipush 65, 2) := by decide +kernel
theorem dC_init_44 : decode cC_init 44 = .ok (.newarray .int, 2) := by decide +kernel
theorem dC_init_46 : decode cC_init 46 = .ok (.putfield 26, 3) := by decide +kernel
theorem dC_init_49 : decode cC_init 49 = .ok (.aload_n 0, 1) := by decide +kernel
theorem dC_init_50 : decode cC_init 50 = .ok (.new 29, 3) := by decide +kernel
theorem dC_init_53 : decode cC_init 53 = .ok (.dup, 1) := by decide +kernel
theorem dC_init_54 : decode cC_init 54 = .ok (.invokespecial 31, 3) := by decide +kernel
theorem dC_init_57 : decode cC_init 57 = .ok (.putfield 32, 3) := by decide +kernel
theorem dC_init_60 : decode cC_init 60 = .ok (.aload_n 0, 1) := by decide +kernel
theorem dC_init_61 : decode cC_init 61 = .ok (.iconst 0, 1) := by decide +kernel
theorem dC_init_62 : decode cC_init 62 = .ok (.putfield 36, 3) := by decide +kernel
theorem dC_init_65 : decode cC_init 65 = .ok (.aload_n 0, 1) := by decide +kernel
theorem dC_init_66 : decode cC_init 66 = .ok (.iconst 0, 1) := by decide +kernel
theorem dC_init_67 : decode cC_init 67 = .ok (.putfield 40, 3) := by decide +kernel
theorem dC_init_70 : decode cC_init 70 = .ok (.aload_n 0, 1) := by decide +kernel
theorem dC_init_71 : decode cC_init 71 = .ok (.iconst 0, 1) := by decide +kernel
theorem dC_init_72 : decode cC_init 72 = .ok (.putfield 43, 3) := by decide +kernel
theorem dC_init_75 : decode cC_init 75 = .ok (.aload_n 0, 1) := by decide +kernel
theorem dC_init_76 : decode cC_init 76 = .ok (.iconst 0, 1) := by decide +kernel
theorem dC_init_77 : decode cC_init 77 = .ok (.putfield 46, 3) := by decide +kernel
theorem dC_init_80 : decode cC_init 80 = .ok (.return_, 1) := by decide +kernel
theorem dC_drop_0 : decode cC_drop 0 = .ok (.aload_n 0, 1) := by decide +kernel
theorem dC_drop_1 : decode cC_drop 1 = .ok (.getfield 40, 3) := by decide +kernel
theorem dC_drop_4 : decode cC_drop 4 = .ok (.aload_n 0, 1) := by decide +kernel
theorem dC_drop_5 : decode cC_drop 5 = .ok (.getfield 43, 3) := by decide +kernel
theorem dC_drop_8 : decode cC_drop 8 = .ok (.isub, 1) := by decide +kernel
theorem dC_drop_9 : decode cC_drop 9 = .ok (.istore_n 1, 1) := by decide +kernel
theorem dC_drop_10 : decode cC_drop 10 = .ok (.aload_n 0, 1) := by decide +kernel
theorem dC_drop_11 : decode cC_drop 11 = .ok (.aload_n 0, 1) := by decide +kernel
theorem dC_drop_12 : decode cC_drop 12 = .ok (.getfield 43, 3) := by decide +kernel
theorem dC_drop_15 : decode cC_drop 15 = .ok (.putfield 40, 3) := by decide +kernel
theorem dC_drop_18 : decode cC_drop 18 = .ok (.iload_n 1, 1) := by decide +kernel
theorem dC_drop_19 : decode cC_drop 19 = .ok (.ireturn, 1) := by decide +kernel
theorem dC_clear_0 : decode cC_clear 0 = .ok (.aload_n 0, 1) := by decide +kernel
theorem dC_clear_1 : decode cC_clear 1 = .ok (.getfield 36, 3) := by decide +kernel
theorem dC_clear_4 : decode cC_clear 4 = .ok (.istore_n 1, 1) := by decide +kernel
theorem dC_clear_5 : decode cC_clear 5 = .ok (.aload_n 0, 1) := by decide +kernel
theorem dC_clear_6 : decode cC_clear 6 = .ok (.iconst 0, 1) := by decide +kernel
theorem dC_clear_7 : decode cC_clear 7 = .ok (.putfield 36, 3) := by decide +kernel
theorem dC_clear_10 : decode cC_clear 10 = .ok (.aload_n 0, 1) := by decide +kernel
theorem dC_clear_11 : decode cC_clear 11 = .ok (.iconst 0, 1) := by decide +kernel
theorem dC_clear_12 : decode cC_clear 12 = .ok (.putfield 40, 3) := by decide +kernel
theorem dC_clear_15 : decode cC_clear 15 = .ok (.aload_n 0, 1) := by decide +kernel
theorem dC_clear_16 : decode cC_clear 16 = .ok (.iconst 0, 1) := by decide +kernel
theorem dC_clear_17 : decode cC_clear 17 = .ok (.putfield 43, 3) := by decide +kernel
theorem dC_clear_20 : decode cC_clear 20 = .ok (.iload_n 1, 1) := by decide +kernel
theorem dC_clear_21 : decode cC_clear 21 = .ok (.ireturn, 1) := by decide +kernel
theorem dC_parity_0 : decode cC_parity 0 = .ok (.aload_n 0, 1) := by decide +kernel
theorem dC_parity_1 : decode cC_parity 1 = .ok (.getfield 46, 3) := by decide +kernel
theorem dC_parity_4 : decode cC_parity 4 = .ok (.istore_n 2, 1) := by decide +kernel
theorem dC_parity_5 : decode cC_parity 5 = .ok (.aload_n 0, 1) := by decide +kernel
theorem dC_parity_6 : decode cC_parity 6 = .ok (.iload_n 1, 1) := by decide +kernel
theorem dC_parity_7 : decode cC_parity 7 = .ok (.putfield 46, 3) := by decide +kernel
theorem dC_parity_10 : decode cC_parity 10 = .ok (.iload_n 2, 1) := by decide +kernel
theorem dC_parity_11 : decode cC_parity 11 = .ok (.ireturn, 1) := by decide +kernel
theorem dC_count_0 : decode cC_count 0 = .ok (.iload_n 1, 1) := by decide +kernel
theorem dC_count_1 : decode cC_count 1 = .ok (.tableswitch 62 0 4 #[35, 40, 45, 51, 57], 35) := by decide +kernel
theorem dC_count_36 : decode cC_count 36 = .ok (.aload_n 0, 1) := by decide +kernel
theorem dC_count_37 : decode cC_count 37 = .ok (.getfield 36, 3) := by decide +kernel
theorem dC_count_40 : decode cC_count 40 = .ok (.ireturn, 1) := by decide +kernel
theorem dC_count_41 : decode cC_count 41 = .ok (.aload_n 0, 1) := by decide +kernel
theorem dC_count_42 : decode cC_count 42 = .ok (.getfield 40, 3) := by decide +kernel
theorem dC_count_45 : decode cC_count 45 = .ok (.ireturn, 1) := by decide +kernel
theorem dC_count_46 : decode cC_count 46 = .ok (.aload_n 0, 1) := by decide +kernel
theorem dC_count_47 : decode cC_count 47 = .ok (.iconst 1, 1) := by decide +kernel
theorem dC_count_48 : decode cC_count 48 = .ok (.invokevirtual 80, 3) := by decide +kernel
theorem dC_count_51 : decode cC_count 51 = .ok (.ireturn, 1) := by decide +kernel
theorem dC_count_52 : decode cC_count 52 = .ok (.aload_n 0, 1) := by decide +kernel
theorem dC_count_53 : decode cC_count 53 = .ok (.iconst 0, 1) := by decide +kernel
theorem dC_count_54 : decode cC_count 54 = .ok (.invokevirtual 80, 3) := by decide +kernel
theorem dC_count_57 : decode cC_count 57 = .ok (.ireturn, 1) := by decide +kernel
theorem dC_count_58 : decode cC_count 58 = .ok (.aload_n 0, 1) := by decide +kernel
theorem dC_count_59 : decode cC_count 59 = .ok (.invokevirtual 84, 3) := by decide +kernel
theorem dC_count_62 : decode cC_count 62 = .ok (.ireturn, 1) := by decide +kernel
theorem dC_count_63 : decode cC_count 63 = .ok (.iconst (-1), 1) := by decide +kernel
theorem dC_count_64 : decode cC_count 64 = .ok (.ireturn, 1) := by decide +kernel
theorem dC_countPieces_0 : decode cC_countPieces 0 = .ok (.iconst 0, 1) := by decide +kernel
theorem dC_countPieces_1 : decode cC_countPieces 1 = .ok (.istore_n 2, 1) := by decide +kernel
theorem dC_countPieces_2 : decode cC_countPieces 2 = .ok (.iconst 0, 1) := by decide +kernel
theorem dC_countPieces_3 : decode cC_countPieces 3 = .ok (.istore_n 3, 1) := by decide +kernel
theorem dC_countPieces_4 : decode cC_countPieces 4 = .ok (.iload_n 3, 1) := by decide +kernel
theorem dC_countPieces_5 : decode cC_countPieces 5 = .ok (.aload_n 0, 1) := by decide +kernel
theorem dC_countPieces_6 : decode cC_countPieces 6 = .ok (.getfield 43, 3) := by decide +kernel
theorem dC_countPieces_9 : decode cC_countPieces 9 = .ok (.if_icmp .ge 34, 3) := by decide +kernel
theorem dC_countPieces_12 : decode cC_countPieces 12 = .ok (.aload_n 0, 1) := by decide +kernel
theorem dC_countPieces_13 : decode cC_countPieces 13 = .ok (.getfield 22, 3) := by decide +kernel
theorem dC_countPieces_16 : decode cC_countPieces 16 = .ok (.iload_n 3, 1) := by decide +kernel
theorem dC_countPieces_17 : decode cC_countPieces 17 = .ok (.aaload, 1) := by decide +kernel
theorem dC_countPieces_18 : decode cC_countPieces 18 = .ok (.astore 4, 2) := by decide +kernel
theorem dC_countPieces_20 : decode cC_countPieces 20 = .ok (.aload 4, 2) := by decide +kernel
theorem dC_countPieces_22 : decode cC_countPieces 22 = .ok (.ifnull 15, 3) := by decide +kernel
theorem dC_countPieces_25 : decode cC_countPieces 25 = .ok (.aload 4, 2) := by decide +kernel
theorem dC_countPieces_27 : decode cC_countPieces 27 = .ok (.getfield 166, 3) := by decide +kernel
theorem dC_countPieces_30 : decode cC_countPieces 30 = .ok (.iload_n 1, 1) := by decide +kernel
theorem dC_countPieces_31 : decode cC_countPieces 31 = .ok (.if_icmp .ne 6, 3) := by decide +kernel
theorem dC_countPieces_34 : decode cC_countPieces 34 = .ok (.iinc 2 1, 3) := by decide +kernel
theorem dC_countPieces_37 : decode cC_countPieces 37 = .ok (.iinc 3 1, 3) := by decide +kernel
theorem dC_countPieces_40 : decode cC_countPieces 40 = .ok (.goto (-36), 3) := by decide +kernel
theorem dC_countPieces_43 : decode cC_countPieces 43 = .ok (.iload_n 2, 1) := by decide +kernel
theorem dC_countPieces_44 : decode cC_countPieces 44 = .ok (.ireturn, 1) := by decide +kernel
theorem dC_countSet_0 : decode cC_countSet 0 = .ok (.iconst 0, 1) := by decide +kernel
theorem dC_countSet_1 : decode cC_countSet 1 = .ok (.istore_n 1, 1) := by decide +kernel
theorem dC_countSet_2 : decode cC_countSet 2 = .ok (.iconst 0, 1) := by decide +kernel
theorem dC_countSet_3 : decode cC_countSet 3 = .ok (.istore_n 2, 1) := by decide +kernel
theorem dC_countSet_4 : decode cC_countSet 4 = .ok (.iload_n 2, 1) := by decide +kernel
theorem dC_countSet_5 : decode cC_countSet 5 = .ok (.bipush 64, 2) := by decide +kernel
theorem dC_countSet_7 : decode cC_countSet 7 = .ok (.if_icmp .ge 20, 3) := by decide +kernel
theorem dC_countSet_10 : decode cC_countSet 10 = .ok (.iload_n 1, 1) := by decide +kernel
theorem dC_countSet_11 : decode cC_countSet 11 = .ok (.aload_n 0, 1) := by decide +kernel
theorem dC_countSet_12 : decode cC_countSet 12 = .ok (.iload_n 2, 1) := by decide +kernel
theorem dC_countSet_13 : decode cC_countSet 13 = .ok (.invokevirtual 106, 3) := by decide +kernel
theorem dC_countSet_16 : decode cC_countSet 16 = .ok (.invokestatic 123, 3) := by decide +kernel
theorem dC_countSet_19 : decode cC_countSet 19 = .ok (.iadd, 1) := by decide +kernel
theorem dC_countSet_20 : decode cC_countSet 20 = .ok (.istore_n 1, 1) := by decide +kernel
theorem dC_countSet_21 : decode cC_countSet 21 = .ok (.iinc 2 1, 3) := by decide +kernel
theorem dC_countSet_24 : decode cC_countSet 24 = .ok (.goto (-20), 3) := by decide +kernel
theorem dC_countSet_27 : decode cC_countSet 27 = .ok (.iload_n 1, 1) := by decide +kernel
theorem dC_countSet_28 : decode cC_countSet 28 = .ok (.ireturn, 1) := by decide +kernel
theorem dC_rowBits_0 : decode cC_rowBits 0 = .ok (.aload_n 0, 1) := by decide +kernel
theorem dC_rowBits_1 : decode cC_rowBits 1 = .ok (.iload_n 1, 1) := by decide +kernel
theorem dC_rowBits_2 : decode cC_rowBits 2 = .ok (.invokestatic 112, 3) := by decide +kernel
theorem dC_rowBits_5 : decode cC_rowBits 5 = .ok (.bipush 32, 2) := by decide +kernel
theorem dC_rowBits_7 : decode cC_rowBits 7 = .ok (.iadd, 1) := by decide +kernel
theorem dC_rowBits_8 : decode cC_rowBits 8 = .ok (.bipush 32, 2) := by decide +kernel
theorem dC_rowBits_10 : decode cC_rowBits 10 = .ok (.bipush 64, 2) := by decide +kernel
theorem dC_rowBits_12 : decode cC_rowBits 12 = .ok (.bipush 64, 2) := by decide +kernel
theorem dC_rowBits_14 : decode cC_rowBits 14 = .ok (.invokevirtual 94, 3) := by decide +kernel
theorem dC_rowBits_17 : decode cC_rowBits 17 = .ok (.lconst 0, 1) := by decide +kernel
theorem dC_rowBits_18 : decode cC_rowBits 18 = .ok (.lstore_n 2, 1) := by decide +kernel
theorem dC_rowBits_19 : decode cC_rowBits 19 = .ok (.iconst 0, 1) := by decide +kernel
theorem dC_rowBits_20 : decode cC_rowBits 20 = .ok (.istore 4, 2) := by decide +kernel
theorem dC_rowBits_22 : decode cC_rowBits 22 = .ok (.iload 4, 2) := by decide +kernel
theorem dC_rowBits_24 : decode cC_rowBits 24 = .ok (.bipush 64, 2) := by decide +kernel
theorem dC_rowBits_26 : decode cC_rowBits 26 = .ok (.if_icmp .ge 30, 3) := by decide +kernel
theorem dC_rowBits_29 : decode cC_rowBits 29 = .ok (.aload_n 0, 1) := by decide +kernel
theorem dC_rowBits_30 : decode cC_rowBits 30 = .ok (.aload_n 0, 1) := by decide +kernel
theorem dC_rowBits_31 : decode cC_rowBits 31 = .ok (.getfield 26, 3) := by decide +kernel
theorem dC_rowBits_34 : decode cC_rowBits 34 = .ok (.iload 4, 2) := by decide +kernel
theorem dC_rowBits_36 : decode cC_rowBits 36 = .ok (.iaload, 1) := by decide +kernel
theorem dC_rowBits_37 : decode cC_rowBits 37 = .ok (.invokevirtual 116, 3) := by decide +kernel
theorem dC_rowBits_40 : decode cC_rowBits 40 = .ok (.ifCond .eq 10, 3) := by decide +kernel
theorem dC_rowBits_43 : decode cC_rowBits 43 = .ok (.lload_n 2, 1) := by decide +kernel
theorem dC_rowBits_44 : decode cC_rowBits 44 = .ok (.lconst 1, 1) := by decide +kernel
theorem dC_rowBits_45 : decode cC_rowBits 45 = .ok (.iload 4, 2) := by decide +kernel
theorem dC_rowBits_47 : decode cC_rowBits 47 = .ok (.lshl, 1) := by decide +kernel
theorem dC_rowBits_48 : decode cC_rowBits 48 = .ok (.lor, 1) := by decide +kernel
theorem dC_rowBits_49 : decode cC_rowBits 49 = .ok (.lstore_n 2, 1) := by decide +kernel
theorem dC_rowBits_50 : decode cC_rowBits 50 = .ok (.iinc 4 1, 3) := by decide +kernel
theorem dC_rowBits_53 : decode cC_rowBits 53 = .ok (.goto (-31), 3) := by decide +kernel
theorem dC_rowBits_56 : decode cC_rowBits 56 = .ok (.lload_n 2, 1) := by decide +kernel
theorem dC_rowBits_57 : decode cC_rowBits 57 = .ok (.lreturn, 1) := by decide +kernel
theorem dC_bottomOf_0 : decode cC_bottomOf 0 = .ok (.bipush 64, 2) := by decide +kernel
theorem dC_bottomOf_2 : decode cC_bottomOf 2 = .ok (.bipush 63, 2) := by decide +kernel
theorem dC_bottomOf_4 : decode cC_bottomOf 4 = .ok (.iload_n 0, 1) := by decide +kernel
theorem dC_bottomOf_5 : decode cC_bottomOf 5 = .ok (.isub, 1) := by decide +kernel
theorem dC_bottomOf_6 : decode cC_bottomOf 6 = .ok (.imul, 1) := by decide +kernel
theorem dC_bottomOf_7 : decode cC_bottomOf 7 = .ok (.ireturn, 1) := by decide +kernel
theorem dC_wind_0 : decode cC_wind 0 = .ok (.aload_n 0, 1) := by decide +kernel
theorem dC_wind_1 : decode cC_wind 1 = .ok (.getfield 26, 3) := by decide +kernel
theorem dC_wind_4 : decode cC_wind 4 = .ok (.iconst 0, 1) := by decide +kernel
theorem dC_wind_5 : decode cC_wind 5 = .ok (.invokestatic 171, 3) := by decide +kernel
theorem dC_wind_8 : decode cC_wind 8 = .ok (.iconst 0, 1) := by decide +kernel
theorem dC_wind_9 : decode cC_wind 9 = .ok (.istore 5, 2) := by decide +kernel
theorem dC_wind_11 : decode cC_wind 11 = .ok (.iload 5, 2) := by decide +kernel
theorem dC_wind_13 : decode cC_wind 13 = .ok (.aload_n 0, 1) := by decide +kernel
theorem dC_wind_14 : decode cC_wind 14 = .ok (.getfield 43, 3) := by decide +kernel
theorem dC_wind_17 : decode cC_wind 17 = .ok (.if_icmp .ge 105, 3) := by decide +kernel
theorem dC_wind_20 : decode cC_wind 20 = .ok (.aload_n 0, 1) := by decide +kernel
theorem dC_wind_21 : decode cC_wind 21 = .ok (.getfield 22, 3) := by decide +kernel
theorem dC_wind_24 : decode cC_wind 24 = .ok (.iload 5, 2) := by decide +kernel
theorem dC_wind_26 : decode cC_wind 26 = .ok (.aaload, 1) := by decide +kernel
theorem dC_wind_27 : decode cC_wind 27 = .ok (.astore 6, 2) := by decide +kernel
theorem dC_wind_29 : decode cC_wind 29 = .ok (.aload 6, 2) := by decide +kernel
theorem dC_wind_31 : decode cC_wind 31 = .ok (.ifnull 85, 3) := by decide +kernel
theorem dC_wind_34 : decode cC_wind 34 = .ok (.aload 6, 2) := by decide +kernel
theorem dC_wind_36 : decode cC_wind 36 = .ok (.iload_n 1, 1) := by decide +kernel
theorem dC_wind_37 : decode cC_wind 37 = .ok (.iconst 1, 1) := by decide +kernel
theorem dC_wind_38 : decode cC_wind 38 = .ok (.invokevirtual 177, 3) := by decide +kernel
theorem dC_wind_41 : decode cC_wind 41 = .ok (.ifCond .eq 34, 3) := by decide +kernel
theorem dC_wind_44 : decode cC_wind 44 = .ok (.aload_n 0, 1) := by decide +kernel
theorem dC_wind_45 : decode cC_wind 45 = .ok (.getfield 32, 3) := by decide +kernel
theorem dC_wind_48 : decode cC_wind 48 = .ok (.aload 6, 2) := by decide +kernel
theorem dC_wind_50 : decode cC_wind 50 = .ok (.iload_n 1, 1) := by decide +kernel
theorem dC_wind_51 : decode cC_wind 51 = .ok (.iconst 1, 1) := by decide +kernel
theorem dC_wind_52 : decode cC_wind 52 = .ok (.invokevirtual 181, 3) := by decide +kernel
theorem dC_wind_55 : decode cC_wind 55 = .ok (.aload_n 0, 1) := by decide +kernel
theorem dC_wind_56 : decode cC_wind 56 = .ok (.getfield 26, 3) := by decide +kernel
theorem dC_wind_59 : decode cC_wind 59 = .ok (.aload_n 0, 1) := by decide +kernel
theorem dC_wind_60 : decode cC_wind 60 = .ok (.getfield 32, 3) := by decide +kernel
theorem dC_wind_63 : decode cC_wind 63 = .ok (.iload_n 2, 1) := by decide +kernel
theorem dC_wind_64 : decode cC_wind 64 = .ok (.iload_n 3, 1) := by decide +kernel
theorem dC_wind_65 : decode cC_wind 65 = .ok (.iload 4, 2) := by decide +kernel
theorem dC_wind_67 : decode cC_wind 67 = .ok (.invokevirtual 185, 3) := by decide +kernel
theorem dC_wind_70 : decode cC_wind 70 = .ok (.dup2, 1) := by decide +kernel
theorem dC_wind_71 : decode cC_wind 71 = .ok (.iaload, 1) := by decide +kernel
theorem dC_wind_72 : decode cC_wind 72 = .ok (.iconst 1, 1) := by decide +kernel
theorem dC_wind_73 : decode cC_wind 73 = .ok (.iadd, 1) := by decide +kernel
theorem dC_wind_74 : decode cC_wind 74 = .ok (.iastore, 1) := by decide +kernel
theorem dC_wind_75 : decode cC_wind 75 = .ok (.aload 6, 2) := by decide +kernel
theorem dC_wind_77 : decode cC_wind 77 = .ok (.iload_n 1, 1) := by decide +kernel
theorem dC_wind_78 : decode cC_wind 78 = .ok (.iconst 0, 1) := by decide +kernel
theorem dC_wind_79 : decode cC_wind 79 = .ok (.invokevirtual 177, 3) := by decide +kernel
theorem dC_wind_82 : decode cC_wind 82 = .ok (.ifCond .eq 34, 3) := by decide +kernel
theorem dC_wind_85 : decode cC_wind 85 = .ok (.aload_n 0, 1) := by decide +kernel
theorem dC_wind_86 : decode cC_wind 86 = .ok (.getfield 32, 3) := by decide +kernel
theorem dC_wind_89 : decode cC_wind 89 = .ok (.aload 6, 2) := by decide +kernel
theorem dC_wind_91 : decode cC_wind 91 = .ok (.iload_n 1, 1) := by decide +kernel
theorem dC_wind_92 : decode cC_wind 92 = .ok (.iconst 0, 1) := by decide +kernel
theorem dC_wind_93 : decode cC_wind 93 = .ok (.invokevirtual 181, 3) := by decide +kernel
theorem dC_wind_96 : decode cC_wind 96 = .ok (.aload_n 0, 1) := by decide +kernel
theorem dC_wind_97 : decode cC_wind 97 = .ok (.getfield 26, 3) := by decide +kernel
theorem dC_wind_100 : decode cC_wind 100 = .ok (.aload_n 0, 1) := by decide +kernel
theorem dC_wind_101 : decode cC_wind 101 = .ok (.getfield 32, 3) := by decide +kernel
theorem dC_wind_104 : decode cC_wind 104 = .ok (.iload_n 2, 1) := by decide +kernel
theorem dC_wind_105 : decode cC_wind 105 = .ok (.iload_n 3, 1) := by decide +kernel
theorem dC_wind_106 : decode cC_wind 106 = .ok (.iload 4, 2) := by decide +kernel
theorem dC_wind_108 : decode cC_wind 108 = .ok (.invokevirtual 185, 3) := by decide +kernel
theorem dC_wind_111 : decode cC_wind 111 = .ok (.dup2, 1) := by decide +kernel
theorem dC_wind_112 : decode cC_wind 112 = .ok (.iaload, 1) := by decide +kernel
theorem dC_wind_113 : decode cC_wind 113 = .ok (.iconst 1, 1) := by decide +kernel
theorem dC_wind_114 : decode cC_wind 114 = .ok (.isub, 1) := by decide +kernel
theorem dC_wind_115 : decode cC_wind 115 = .ok (.iastore, 1) := by decide +kernel
theorem dC_wind_116 : decode cC_wind 116 = .ok (.iinc 5 1, 3) := by decide +kernel
theorem dC_wind_119 : decode cC_wind 119 = .ok (.goto (-108), 3) := by decide +kernel
theorem dC_wind_122 : decode cC_wind 122 = .ok (.iconst 1, 1) := by decide +kernel
theorem dC_wind_123 : decode cC_wind 123 = .ok (.istore 5, 2) := by decide +kernel
theorem dC_wind_125 : decode cC_wind 125 = .ok (.iload 5, 2) := by decide +kernel
theorem dC_wind_127 : decode cC_wind 127 = .ok (.iload 4, 2) := by decide +kernel
theorem dC_wind_129 : decode cC_wind 129 = .ok (.if_icmp .ge 28, 3) := by decide +kernel
theorem dC_wind_132 : decode cC_wind 132 = .ok (.aload_n 0, 1) := by decide +kernel
theorem dC_wind_133 : decode cC_wind 133 = .ok (.getfield 26, 3) := by decide +kernel
theorem dC_wind_136 : decode cC_wind 136 = .ok (.iload 5, 2) := by decide +kernel
theorem dC_wind_138 : decode cC_wind 138 = .ok (.dup2, 1) := by decide +kernel
theorem dC_wind_139 : decode cC_wind 139 = .ok (.iaload, 1) := by decide +kernel
theorem dC_wind_140 : decode cC_wind 140 = .ok (.aload_n 0, 1) := by decide +kernel
theorem dC_wind_141 : decode cC_wind 141 = .ok (.getfield 26, 3) := by decide +kernel
theorem dC_wind_144 : decode cC_wind 144 = .ok (.iload 5, 2) := by decide +kernel
theorem dC_wind_146 : decode cC_wind 146 = .ok (.iconst 1, 1) := by decide +kernel
theorem dC_wind_147 : decode cC_wind 147 = .ok (.isub, 1) := by decide +kernel
theorem dC_wind_148 : decode cC_wind 148 = .ok (.iaload, 1) := by decide +kernel
theorem dC_wind_149 : decode cC_wind 149 = .ok (.iadd, 1) := by decide +kernel
theorem dC_wind_150 : decode cC_wind 150 = .ok (.iastore, 1) := by decide +kernel
theorem dC_wind_151 : decode cC_wind 151 = .ok (.iinc 5 1, 3) := by decide +kernel
theorem dC_wind_154 : decode cC_wind 154 = .ok (.goto (-29), 3) := by decide +kernel
theorem dC_wind_157 : decode cC_wind 157 = .ok (.return_, 1) := by decide +kernel
theorem dC_isIn_0 : decode cC_isIn 0 = .ok (.aload_n 0, 1) := by decide +kernel
theorem dC_isIn_1 : decode cC_isIn 1 = .ok (.getfield 46, 3) := by decide +kernel
theorem dC_isIn_4 : decode cC_isIn 4 = .ok (.ifCond .eq 17, 3) := by decide +kernel
theorem dC_isIn_7 : decode cC_isIn 7 = .ok (.iload_n 1, 1) := by decide +kernel
theorem dC_isIn_8 : decode cC_isIn 8 = .ok (.iconst 1, 1) := by decide +kernel
theorem dC_isIn_9 : decode cC_isIn 9 = .ok (.iand, 1) := by decide +kernel
theorem dC_isIn_10 : decode cC_isIn 10 = .ok (.ifCond .eq 7, 3) := by decide +kernel
theorem dC_isIn_13 : decode cC_isIn 13 = .ok (.iconst 1, 1) := by decide +kernel
theorem dC_isIn_14 : decode cC_isIn 14 = .ok (.goto 16, 3) := by decide +kernel
theorem dC_isIn_17 : decode cC_isIn 17 = .ok (.iconst 0, 1) := by decide +kernel
theorem dC_isIn_18 : decode cC_isIn 18 = .ok (.goto 12, 3) := by decide +kernel
theorem dC_isIn_21 : decode cC_isIn 21 = .ok (.iload_n 1, 1) := by decide +kernel
theorem dC_isIn_22 : decode cC_isIn 22 = .ok (.ifCond .eq 7, 3) := by decide +kernel
theorem dC_isIn_25 : decode cC_isIn 25 = .ok (.iconst 1, 1) := by decide +kernel
theorem dC_isIn_26 : decode cC_isIn 26 = .ok (.goto 4, 3) := by decide +kernel
theorem dC_isIn_29 : decode cC_isIn 29 = .ok (.iconst 0, 1) := by decide +kernel
theorem dC_isIn_30 : decode cC_isIn 30 = .ok (.ireturn, 1) := by decide +kernel
theorem dC_add_0 : decode cC_add 0 = .ok (.iload_n 1, 1) := by decide +kernel
theorem dC_add_1 : decode cC_add 1 = .ok (.i2l, 1) := by decide +kernel
theorem dC_add_2 : decode cC_add 2 = .ok (.invokestatic 50, 3) := by decide +kernel
theorem dC_add_5 : decode cC_add 5 = .ok (.ifCond .eq 11, 3) := by decide +kernel
theorem dC_add_8 : decode cC_add 8 = .ok (.iload_n 2, 1) := by decide +kernel
theorem dC_add_9 : decode cC_add 9 = .ok (.i2l, 1) := by decide +kernel
theorem dC_add_10 : decode cC_add 10 = .ok (.invokestatic 50, 3) := by decide +kernel
theorem dC_add_13 : decode cC_add 13 = .ok (.ifCond .ne 13, 3) := by decide +kernel
theorem dC_add_16 : decode cC_add 16 = .ok (.new 54, 3) := by decide +kernel
theorem dC_add_19 : decode cC_add 19 = .ok (.dup, 1) := by decide +kernel
theorem dC_add_20 : decode cC_add 20 = .ok (.ldc 56, 2) := by decide +kernel
theorem dC_add_22 : decode cC_add 22 = .ok (.invokespecial 58, 3) := by decide +kernel
theorem dC_add_25 : decode cC_add 25 = .ok (.athrow, 1) := by decide +kernel
theorem dC_add_26 : decode cC_add 26 = .ok (.aload_n 0, 1) := by decide +kernel
theorem dC_add_27 : decode cC_add 27 = .ok (.getfield 40, 3) := by decide +kernel
theorem dC_add_30 : decode cC_add 30 = .ok (.sipush 512, 3) := by decide +kernel
theorem dC_add_33 : decode cC_add 33 = .ok (.if_icmp .lt 13, 3) := by decide +kernel
theorem dC_add_36 : decode cC_add 36 = .ok (.new 61, 3) := by decide +kernel
theorem dC_add_39 : decode cC_add 39 = .ok (.dup, 1) := by decide +kernel
theorem dC_add_40 : decode cC_add 40 = .ok (.ldc 63, 2) := by decide +kernel
theorem dC_add_42 : decode cC_add 42 = .ok (.invokespecial 65, 3) := by decide +kernel
theorem dC_add_45 : decode cC_add 45 = .ok (.athrow, 1) := by decide +kernel
theorem dC_add_46 : decode cC_add 46 = .ok (.aload_n 0, 1) := by decide +kernel
theorem dC_add_47 : decode cC_add 47 = .ok (.getfield 9, 3) := by decide +kernel
theorem dC_add_50 : decode cC_add 50 = .ok (.aload_n 0, 1) := by decide +kernel
theorem dC_add_51 : decode cC_add 51 = .ok (.getfield 40, 3) := by decide +kernel
theorem dC_add_54 : decode cC_add 54 = .ok (.iload_n 1, 1) := by decide +kernel
theorem dC_add_55 : decode cC_add 55 = .ok (.iastore, 1) := by decide +kernel
theorem dC_add_56 : decode cC_add 56 = .ok (.aload_n 0, 1) := by decide +kernel
theorem dC_add_57 : decode cC_add 57 = .ok (.getfield 13, 3) := by decide +kernel
theorem dC_add_60 : decode cC_add 60 = .ok (.aload_n 0, 1) := by decide +kernel
theorem dC_add_61 : decode cC_add 61 = .ok (.getfield 40, 3) := by decide +kernel
theorem dC_add_64 : decode cC_add 64 = .ok (.iload_n 2, 1) := by decide +kernel
theorem dC_add_65 : decode cC_add 65 = .ok (.iastore, 1) := by decide +kernel
theorem dC_add_66 : decode cC_add 66 = .ok (.aload_n 0, 1) := by decide +kernel
theorem dC_add_67 : decode cC_add 67 = .ok (.getfield 16, 3) := by decide +kernel
theorem dC_add_70 : decode cC_add 70 = .ok (.aload_n 0, 1) := by decide +kernel
theorem dC_add_71 : decode cC_add 71 = .ok (.getfield 40, 3) := by decide +kernel
theorem dC_add_74 : decode cC_add 74 = .ok (.iload_n 3, 1) := by decide +kernel
theorem dC_add_75 : decode cC_add 75 = .ok (.bastore, 1) := by decide +kernel
theorem dC_add_76 : decode cC_add 76 = .ok (.aload_n 0, 1) := by decide +kernel
theorem dC_add_77 : decode cC_add 77 = .ok (.dup, 1) := by decide +kernel
theorem dC_add_78 : decode cC_add 78 = .ok (.getfield 40, 3) := by decide +kernel
theorem dC_add_81 : decode cC_add 81 = .ok (.iconst 1, 1) := by decide +kernel
theorem dC_add_82 : decode cC_add 82 = .ok (.iadd, 1) := by decide +kernel
theorem dC_add_83 : decode cC_add 83 = .ok (.putfield 40, 3) := by decide +kernel
theorem dC_add_86 : decode cC_add 86 = .ok (.aload_n 0, 1) := by decide +kernel
theorem dC_add_87 : decode cC_add 87 = .ok (.getfield 40, 3) := by decide +kernel
theorem dC_add_90 : decode cC_add 90 = .ok (.aload_n 0, 1) := by decide +kernel
theorem dC_add_91 : decode cC_add 91 = .ok (.getfield 43, 3) := by decide +kernel
theorem dC_add_94 : decode cC_add 94 = .ok (.isub, 1) := by decide +kernel
theorem dC_add_95 : decode cC_add 95 = .ok (.ireturn, 1) := by decide +kernel
theorem dC_canBeTold_0 : decode cC_canBeTold 0 = .ok (.lload_n 0, 1) := by decide +kernel
theorem dC_canBeTold_1 : decode cC_canBeTold 1 = .ok (.ldc2_w 152, 3) := by decide +kernel
theorem dC_canBeTold_4 : decode cC_canBeTold 4 = .ok (.lcmp, 1) := by decide +kernel
theorem dC_canBeTold_5 : decode cC_canBeTold 5 = .ok (.ifCond .lt 15, 3) := by decide +kernel
theorem dC_canBeTold_8 : decode cC_canBeTold 8 = .ok (.lload_n 0, 1) := by decide +kernel
theorem dC_canBeTold_9 : decode cC_canBeTold 9 = .ok (.ldc2_w 154, 3) := by decide +kernel
theorem dC_canBeTold_12 : decode cC_canBeTold 12 = .ok (.lcmp, 1) := by decide +kernel
theorem dC_canBeTold_13 : decode cC_canBeTold 13 = .ok (.ifCond .gt 7, 3) := by decide +kernel
theorem dC_canBeTold_16 : decode cC_canBeTold 16 = .ok (.iconst 1, 1) := by decide +kernel
theorem dC_canBeTold_17 : decode cC_canBeTold 17 = .ok (.goto 4, 3) := by decide +kernel
theorem dC_canBeTold_20 : decode cC_canBeTold 20 = .ok (.iconst 0, 1) := by decide +kernel
theorem dC_canBeTold_21 : decode cC_canBeTold 21 = .ok (.ireturn, 1) := by decide +kernel
theorem dC_close_0 : decode cC_close 0 = .ok (.aload_n 0, 1) := by decide +kernel
theorem dC_close_1 : decode cC_close 1 = .ok (.getfield 40, 3) := by decide +kernel
theorem dC_close_4 : decode cC_close 4 = .ok (.aload_n 0, 1) := by decide +kernel
theorem dC_close_5 : decode cC_close 5 = .ok (.getfield 43, 3) := by decide +kernel
theorem dC_close_8 : decode cC_close 8 = .ok (.if_icmp .ne 13, 3) := by decide +kernel
theorem dC_close_11 : decode cC_close 11 = .ok (.new 61, 3) := by decide +kernel
theorem dC_close_14 : decode cC_close 14 = .ok (.dup, 1) := by decide +kernel
theorem dC_close_15 : decode cC_close 15 = .ok (.ldc 66, 2) := by decide +kernel
theorem dC_close_17 : decode cC_close 17 = .ok (.invokespecial 65, 3) := by decide +kernel
theorem dC_close_20 : decode cC_close 20 = .ok (.athrow, 1) := by decide +kernel
theorem dC_close_21 : decode cC_close 21 = .ok (.aload_n 0, 1) := by decide +kernel
theorem dC_close_22 : decode cC_close 22 = .ok (.getfield 36, 3) := by decide +kernel
theorem dC_close_25 : decode cC_close 25 = .ok (.bipush 64, 2) := by decide +kernel
theorem dC_close_27 : decode cC_close 27 = .ok (.if_icmp .lt 13, 3) := by decide +kernel
theorem dC_close_30 : decode cC_close 30 = .ok (.new 61, 3) := by decide +kernel
theorem dC_close_33 : decode cC_close 33 = .ok (.dup, 1) := by decide +kernel
theorem dC_close_34 : decode cC_close 34 = .ok (.ldc 68, 2) := by decide +kernel
theorem dC_close_36 : decode cC_close 36 = .ok (.invokespecial 65, 3) := by decide +kernel
theorem dC_close_39 : decode cC_close 39 = .ok (.athrow, 1) := by decide +kernel
theorem dC_close_40 : decode cC_close 40 = .ok (.aload_n 0, 1) := by decide +kernel
theorem dC_close_41 : decode cC_close 41 = .ok (.getfield 43, 3) := by decide +kernel
theorem dC_close_44 : decode cC_close 44 = .ok (.istore_n 1, 1) := by decide +kernel
theorem dC_close_45 : decode cC_close 45 = .ok (.iload_n 1, 1) := by decide +kernel
theorem dC_close_46 : decode cC_close 46 = .ok (.aload_n 0, 1) := by decide +kernel
theorem dC_close_47 : decode cC_close 47 = .ok (.getfield 40, 3) := by decide +kernel
theorem dC_close_50 : decode cC_close 50 = .ok (.if_icmp .ge 20, 3) := by decide +kernel
theorem dC_close_53 : decode cC_close 53 = .ok (.aload_n 0, 1) := by decide +kernel
theorem dC_close_54 : decode cC_close 54 = .ok (.getfield 22, 3) := by decide +kernel
theorem dC_close_57 : decode cC_close 57 = .ok (.iload_n 1, 1) := by decide +kernel
theorem dC_close_58 : decode cC_close 58 = .ok (.aload_n 0, 1) := by decide +kernel
theorem dC_close_59 : decode cC_close 59 = .ok (.iload_n 1, 1) := by decide +kernel
theorem dC_close_60 : decode cC_close 60 = .ok (.invokevirtual 70, 3) := by decide +kernel
theorem dC_close_63 : decode cC_close 63 = .ok (.aastore, 1) := by decide +kernel
theorem dC_close_64 : decode cC_close 64 = .ok (.iinc 1 1, 3) := by decide +kernel
theorem dC_close_67 : decode cC_close 67 = .ok (.goto (-22), 3) := by decide +kernel
theorem dC_close_70 : decode cC_close 70 = .ok (.aload_n 0, 1) := by decide +kernel
theorem dC_close_71 : decode cC_close 71 = .ok (.aload_n 0, 1) := by decide +kernel
theorem dC_close_72 : decode cC_close 72 = .ok (.getfield 40, 3) := by decide +kernel
theorem dC_close_75 : decode cC_close 75 = .ok (.putfield 43, 3) := by decide +kernel
theorem dC_close_78 : decode cC_close 78 = .ok (.aload_n 0, 1) := by decide +kernel
theorem dC_close_79 : decode cC_close 79 = .ok (.dup, 1) := by decide +kernel
theorem dC_close_80 : decode cC_close 80 = .ok (.getfield 36, 3) := by decide +kernel
theorem dC_close_83 : decode cC_close 83 = .ok (.iconst 1, 1) := by decide +kernel
theorem dC_close_84 : decode cC_close 84 = .ok (.iadd, 1) := by decide +kernel
theorem dC_close_85 : decode cC_close 85 = .ok (.putfield 36, 3) := by decide +kernel
theorem dC_close_88 : decode cC_close 88 = .ok (.aload_n 0, 1) := by decide +kernel
theorem dC_close_89 : decode cC_close 89 = .ok (.getfield 36, 3) := by decide +kernel
theorem dC_close_92 : decode cC_close 92 = .ok (.ireturn, 1) := by decide +kernel
theorem dC_pieceOf_0 : decode cC_pieceOf 0 = .ok (.iload_n 1, 1) := by decide +kernel
theorem dC_pieceOf_1 : decode cC_pieceOf 1 = .ok (.aload_n 0, 1) := by decide +kernel
theorem dC_pieceOf_2 : decode cC_pieceOf 2 = .ok (.getfield 43, 3) := by decide +kernel
theorem dC_pieceOf_5 : decode cC_pieceOf 5 = .ok (.if_icmp .le 9, 3) := by decide +kernel
theorem dC_pieceOf_8 : decode cC_pieceOf 8 = .ok (.iload_n 1, 1) := by decide +kernel
theorem dC_pieceOf_9 : decode cC_pieceOf 9 = .ok (.iconst 1, 1) := by decide +kernel
theorem dC_pieceOf_10 : decode cC_pieceOf 10 = .ok (.isub, 1) := by decide +kernel
theorem dC_pieceOf_11 : decode cC_pieceOf 11 = .ok (.goto 9, 3) := by decide +kernel
theorem dC_pieceOf_14 : decode cC_pieceOf 14 = .ok (.aload_n 0, 1) := by decide +kernel
theorem dC_pieceOf_15 : decode cC_pieceOf 15 = .ok (.getfield 40, 3) := by decide +kernel
theorem dC_pieceOf_18 : decode cC_pieceOf 18 = .ok (.iconst 1, 1) := by decide +kernel
theorem dC_pieceOf_19 : decode cC_pieceOf 19 = .ok (.isub, 1) := by decide +kernel
theorem dC_pieceOf_20 : decode cC_pieceOf 20 = .ok (.istore_n 2, 1) := by decide +kernel
theorem dC_pieceOf_21 : decode cC_pieceOf 21 = .ok (.iload_n 1, 1) := by decide +kernel
theorem dC_pieceOf_22 : decode cC_pieceOf 22 = .ok (.iconst 1, 1) := by decide +kernel
theorem dC_pieceOf_23 : decode cC_pieceOf 23 = .ok (.iadd, 1) := by decide +kernel
theorem dC_pieceOf_24 : decode cC_pieceOf 24 = .ok (.aload_n 0, 1) := by decide +kernel
theorem dC_pieceOf_25 : decode cC_pieceOf 25 = .ok (.getfield 40, 3) := by decide +kernel
theorem dC_pieceOf_28 : decode cC_pieceOf 28 = .ok (.if_icmp .ge 9, 3) := by decide +kernel
theorem dC_pieceOf_31 : decode cC_pieceOf 31 = .ok (.iload_n 1, 1) := by decide +kernel
theorem dC_pieceOf_32 : decode cC_pieceOf 32 = .ok (.iconst 1, 1) := by decide +kernel
theorem dC_pieceOf_33 : decode cC_pieceOf 33 = .ok (.iadd, 1) := by decide +kernel
theorem dC_pieceOf_34 : decode cC_pieceOf 34 = .ok (.goto 7, 3) := by decide +kernel
theorem dC_pieceOf_37 : decode cC_pieceOf 37 = .ok (.aload_n 0, 1) := by decide +kernel
theorem dC_pieceOf_38 : decode cC_pieceOf 38 = .ok (.getfield 43, 3) := by decide +kernel
theorem dC_pieceOf_41 : decode cC_pieceOf 41 = .ok (.istore_n 3, 1) := by decide +kernel
theorem dC_pieceOf_42 : decode cC_pieceOf 42 = .ok (.aload_n 0, 1) := by decide +kernel
theorem dC_pieceOf_43 : decode cC_pieceOf 43 = .ok (.getfield 9, 3) := by decide +kernel
theorem dC_pieceOf_46 : decode cC_pieceOf 46 = .ok (.iload_n 1, 1) := by decide +kernel
theorem dC_pieceOf_47 : decode cC_pieceOf 47 = .ok (.iaload, 1) := by decide +kernel
theorem dC_pieceOf_48 : decode cC_pieceOf 48 = .ok (.istore 4, 2) := by decide +kernel
theorem dC_pieceOf_50 : decode cC_pieceOf 50 = .ok (.aload_n 0, 1) := by decide +kernel
theorem dC_pieceOf_51 : decode cC_pieceOf 51 = .ok (.getfield 13, 3) := by decide +kernel
theorem dC_pieceOf_54 : decode cC_pieceOf 54 = .ok (.iload_n 1, 1) := by decide +kernel
theorem dC_pieceOf_55 : decode cC_pieceOf 55 = .ok (.iaload, 1) := by decide +kernel
theorem dC_pieceOf_56 : decode cC_pieceOf 56 = .ok (.istore 5, 2) := by decide +kernel
theorem dC_pieceOf_58 : decode cC_pieceOf 58 = .ok (.aload_n 0, 1) := by decide +kernel
theorem dC_pieceOf_59 : decode cC_pieceOf 59 = .ok (.getfield 16, 3) := by decide +kernel
theorem dC_pieceOf_62 : decode cC_pieceOf 62 = .ok (.iload_n 1, 1) := by decide +kernel
theorem dC_pieceOf_63 : decode cC_pieceOf 63 = .ok (.baload, 1) := by decide +kernel
theorem dC_pieceOf_64 : decode cC_pieceOf 64 = .ok (.ifCond .ne 56, 3) := by decide +kernel
theorem dC_pieceOf_67 : decode cC_pieceOf 67 = .ok (.new 20, 3) := by decide +kernel
theorem dC_pieceOf_70 : decode cC_pieceOf 70 = .ok (.dup, 1) := by decide +kernel
theorem dC_pieceOf_71 : decode cC_pieceOf 71 = .ok (.aload_n 0, 1) := by decide +kernel
theorem dC_pieceOf_72 : decode cC_pieceOf 72 = .ok (.aload_n 0, 1) := by decide +kernel
theorem dC_pieceOf_73 : decode cC_pieceOf 73 = .ok (.getfield 9, 3) := by decide +kernel
theorem dC_pieceOf_76 : decode cC_pieceOf 76 = .ok (.iload_n 1, 1) := by decide +kernel
theorem dC_pieceOf_77 : decode cC_pieceOf 77 = .ok (.iload_n 2, 1) := by decide +kernel
theorem dC_pieceOf_78 : decode cC_pieceOf 78 = .ok (.invokevirtual 156, 3) := by decide +kernel
theorem dC_pieceOf_81 : decode cC_pieceOf 81 = .ok (.aload_n 0, 1) := by decide +kernel
theorem dC_pieceOf_82 : decode cC_pieceOf 82 = .ok (.aload_n 0, 1) := by decide +kernel
theorem dC_pieceOf_83 : decode cC_pieceOf 83 = .ok (.getfield 13, 3) := by decide +kernel
theorem dC_pieceOf_86 : decode cC_pieceOf 86 = .ok (.iload_n 1, 1) := by decide +kernel
theorem dC_pieceOf_87 : decode cC_pieceOf 87 = .ok (.iload_n 2, 1) := by decide +kernel
theorem dC_pieceOf_88 : decode cC_pieceOf 88 = .ok (.invokevirtual 156, 3) := by decide +kernel
theorem dC_pieceOf_91 : decode cC_pieceOf 91 = .ok (.iload 4, 2) := by decide +kernel
theorem dC_pieceOf_93 : decode cC_pieceOf 93 = .ok (.iload 5, 2) := by decide +kernel
