/-! decode rows -/
theorem dP_crosses_0 : decode cP_crosses 0 = .ok (.aload_n 0, 1) := by decide +kernel
theorem dP_crosses_1 : decode cP_crosses 1 = .ok (.getfield 17, 3) := by decide +kernel
theorem dP_crosses_4 : decode cP_crosses 4 = .ok (.iload_n 1, 1) := by decide +kernel
theorem dP_crosses_5 : decode cP_crosses 5 = .ok (.if_icmp .le 7, 3) := by decide +kernel
theorem dP_crosses_8 : decode cP_crosses 8 = .ok (.iconst 1, 1) := by decide +kernel
theorem dP_crosses_9 : decode cP_crosses 9 = .ok (.goto 4, 3) := by decide +kernel
theorem dP_crosses_12 : decode cP_crosses 12 = .ok (.iconst 0, 1) := by decide +kernel
theorem dP_crosses_13 : decode cP_crosses 13 = .ok (.istore_n 3, 1) := by decide +kernel
theorem dP_crosses_14 : decode cP_crosses 14 = .ok (.aload_n 0, 1) := by decide +kernel
theorem dP_crosses_15 : decode cP_crosses 15 = .ok (.getfield 29, 3) := by decide +kernel
theorem dP_crosses_18 : decode cP_crosses 18 = .ok (.iload_n 1, 1) := by decide +kernel
theorem dP_crosses_19 : decode cP_crosses 19 = .ok (.if_icmp .le 7, 3) := by decide +kernel
theorem dP_crosses_22 : decode cP_crosses 22 = .ok (.iconst 1, 1) := by decide +kernel
theorem dP_crosses_23 : decode cP_crosses 23 = .ok (.goto 4, 3) := by decide +kernel
theorem dP_crosses_26 : decode cP_crosses 26 = .ok (.iconst 0, 1) := by decide +kernel
theorem dP_crosses_27 : decode cP_crosses 27 = .ok (.istore 4, 2) := by decide +kernel
theorem dP_crosses_29 : decode cP_crosses 29 = .ok (.iload_n 3, 1) := by decide +kernel
theorem dP_crosses_30 : decode cP_crosses 30 = .ok (.iload 4, 2) := by decide +kernel
theorem dP_crosses_32 : decode cP_crosses 32 = .ok (.if_icmp .eq 15, 3) := by decide +kernel
theorem dP_crosses_35 : decode cP_crosses 35 = .ok (.iload 4, 2) := by decide +kernel
theorem dP_crosses_37 : decode cP_crosses 37 = .ok (.iload_n 2, 1) := by decide +kernel
theorem dP_crosses_38 : decode cP_crosses 38 = .ok (.if_icmp .ne 7, 3) := by decide +kernel
theorem dP_crosses_41 : decode cP_crosses 41 = .ok (.iconst 1, 1) := by decide +kernel
theorem dP_crosses_42 : decode cP_crosses 42 = .ok (.goto 4, 3) := by decide +kernel
theorem dP_crosses_45 : decode cP_crosses 45 = .ok (.iconst 0, 1) := by decide +kernel
theorem dP_crosses_46 : decode cP_crosses 46 = .ok (.ireturn, 1) := by decide +kernel
theorem dP_crosses_47 : decode cP_crosses 47 = .ok (.aload_n 0, 1) := by decide +kernel
theorem dP_crosses_48 : decode cP_crosses 48 = .ok (.getfield 23, 3) := by decide +kernel
theorem dP_crosses_51 : decode cP_crosses 51 = .ok (.iload_n 1, 1) := by decide +kernel
theorem dP_crosses_52 : decode cP_crosses 52 = .ok (.if_icmp .le 7, 3) := by decide +kernel
theorem dP_crosses_55 : decode cP_crosses 55 = .ok (.iconst 1, 1) := by decide +kernel
theorem dP_crosses_56 : decode cP_crosses 56 = .ok (.goto 4, 3) := by decide +kernel
theorem dP_crosses_59 : decode cP_crosses 59 = .ok (.iconst 0, 1) := by decide +kernel
theorem dP_crosses_60 : decode cP_crosses 60 = .ok (.iload_n 3, 1) := by decide +kernel
theorem dP_crosses_61 : decode cP_crosses 61 = .ok (.if_icmp .eq 17, 3) := by decide +kernel
theorem dP_crosses_64 : decode cP_crosses 64 = .ok (.aload_n 0, 1) := by decide +kernel
theorem dP_crosses_65 : decode cP_crosses 65 = .ok (.iload_n 1, 1) := by decide +kernel
theorem dP_crosses_66 : decode cP_crosses 66 = .ok (.invokevirtual 44, 3) := by decide +kernel
theorem dP_crosses_69 : decode cP_crosses 69 = .ok (.lconst 0, 1) := by decide +kernel
theorem dP_crosses_70 : decode cP_crosses 70 = .ok (.lcmp, 1) := by decide +kernel
theorem dP_crosses_71 : decode cP_crosses 71 = .ok (.ifCond .le 7, 3) := by decide +kernel
theorem dP_crosses_74 : decode cP_crosses 74 = .ok (.iconst 1, 1) := by decide +kernel
theorem dP_crosses_75 : decode cP_crosses 75 = .ok (.goto 4, 3) := by decide +kernel
theorem dP_crosses_78 : decode cP_crosses 78 = .ok (.iconst 0, 1) := by decide +kernel
theorem dP_crosses_79 : decode cP_crosses 79 = .ok (.ireturn, 1) := by decide +kernel
theorem dP_underRoot_0 : decode cP_underRoot 0 = .ok (.aload_n 0, 1) := by decide +kernel
theorem dP_underRoot_1 : decode cP_underRoot 1 = .ok (.getfield 41, 3) := by decide +kernel
theorem dP_underRoot_4 : decode cP_underRoot 4 = .ok (.i2l, 1) := by decide +kernel
theorem dP_underRoot_5 : decode cP_underRoot 5 = .ok (.aload_n 0, 1) := by decide +kernel
theorem dP_underRoot_6 : decode cP_underRoot 6 = .ok (.getfield 41, 3) := by decide +kernel
theorem dP_underRoot_9 : decode cP_underRoot 9 = .ok (.i2l, 1) := by decide +kernel
theorem dP_underRoot_10 : decode cP_underRoot 10 = .ok (.lmul, 1) := by decide +kernel
theorem dP_underRoot_11 : decode cP_underRoot 11 = .ok (.ldc2_w 48, 3) := by decide +kernel
theorem dP_underRoot_14 : decode cP_underRoot 14 = .ok (.aload_n 0, 1) := by decide +kernel
theorem dP_underRoot_15 : decode cP_underRoot 15 = .ok (.getfield 35, 3) := by decide +kernel
theorem dP_underRoot_18 : decode cP_underRoot 18 = .ok (.i2l, 1) := by decide +kernel
theorem dP_underRoot_19 : decode cP_underRoot 19 = .ok (.lmul, 1) := by decide +kernel
theorem dP_underRoot_20 : decode cP_underRoot 20 = .ok (.aload_n 0, 1) := by decide +kernel
theorem dP_underRoot_21 : decode cP_underRoot 21 = .ok (.getfield 17, 3) := by decide +kernel
theorem dP_underRoot_24 : decode cP_underRoot 24 = .ok (.iload_n 1, 1) := by decide +kernel
theorem dP_underRoot_25 : decode cP_underRoot 25 = .ok (.isub, 1) := by decide +kernel
theorem dP_underRoot_26 : decode cP_underRoot 26 = .ok (.i2l, 1) := by decide +kernel
theorem dP_underRoot_27 : decode cP_underRoot 27 = .ok (.lmul, 1) := by decide +kernel
theorem dP_underRoot_28 : decode cP_underRoot 28 = .ok (.lsub, 1) := by decide +kernel
theorem dP_underRoot_29 : decode cP_underRoot 29 = .ok (.lreturn, 1) := by decide +kernel
theorem dP_init_0 : decode cP_init 0 = .ok (.aload_n 0, 1) := by decide +kernel
theorem dP_init_1 : decode cP_init 1 = .ok (.invokespecial 1, 3) := by decide +kernel
theorem dP_init_4 : decode cP_init 4 = .ok (.aload_n 0, 1) := by decide +kernel
theorem dP_init_5 : decode cP_init 5 = .ok (.iload 7, 2) := by decide +kernel
theorem dP_init_7 : decode cP_init 7 = .ok (.putfield 7, 3) := by decide +kernel
theorem dP_init_10 : decode cP_init 10 = .ok (.aload_n 0, 1) := by decide +kernel
theorem dP_init_11 : decode cP_init 11 = .ok (.iload_n 1, 1) := by decide +kernel
theorem dP_init_12 : decode cP_init 12 = .ok (.putfield 13, 3) := by decide +kernel
theorem dP_init_15 : decode cP_init 15 = .ok (.aload_n 0, 1) := by decide +kernel
theorem dP_init_16 : decode cP_init 16 = .ok (.iload_n 2, 1) := by decide +kernel
theorem dP_init_17 : decode cP_init 17 = .ok (.putfield 17, 3) := by decide +kernel
theorem dP_init_20 : decode cP_init 20 = .ok (.aload_n 0, 1) := by decide +kernel
theorem dP_init_21 : decode cP_init 21 = .ok (.iload_n 3, 1) := by decide +kernel
theorem dP_init_22 : decode cP_init 22 = .ok (.putfield 20, 3) := by decide +kernel
theorem dP_init_25 : decode cP_init 25 = .ok (.aload_n 0, 1) := by decide +kernel
theorem dP_init_26 : decode cP_init 26 = .ok (.iload 4, 2) := by decide +kernel
theorem dP_init_28 : decode cP_init 28 = .ok (.putfield 23, 3) := by decide +kernel
theorem dP_init_31 : decode cP_init 31 = .ok (.aload_n 0, 1) := by decide +kernel
theorem dP_init_32 : decode cP_init 32 = .ok (.iload 5, 2) := by decide +kernel
theorem dP_init_34 : decode cP_init 34 = .ok (.putfield 26, 3) := by decide +kernel
theorem dP_init_37 : decode cP_init 37 = .ok (.aload_n 0, 1) := by decide +kernel
theorem dP_init_38 : decode cP_init 38 = .ok (.iload 6, 2) := by decide +kernel
theorem dP_init_40 : decode cP_init 40 = .ok (.putfield 29, 3) := by decide +kernel
theorem dP_init_43 : decode cP_init 43 = .ok (.aload_n 0, 1) := by decide +kernel
theorem dP_init_44 : decode cP_init 44 = .ok (.iload 7, 2) := by decide +kernel
theorem dP_init_46 : decode cP_init 46 = .ok (.ifCond .eq 7, 3) := by decide +kernel
theorem dP_init_49 : decode cP_init 49 = .ok (.iconst 0, 1) := by decide +kernel
theorem dP_init_50 : decode cP_init 50 = .ok (.goto 11, 3) := by decide +kernel
theorem dP_init_53 : decode cP_init 53 = .ok (.iload_n 1, 1) := by decide +kernel
theorem dP_init_54 : decode cP_init 54 = .ok (.iconst 2, 1) := by decide +kernel
theorem dP_init_55 : decode cP_init 55 = .ok (.iload_n 3, 1) := by decide +kernel
theorem dP_init_56 : decode cP_init 56 = .ok (.imul, 1) := by decide +kernel
theorem dP_init_57 : decode cP_init 57 = .ok (.isub, 1) := by decide +kernel
theorem dP_init_58 : decode cP_init 58 = .ok (.iload 5, 2) := by decide +kernel
theorem dP_init_60 : decode cP_init 60 = .ok (.iadd, 1) := by decide +kernel
theorem dP_init_61 : decode cP_init 61 = .ok (.putfield 32, 3) := by decide +kernel
theorem dP_init_64 : decode cP_init 64 = .ok (.aload_n 0, 1) := by decide +kernel
theorem dP_init_65 : decode cP_init 65 = .ok (.iload 7, 2) := by decide +kernel
theorem dP_init_67 : decode cP_init 67 = .ok (.ifCond .eq 7, 3) := by decide +kernel
theorem dP_init_70 : decode cP_init 70 = .ok (.iconst 0, 1) := by decide +kernel
theorem dP_init_71 : decode cP_init 71 = .ok (.goto 12, 3) := by decide +kernel
theorem dP_init_74 : decode cP_init 74 = .ok (.iload_n 2, 1) := by decide +kernel
theorem dP_init_75 : decode cP_init 75 = .ok (.iconst 2, 1) := by decide +kernel
theorem dP_init_76 : decode cP_init 76 = .ok (.iload 4, 2) := by decide +kernel
theorem dP_init_78 : decode cP_init 78 = .ok (.imul, 1) := by decide +kernel
theorem dP_init_79 : decode cP_init 79 = .ok (.isub, 1) := by decide +kernel
theorem dP_init_80 : decode cP_init 80 = .ok (.iload 6, 2) := by decide +kernel
theorem dP_init_82 : decode cP_init 82 = .ok (.iadd, 1) := by decide +kernel
theorem dP_init_83 : decode cP_init 83 = .ok (.putfield 35, 3) := by decide +kernel
theorem dP_init_86 : decode cP_init 86 = .ok (.aload_n 0, 1) := by decide +kernel
theorem dP_init_87 : decode cP_init 87 = .ok (.iload 7, 2) := by decide +kernel
theorem dP_init_89 : decode cP_init 89 = .ok (.ifCond .eq 10, 3) := by decide +kernel
theorem dP_init_92 : decode cP_init 92 = .ok (.iload 5, 2) := by decide +kernel
theorem dP_init_94 : decode cP_init 94 = .ok (.iload_n 1, 1) := by decide +kernel
theorem dP_init_95 : decode cP_init 95 = .ok (.isub, 1) := by decide +kernel
theorem dP_init_96 : decode cP_init 96 = .ok (.goto 8, 3) := by decide +kernel
theorem dP_init_99 : decode cP_init 99 = .ok (.iconst 2, 1) := by decide +kernel
theorem dP_init_100 : decode cP_init 100 = .ok (.iload_n 3, 1) := by decide +kernel
theorem dP_init_101 : decode cP_init 101 = .ok (.iload_n 1, 1) := by decide +kernel
theorem dP_init_102 : decode cP_init 102 = .ok (.isub, 1) := by decide +kernel
theorem dP_init_103 : decode cP_init 103 = .ok (.imul, 1) := by decide +kernel
theorem dP_init_104 : decode cP_init 104 = .ok (.putfield 38, 3) := by decide +kernel
theorem dP_init_107 : decode cP_init 107 = .ok (.aload_n 0, 1) := by decide +kernel
theorem dP_init_108 : decode cP_init 108 = .ok (.iload 7, 2) := by decide +kernel
theorem dP_init_110 : decode cP_init 110 = .ok (.ifCond .eq 10, 3) := by decide +kernel
theorem dP_init_113 : decode cP_init 113 = .ok (.iload 6, 2) := by decide +kernel
theorem dP_init_115 : decode cP_init 115 = .ok (.iload_n 2, 1) := by decide +kernel
theorem dP_init_116 : decode cP_init 116 = .ok (.isub, 1) := by decide +kernel
theorem dP_init_117 : decode cP_init 117 = .ok (.goto 9, 3) := by decide +kernel
theorem dP_init_120 : decode cP_init 120 = .ok (.iconst 2, 1) := by decide +kernel
theorem dP_init_121 : decode cP_init 121 = .ok (.iload 4, 2) := by decide +kernel
theorem dP_init_123 : decode cP_init 123 = .ok (.iload_n 2, 1) := by decide +kernel
theorem dP_init_124 : decode cP_init 124 = .ok (.isub, 1) := by decide +kernel
theorem dP_init_125 : decode cP_init 125 = .ok (.imul, 1) := by decide +kernel
theorem dP_init_126 : decode cP_init 126 = .ok (.putfield 41, 3) := by decide +kernel
theorem dP_init_129 : decode cP_init 129 = .ok (.return_, 1) := by decide +kernel
theorem dP_shift_0 : decode cP_shift 0 = .ok (.aload_n 0, 1) := by decide +kernel
theorem dP_shift_1 : decode cP_shift 1 = .ok (.dup, 1) := by decide +kernel
theorem dP_shift_2 : decode cP_shift 2 = .ok (.getfield 13, 3) := by decide +kernel
theorem dP_shift_5 : decode cP_shift 5 = .ok (.iload_n 1, 1) := by decide +kernel
theorem dP_shift_6 : decode cP_shift 6 = .ok (.iadd, 1) := by decide +kernel
theorem dP_shift_7 : decode cP_shift 7 = .ok (.putfield 13, 3) := by decide +kernel
theorem dP_shift_10 : decode cP_shift 10 = .ok (.aload_n 0, 1) := by decide +kernel
theorem dP_shift_11 : decode cP_shift 11 = .ok (.dup, 1) := by decide +kernel
theorem dP_shift_12 : decode cP_shift 12 = .ok (.getfield 17, 3) := by decide +kernel
theorem dP_shift_15 : decode cP_shift 15 = .ok (.iload_n 2, 1) := by decide +kernel
theorem dP_shift_16 : decode cP_shift 16 = .ok (.iadd, 1) := by decide +kernel
theorem dP_shift_17 : decode cP_shift 17 = .ok (.putfield 17, 3) := by decide +kernel
theorem dP_shift_20 : decode cP_shift 20 = .ok (.aload_n 0, 1) := by decide +kernel
theorem dP_shift_21 : decode cP_shift 21 = .ok (.dup, 1) := by decide +kernel
theorem dP_shift_22 : decode cP_shift 22 = .ok (.getfield 20, 3) := by decide +kernel
theorem dP_shift_25 : decode cP_shift 25 = .ok (.iload_n 1, 1) := by decide +kernel
theorem dP_shift_26 : decode cP_shift 26 = .ok (.iadd, 1) := by decide +kernel
theorem dP_shift_27 : decode cP_shift 27 = .ok (.putfield 20, 3) := by decide +kernel
theorem dP_shift_30 : decode cP_shift 30 = .ok (.aload_n 0, 1) := by decide +kernel
theorem dP_shift_31 : decode cP_shift 31 = .ok (.dup, 1) := by decide +kernel
theorem dP_shift_32 : decode cP_shift 32 = .ok (.getfield 23, 3) := by decide +kernel
theorem dP_shift_35 : decode cP_shift 35 = .ok (.iload_n 2, 1) := by decide +kernel
theorem dP_shift_36 : decode cP_shift 36 = .ok (.iadd, 1) := by decide +kernel
theorem dP_shift_37 : decode cP_shift 37 = .ok (.putfield 23, 3) := by decide +kernel
theorem dP_shift_40 : decode cP_shift 40 = .ok (.aload_n 0, 1) := by decide +kernel
theorem dP_shift_41 : decode cP_shift 41 = .ok (.dup, 1) := by decide +kernel
theorem dP_shift_42 : decode cP_shift 42 = .ok (.getfield 26, 3) := by decide +kernel
theorem dP_shift_45 : decode cP_shift 45 = .ok (.iload_n 1, 1) := by decide +kernel
theorem dP_shift_46 : decode cP_shift 46 = .ok (.iadd, 1) := by decide +kernel
theorem dP_shift_47 : decode cP_shift 47 = .ok (.putfield 26, 3) := by decide +kernel
theorem dP_shift_50 : decode cP_shift 50 = .ok (.aload_n 0, 1) := by decide +kernel
theorem dP_shift_51 : decode cP_shift 51 = .ok (.dup, 1) := by decide +kernel
theorem dP_shift_52 : decode cP_shift 52 = .ok (.getfield 29, 3) := by decide +kernel
theorem dP_shift_55 : decode cP_shift 55 = .ok (.iload_n 2, 1) := by decide +kernel
theorem dP_shift_56 : decode cP_shift 56 = .ok (.iadd, 1) := by decide +kernel
theorem dP_shift_57 : decode cP_shift 57 = .ok (.putfield 29, 3) := by decide +kernel
theorem dP_shift_60 : decode cP_shift 60 = .ok (.return_, 1) := by decide +kernel
theorem dP_bound_0 : decode cP_bound 0 = .ok (.iload_n 1, 1) := by decide +kernel
theorem dP_bound_1 : decode cP_bound 1 = .ok (.tableswitch 79 0 2 #[27, 43, 59], 27) := by decide +kernel
theorem dP_bound_28 : decode cP_bound 28 = .ok (.aload_n 0, 1) := by decide +kernel
theorem dP_bound_29 : decode cP_bound 29 = .ok (.getfield 13, 3) := by decide +kernel
theorem dP_bound_32 : decode cP_bound 32 = .ok (.aload_n 0, 1) := by decide +kernel
theorem dP_bound_33 : decode cP_bound 33 = .ok (.getfield 20, 3) := by decide +kernel
theorem dP_bound_36 : decode cP_bound 36 = .ok (.aload_n 0, 1) := by decide +kernel
theorem dP_bound_37 : decode cP_bound 37 = .ok (.getfield 26, 3) := by decide +kernel
theorem dP_bound_40 : decode cP_bound 40 = .ok (.invokestatic 50, 3) := by decide +kernel
theorem dP_bound_43 : decode cP_bound 43 = .ok (.ireturn, 1) := by decide +kernel
theorem dP_bound_44 : decode cP_bound 44 = .ok (.aload_n 0, 1) := by decide +kernel
theorem dP_bound_45 : decode cP_bound 45 = .ok (.getfield 17, 3) := by decide +kernel
theorem dP_bound_48 : decode cP_bound 48 = .ok (.aload_n 0, 1) := by decide +kernel
theorem dP_bound_49 : decode cP_bound 49 = .ok (.getfield 23, 3) := by decide +kernel
theorem dP_bound_52 : decode cP_bound 52 = .ok (.aload_n 0, 1) := by decide +kernel
theorem dP_bound_53 : decode cP_bound 53 = .ok (.getfield 29, 3) := by decide +kernel
theorem dP_bound_56 : decode cP_bound 56 = .ok (.invokestatic 50, 3) := by decide +kernel
theorem dP_bound_59 : decode cP_bound 59 = .ok (.ireturn, 1) := by decide +kernel
theorem dP_bound_60 : decode cP_bound 60 = .ok (.aload_n 0, 1) := by decide +kernel
theorem dP_bound_61 : decode cP_bound 61 = .ok (.getfield 13, 3) := by decide +kernel
theorem dP_bound_64 : decode cP_bound 64 = .ok (.ineg, 1) := by decide +kernel
theorem dP_bound_65 : decode cP_bound 65 = .ok (.aload_n 0, 1) := by decide +kernel
theorem dP_bound_66 : decode cP_bound 66 = .ok (.getfield 20, 3) := by decide +kernel
theorem dP_bound_69 : decode cP_bound 69 = .ok (.ineg, 1) := by decide +kernel
theorem dP_bound_70 : decode cP_bound 70 = .ok (.aload_n 0, 1) := by decide +kernel
theorem dP_bound_71 : decode cP_bound 71 = .ok (.getfield 26, 3) := by decide +kernel
theorem dP_bound_74 : decode cP_bound 74 = .ok (.ineg, 1) := by decide +kernel
theorem dP_bound_75 : decode cP_bound 75 = .ok (.invokestatic 50, 3) := by decide +kernel
theorem dP_bound_78 : decode cP_bound 78 = .ok (.ineg, 1) := by decide +kernel
theorem dP_bound_79 : decode cP_bound 79 = .ok (.ireturn, 1) := by decide +kernel
theorem dP_bound_80 : decode cP_bound 80 = .ok (.aload_n 0, 1) := by decide +kernel
theorem dP_bound_81 : decode cP_bound 81 = .ok (.getfield 17, 3) := by decide +kernel
theorem dP_bound_84 : decode cP_bound 84 = .ok (.ineg, 1) := by decide +kernel
theorem dP_bound_85 : decode cP_bound 85 = .ok (.aload_n 0, 1) := by decide +kernel
theorem dP_bound_86 : decode cP_bound 86 = .ok (.getfield 23, 3) := by decide +kernel
theorem dP_bound_89 : decode cP_bound 89 = .ok (.ineg, 1) := by decide +kernel
theorem dP_bound_90 : decode cP_bound 90 = .ok (.aload_n 0, 1) := by decide +kernel
theorem dP_bound_91 : decode cP_bound 91 = .ok (.getfield 29, 3) := by decide +kernel
theorem dP_bound_94 : decode cP_bound 94 = .ok (.ineg, 1) := by decide +kernel
theorem dP_bound_95 : decode cP_bound 95 = .ok (.invokestatic 50, 3) := by decide +kernel
theorem dP_bound_98 : decode cP_bound 98 = .ok (.ineg, 1) := by decide +kernel
theorem dP_bound_99 : decode cP_bound 99 = .ok (.ireturn, 1) := by decide +kernel
theorem dP_floorOfLeast_0 : decode cP_floorOfLeast 0 = .ok (.iload_n 0, 1) := by decide +kernel
theorem dP_floorOfLeast_1 : decode cP_floorOfLeast 1 = .ok (.iconst 2, 1) := by decide +kernel
theorem dP_floorOfLeast_2 : decode cP_floorOfLeast 2 = .ok (.iload_n 1, 1) := by decide +kernel
theorem dP_floorOfLeast_3 : decode cP_floorOfLeast 3 = .ok (.imul, 1) := by decide +kernel
theorem dP_floorOfLeast_4 : decode cP_floorOfLeast 4 = .ok (.isub, 1) := by decide +kernel
theorem dP_floorOfLeast_5 : decode cP_floorOfLeast 5 = .ok (.iload_n 2, 1) := by decide +kernel
theorem dP_floorOfLeast_6 : decode cP_floorOfLeast 6 = .ok (.iadd, 1) := by decide +kernel
theorem dP_floorOfLeast_7 : decode cP_floorOfLeast 7 = .ok (.istore_n 3, 1) := by decide +kernel
theorem dP_floorOfLeast_8 : decode cP_floorOfLeast 8 = .ok (.iload_n 1, 1) := by decide +kernel
theorem dP_floorOfLeast_9 : decode cP_floorOfLeast 9 = .ok (.iload_n 0, 1) := by decide +kernel
theorem dP_floorOfLeast_10 : decode cP_floorOfLeast 10 = .ok (.if_icmp .ge 27, 3) := by decide +kernel
theorem dP_floorOfLeast_13 : decode cP_floorOfLeast 13 = .ok (.iload_n 1, 1) := by decide +kernel
theorem dP_floorOfLeast_14 : decode cP_floorOfLeast 14 = .ok (.iload_n 2, 1) := by decide +kernel
theorem dP_floorOfLeast_15 : decode cP_floorOfLeast 15 = .ok (.if_icmp .ge 22, 3) := by decide +kernel
theorem dP_floorOfLeast_18 : decode cP_floorOfLeast 18 = .ok (.iload_n 3, 1) := by decide +kernel
theorem dP_floorOfLeast_19 : decode cP_floorOfLeast 19 = .ok (.ifCond .le 18, 3) := by decide +kernel
theorem dP_floorOfLeast_22 : decode cP_floorOfLeast 22 = .ok (.iload_n 0, 1) := by decide +kernel
theorem dP_floorOfLeast_23 : decode cP_floorOfLeast 23 = .ok (.iload_n 1, 1) := by decide +kernel
theorem dP_floorOfLeast_24 : decode cP_floorOfLeast 24 = .ok (.iload_n 0, 1) := by decide +kernel
theorem dP_floorOfLeast_25 : decode cP_floorOfLeast 25 = .ok (.isub, 1) := by decide +kernel
theorem dP_floorOfLeast_26 : decode cP_floorOfLeast 26 = .ok (.ineg, 1) := by decide +kernel
theorem dP_floorOfLeast_27 : decode cP_floorOfLeast 27 = .ok (.iload_n 1, 1) := by decide +kernel
theorem dP_floorOfLeast_28 : decode cP_floorOfLeast 28 = .ok (.iload_n 0, 1) := by decide +kernel
theorem dP_floorOfLeast_29 : decode cP_floorOfLeast 29 = .ok (.isub, 1) := by decide +kernel
theorem dP_floorOfLeast_30 : decode cP_floorOfLeast 30 = .ok (.imul, 1) := by decide +kernel
theorem dP_floorOfLeast_31 : decode cP_floorOfLeast 31 = .ok (.iload_n 3, 1) := by decide +kernel
theorem dP_floorOfLeast_32 : decode cP_floorOfLeast 32 = .ok (.invokestatic 54, 3) := by decide +kernel
theorem dP_floorOfLeast_35 : decode cP_floorOfLeast 35 = .ok (.iadd, 1) := by decide +kernel
theorem dP_floorOfLeast_36 : decode cP_floorOfLeast 36 = .ok (.ireturn, 1) := by decide +kernel
theorem dP_floorOfLeast_37 : decode cP_floorOfLeast 37 = .ok (.iload_n 0, 1) := by decide +kernel
theorem dP_floorOfLeast_38 : decode cP_floorOfLeast 38 = .ok (.iload_n 2, 1) := by decide +kernel
theorem dP_floorOfLeast_39 : decode cP_floorOfLeast 39 = .ok (.invokestatic 60, 3) := by decide +kernel
theorem dP_floorOfLeast_42 : decode cP_floorOfLeast 42 = .ok (.ireturn, 1) := by decide +kernel
