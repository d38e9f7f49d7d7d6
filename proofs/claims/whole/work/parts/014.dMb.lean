/-! decode rows -/
theorem dM_makeRing_82 : decode cM_makeRing 82 = .ok (.iaload, 1) := by decide +kernel
theorem dM_makeRing_83 : decode cM_makeRing 83 = .ok (.iadd, 1) := by decide +kernel
theorem dM_makeRing_84 : decode cM_makeRing 84 = .ok (.iconst 1, 1) := by decide +kernel
theorem dM_makeRing_85 : decode cM_makeRing 85 = .ok (.ishr, 1) := by decide +kernel
theorem dM_makeRing_86 : decode cM_makeRing 86 = .ok (.aload_n 0, 1) := by decide +kernel
theorem dM_makeRing_87 : decode cM_makeRing 87 = .ok (.getfield 13, 3) := by decide +kernel
theorem dM_makeRing_90 : decode cM_makeRing 90 = .ok (.iload_n 3, 1) := by decide +kernel
theorem dM_makeRing_91 : decode cM_makeRing 91 = .ok (.iaload, 1) := by decide +kernel
theorem dM_makeRing_92 : decode cM_makeRing 92 = .ok (.aload_n 0, 1) := by decide +kernel
theorem dM_makeRing_93 : decode cM_makeRing 93 = .ok (.getfield 13, 3) := by decide +kernel
theorem dM_makeRing_96 : decode cM_makeRing 96 = .ok (.iload 4, 2) := by decide +kernel
theorem dM_makeRing_98 : decode cM_makeRing 98 = .ok (.iaload, 1) := by decide +kernel
theorem dM_makeRing_99 : decode cM_makeRing 99 = .ok (.iadd, 1) := by decide +kernel
theorem dM_makeRing_100 : decode cM_makeRing 100 = .ok (.iconst 1, 1) := by decide +kernel
theorem dM_makeRing_101 : decode cM_makeRing 101 = .ok (.ishr, 1) := by decide +kernel
theorem dM_makeRing_102 : decode cM_makeRing 102 = .ok (.iconst 1, 1) := by decide +kernel
theorem dM_makeRing_103 : decode cM_makeRing 103 = .ok (.invokevirtual 74, 3) := by decide +kernel
theorem dM_makeRing_106 : decode cM_makeRing 106 = .ok (.iinc 3 1, 3) := by decide +kernel
theorem dM_makeRing_109 : decode cM_makeRing 109 = .ok (.goto (-102), 3) := by decide +kernel
theorem dM_makeRing_112 : decode cM_makeRing 112 = .ok (.return_, 1) := by decide +kernel
theorem dM_putRing_0 : decode cM_putRing 0 = .ok (.aload_n 0, 1) := by decide +kernel
theorem dM_putRing_1 : decode cM_putRing 1 = .ok (.getfield 23, 3) := by decide +kernel
theorem dM_putRing_4 : decode cM_putRing 4 = .ok (.aload_n 0, 1) := by decide +kernel
theorem dM_putRing_5 : decode cM_putRing 5 = .ok (.getfield 71, 3) := by decide +kernel
theorem dM_putRing_8 : decode cM_putRing 8 = .ok (.iload_n 1, 1) := by decide +kernel
theorem dM_putRing_9 : decode cM_putRing 9 = .ok (.iastore, 1) := by decide +kernel
theorem dM_putRing_10 : decode cM_putRing 10 = .ok (.aload_n 0, 1) := by decide +kernel
theorem dM_putRing_11 : decode cM_putRing 11 = .ok (.getfield 26, 3) := by decide +kernel
theorem dM_putRing_14 : decode cM_putRing 14 = .ok (.aload_n 0, 1) := by decide +kernel
theorem dM_putRing_15 : decode cM_putRing 15 = .ok (.getfield 71, 3) := by decide +kernel
theorem dM_putRing_18 : decode cM_putRing 18 = .ok (.iload_n 2, 1) := by decide +kernel
theorem dM_putRing_19 : decode cM_putRing 19 = .ok (.iastore, 1) := by decide +kernel
theorem dM_putRing_20 : decode cM_putRing 20 = .ok (.aload_n 0, 1) := by decide +kernel
theorem dM_putRing_21 : decode cM_putRing 21 = .ok (.getfield 29, 3) := by decide +kernel
theorem dM_putRing_24 : decode cM_putRing 24 = .ok (.aload_n 0, 1) := by decide +kernel
theorem dM_putRing_25 : decode cM_putRing 25 = .ok (.getfield 71, 3) := by decide +kernel
theorem dM_putRing_28 : decode cM_putRing 28 = .ok (.iload_n 3, 1) := by decide +kernel
theorem dM_putRing_29 : decode cM_putRing 29 = .ok (.bastore, 1) := by decide +kernel
theorem dM_putRing_30 : decode cM_putRing 30 = .ok (.aload_n 0, 1) := by decide +kernel
theorem dM_putRing_31 : decode cM_putRing 31 = .ok (.dup, 1) := by decide +kernel
theorem dM_putRing_32 : decode cM_putRing 32 = .ok (.getfield 71, 3) := by decide +kernel
theorem dM_putRing_35 : decode cM_putRing 35 = .ok (.iconst 1, 1) := by decide +kernel
theorem dM_putRing_36 : decode cM_putRing 36 = .ok (.iadd, 1) := by decide +kernel
theorem dM_putRing_37 : decode cM_putRing 37 = .ok (.putfield 71, 3) := by decide +kernel
theorem dM_putRing_40 : decode cM_putRing 40 = .ok (.return_, 1) := by decide +kernel
theorem dM_putPiece_0 : decode cM_putPiece 0 = .ok (.bipush 6, 2) := by decide +kernel
theorem dM_putPiece_2 : decode cM_putPiece 2 = .ok (.aload_n 0, 1) := by decide +kernel
theorem dM_putPiece_3 : decode cM_putPiece 3 = .ok (.getfield 78, 3) := by decide +kernel
theorem dM_putPiece_6 : decode cM_putPiece 6 = .ok (.imul, 1) := by decide +kernel
theorem dM_putPiece_7 : decode cM_putPiece 7 = .ok (.istore 5, 2) := by decide +kernel
theorem dM_putPiece_9 : decode cM_putPiece 9 = .ok (.aload_n 0, 1) := by decide +kernel
theorem dM_putPiece_10 : decode cM_putPiece 10 = .ok (.getfield 32, 3) := by decide +kernel
theorem dM_putPiece_13 : decode cM_putPiece 13 = .ok (.iload 5, 2) := by decide +kernel
theorem dM_putPiece_15 : decode cM_putPiece 15 = .ok (.aload_n 0, 1) := by decide +kernel
theorem dM_putPiece_16 : decode cM_putPiece 16 = .ok (.getfield 23, 3) := by decide +kernel
theorem dM_putPiece_19 : decode cM_putPiece 19 = .ok (.iload_n 1, 1) := by decide +kernel
theorem dM_putPiece_20 : decode cM_putPiece 20 = .ok (.iaload, 1) := by decide +kernel
theorem dM_putPiece_21 : decode cM_putPiece 21 = .ok (.iastore, 1) := by decide +kernel
theorem dM_putPiece_22 : decode cM_putPiece 22 = .ok (.aload_n 0, 1) := by decide +kernel
theorem dM_putPiece_23 : decode cM_putPiece 23 = .ok (.getfield 32, 3) := by decide +kernel
theorem dM_putPiece_26 : decode cM_putPiece 26 = .ok (.iload 5, 2) := by decide +kernel
theorem dM_putPiece_28 : decode cM_putPiece 28 = .ok (.iconst 1, 1) := by decide +kernel
theorem dM_putPiece_29 : decode cM_putPiece 29 = .ok (.iadd, 1) := by decide +kernel
theorem dM_putPiece_30 : decode cM_putPiece 30 = .ok (.aload_n 0, 1) := by decide +kernel
theorem dM_putPiece_31 : decode cM_putPiece 31 = .ok (.getfield 26, 3) := by decide +kernel
theorem dM_putPiece_34 : decode cM_putPiece 34 = .ok (.iload_n 1, 1) := by decide +kernel
theorem dM_putPiece_35 : decode cM_putPiece 35 = .ok (.iaload, 1) := by decide +kernel
theorem dM_putPiece_36 : decode cM_putPiece 36 = .ok (.iastore, 1) := by decide +kernel
theorem dM_putPiece_37 : decode cM_putPiece 37 = .ok (.aload_n 0, 1) := by decide +kernel
theorem dM_putPiece_38 : decode cM_putPiece 38 = .ok (.getfield 32, 3) := by decide +kernel
theorem dM_putPiece_41 : decode cM_putPiece 41 = .ok (.iload 5, 2) := by decide +kernel
theorem dM_putPiece_43 : decode cM_putPiece 43 = .ok (.iconst 2, 1) := by decide +kernel
theorem dM_putPiece_44 : decode cM_putPiece 44 = .ok (.iadd, 1) := by decide +kernel
theorem dM_putPiece_45 : decode cM_putPiece 45 = .ok (.aload_n 0, 1) := by decide +kernel
theorem dM_putPiece_46 : decode cM_putPiece 46 = .ok (.getfield 23, 3) := by decide +kernel
theorem dM_putPiece_49 : decode cM_putPiece 49 = .ok (.iload_n 2, 1) := by decide +kernel
theorem dM_putPiece_50 : decode cM_putPiece 50 = .ok (.iaload, 1) := by decide +kernel
theorem dM_putPiece_51 : decode cM_putPiece 51 = .ok (.iastore, 1) := by decide +kernel
theorem dM_putPiece_52 : decode cM_putPiece 52 = .ok (.aload_n 0, 1) := by decide +kernel
theorem dM_putPiece_53 : decode cM_putPiece 53 = .ok (.getfield 32, 3) := by decide +kernel
theorem dM_putPiece_56 : decode cM_putPiece 56 = .ok (.iload 5, 2) := by decide +kernel
theorem dM_putPiece_58 : decode cM_putPiece 58 = .ok (.iconst 3, 1) := by decide +kernel
theorem dM_putPiece_59 : decode cM_putPiece 59 = .ok (.iadd, 1) := by decide +kernel
theorem dM_putPiece_60 : decode cM_putPiece 60 = .ok (.aload_n 0, 1) := by decide +kernel
theorem dM_putPiece_61 : decode cM_putPiece 61 = .ok (.getfield 26, 3) := by decide +kernel
theorem dM_putPiece_64 : decode cM_putPiece 64 = .ok (.iload_n 2, 1) := by decide +kernel
theorem dM_putPiece_65 : decode cM_putPiece 65 = .ok (.iaload, 1) := by decide +kernel
theorem dM_putPiece_66 : decode cM_putPiece 66 = .ok (.iastore, 1) := by decide +kernel
theorem dM_putPiece_67 : decode cM_putPiece 67 = .ok (.aload_n 0, 1) := by decide +kernel
theorem dM_putPiece_68 : decode cM_putPiece 68 = .ok (.getfield 32, 3) := by decide +kernel
theorem dM_putPiece_71 : decode cM_putPiece 71 = .ok (.iload 5, 2) := by decide +kernel
theorem dM_putPiece_73 : decode cM_putPiece 73 = .ok (.iconst 4, 1) := by decide +kernel
theorem dM_putPiece_74 : decode cM_putPiece 74 = .ok (.iadd, 1) := by decide +kernel
theorem dM_putPiece_75 : decode cM_putPiece 75 = .ok (.aload_n 0, 1) := by decide +kernel
theorem dM_putPiece_76 : decode cM_putPiece 76 = .ok (.getfield 23, 3) := by decide +kernel
theorem dM_putPiece_79 : decode cM_putPiece 79 = .ok (.iload_n 3, 1) := by decide +kernel
theorem dM_putPiece_80 : decode cM_putPiece 80 = .ok (.iaload, 1) := by decide +kernel
theorem dM_putPiece_81 : decode cM_putPiece 81 = .ok (.iastore, 1) := by decide +kernel
theorem dM_putPiece_82 : decode cM_putPiece 82 = .ok (.aload_n 0, 1) := by decide +kernel
theorem dM_putPiece_83 : decode cM_putPiece 83 = .ok (.getfield 32, 3) := by decide +kernel
theorem dM_putPiece_86 : decode cM_putPiece 86 = .ok (.iload 5, 2) := by decide +kernel
theorem dM_putPiece_88 : decode cM_putPiece 88 = .ok (.iconst 5, 1) := by decide +kernel
theorem dM_putPiece_89 : decode cM_putPiece 89 = .ok (.iadd, 1) := by decide +kernel
theorem dM_putPiece_90 : decode cM_putPiece 90 = .ok (.aload_n 0, 1) := by decide +kernel
theorem dM_putPiece_91 : decode cM_putPiece 91 = .ok (.getfield 26, 3) := by decide +kernel
theorem dM_putPiece_94 : decode cM_putPiece 94 = .ok (.iload_n 3, 1) := by decide +kernel
theorem dM_putPiece_95 : decode cM_putPiece 95 = .ok (.iaload, 1) := by decide +kernel
theorem dM_putPiece_96 : decode cM_putPiece 96 = .ok (.iastore, 1) := by decide +kernel
theorem dM_putPiece_97 : decode cM_putPiece 97 = .ok (.aload_n 0, 1) := by decide +kernel
theorem dM_putPiece_98 : decode cM_putPiece 98 = .ok (.getfield 35, 3) := by decide +kernel
theorem dM_putPiece_101 : decode cM_putPiece 101 = .ok (.aload_n 0, 1) := by decide +kernel
theorem dM_putPiece_102 : decode cM_putPiece 102 = .ok (.getfield 78, 3) := by decide +kernel
theorem dM_putPiece_105 : decode cM_putPiece 105 = .ok (.iload 4, 2) := by decide +kernel
theorem dM_putPiece_107 : decode cM_putPiece 107 = .ok (.bastore, 1) := by decide +kernel
theorem dM_putPiece_108 : decode cM_putPiece 108 = .ok (.aload_n 0, 1) := by decide +kernel
theorem dM_putPiece_109 : decode cM_putPiece 109 = .ok (.dup, 1) := by decide +kernel
theorem dM_putPiece_110 : decode cM_putPiece 110 = .ok (.getfield 78, 3) := by decide +kernel
theorem dM_putPiece_113 : decode cM_putPiece 113 = .ok (.iconst 1, 1) := by decide +kernel
theorem dM_putPiece_114 : decode cM_putPiece 114 = .ok (.iadd, 1) := by decide +kernel
theorem dM_putPiece_115 : decode cM_putPiece 115 = .ok (.putfield 78, 3) := by decide +kernel
theorem dM_putPiece_118 : decode cM_putPiece 118 = .ok (.return_, 1) := by decide +kernel
theorem dM_setPixels_0 : decode cM_setPixels 0 = .ok (.aload_n 0, 1) := by decide +kernel
theorem dM_setPixels_1 : decode cM_setPixels 1 = .ok (.invokevirtual 139, 3) := by decide +kernel
theorem dM_setPixels_4 : decode cM_setPixels 4 = .ok (.iconst 0, 1) := by decide +kernel
theorem dM_setPixels_5 : decode cM_setPixels 5 = .ok (.istore_n 1, 1) := by decide +kernel
theorem dM_setPixels_6 : decode cM_setPixels 6 = .ok (.iconst 0, 1) := by decide +kernel
theorem dM_setPixels_7 : decode cM_setPixels 7 = .ok (.istore_n 2, 1) := by decide +kernel
theorem dM_setPixels_8 : decode cM_setPixels 8 = .ok (.iload_n 2, 1) := by decide +kernel
theorem dM_setPixels_9 : decode cM_setPixels 9 = .ok (.sipush 4096, 3) := by decide +kernel
theorem dM_setPixels_12 : decode cM_setPixels 12 = .ok (.if_icmp .ge 32, 3) := by decide +kernel
theorem dM_setPixels_15 : decode cM_setPixels 15 = .ok (.aload_n 0, 1) := by decide +kernel
theorem dM_setPixels_16 : decode cM_setPixels 16 = .ok (.iload_n 2, 1) := by decide +kernel
theorem dM_setPixels_17 : decode cM_setPixels 17 = .ok (.bipush 64, 2) := by decide +kernel
theorem dM_setPixels_19 : decode cM_setPixels 19 = .ok (.irem, 1) := by decide +kernel
theorem dM_setPixels_20 : decode cM_setPixels 20 = .ok (.iload_n 2, 1) := by decide +kernel
theorem dM_setPixels_21 : decode cM_setPixels 21 = .ok (.bipush 64, 2) := by decide +kernel
theorem dM_setPixels_23 : decode cM_setPixels 23 = .ok (.idiv, 1) := by decide +kernel
theorem dM_setPixels_24 : decode cM_setPixels 24 = .ok (.invokevirtual 142, 3) := by decide +kernel
theorem dM_setPixels_27 : decode cM_setPixels 27 = .ok (.ifCond .eq 9, 3) := by decide +kernel
theorem dM_setPixels_30 : decode cM_setPixels 30 = .ok (.iload_n 1, 1) := by decide +kernel
theorem dM_setPixels_31 : decode cM_setPixels 31 = .ok (.iconst 1, 1) := by decide +kernel
theorem dM_setPixels_32 : decode cM_setPixels 32 = .ok (.iadd, 1) := by decide +kernel
theorem dM_setPixels_33 : decode cM_setPixels 33 = .ok (.goto 4, 3) := by decide +kernel
theorem dM_setPixels_36 : decode cM_setPixels 36 = .ok (.iload_n 1, 1) := by decide +kernel
theorem dM_setPixels_37 : decode cM_setPixels 37 = .ok (.istore_n 1, 1) := by decide +kernel
theorem dM_setPixels_38 : decode cM_setPixels 38 = .ok (.iinc 2 1, 3) := by decide +kernel
theorem dM_setPixels_41 : decode cM_setPixels 41 = .ok (.goto (-33), 3) := by decide +kernel
theorem dM_setPixels_44 : decode cM_setPixels 44 = .ok (.iload_n 1, 1) := by decide +kernel
theorem dM_setPixels_45 : decode cM_setPixels 45 = .ok (.ireturn, 1) := by decide +kernel
theorem dM_isSet_0 : decode cM_isSet 0 = .ok (.aload_n 0, 1) := by decide +kernel
theorem dM_isSet_1 : decode cM_isSet 1 = .ok (.bipush 64, 2) := by decide +kernel
theorem dM_isSet_3 : decode cM_isSet 3 = .ok (.iload_n 1, 1) := by decide +kernel
theorem dM_isSet_4 : decode cM_isSet 4 = .ok (.imul, 1) := by decide +kernel
theorem dM_isSet_5 : decode cM_isSet 5 = .ok (.bipush 32, 2) := by decide +kernel
theorem dM_isSet_7 : decode cM_isSet 7 = .ok (.iadd, 1) := by decide +kernel
theorem dM_isSet_8 : decode cM_isSet 8 = .ok (.bipush 64, 2) := by decide +kernel
theorem dM_isSet_10 : decode cM_isSet 10 = .ok (.bipush 63, 2) := by decide +kernel
theorem dM_isSet_12 : decode cM_isSet 12 = .ok (.iload_n 2, 1) := by decide +kernel
theorem dM_isSet_13 : decode cM_isSet 13 = .ok (.isub, 1) := by decide +kernel
theorem dM_isSet_14 : decode cM_isSet 14 = .ok (.imul, 1) := by decide +kernel
theorem dM_isSet_15 : decode cM_isSet 15 = .ok (.bipush 32, 2) := by decide +kernel
theorem dM_isSet_17 : decode cM_isSet 17 = .ok (.iadd, 1) := by decide +kernel
theorem dM_isSet_18 : decode cM_isSet 18 = .ok (.invokevirtual 135, 3) := by decide +kernel
theorem dM_isSet_21 : decode cM_isSet 21 = .ok (.ireturn, 1) := by decide +kernel
theorem dM_isIn_0 : decode cM_isIn 0 = .ok (.aload_n 0, 1) := by decide +kernel
theorem dM_isIn_1 : decode cM_isIn 1 = .ok (.iload_n 1, 1) := by decide +kernel
theorem dM_isIn_2 : decode cM_isIn 2 = .ok (.iload_n 2, 1) := by decide +kernel
theorem dM_isIn_3 : decode cM_isIn 3 = .ok (.invokevirtual 131, 3) := by decide +kernel
theorem dM_isIn_6 : decode cM_isIn 6 = .ok (.istore_n 3, 1) := by decide +kernel
theorem dM_isIn_7 : decode cM_isIn 7 = .ok (.aload_n 0, 1) := by decide +kernel
theorem dM_isIn_8 : decode cM_isIn 8 = .ok (.getfield 67, 3) := by decide +kernel
theorem dM_isIn_11 : decode cM_isIn 11 = .ok (.ifCond .eq 17, 3) := by decide +kernel
theorem dM_isIn_14 : decode cM_isIn 14 = .ok (.iload_n 3, 1) := by decide +kernel
theorem dM_isIn_15 : decode cM_isIn 15 = .ok (.iconst 2, 1) := by decide +kernel
theorem dM_isIn_16 : decode cM_isIn 16 = .ok (.irem, 1) := by decide +kernel
theorem dM_isIn_17 : decode cM_isIn 17 = .ok (.ifCond .eq 7, 3) := by decide +kernel
theorem dM_isIn_20 : decode cM_isIn 20 = .ok (.iconst 1, 1) := by decide +kernel
theorem dM_isIn_21 : decode cM_isIn 21 = .ok (.goto 16, 3) := by decide +kernel
theorem dM_isIn_24 : decode cM_isIn 24 = .ok (.iconst 0, 1) := by decide +kernel
theorem dM_isIn_25 : decode cM_isIn 25 = .ok (.goto 12, 3) := by decide +kernel
theorem dM_isIn_28 : decode cM_isIn 28 = .ok (.iload_n 3, 1) := by decide +kernel
theorem dM_isIn_29 : decode cM_isIn 29 = .ok (.ifCond .eq 7, 3) := by decide +kernel
theorem dM_isIn_32 : decode cM_isIn 32 = .ok (.iconst 1, 1) := by decide +kernel
theorem dM_isIn_33 : decode cM_isIn 33 = .ok (.goto 4, 3) := by decide +kernel
theorem dM_isIn_36 : decode cM_isIn 36 = .ok (.iconst 0, 1) := by decide +kernel
theorem dM_isIn_37 : decode cM_isIn 37 = .ok (.ireturn, 1) := by decide +kernel
theorem dM_windingOf_0 : decode cM_windingOf 0 = .ok (.iconst 0, 1) := by decide +kernel
theorem dM_windingOf_1 : decode cM_windingOf 1 = .ok (.istore_n 3, 1) := by decide +kernel
theorem dM_windingOf_2 : decode cM_windingOf 2 = .ok (.iconst 0, 1) := by decide +kernel
theorem dM_windingOf_3 : decode cM_windingOf 3 = .ok (.istore 4, 2) := by decide +kernel
theorem dM_windingOf_5 : decode cM_windingOf 5 = .ok (.iload 4, 2) := by decide +kernel
theorem dM_windingOf_7 : decode cM_windingOf 7 = .ok (.aload_n 0, 1) := by decide +kernel
theorem dM_windingOf_8 : decode cM_windingOf 8 = .ok (.getfield 78, 3) := by decide +kernel
theorem dM_windingOf_11 : decode cM_windingOf 11 = .ok (.if_icmp .ge 47, 3) := by decide +kernel
theorem dM_windingOf_14 : decode cM_windingOf 14 = .ok (.iload_n 3, 1) := by decide +kernel
theorem dM_windingOf_15 : decode cM_windingOf 15 = .ok (.aload_n 0, 1) := by decide +kernel
theorem dM_windingOf_16 : decode cM_windingOf 16 = .ok (.getfield 35, 3) := by decide +kernel
theorem dM_windingOf_19 : decode cM_windingOf 19 = .ok (.iload 4, 2) := by decide +kernel
theorem dM_windingOf_21 : decode cM_windingOf 21 = .ok (.baload, 1) := by decide +kernel
theorem dM_windingOf_22 : decode cM_windingOf 22 = .ok (.ifCond .eq 17, 3) := by decide +kernel
theorem dM_windingOf_25 : decode cM_windingOf 25 = .ok (.aload_n 0, 1) := by decide +kernel
theorem dM_windingOf_26 : decode cM_windingOf 26 = .ok (.bipush 6, 2) := by decide +kernel
theorem dM_windingOf_28 : decode cM_windingOf 28 = .ok (.iload 4, 2) := by decide +kernel
theorem dM_windingOf_30 : decode cM_windingOf 30 = .ok (.imul, 1) := by decide +kernel
theorem dM_windingOf_31 : decode cM_windingOf 31 = .ok (.iload_n 1, 1) := by decide +kernel
theorem dM_windingOf_32 : decode cM_windingOf 32 = .ok (.iload_n 2, 1) := by decide +kernel
theorem dM_windingOf_33 : decode cM_windingOf 33 = .ok (.invokevirtual 124, 3) := by decide +kernel
theorem dM_windingOf_36 : decode cM_windingOf 36 = .ok (.goto 14, 3) := by decide +kernel
theorem dM_windingOf_39 : decode cM_windingOf 39 = .ok (.aload_n 0, 1) := by decide +kernel
theorem dM_windingOf_40 : decode cM_windingOf 40 = .ok (.bipush 6, 2) := by decide +kernel
theorem dM_windingOf_42 : decode cM_windingOf 42 = .ok (.iload 4, 2) := by decide +kernel
theorem dM_windingOf_44 : decode cM_windingOf 44 = .ok (.imul, 1) := by decide +kernel
theorem dM_windingOf_45 : decode cM_windingOf 45 = .ok (.iload_n 1, 1) := by decide +kernel
theorem dM_windingOf_46 : decode cM_windingOf 46 = .ok (.iload_n 2, 1) := by decide +kernel
theorem dM_windingOf_47 : decode cM_windingOf 47 = .ok (.invokevirtual 128, 3) := by decide +kernel
theorem dM_windingOf_50 : decode cM_windingOf 50 = .ok (.iadd, 1) := by decide +kernel
theorem dM_windingOf_51 : decode cM_windingOf 51 = .ok (.istore_n 3, 1) := by decide +kernel
theorem dM_windingOf_52 : decode cM_windingOf 52 = .ok (.iinc 4 1, 3) := by decide +kernel
theorem dM_windingOf_55 : decode cM_windingOf 55 = .ok (.goto (-50), 3) := by decide +kernel
theorem dM_windingOf_58 : decode cM_windingOf 58 = .ok (.iload_n 3, 1) := by decide +kernel
theorem dM_windingOf_59 : decode cM_windingOf 59 = .ok (.ireturn, 1) := by decide +kernel
theorem dM_curveCount_0 : decode cM_curveCount 0 = .ok (.aload_n 0, 1) := by decide +kernel
theorem dM_curveCount_1 : decode cM_curveCount 1 = .ok (.getfield 32, 3) := by decide +kernel
theorem dM_curveCount_4 : decode cM_curveCount 4 = .ok (.iload_n 1, 1) := by decide +kernel
theorem dM_curveCount_5 : decode cM_curveCount 5 = .ok (.iconst 1, 1) := by decide +kernel
theorem dM_curveCount_6 : decode cM_curveCount 6 = .ok (.iadd, 1) := by decide +kernel
theorem dM_curveCount_7 : decode cM_curveCount 7 = .ok (.iaload, 1) := by decide +kernel
theorem dM_curveCount_8 : decode cM_curveCount 8 = .ok (.i2l, 1) := by decide +kernel
theorem dM_curveCount_9 : decode cM_curveCount 9 = .ok (.ldc2_w 110, 3) := by decide +kernel
theorem dM_curveCount_12 : decode cM_curveCount 12 = .ok (.aload_n 0, 1) := by decide +kernel
theorem dM_curveCount_13 : decode cM_curveCount 13 = .ok (.getfield 32, 3) := by decide +kernel
theorem dM_curveCount_16 : decode cM_curveCount 16 = .ok (.iload_n 1, 1) := by decide +kernel
theorem dM_curveCount_17 : decode cM_curveCount 17 = .ok (.iconst 3, 1) := by decide +kernel
theorem dM_curveCount_18 : decode cM_curveCount 18 = .ok (.iadd, 1) := by decide +kernel
theorem dM_curveCount_19 : decode cM_curveCount 19 = .ok (.iaload, 1) := by decide +kernel
theorem dM_curveCount_20 : decode cM_curveCount 20 = .ok (.i2l, 1) := by decide +kernel
theorem dM_curveCount_21 : decode cM_curveCount 21 = .ok (.lmul, 1) := by decide +kernel
theorem dM_curveCount_22 : decode cM_curveCount 22 = .ok (.lsub, 1) := by decide +kernel
theorem dM_curveCount_23 : decode cM_curveCount 23 = .ok (.aload_n 0, 1) := by decide +kernel
theorem dM_curveCount_24 : decode cM_curveCount 24 = .ok (.getfield 32, 3) := by decide +kernel
theorem dM_curveCount_27 : decode cM_curveCount 27 = .ok (.iload_n 1, 1) := by decide +kernel
theorem dM_curveCount_28 : decode cM_curveCount 28 = .ok (.iconst 5, 1) := by decide +kernel
theorem dM_curveCount_29 : decode cM_curveCount 29 = .ok (.iadd, 1) := by decide +kernel
theorem dM_curveCount_30 : decode cM_curveCount 30 = .ok (.iaload, 1) := by decide +kernel
theorem dM_curveCount_31 : decode cM_curveCount 31 = .ok (.i2l, 1) := by decide +kernel
theorem dM_curveCount_32 : decode cM_curveCount 32 = .ok (.ladd, 1) := by decide +kernel
theorem dM_curveCount_33 : decode cM_curveCount 33 = .ok (.lstore 4, 2) := by decide +kernel
theorem dM_curveCount_35 : decode cM_curveCount 35 = .ok (.ldc2_w 110, 3) := by decide +kernel
theorem dM_curveCount_38 : decode cM_curveCount 38 = .ok (.aload_n 0, 1) := by decide +kernel
theorem dM_curveCount_39 : decode cM_curveCount 39 = .ok (.getfield 32, 3) := by decide +kernel
theorem dM_curveCount_42 : decode cM_curveCount 42 = .ok (.iload_n 1, 1) := by decide +kernel
theorem dM_curveCount_43 : decode cM_curveCount 43 = .ok (.iconst 3, 1) := by decide +kernel
theorem dM_curveCount_44 : decode cM_curveCount 44 = .ok (.iadd, 1) := by decide +kernel
theorem dM_curveCount_45 : decode cM_curveCount 45 = .ok (.iaload, 1) := by decide +kernel
theorem dM_curveCount_46 : decode cM_curveCount 46 = .ok (.aload_n 0, 1) := by decide +kernel
theorem dM_curveCount_47 : decode cM_curveCount 47 = .ok (.getfield 32, 3) := by decide +kernel
theorem dM_curveCount_50 : decode cM_curveCount 50 = .ok (.iload_n 1, 1) := by decide +kernel
theorem dM_curveCount_51 : decode cM_curveCount 51 = .ok (.iconst 1, 1) := by decide +kernel
theorem dM_curveCount_52 : decode cM_curveCount 52 = .ok (.iadd, 1) := by decide +kernel
theorem dM_curveCount_53 : decode cM_curveCount 53 = .ok (.iaload, 1) := by decide +kernel
theorem dM_curveCount_54 : decode cM_curveCount 54 = .ok (.isub, 1) := by decide +kernel
theorem dM_curveCount_55 : decode cM_curveCount 55 = .ok (.i2l, 1) := by decide +kernel
theorem dM_curveCount_56 : decode cM_curveCount 56 = .ok (.lmul, 1) := by decide +kernel
theorem dM_curveCount_57 : decode cM_curveCount 57 = .ok (.lstore 6, 2) := by decide +kernel
theorem dM_curveCount_59 : decode cM_curveCount 59 = .ok (.aload_n 0, 1) := by decide +kernel
theorem dM_curveCount_60 : decode cM_curveCount 60 = .ok (.getfield 32, 3) := by decide +kernel
theorem dM_curveCount_63 : decode cM_curveCount 63 = .ok (.iload_n 1, 1) := by decide +kernel
theorem dM_curveCount_64 : decode cM_curveCount 64 = .ok (.iconst 1, 1) := by decide +kernel
theorem dM_curveCount_65 : decode cM_curveCount 65 = .ok (.iadd, 1) := by decide +kernel
theorem dM_curveCount_66 : decode cM_curveCount 66 = .ok (.iaload, 1) := by decide +kernel
theorem dM_curveCount_67 : decode cM_curveCount 67 = .ok (.i2l, 1) := by decide +kernel
theorem dM_curveCount_68 : decode cM_curveCount 68 = .ok (.iload_n 3, 1) := by decide +kernel
theorem dM_curveCount_69 : decode cM_curveCount 69 = .ok (.i2l, 1) := by decide +kernel
theorem dM_curveCount_70 : decode cM_curveCount 70 = .ok (.lsub, 1) := by decide +kernel
theorem dM_curveCount_71 : decode cM_curveCount 71 = .ok (.lstore 8, 2) := by decide +kernel
theorem dM_curveCount_73 : decode cM_curveCount 73 = .ok (.aload_n 0, 1) := by decide +kernel
theorem dM_curveCount_74 : decode cM_curveCount 74 = .ok (.getfield 32, 3) := by decide +kernel
theorem dM_curveCount_77 : decode cM_curveCount 77 = .ok (.iload_n 1, 1) := by decide +kernel
theorem dM_curveCount_78 : decode cM_curveCount 78 = .ok (.iaload, 1) := by decide +kernel
theorem dM_curveCount_79 : decode cM_curveCount 79 = .ok (.i2l, 1) := by decide +kernel
theorem dM_curveCount_80 : decode cM_curveCount 80 = .ok (.ldc2_w 110, 3) := by decide +kernel
theorem dM_curveCount_83 : decode cM_curveCount 83 = .ok (.aload_n 0, 1) := by decide +kernel
theorem dM_curveCount_84 : decode cM_curveCount 84 = .ok (.getfield 32, 3) := by decide +kernel
theorem dM_curveCount_87 : decode cM_curveCount 87 = .ok (.iload_n 1, 1) := by decide +kernel
theorem dM_curveCount_88 : decode cM_curveCount 88 = .ok (.iconst 2, 1) := by decide +kernel
theorem dM_curveCount_89 : decode cM_curveCount 89 = .ok (.iadd, 1) := by decide +kernel
theorem dM_curveCount_90 : decode cM_curveCount 90 = .ok (.iaload, 1) := by decide +kernel
theorem dM_curveCount_91 : decode cM_curveCount 91 = .ok (.i2l, 1) := by decide +kernel
theorem dM_curveCount_92 : decode cM_curveCount 92 = .ok (.lmul, 1) := by decide +kernel
theorem dM_curveCount_93 : decode cM_curveCount 93 = .ok (.lsub, 1) := by decide +kernel
theorem dM_curveCount_94 : decode cM_curveCount 94 = .ok (.aload_n 0, 1) := by decide +kernel
theorem dM_curveCount_95 : decode cM_curveCount 95 = .ok (.getfield 32, 3) := by decide +kernel
theorem dM_curveCount_98 : decode cM_curveCount 98 = .ok (.iload_n 1, 1) := by decide +kernel
theorem dM_curveCount_99 : decode cM_curveCount 99 = .ok (.iconst 4, 1) := by decide +kernel
theorem dM_curveCount_100 : decode cM_curveCount 100 = .ok (.iadd, 1) := by decide +kernel
theorem dM_curveCount_101 : decode cM_curveCount 101 = .ok (.iaload, 1) := by decide +kernel
theorem dM_curveCount_102 : decode cM_curveCount 102 = .ok (.i2l, 1) := by decide +kernel
theorem dM_curveCount_103 : decode cM_curveCount 103 = .ok (.ladd, 1) := by decide +kernel
theorem dM_curveCount_104 : decode cM_curveCount 104 = .ok (.lstore 10, 2) := by decide +kernel
theorem dM_curveCount_106 : decode cM_curveCount 106 = .ok (.ldc2_w 110, 3) := by decide +kernel
theorem dM_curveCount_109 : decode cM_curveCount 109 = .ok (.aload_n 0, 1) := by decide +kernel
theorem dM_curveCount_110 : decode cM_curveCount 110 = .ok (.getfield 32, 3) := by decide +kernel
theorem dM_curveCount_113 : decode cM_curveCount 113 = .ok (.iload_n 1, 1) := by decide +kernel
theorem dM_curveCount_114 : decode cM_curveCount 114 = .ok (.iconst 2, 1) := by decide +kernel
theorem dM_curveCount_115 : decode cM_curveCount 115 = .ok (.iadd, 1) := by decide +kernel
theorem dM_curveCount_116 : decode cM_curveCount 116 = .ok (.iaload, 1) := by decide +kernel
theorem dM_curveCount_117 : decode cM_curveCount 117 = .ok (.aload_n 0, 1) := by decide +kernel
theorem dM_curveCount_118 : decode cM_curveCount 118 = .ok (.getfield 32, 3) := by decide +kernel
theorem dM_curveCount_121 : decode cM_curveCount 121 = .ok (.iload_n 1, 1) := by decide +kernel
theorem dM_curveCount_122 : decode cM_curveCount 122 = .ok (.iaload, 1) := by decide +kernel
theorem dM_curveCount_123 : decode cM_curveCount 123 = .ok (.isub, 1) := by decide +kernel
theorem dM_curveCount_124 : decode cM_curveCount 124 = .ok (.i2l, 1) := by decide +kernel
theorem dM_curveCount_125 : decode cM_curveCount 125 = .ok (.lmul, 1) := by decide +kernel
theorem dM_curveCount_126 : decode cM_curveCount 126 = .ok (.lstore 12, 2) := by decide +kernel
theorem dM_curveCount_128 : decode cM_curveCount 128 = .ok (.aload_n 0, 1) := by decide +kernel
theorem dM_curveCount_129 : decode cM_curveCount 129 = .ok (.getfield 32, 3) := by decide +kernel
theorem dM_curveCount_132 : decode cM_curveCount 132 = .ok (.iload_n 1, 1) := by decide +kernel
theorem dM_curveCount_133 : decode cM_curveCount 133 = .ok (.iaload, 1) := by decide +kernel
theorem dM_curveCount_134 : decode cM_curveCount 134 = .ok (.i2l, 1) := by decide +kernel
theorem dM_curveCount_135 : decode cM_curveCount 135 = .ok (.iload_n 2, 1) := by decide +kernel
theorem dM_curveCount_136 : decode cM_curveCount 136 = .ok (.i2l, 1) := by decide +kernel
theorem dM_curveCount_137 : decode cM_curveCount 137 = .ok (.lsub, 1) := by decide +kernel
theorem dM_curveCount_138 : decode cM_curveCount 138 = .ok (.lstore 14, 2) := by decide +kernel
theorem dM_curveCount_140 : decode cM_curveCount 140 = .ok (.lload 8, 2) := by decide +kernel
theorem dM_curveCount_142 : decode cM_curveCount 142 = .ok (.lconst 0, 1) := by decide +kernel
theorem dM_curveCount_143 : decode cM_curveCount 143 = .ok (.lcmp, 1) := by decide +kernel
theorem dM_curveCount_144 : decode cM_curveCount 144 = .ok (.ifCond .le 7, 3) := by decide +kernel
theorem dM_curveCount_147 : decode cM_curveCount 147 = .ok (.iconst 1, 1) := by decide +kernel
theorem dM_curveCount_148 : decode cM_curveCount 148 = .ok (.goto 4, 3) := by decide +kernel
theorem dM_curveCount_151 : decode cM_curveCount 151 = .ok (.iconst 0, 1) := by decide +kernel
theorem dM_curveCount_152 : decode cM_curveCount 152 = .ok (.istore 16, 2) := by decide +kernel
theorem dM_curveCount_154 : decode cM_curveCount 154 = .ok (.aload_n 0, 1) := by decide +kernel
theorem dM_curveCount_155 : decode cM_curveCount 155 = .ok (.getfield 32, 3) := by decide +kernel
theorem dM_curveCount_158 : decode cM_curveCount 158 = .ok (.iload_n 1, 1) := by decide +kernel
theorem dM_curveCount_159 : decode cM_curveCount 159 = .ok (.iconst 5, 1) := by decide +kernel
theorem dM_curveCount_160 : decode cM_curveCount 160 = .ok (.iadd, 1) := by decide +kernel
theorem dM_curveCount_161 : decode cM_curveCount 161 = .ok (.iaload, 1) := by decide +kernel
theorem dM_curveCount_162 : decode cM_curveCount 162 = .ok (.iload_n 3, 1) := by decide +kernel
theorem dM_curveCount_163 : decode cM_curveCount 163 = .ok (.if_icmp .le 7, 3) := by decide +kernel
theorem dM_curveCount_166 : decode cM_curveCount 166 = .ok (.iconst 1, 1) := by decide +kernel
theorem dM_curveCount_167 : decode cM_curveCount 167 = .ok (.goto 4, 3) := by decide +kernel
theorem dM_curveCount_170 : decode cM_curveCount 170 = .ok (.iconst 0, 1) := by decide +kernel
theorem dM_curveCount_171 : decode cM_curveCount 171 = .ok (.istore 17, 2) := by decide +kernel
theorem dM_curveCount_173 : decode cM_curveCount 173 = .ok (.iload 16, 2) := by decide +kernel
theorem dM_curveCount_175 : decode cM_curveCount 175 = .ok (.iload 17, 2) := by decide +kernel
theorem dM_curveCount_177 : decode cM_curveCount 177 = .ok (.if_icmp .eq 63, 3) := by decide +kernel
theorem dM_curveCount_180 : decode cM_curveCount 180 = .ok (.aload_n 0, 1) := by decide +kernel
theorem dM_curveCount_181 : decode cM_curveCount 181 = .ok (.lload 4, 2) := by decide +kernel
theorem dM_curveCount_183 : decode cM_curveCount 183 = .ok (.lload 6, 2) := by decide +kernel
theorem dM_curveCount_185 : decode cM_curveCount 185 = .ok (.lload 8, 2) := by decide +kernel
theorem dM_curveCount_187 : decode cM_curveCount 187 = .ok (.iload 17, 2) := by decide +kernel
theorem dM_curveCount_189 : decode cM_curveCount 189 = .ok (.lload 4, 2) := by decide +kernel
theorem dM_curveCount_191 : decode cM_curveCount 191 = .ok (.lconst 0, 1) := by decide +kernel
theorem dM_curveCount_192 : decode cM_curveCount 192 = .ok (.lcmp, 1) := by decide +kernel
theorem dM_curveCount_193 : decode cM_curveCount 193 = .ok (.ifCond .le 7, 3) := by decide +kernel
theorem dM_curveCount_196 : decode cM_curveCount 196 = .ok (.iconst 1, 1) := by decide +kernel
theorem dM_curveCount_197 : decode cM_curveCount 197 = .ok (.goto 4, 3) := by decide +kernel
theorem dM_curveCount_200 : decode cM_curveCount 200 = .ok (.iconst 0, 1) := by decide +kernel
theorem dM_curveCount_201 : decode cM_curveCount 201 = .ok (.if_icmp .ne 7, 3) := by decide +kernel
theorem dM_curveCount_204 : decode cM_curveCount 204 = .ok (.iconst 1, 1) := by decide +kernel
theorem dM_curveCount_205 : decode cM_curveCount 205 = .ok (.goto 4, 3) := by decide +kernel
theorem dM_curveCount_208 : decode cM_curveCount 208 = .ok (.iconst 0, 1) := by decide +kernel
theorem dM_curveCount_209 : decode cM_curveCount 209 = .ok (.lload 10, 2) := by decide +kernel
theorem dM_curveCount_211 : decode cM_curveCount 211 = .ok (.lload 12, 2) := by decide +kernel
theorem dM_curveCount_213 : decode cM_curveCount 213 = .ok (.lload 14, 2) := by decide +kernel
theorem dM_curveCount_215 : decode cM_curveCount 215 = .ok (.invokevirtual 116, 3) := by decide +kernel
theorem dM_curveCount_218 : decode cM_curveCount 218 = .ok (.istore 18, 2) := by decide +kernel
theorem dM_curveCount_220 : decode cM_curveCount 220 = .ok (.iload 18, 2) := by decide +kernel
theorem dM_curveCount_222 : decode cM_curveCount 222 = .ok (.ifCond .ne 7, 3) := by decide +kernel
theorem dM_curveCount_225 : decode cM_curveCount 225 = .ok (.iconst 0, 1) := by decide +kernel
theorem dM_curveCount_226 : decode cM_curveCount 226 = .ok (.goto 13, 3) := by decide +kernel
theorem dM_curveCount_229 : decode cM_curveCount 229 = .ok (.iload 17, 2) := by decide +kernel
theorem dM_curveCount_231 : decode cM_curveCount 231 = .ok (.ifCond .eq 7, 3) := by decide +kernel
theorem dM_curveCount_234 : decode cM_curveCount 234 = .ok (.iconst 1, 1) := by decide +kernel
theorem dM_curveCount_235 : decode cM_curveCount 235 = .ok (.goto 4, 3) := by decide +kernel
theorem dM_curveCount_238 : decode cM_curveCount 238 = .ok (.iconst (-1), 1) := by decide +kernel
theorem dM_curveCount_239 : decode cM_curveCount 239 = .ok (.ireturn, 1) := by decide +kernel
theorem dM_curveCount_240 : decode cM_curveCount 240 = .ok (.lload 4, 2) := by decide +kernel
theorem dM_curveCount_242 : decode cM_curveCount 242 = .ok (.lconst 0, 1) := by decide +kernel
theorem dM_curveCount_243 : decode cM_curveCount 243 = .ok (.lcmp, 1) := by decide +kernel
theorem dM_curveCount_244 : decode cM_curveCount 244 = .ok (.ifCond .le 31, 3) := by decide +kernel
theorem dM_curveCount_247 : decode cM_curveCount 247 = .ok (.lload 6, 2) := by decide +kernel
theorem dM_curveCount_249 : decode cM_curveCount 249 = .ok (.lconst 0, 1) := by decide +kernel
theorem dM_curveCount_250 : decode cM_curveCount 250 = .ok (.lcmp, 1) := by decide +kernel
theorem dM_curveCount_251 : decode cM_curveCount 251 = .ok (.ifCond .ge 20, 3) := by decide +kernel
theorem dM_curveCount_254 : decode cM_curveCount 254 = .ok (.lload 6, 2) := by decide +kernel
theorem dM_curveCount_256 : decode cM_curveCount 256 = .ok (.lneg, 1) := by decide +kernel
theorem dM_curveCount_257 : decode cM_curveCount 257 = .ok (.ldc2_w 110, 3) := by decide +kernel
theorem dM_curveCount_260 : decode cM_curveCount 260 = .ok (.lload 4, 2) := by decide +kernel
theorem dM_curveCount_262 : decode cM_curveCount 262 = .ok (.lmul, 1) := by decide +kernel
theorem dM_curveCount_263 : decode cM_curveCount 263 = .ok (.lcmp, 1) := by decide +kernel
theorem dM_curveCount_264 : decode cM_curveCount 264 = .ok (.ifCond .ge 7, 3) := by decide +kernel
theorem dM_curveCount_267 : decode cM_curveCount 267 = .ok (.iconst 1, 1) := by decide +kernel
theorem dM_curveCount_268 : decode cM_curveCount 268 = .ok (.goto 38, 3) := by decide +kernel
theorem dM_curveCount_271 : decode cM_curveCount 271 = .ok (.iconst 0, 1) := by decide +kernel
theorem dM_curveCount_272 : decode cM_curveCount 272 = .ok (.goto 34, 3) := by decide +kernel
theorem dM_curveCount_275 : decode cM_curveCount 275 = .ok (.lload 4, 2) := by decide +kernel
theorem dM_curveCount_277 : decode cM_curveCount 277 = .ok (.lconst 0, 1) := by decide +kernel
theorem dM_curveCount_278 : decode cM_curveCount 278 = .ok (.lcmp, 1) := by decide +kernel
theorem dM_curveCount_279 : decode cM_curveCount 279 = .ok (.ifCond .ge 26, 3) := by decide +kernel
theorem dM_curveCount_282 : decode cM_curveCount 282 = .ok (.lload 6, 2) := by decide +kernel
theorem dM_curveCount_284 : decode cM_curveCount 284 = .ok (.lconst 0, 1) := by decide +kernel
theorem dM_curveCount_285 : decode cM_curveCount 285 = .ok (.lcmp, 1) := by decide +kernel
theorem dM_curveCount_286 : decode cM_curveCount 286 = .ok (.ifCond .le 19, 3) := by decide +kernel
theorem dM_curveCount_289 : decode cM_curveCount 289 = .ok (.lload 6, 2) := by decide +kernel
theorem dM_curveCount_291 : decode cM_curveCount 291 = .ok (.ldc2_w 120, 3) := by decide +kernel
theorem dM_curveCount_294 : decode cM_curveCount 294 = .ok (.lload 4, 2) := by decide +kernel
theorem dM_curveCount_296 : decode cM_curveCount 296 = .ok (.lmul, 1) := by decide +kernel
theorem dM_curveCount_297 : decode cM_curveCount 297 = .ok (.lcmp, 1) := by decide +kernel
theorem dM_curveCount_298 : decode cM_curveCount 298 = .ok (.ifCond .ge 7, 3) := by decide +kernel
theorem dM_curveCount_301 : decode cM_curveCount 301 = .ok (.iconst 1, 1) := by decide +kernel
theorem dM_curveCount_302 : decode cM_curveCount 302 = .ok (.goto 4, 3) := by decide +kernel
theorem dM_curveCount_305 : decode cM_curveCount 305 = .ok (.iconst 0, 1) := by decide +kernel
theorem dM_curveCount_306 : decode cM_curveCount 306 = .ok (.istore 18, 2) := by decide +kernel
theorem dM_curveCount_308 : decode cM_curveCount 308 = .ok (.iload 16, 2) := by decide +kernel
theorem dM_curveCount_310 : decode cM_curveCount 310 = .ok (.ifCond .eq 18, 3) := by decide +kernel
theorem dM_curveCount_313 : decode cM_curveCount 313 = .ok (.lload 4, 2) := by decide +kernel
theorem dM_curveCount_315 : decode cM_curveCount 315 = .ok (.lconst 0, 1) := by decide +kernel
theorem dM_curveCount_316 : decode cM_curveCount 316 = .ok (.lcmp, 1) := by decide +kernel
theorem dM_curveCount_317 : decode cM_curveCount 317 = .ok (.ifCond .le 7, 3) := by decide +kernel
theorem dM_curveCount_320 : decode cM_curveCount 320 = .ok (.iconst 1, 1) := by decide +kernel
theorem dM_curveCount_321 : decode cM_curveCount 321 = .ok (.goto 19, 3) := by decide +kernel
theorem dM_curveCount_324 : decode cM_curveCount 324 = .ok (.iconst 0, 1) := by decide +kernel
theorem dM_curveCount_325 : decode cM_curveCount 325 = .ok (.goto 15, 3) := by decide +kernel
theorem dM_curveCount_328 : decode cM_curveCount 328 = .ok (.lload 4, 2) := by decide +kernel
theorem dM_curveCount_330 : decode cM_curveCount 330 = .ok (.lconst 0, 1) := by decide +kernel
theorem dM_curveCount_331 : decode cM_curveCount 331 = .ok (.lcmp, 1) := by decide +kernel
theorem dM_curveCount_332 : decode cM_curveCount 332 = .ok (.ifCond .ge 7, 3) := by decide +kernel
theorem dM_curveCount_335 : decode cM_curveCount 335 = .ok (.iconst 1, 1) := by decide +kernel
theorem dM_curveCount_336 : decode cM_curveCount 336 = .ok (.goto 4, 3) := by decide +kernel
theorem dM_curveCount_339 : decode cM_curveCount 339 = .ok (.iconst 0, 1) := by decide +kernel
theorem dM_curveCount_340 : decode cM_curveCount 340 = .ok (.istore 19, 2) := by decide +kernel
theorem dM_curveCount_342 : decode cM_curveCount 342 = .ok (.iload 18, 2) := by decide +kernel
theorem dM_curveCount_344 : decode cM_curveCount 344 = .ok (.ifCond .eq 28, 3) := by decide +kernel
theorem dM_curveCount_347 : decode cM_curveCount 347 = .ok (.iload 19, 2) := by decide +kernel
theorem dM_curveCount_349 : decode cM_curveCount 349 = .ok (.ifCond .eq 23, 3) := by decide +kernel
theorem dM_curveCount_352 : decode cM_curveCount 352 = .ok (.lload 6, 2) := by decide +kernel
theorem dM_curveCount_354 : decode cM_curveCount 354 = .ok (.lload 6, 2) := by decide +kernel
theorem dM_curveCount_356 : decode cM_curveCount 356 = .ok (.lmul, 1) := by decide +kernel
theorem dM_curveCount_357 : decode cM_curveCount 357 = .ok (.ldc2_w 122, 3) := by decide +kernel
theorem dM_curveCount_360 : decode cM_curveCount 360 = .ok (.lload 4, 2) := by decide +kernel
theorem dM_curveCount_362 : decode cM_curveCount 362 = .ok (.lmul, 1) := by decide +kernel
theorem dM_curveCount_363 : decode cM_curveCount 363 = .ok (.lload 8, 2) := by decide +kernel
theorem dM_curveCount_365 : decode cM_curveCount 365 = .ok (.lmul, 1) := by decide +kernel
theorem dM_curveCount_366 : decode cM_curveCount 366 = .ok (.lsub, 1) := by decide +kernel
theorem dM_curveCount_367 : decode cM_curveCount 367 = .ok (.lconst 0, 1) := by decide +kernel
theorem dM_curveCount_368 : decode cM_curveCount 368 = .ok (.lcmp, 1) := by decide +kernel
theorem dM_curveCount_369 : decode cM_curveCount 369 = .ok (.ifCond .gt 5, 3) := by decide +kernel
theorem dM_curveCount_372 : decode cM_curveCount 372 = .ok (.iconst 0, 1) := by decide +kernel
theorem dM_curveCount_373 : decode cM_curveCount 373 = .ok (.ireturn, 1) := by decide +kernel
