/-! decode rows -/
theorem dM_curveCount_374 : decode cM_curveCount 374 = .ok (.aload_n 0, 1) := by decide +kernel
theorem dM_curveCount_375 : decode cM_curveCount 375 = .ok (.lload 4, 2) := by decide +kernel
theorem dM_curveCount_377 : decode cM_curveCount 377 = .ok (.lload 6, 2) := by decide +kernel
theorem dM_curveCount_379 : decode cM_curveCount 379 = .ok (.lload 8, 2) := by decide +kernel
theorem dM_curveCount_381 : decode cM_curveCount 381 = .ok (.iconst 0, 1) := by decide +kernel
theorem dM_curveCount_382 : decode cM_curveCount 382 = .ok (.lload 10, 2) := by decide +kernel
theorem dM_curveCount_384 : decode cM_curveCount 384 = .ok (.lload 12, 2) := by decide +kernel
theorem dM_curveCount_386 : decode cM_curveCount 386 = .ok (.lload 14, 2) := by decide +kernel
theorem dM_curveCount_388 : decode cM_curveCount 388 = .ok (.invokevirtual 116, 3) := by decide +kernel
theorem dM_curveCount_391 : decode cM_curveCount 391 = .ok (.ifCond .eq 7, 3) := by decide +kernel
theorem dM_curveCount_394 : decode cM_curveCount 394 = .ok (.iconst 1, 1) := by decide +kernel
theorem dM_curveCount_395 : decode cM_curveCount 395 = .ok (.goto 4, 3) := by decide +kernel
theorem dM_curveCount_398 : decode cM_curveCount 398 = .ok (.iconst 0, 1) := by decide +kernel
theorem dM_curveCount_399 : decode cM_curveCount 399 = .ok (.istore 20, 2) := by decide +kernel
theorem dM_curveCount_401 : decode cM_curveCount 401 = .ok (.aload_n 0, 1) := by decide +kernel
theorem dM_curveCount_402 : decode cM_curveCount 402 = .ok (.lload 4, 2) := by decide +kernel
theorem dM_curveCount_404 : decode cM_curveCount 404 = .ok (.lload 6, 2) := by decide +kernel
theorem dM_curveCount_406 : decode cM_curveCount 406 = .ok (.lload 8, 2) := by decide +kernel
theorem dM_curveCount_408 : decode cM_curveCount 408 = .ok (.iconst 1, 1) := by decide +kernel
theorem dM_curveCount_409 : decode cM_curveCount 409 = .ok (.lload 10, 2) := by decide +kernel
theorem dM_curveCount_411 : decode cM_curveCount 411 = .ok (.lload 12, 2) := by decide +kernel
theorem dM_curveCount_413 : decode cM_curveCount 413 = .ok (.lload 14, 2) := by decide +kernel
theorem dM_curveCount_415 : decode cM_curveCount 415 = .ok (.invokevirtual 116, 3) := by decide +kernel
theorem dM_curveCount_418 : decode cM_curveCount 418 = .ok (.ifCond .eq 7, 3) := by decide +kernel
theorem dM_curveCount_421 : decode cM_curveCount 421 = .ok (.iconst 1, 1) := by decide +kernel
theorem dM_curveCount_422 : decode cM_curveCount 422 = .ok (.goto 4, 3) := by decide +kernel
theorem dM_curveCount_425 : decode cM_curveCount 425 = .ok (.iconst 0, 1) := by decide +kernel
theorem dM_curveCount_426 : decode cM_curveCount 426 = .ok (.istore 21, 2) := by decide +kernel
theorem dM_curveCount_428 : decode cM_curveCount 428 = .ok (.iload 16, 2) := by decide +kernel
theorem dM_curveCount_430 : decode cM_curveCount 430 = .ok (.ifCond .eq 11, 3) := by decide +kernel
theorem dM_curveCount_433 : decode cM_curveCount 433 = .ok (.iload 21, 2) := by decide +kernel
theorem dM_curveCount_435 : decode cM_curveCount 435 = .ok (.iload 20, 2) := by decide +kernel
theorem dM_curveCount_437 : decode cM_curveCount 437 = .ok (.isub, 1) := by decide +kernel
theorem dM_curveCount_438 : decode cM_curveCount 438 = .ok (.goto 8, 3) := by decide +kernel
theorem dM_curveCount_441 : decode cM_curveCount 441 = .ok (.iload 20, 2) := by decide +kernel
theorem dM_curveCount_443 : decode cM_curveCount 443 = .ok (.iload 21, 2) := by decide +kernel
theorem dM_curveCount_445 : decode cM_curveCount 445 = .ok (.isub, 1) := by decide +kernel
theorem dM_curveCount_446 : decode cM_curveCount 446 = .ok (.ireturn, 1) := by decide +kernel
theorem dM_isLeft_0 : decode cM_isLeft 0 = .ok (.lload_n 1, 1) := by decide +kernel
theorem dM_isLeft_1 : decode cM_isLeft 1 = .ok (.lconst 0, 1) := by decide +kernel
theorem dM_isLeft_2 : decode cM_isLeft 2 = .ok (.lcmp, 1) := by decide +kernel
theorem dM_isLeft_3 : decode cM_isLeft 3 = .ok (.ifCond .ne 38, 3) := by decide +kernel
theorem dM_isLeft_6 : decode cM_isLeft 6 = .ok (.lload 8, 2) := by decide +kernel
theorem dM_isLeft_8 : decode cM_isLeft 8 = .ok (.lload 5, 2) := by decide +kernel
theorem dM_isLeft_10 : decode cM_isLeft 10 = .ok (.lmul, 1) := by decide +kernel
theorem dM_isLeft_11 : decode cM_isLeft 11 = .ok (.lload 5, 2) := by decide +kernel
theorem dM_isLeft_13 : decode cM_isLeft 13 = .ok (.lmul, 1) := by decide +kernel
theorem dM_isLeft_14 : decode cM_isLeft 14 = .ok (.lload 10, 2) := by decide +kernel
theorem dM_isLeft_16 : decode cM_isLeft 16 = .ok (.lload 5, 2) := by decide +kernel
theorem dM_isLeft_18 : decode cM_isLeft 18 = .ok (.lmul, 1) := by decide +kernel
theorem dM_isLeft_19 : decode cM_isLeft 19 = .ok (.lload_n 3, 1) := by decide +kernel
theorem dM_isLeft_20 : decode cM_isLeft 20 = .ok (.lmul, 1) := by decide +kernel
theorem dM_isLeft_21 : decode cM_isLeft 21 = .ok (.lsub, 1) := by decide +kernel
theorem dM_isLeft_22 : decode cM_isLeft 22 = .ok (.lload 12, 2) := by decide +kernel
theorem dM_isLeft_24 : decode cM_isLeft 24 = .ok (.lload_n 3, 1) := by decide +kernel
theorem dM_isLeft_25 : decode cM_isLeft 25 = .ok (.lmul, 1) := by decide +kernel
theorem dM_isLeft_26 : decode cM_isLeft 26 = .ok (.lload_n 3, 1) := by decide +kernel
theorem dM_isLeft_27 : decode cM_isLeft 27 = .ok (.lmul, 1) := by decide +kernel
theorem dM_isLeft_28 : decode cM_isLeft 28 = .ok (.ladd, 1) := by decide +kernel
theorem dM_isLeft_29 : decode cM_isLeft 29 = .ok (.invokestatic 102, 3) := by decide +kernel
theorem dM_isLeft_32 : decode cM_isLeft 32 = .ok (.ifCond .gt 7, 3) := by decide +kernel
theorem dM_isLeft_35 : decode cM_isLeft 35 = .ok (.iconst 1, 1) := by decide +kernel
theorem dM_isLeft_36 : decode cM_isLeft 36 = .ok (.goto 4, 3) := by decide +kernel
theorem dM_isLeft_39 : decode cM_isLeft 39 = .ok (.iconst 0, 1) := by decide +kernel
theorem dM_isLeft_40 : decode cM_isLeft 40 = .ok (.ireturn, 1) := by decide +kernel
theorem dM_isLeft_41 : decode cM_isLeft 41 = .ok (.lload_n 1, 1) := by decide +kernel
theorem dM_isLeft_42 : decode cM_isLeft 42 = .ok (.lload 10, 2) := by decide +kernel
theorem dM_isLeft_44 : decode cM_isLeft 44 = .ok (.lmul, 1) := by decide +kernel
theorem dM_isLeft_45 : decode cM_isLeft 45 = .ok (.lload 8, 2) := by decide +kernel
theorem dM_isLeft_47 : decode cM_isLeft 47 = .ok (.lload_n 3, 1) := by decide +kernel
theorem dM_isLeft_48 : decode cM_isLeft 48 = .ok (.lmul, 1) := by decide +kernel
theorem dM_isLeft_49 : decode cM_isLeft 49 = .ok (.lsub, 1) := by decide +kernel
theorem dM_isLeft_50 : decode cM_isLeft 50 = .ok (.lstore 14, 2) := by decide +kernel
theorem dM_isLeft_52 : decode cM_isLeft 52 = .ok (.lload_n 1, 1) := by decide +kernel
theorem dM_isLeft_53 : decode cM_isLeft 53 = .ok (.lload 12, 2) := by decide +kernel
theorem dM_isLeft_55 : decode cM_isLeft 55 = .ok (.lmul, 1) := by decide +kernel
theorem dM_isLeft_56 : decode cM_isLeft 56 = .ok (.lload 8, 2) := by decide +kernel
theorem dM_isLeft_58 : decode cM_isLeft 58 = .ok (.lload 5, 2) := by decide +kernel
theorem dM_isLeft_60 : decode cM_isLeft 60 = .ok (.lmul, 1) := by decide +kernel
theorem dM_isLeft_61 : decode cM_isLeft 61 = .ok (.lsub, 1) := by decide +kernel
theorem dM_isLeft_62 : decode cM_isLeft 62 = .ok (.lstore 16, 2) := by decide +kernel
theorem dM_isLeft_64 : decode cM_isLeft 64 = .ok (.lload 16, 2) := by decide +kernel
theorem dM_isLeft_66 : decode cM_isLeft 66 = .ok (.invokestatic 102, 3) := by decide +kernel
theorem dM_isLeft_69 : decode cM_isLeft 69 = .ok (.istore 18, 2) := by decide +kernel
theorem dM_isLeft_71 : decode cM_isLeft 71 = .ok (.lload 14, 2) := by decide +kernel
theorem dM_isLeft_73 : decode cM_isLeft 73 = .ok (.lconst 0, 1) := by decide +kernel
theorem dM_isLeft_74 : decode cM_isLeft 74 = .ok (.lcmp, 1) := by decide +kernel
theorem dM_isLeft_75 : decode cM_isLeft 75 = .ok (.ifCond .eq 59, 3) := by decide +kernel
theorem dM_isLeft_78 : decode cM_isLeft 78 = .ok (.lload 14, 2) := by decide +kernel
theorem dM_isLeft_80 : decode cM_isLeft 80 = .ok (.lconst 0, 1) := by decide +kernel
theorem dM_isLeft_81 : decode cM_isLeft 81 = .ok (.lcmp, 1) := by decide +kernel
theorem dM_isLeft_82 : decode cM_isLeft 82 = .ok (.ifCond .le 9, 3) := by decide +kernel
theorem dM_isLeft_85 : decode cM_isLeft 85 = .ok (.lload 16, 2) := by decide +kernel
theorem dM_isLeft_87 : decode cM_isLeft 87 = .ok (.lneg, 1) := by decide +kernel
theorem dM_isLeft_88 : decode cM_isLeft 88 = .ok (.goto 5, 3) := by decide +kernel
theorem dM_isLeft_91 : decode cM_isLeft 91 = .ok (.lload 16, 2) := by decide +kernel
theorem dM_isLeft_93 : decode cM_isLeft 93 = .ok (.lstore 19, 2) := by decide +kernel
theorem dM_isLeft_95 : decode cM_isLeft 95 = .ok (.lload 14, 2) := by decide +kernel
theorem dM_isLeft_97 : decode cM_isLeft 97 = .ok (.lconst 0, 1) := by decide +kernel
theorem dM_isLeft_98 : decode cM_isLeft 98 = .ok (.lcmp, 1) := by decide +kernel
theorem dM_isLeft_99 : decode cM_isLeft 99 = .ok (.ifCond .le 8, 3) := by decide +kernel
theorem dM_isLeft_102 : decode cM_isLeft 102 = .ok (.lload 14, 2) := by decide +kernel
theorem dM_isLeft_104 : decode cM_isLeft 104 = .ok (.goto 6, 3) := by decide +kernel
theorem dM_isLeft_107 : decode cM_isLeft 107 = .ok (.lload 14, 2) := by decide +kernel
theorem dM_isLeft_109 : decode cM_isLeft 109 = .ok (.lneg, 1) := by decide +kernel
theorem dM_isLeft_110 : decode cM_isLeft 110 = .ok (.lstore 21, 2) := by decide +kernel
theorem dM_isLeft_112 : decode cM_isLeft 112 = .ok (.lload 14, 2) := by decide +kernel
theorem dM_isLeft_114 : decode cM_isLeft 114 = .ok (.invokestatic 102, 3) := by decide +kernel
theorem dM_isLeft_117 : decode cM_isLeft 117 = .ok (.aload_n 0, 1) := by decide +kernel
theorem dM_isLeft_118 : decode cM_isLeft 118 = .ok (.lload_n 1, 1) := by decide +kernel
theorem dM_isLeft_119 : decode cM_isLeft 119 = .ok (.lload_n 3, 1) := by decide +kernel
theorem dM_isLeft_120 : decode cM_isLeft 120 = .ok (.lload 5, 2) := by decide +kernel
theorem dM_isLeft_122 : decode cM_isLeft 122 = .ok (.iload 7, 2) := by decide +kernel
theorem dM_isLeft_124 : decode cM_isLeft 124 = .ok (.lload 19, 2) := by decide +kernel
theorem dM_isLeft_126 : decode cM_isLeft 126 = .ok (.lload 21, 2) := by decide +kernel
theorem dM_isLeft_128 : decode cM_isLeft 128 = .ok (.invokevirtual 112, 3) := by decide +kernel
theorem dM_isLeft_131 : decode cM_isLeft 131 = .ok (.imul, 1) := by decide +kernel
theorem dM_isLeft_132 : decode cM_isLeft 132 = .ok (.istore 18, 2) := by decide +kernel
theorem dM_isLeft_134 : decode cM_isLeft 134 = .ok (.lload_n 1, 1) := by decide +kernel
theorem dM_isLeft_135 : decode cM_isLeft 135 = .ok (.invokestatic 102, 3) := by decide +kernel
theorem dM_isLeft_138 : decode cM_isLeft 138 = .ok (.iload 18, 2) := by decide +kernel
theorem dM_isLeft_140 : decode cM_isLeft 140 = .ok (.imul, 1) := by decide +kernel
theorem dM_isLeft_141 : decode cM_isLeft 141 = .ok (.ifCond .gt 7, 3) := by decide +kernel
theorem dM_isLeft_144 : decode cM_isLeft 144 = .ok (.iconst 1, 1) := by decide +kernel
theorem dM_isLeft_145 : decode cM_isLeft 145 = .ok (.goto 4, 3) := by decide +kernel
theorem dM_isLeft_148 : decode cM_isLeft 148 = .ok (.iconst 0, 1) := by decide +kernel
theorem dM_isLeft_149 : decode cM_isLeft 149 = .ok (.ireturn, 1) := by decide +kernel
theorem dM_signOf_0 : decode cM_signOf 0 = .ok (.lload_n 0, 1) := by decide +kernel
theorem dM_signOf_1 : decode cM_signOf 1 = .ok (.lconst 0, 1) := by decide +kernel
theorem dM_signOf_2 : decode cM_signOf 2 = .ok (.lcmp, 1) := by decide +kernel
theorem dM_signOf_3 : decode cM_signOf 3 = .ok (.ifCond .le 7, 3) := by decide +kernel
theorem dM_signOf_6 : decode cM_signOf 6 = .ok (.iconst 1, 1) := by decide +kernel
theorem dM_signOf_7 : decode cM_signOf 7 = .ok (.goto 14, 3) := by decide +kernel
theorem dM_signOf_10 : decode cM_signOf 10 = .ok (.lload_n 0, 1) := by decide +kernel
theorem dM_signOf_11 : decode cM_signOf 11 = .ok (.lconst 0, 1) := by decide +kernel
theorem dM_signOf_12 : decode cM_signOf 12 = .ok (.lcmp, 1) := by decide +kernel
theorem dM_signOf_13 : decode cM_signOf 13 = .ok (.ifCond .ge 7, 3) := by decide +kernel
theorem dM_signOf_16 : decode cM_signOf 16 = .ok (.iconst (-1), 1) := by decide +kernel
theorem dM_signOf_17 : decode cM_signOf 17 = .ok (.goto 4, 3) := by decide +kernel
theorem dM_signOf_20 : decode cM_signOf 20 = .ok (.iconst 0, 1) := by decide +kernel
theorem dM_signOf_21 : decode cM_signOf 21 = .ok (.ireturn, 1) := by decide +kernel
theorem dM_compareRoot_0 : decode cM_compareRoot 0 = .ok (.lload_n 1, 1) := by decide +kernel
theorem dM_compareRoot_1 : decode cM_compareRoot 1 = .ok (.invokestatic 102, 3) := by decide +kernel
theorem dM_compareRoot_4 : decode cM_compareRoot 4 = .ok (.aload_n 0, 1) := by decide +kernel
theorem dM_compareRoot_5 : decode cM_compareRoot 5 = .ok (.lload_n 1, 1) := by decide +kernel
theorem dM_compareRoot_6 : decode cM_compareRoot 6 = .ok (.lload_n 3, 1) := by decide +kernel
theorem dM_compareRoot_7 : decode cM_compareRoot 7 = .ok (.lload 5, 2) := by decide +kernel
theorem dM_compareRoot_9 : decode cM_compareRoot 9 = .ok (.lload 8, 2) := by decide +kernel
theorem dM_compareRoot_11 : decode cM_compareRoot 11 = .ok (.lload 10, 2) := by decide +kernel
theorem dM_compareRoot_13 : decode cM_compareRoot 13 = .ok (.invokevirtual 106, 3) := by decide +kernel
theorem dM_compareRoot_16 : decode cM_compareRoot 16 = .ok (.imul, 1) := by decide +kernel
theorem dM_compareRoot_17 : decode cM_compareRoot 17 = .ok (.istore 12, 2) := by decide +kernel
theorem dM_compareRoot_19 : decode cM_compareRoot 19 = .ok (.lload_n 1, 1) := by decide +kernel
theorem dM_compareRoot_20 : decode cM_compareRoot 20 = .ok (.invokestatic 102, 3) := by decide +kernel
theorem dM_compareRoot_23 : decode cM_compareRoot 23 = .ok (.ldc2_w 110, 3) := by decide +kernel
theorem dM_compareRoot_26 : decode cM_compareRoot 26 = .ok (.lload_n 1, 1) := by decide +kernel
theorem dM_compareRoot_27 : decode cM_compareRoot 27 = .ok (.lmul, 1) := by decide +kernel
theorem dM_compareRoot_28 : decode cM_compareRoot 28 = .ok (.lload 8, 2) := by decide +kernel
theorem dM_compareRoot_30 : decode cM_compareRoot 30 = .ok (.lmul, 1) := by decide +kernel
theorem dM_compareRoot_31 : decode cM_compareRoot 31 = .ok (.lload_n 3, 1) := by decide +kernel
theorem dM_compareRoot_32 : decode cM_compareRoot 32 = .ok (.lload 10, 2) := by decide +kernel
theorem dM_compareRoot_34 : decode cM_compareRoot 34 = .ok (.lmul, 1) := by decide +kernel
theorem dM_compareRoot_35 : decode cM_compareRoot 35 = .ok (.ladd, 1) := by decide +kernel
theorem dM_compareRoot_36 : decode cM_compareRoot 36 = .ok (.invokestatic 102, 3) := by decide +kernel
theorem dM_compareRoot_39 : decode cM_compareRoot 39 = .ok (.imul, 1) := by decide +kernel
theorem dM_compareRoot_40 : decode cM_compareRoot 40 = .ok (.istore 13, 2) := by decide +kernel
theorem dM_compareRoot_42 : decode cM_compareRoot 42 = .ok (.iload 12, 2) := by decide +kernel
theorem dM_compareRoot_44 : decode cM_compareRoot 44 = .ok (.ifCond .ge 14, 3) := by decide +kernel
theorem dM_compareRoot_47 : decode cM_compareRoot 47 = .ok (.iload 7, 2) := by decide +kernel
theorem dM_compareRoot_49 : decode cM_compareRoot 49 = .ok (.ifCond .eq 7, 3) := by decide +kernel
theorem dM_compareRoot_52 : decode cM_compareRoot 52 = .ok (.iconst 1, 1) := by decide +kernel
theorem dM_compareRoot_53 : decode cM_compareRoot 53 = .ok (.goto 4, 3) := by decide +kernel
theorem dM_compareRoot_56 : decode cM_compareRoot 56 = .ok (.iconst (-1), 1) := by decide +kernel
theorem dM_compareRoot_57 : decode cM_compareRoot 57 = .ok (.ireturn, 1) := by decide +kernel
theorem dM_compareRoot_58 : decode cM_compareRoot 58 = .ok (.iload 12, 2) := by decide +kernel
theorem dM_compareRoot_60 : decode cM_compareRoot 60 = .ok (.ifCond .le 14, 3) := by decide +kernel
theorem dM_compareRoot_63 : decode cM_compareRoot 63 = .ok (.iload 13, 2) := by decide +kernel
theorem dM_compareRoot_65 : decode cM_compareRoot 65 = .ok (.ifCond .ge 7, 3) := by decide +kernel
theorem dM_compareRoot_68 : decode cM_compareRoot 68 = .ok (.iconst 1, 1) := by decide +kernel
theorem dM_compareRoot_69 : decode cM_compareRoot 69 = .ok (.goto 4, 3) := by decide +kernel
theorem dM_compareRoot_72 : decode cM_compareRoot 72 = .ok (.iconst (-1), 1) := by decide +kernel
theorem dM_compareRoot_73 : decode cM_compareRoot 73 = .ok (.ireturn, 1) := by decide +kernel
theorem dM_compareRoot_74 : decode cM_compareRoot 74 = .ok (.iload 7, 2) := by decide +kernel
theorem dM_compareRoot_76 : decode cM_compareRoot 76 = .ok (.ifCond .eq 16, 3) := by decide +kernel
theorem dM_compareRoot_79 : decode cM_compareRoot 79 = .ok (.iload 13, 2) := by decide +kernel
theorem dM_compareRoot_81 : decode cM_compareRoot 81 = .ok (.ifCond .ge 7, 3) := by decide +kernel
theorem dM_compareRoot_84 : decode cM_compareRoot 84 = .ok (.iconst 1, 1) := by decide +kernel
theorem dM_compareRoot_85 : decode cM_compareRoot 85 = .ok (.goto 17, 3) := by decide +kernel
theorem dM_compareRoot_88 : decode cM_compareRoot 88 = .ok (.iconst 0, 1) := by decide +kernel
theorem dM_compareRoot_89 : decode cM_compareRoot 89 = .ok (.goto 13, 3) := by decide +kernel
theorem dM_compareRoot_92 : decode cM_compareRoot 92 = .ok (.iload 13, 2) := by decide +kernel
theorem dM_compareRoot_94 : decode cM_compareRoot 94 = .ok (.ifCond .le 7, 3) := by decide +kernel
theorem dM_compareRoot_97 : decode cM_compareRoot 97 = .ok (.iconst (-1), 1) := by decide +kernel
theorem dM_compareRoot_98 : decode cM_compareRoot 98 = .ok (.goto 4, 3) := by decide +kernel
theorem dM_compareRoot_101 : decode cM_compareRoot 101 = .ok (.iconst 0, 1) := by decide +kernel
theorem dM_compareRoot_102 : decode cM_compareRoot 102 = .ok (.ireturn, 1) := by decide +kernel
theorem dM_signAt_0 : decode cM_signAt 0 = .ok (.aload_n 0, 1) := by decide +kernel
theorem dM_signAt_1 : decode cM_signAt 1 = .ok (.lconst 0, 1) := by decide +kernel
theorem dM_signAt_2 : decode cM_signAt 2 = .ok (.putfield 91, 3) := by decide +kernel
theorem dM_signAt_5 : decode cM_signAt 5 = .ok (.aload_n 0, 1) := by decide +kernel
theorem dM_signAt_6 : decode cM_signAt 6 = .ok (.lconst 0, 1) := by decide +kernel
theorem dM_signAt_7 : decode cM_signAt 7 = .ok (.putfield 95, 3) := by decide +kernel
theorem dM_signAt_10 : decode cM_signAt 10 = .ok (.aload_n 0, 1) := by decide +kernel
theorem dM_signAt_11 : decode cM_signAt 11 = .ok (.lload_n 1, 1) := by decide +kernel
theorem dM_signAt_12 : decode cM_signAt 12 = .ok (.lload 7, 2) := by decide +kernel
theorem dM_signAt_14 : decode cM_signAt 14 = .ok (.lmul, 1) := by decide +kernel
theorem dM_signAt_15 : decode cM_signAt 15 = .ok (.lload_n 3, 1) := by decide +kernel
theorem dM_signAt_16 : decode cM_signAt 16 = .ok (.lload 9, 2) := by decide +kernel
theorem dM_signAt_18 : decode cM_signAt 18 = .ok (.lmul, 1) := by decide +kernel
theorem dM_signAt_19 : decode cM_signAt 19 = .ok (.ladd, 1) := by decide +kernel
theorem dM_signAt_20 : decode cM_signAt 20 = .ok (.lload 7, 2) := by decide +kernel
theorem dM_signAt_22 : decode cM_signAt 22 = .ok (.invokevirtual 98, 3) := by decide +kernel
theorem dM_signAt_25 : decode cM_signAt 25 = .ok (.aload_n 0, 1) := by decide +kernel
theorem dM_signAt_26 : decode cM_signAt 26 = .ok (.lload 5, 2) := by decide +kernel
theorem dM_signAt_28 : decode cM_signAt 28 = .ok (.lload 9, 2) := by decide +kernel
theorem dM_signAt_30 : decode cM_signAt 30 = .ok (.lmul, 1) := by decide +kernel
theorem dM_signAt_31 : decode cM_signAt 31 = .ok (.lload 9, 2) := by decide +kernel
theorem dM_signAt_33 : decode cM_signAt 33 = .ok (.invokevirtual 98, 3) := by decide +kernel
theorem dM_signAt_36 : decode cM_signAt 36 = .ok (.aload_n 0, 1) := by decide +kernel
theorem dM_signAt_37 : decode cM_signAt 37 = .ok (.getfield 91, 3) := by decide +kernel
theorem dM_signAt_40 : decode cM_signAt 40 = .ok (.lconst 0, 1) := by decide +kernel
theorem dM_signAt_41 : decode cM_signAt 41 = .ok (.lcmp, 1) := by decide +kernel
theorem dM_signAt_42 : decode cM_signAt 42 = .ok (.ifCond .eq 13, 3) := by decide +kernel
theorem dM_signAt_45 : decode cM_signAt 45 = .ok (.aload_n 0, 1) := by decide +kernel
theorem dM_signAt_46 : decode cM_signAt 46 = .ok (.getfield 91, 3) := by decide +kernel
theorem dM_signAt_49 : decode cM_signAt 49 = .ok (.invokestatic 102, 3) := by decide +kernel
theorem dM_signAt_52 : decode cM_signAt 52 = .ok (.goto 10, 3) := by decide +kernel
theorem dM_signAt_55 : decode cM_signAt 55 = .ok (.aload_n 0, 1) := by decide +kernel
theorem dM_signAt_56 : decode cM_signAt 56 = .ok (.getfield 95, 3) := by decide +kernel
theorem dM_signAt_59 : decode cM_signAt 59 = .ok (.invokestatic 102, 3) := by decide +kernel
theorem dM_signAt_62 : decode cM_signAt 62 = .ok (.ireturn, 1) := by decide +kernel
theorem dM_addProduct_0 : decode cM_addProduct 0 = .ok (.lload_n 1, 1) := by decide +kernel
theorem dM_addProduct_1 : decode cM_addProduct 1 = .ok (.bipush 24, 2) := by decide +kernel
theorem dM_addProduct_3 : decode cM_addProduct 3 = .ok (.lshr, 1) := by decide +kernel
theorem dM_addProduct_4 : decode cM_addProduct 4 = .ok (.lstore 5, 2) := by decide +kernel
theorem dM_addProduct_6 : decode cM_addProduct 6 = .ok (.lload_n 1, 1) := by decide +kernel
theorem dM_addProduct_7 : decode cM_addProduct 7 = .ok (.ldc2_w 89, 3) := by decide +kernel
theorem dM_addProduct_10 : decode cM_addProduct 10 = .ok (.land, 1) := by decide +kernel
theorem dM_addProduct_11 : decode cM_addProduct 11 = .ok (.lstore 7, 2) := by decide +kernel
theorem dM_addProduct_13 : decode cM_addProduct 13 = .ok (.aload_n 0, 1) := by decide +kernel
theorem dM_addProduct_14 : decode cM_addProduct 14 = .ok (.aload_n 0, 1) := by decide +kernel
theorem dM_addProduct_15 : decode cM_addProduct 15 = .ok (.getfield 91, 3) := by decide +kernel
theorem dM_addProduct_18 : decode cM_addProduct 18 = .ok (.lload 5, 2) := by decide +kernel
theorem dM_addProduct_20 : decode cM_addProduct 20 = .ok (.lload_n 3, 1) := by decide +kernel
theorem dM_addProduct_21 : decode cM_addProduct 21 = .ok (.lmul, 1) := by decide +kernel
theorem dM_addProduct_22 : decode cM_addProduct 22 = .ok (.ladd, 1) := by decide +kernel
theorem dM_addProduct_23 : decode cM_addProduct 23 = .ok (.putfield 91, 3) := by decide +kernel
theorem dM_addProduct_26 : decode cM_addProduct 26 = .ok (.aload_n 0, 1) := by decide +kernel
theorem dM_addProduct_27 : decode cM_addProduct 27 = .ok (.aload_n 0, 1) := by decide +kernel
theorem dM_addProduct_28 : decode cM_addProduct 28 = .ok (.getfield 95, 3) := by decide +kernel
theorem dM_addProduct_31 : decode cM_addProduct 31 = .ok (.lload 7, 2) := by decide +kernel
theorem dM_addProduct_33 : decode cM_addProduct 33 = .ok (.lload_n 3, 1) := by decide +kernel
theorem dM_addProduct_34 : decode cM_addProduct 34 = .ok (.lmul, 1) := by decide +kernel
theorem dM_addProduct_35 : decode cM_addProduct 35 = .ok (.ladd, 1) := by decide +kernel
theorem dM_addProduct_36 : decode cM_addProduct 36 = .ok (.putfield 95, 3) := by decide +kernel
theorem dM_addProduct_39 : decode cM_addProduct 39 = .ok (.aload_n 0, 1) := by decide +kernel
theorem dM_addProduct_40 : decode cM_addProduct 40 = .ok (.aload_n 0, 1) := by decide +kernel
theorem dM_addProduct_41 : decode cM_addProduct 41 = .ok (.getfield 91, 3) := by decide +kernel
theorem dM_addProduct_44 : decode cM_addProduct 44 = .ok (.aload_n 0, 1) := by decide +kernel
theorem dM_addProduct_45 : decode cM_addProduct 45 = .ok (.getfield 95, 3) := by decide +kernel
theorem dM_addProduct_48 : decode cM_addProduct 48 = .ok (.bipush 24, 2) := by decide +kernel
theorem dM_addProduct_50 : decode cM_addProduct 50 = .ok (.lshr, 1) := by decide +kernel
theorem dM_addProduct_51 : decode cM_addProduct 51 = .ok (.ladd, 1) := by decide +kernel
theorem dM_addProduct_52 : decode cM_addProduct 52 = .ok (.putfield 91, 3) := by decide +kernel
theorem dM_addProduct_55 : decode cM_addProduct 55 = .ok (.aload_n 0, 1) := by decide +kernel
theorem dM_addProduct_56 : decode cM_addProduct 56 = .ok (.aload_n 0, 1) := by decide +kernel
theorem dM_addProduct_57 : decode cM_addProduct 57 = .ok (.getfield 95, 3) := by decide +kernel
theorem dM_addProduct_60 : decode cM_addProduct 60 = .ok (.ldc2_w 89, 3) := by decide +kernel
theorem dM_addProduct_63 : decode cM_addProduct 63 = .ok (.land, 1) := by decide +kernel
theorem dM_addProduct_64 : decode cM_addProduct 64 = .ok (.putfield 95, 3) := by decide +kernel
theorem dM_addProduct_67 : decode cM_addProduct 67 = .ok (.return_, 1) := by decide +kernel
theorem dM_lineCount_0 : decode cM_lineCount 0 = .ok (.aload_n 0, 1) := by decide +kernel
theorem dM_lineCount_1 : decode cM_lineCount 1 = .ok (.getfield 32, 3) := by decide +kernel
theorem dM_lineCount_4 : decode cM_lineCount 4 = .ok (.iload_n 1, 1) := by decide +kernel
theorem dM_lineCount_5 : decode cM_lineCount 5 = .ok (.iaload, 1) := by decide +kernel
theorem dM_lineCount_6 : decode cM_lineCount 6 = .ok (.i2l, 1) := by decide +kernel
theorem dM_lineCount_7 : decode cM_lineCount 7 = .ok (.lstore 4, 2) := by decide +kernel
theorem dM_lineCount_9 : decode cM_lineCount 9 = .ok (.aload_n 0, 1) := by decide +kernel
theorem dM_lineCount_10 : decode cM_lineCount 10 = .ok (.getfield 32, 3) := by decide +kernel
theorem dM_lineCount_13 : decode cM_lineCount 13 = .ok (.iload_n 1, 1) := by decide +kernel
theorem dM_lineCount_14 : decode cM_lineCount 14 = .ok (.iconst 1, 1) := by decide +kernel
theorem dM_lineCount_15 : decode cM_lineCount 15 = .ok (.iadd, 1) := by decide +kernel
theorem dM_lineCount_16 : decode cM_lineCount 16 = .ok (.iaload, 1) := by decide +kernel
theorem dM_lineCount_17 : decode cM_lineCount 17 = .ok (.i2l, 1) := by decide +kernel
theorem dM_lineCount_18 : decode cM_lineCount 18 = .ok (.lstore 6, 2) := by decide +kernel
theorem dM_lineCount_20 : decode cM_lineCount 20 = .ok (.aload_n 0, 1) := by decide +kernel
theorem dM_lineCount_21 : decode cM_lineCount 21 = .ok (.getfield 32, 3) := by decide +kernel
theorem dM_lineCount_24 : decode cM_lineCount 24 = .ok (.iload_n 1, 1) := by decide +kernel
theorem dM_lineCount_25 : decode cM_lineCount 25 = .ok (.iconst 4, 1) := by decide +kernel
theorem dM_lineCount_26 : decode cM_lineCount 26 = .ok (.iadd, 1) := by decide +kernel
theorem dM_lineCount_27 : decode cM_lineCount 27 = .ok (.iaload, 1) := by decide +kernel
theorem dM_lineCount_28 : decode cM_lineCount 28 = .ok (.i2l, 1) := by decide +kernel
theorem dM_lineCount_29 : decode cM_lineCount 29 = .ok (.lstore 8, 2) := by decide +kernel
theorem dM_lineCount_31 : decode cM_lineCount 31 = .ok (.aload_n 0, 1) := by decide +kernel
theorem dM_lineCount_32 : decode cM_lineCount 32 = .ok (.getfield 32, 3) := by decide +kernel
theorem dM_lineCount_35 : decode cM_lineCount 35 = .ok (.iload_n 1, 1) := by decide +kernel
theorem dM_lineCount_36 : decode cM_lineCount 36 = .ok (.iconst 5, 1) := by decide +kernel
theorem dM_lineCount_37 : decode cM_lineCount 37 = .ok (.iadd, 1) := by decide +kernel
theorem dM_lineCount_38 : decode cM_lineCount 38 = .ok (.iaload, 1) := by decide +kernel
theorem dM_lineCount_39 : decode cM_lineCount 39 = .ok (.i2l, 1) := by decide +kernel
theorem dM_lineCount_40 : decode cM_lineCount 40 = .ok (.lstore 10, 2) := by decide +kernel
theorem dM_lineCount_42 : decode cM_lineCount 42 = .ok (.lload 6, 2) := by decide +kernel
theorem dM_lineCount_44 : decode cM_lineCount 44 = .ok (.iload_n 3, 1) := by decide +kernel
theorem dM_lineCount_45 : decode cM_lineCount 45 = .ok (.i2l, 1) := by decide +kernel
theorem dM_lineCount_46 : decode cM_lineCount 46 = .ok (.lcmp, 1) := by decide +kernel
theorem dM_lineCount_47 : decode cM_lineCount 47 = .ok (.ifCond .le 7, 3) := by decide +kernel
theorem dM_lineCount_50 : decode cM_lineCount 50 = .ok (.iconst 1, 1) := by decide +kernel
theorem dM_lineCount_51 : decode cM_lineCount 51 = .ok (.goto 4, 3) := by decide +kernel
theorem dM_lineCount_54 : decode cM_lineCount 54 = .ok (.iconst 0, 1) := by decide +kernel
theorem dM_lineCount_55 : decode cM_lineCount 55 = .ok (.istore 12, 2) := by decide +kernel
theorem dM_lineCount_57 : decode cM_lineCount 57 = .ok (.lload 10, 2) := by decide +kernel
theorem dM_lineCount_59 : decode cM_lineCount 59 = .ok (.iload_n 3, 1) := by decide +kernel
theorem dM_lineCount_60 : decode cM_lineCount 60 = .ok (.i2l, 1) := by decide +kernel
theorem dM_lineCount_61 : decode cM_lineCount 61 = .ok (.lcmp, 1) := by decide +kernel
theorem dM_lineCount_62 : decode cM_lineCount 62 = .ok (.ifCond .le 7, 3) := by decide +kernel
theorem dM_lineCount_65 : decode cM_lineCount 65 = .ok (.iconst 1, 1) := by decide +kernel
theorem dM_lineCount_66 : decode cM_lineCount 66 = .ok (.goto 4, 3) := by decide +kernel
theorem dM_lineCount_69 : decode cM_lineCount 69 = .ok (.iconst 0, 1) := by decide +kernel
theorem dM_lineCount_70 : decode cM_lineCount 70 = .ok (.istore 13, 2) := by decide +kernel
theorem dM_lineCount_72 : decode cM_lineCount 72 = .ok (.iload 12, 2) := by decide +kernel
theorem dM_lineCount_74 : decode cM_lineCount 74 = .ok (.iload 13, 2) := by decide +kernel
theorem dM_lineCount_76 : decode cM_lineCount 76 = .ok (.if_icmp .ne 5, 3) := by decide +kernel
theorem dM_lineCount_79 : decode cM_lineCount 79 = .ok (.iconst 0, 1) := by decide +kernel
theorem dM_lineCount_80 : decode cM_lineCount 80 = .ok (.ireturn, 1) := by decide +kernel
theorem dM_lineCount_81 : decode cM_lineCount 81 = .ok (.lload 8, 2) := by decide +kernel
theorem dM_lineCount_83 : decode cM_lineCount 83 = .ok (.lload 4, 2) := by decide +kernel
theorem dM_lineCount_85 : decode cM_lineCount 85 = .ok (.lsub, 1) := by decide +kernel
theorem dM_lineCount_86 : decode cM_lineCount 86 = .ok (.iload_n 3, 1) := by decide +kernel
theorem dM_lineCount_87 : decode cM_lineCount 87 = .ok (.i2l, 1) := by decide +kernel
theorem dM_lineCount_88 : decode cM_lineCount 88 = .ok (.lload 6, 2) := by decide +kernel
theorem dM_lineCount_90 : decode cM_lineCount 90 = .ok (.lsub, 1) := by decide +kernel
theorem dM_lineCount_91 : decode cM_lineCount 91 = .ok (.lmul, 1) := by decide +kernel
theorem dM_lineCount_92 : decode cM_lineCount 92 = .ok (.iload_n 2, 1) := by decide +kernel
theorem dM_lineCount_93 : decode cM_lineCount 93 = .ok (.i2l, 1) := by decide +kernel
theorem dM_lineCount_94 : decode cM_lineCount 94 = .ok (.lload 4, 2) := by decide +kernel
theorem dM_lineCount_96 : decode cM_lineCount 96 = .ok (.lsub, 1) := by decide +kernel
theorem dM_lineCount_97 : decode cM_lineCount 97 = .ok (.lload 10, 2) := by decide +kernel
theorem dM_lineCount_99 : decode cM_lineCount 99 = .ok (.lload 6, 2) := by decide +kernel
theorem dM_lineCount_101 : decode cM_lineCount 101 = .ok (.lsub, 1) := by decide +kernel
theorem dM_lineCount_102 : decode cM_lineCount 102 = .ok (.lmul, 1) := by decide +kernel
theorem dM_lineCount_103 : decode cM_lineCount 103 = .ok (.lsub, 1) := by decide +kernel
theorem dM_lineCount_104 : decode cM_lineCount 104 = .ok (.invokestatic 102, 3) := by decide +kernel
theorem dM_lineCount_107 : decode cM_lineCount 107 = .ok (.lload 10, 2) := by decide +kernel
theorem dM_lineCount_109 : decode cM_lineCount 109 = .ok (.lload 6, 2) := by decide +kernel
theorem dM_lineCount_111 : decode cM_lineCount 111 = .ok (.lsub, 1) := by decide +kernel
theorem dM_lineCount_112 : decode cM_lineCount 112 = .ok (.invokestatic 102, 3) := by decide +kernel
theorem dM_lineCount_115 : decode cM_lineCount 115 = .ok (.imul, 1) := by decide +kernel
theorem dM_lineCount_116 : decode cM_lineCount 116 = .ok (.istore 14, 2) := by decide +kernel
theorem dM_lineCount_118 : decode cM_lineCount 118 = .ok (.iload 14, 2) := by decide +kernel
theorem dM_lineCount_120 : decode cM_lineCount 120 = .ok (.ifCond .le 7, 3) := by decide +kernel
theorem dM_lineCount_123 : decode cM_lineCount 123 = .ok (.iconst 0, 1) := by decide +kernel
theorem dM_lineCount_124 : decode cM_lineCount 124 = .ok (.goto 13, 3) := by decide +kernel
theorem dM_lineCount_127 : decode cM_lineCount 127 = .ok (.iload 13, 2) := by decide +kernel
theorem dM_lineCount_129 : decode cM_lineCount 129 = .ok (.ifCond .eq 7, 3) := by decide +kernel
theorem dM_lineCount_132 : decode cM_lineCount 132 = .ok (.iconst 1, 1) := by decide +kernel
theorem dM_lineCount_133 : decode cM_lineCount 133 = .ok (.goto 4, 3) := by decide +kernel
theorem dM_lineCount_136 : decode cM_lineCount 136 = .ok (.iconst (-1), 1) := by decide +kernel
theorem dM_lineCount_137 : decode cM_lineCount 137 = .ok (.ireturn, 1) := by decide +kernel
theorem dM_winding_0 : decode cM_winding 0 = .ok (.aload_n 0, 1) := by decide +kernel
theorem dM_winding_1 : decode cM_winding 1 = .ok (.iload_n 1, 1) := by decide +kernel
theorem dM_winding_2 : decode cM_winding 2 = .ok (.invokestatic 152, 3) := by decide +kernel
theorem dM_winding_5 : decode cM_winding 5 = .ok (.ifCond .ne 10, 3) := by decide +kernel
theorem dM_winding_8 : decode cM_winding 8 = .ok (.iload_n 2, 1) := by decide +kernel
theorem dM_winding_9 : decode cM_winding 9 = .ok (.invokestatic 152, 3) := by decide +kernel
theorem dM_winding_12 : decode cM_winding 12 = .ok (.ifCond .eq 7, 3) := by decide +kernel
theorem dM_winding_15 : decode cM_winding 15 = .ok (.iconst 1, 1) := by decide +kernel
theorem dM_winding_16 : decode cM_winding 16 = .ok (.goto 4, 3) := by decide +kernel
theorem dM_winding_19 : decode cM_winding 19 = .ok (.iconst 0, 1) := by decide +kernel
theorem dM_winding_20 : decode cM_winding 20 = .ok (.invokevirtual 60, 3) := by decide +kernel
theorem dM_winding_23 : decode cM_winding 23 = .ok (.ifCond .eq 5, 3) := by decide +kernel
theorem dM_winding_26 : decode cM_winding 26 = .ok (.iconst 0, 1) := by decide +kernel
theorem dM_winding_27 : decode cM_winding 27 = .ok (.ireturn, 1) := by decide +kernel
theorem dM_winding_28 : decode cM_winding 28 = .ok (.aload_n 0, 1) := by decide +kernel
theorem dM_winding_29 : decode cM_winding 29 = .ok (.invokevirtual 139, 3) := by decide +kernel
theorem dM_winding_32 : decode cM_winding 32 = .ok (.aload_n 0, 1) := by decide +kernel
theorem dM_winding_33 : decode cM_winding 33 = .ok (.iload_n 1, 1) := by decide +kernel
theorem dM_winding_34 : decode cM_winding 34 = .ok (.iload_n 2, 1) := by decide +kernel
theorem dM_winding_35 : decode cM_winding 35 = .ok (.invokevirtual 131, 3) := by decide +kernel
theorem dM_winding_38 : decode cM_winding 38 = .ok (.ireturn, 1) := by decide +kernel
theorem dM_isFar_0 : decode cM_isFar 0 = .ok (.iload_n 0, 1) := by decide +kernel
theorem dM_isFar_1 : decode cM_isFar 1 = .ok (.sipush (-16384), 3) := by decide +kernel
theorem dM_isFar_4 : decode cM_isFar 4 = .ok (.if_icmp .lt 10, 3) := by decide +kernel
theorem dM_isFar_7 : decode cM_isFar 7 = .ok (.iload_n 0, 1) := by decide +kernel
theorem dM_isFar_8 : decode cM_isFar 8 = .ok (.sipush 16383, 3) := by decide +kernel
theorem dM_isFar_11 : decode cM_isFar 11 = .ok (.if_icmp .le 7, 3) := by decide +kernel
theorem dM_isFar_14 : decode cM_isFar 14 = .ok (.iconst 1, 1) := by decide +kernel
theorem dM_isFar_15 : decode cM_isFar 15 = .ok (.goto 4, 3) := by decide +kernel
theorem dM_isFar_18 : decode cM_isFar 18 = .ok (.iconst 0, 1) := by decide +kernel
theorem dM_isFar_19 : decode cM_isFar 19 = .ok (.ireturn, 1) := by decide +kernel
theorem dM_row_0 : decode cM_row 0 = .ok (.aload_n 0, 1) := by decide +kernel
theorem dM_row_1 : decode cM_row 1 = .ok (.iload_n 1, 1) := by decide +kernel
theorem dM_row_2 : decode cM_row 2 = .ok (.invokestatic 155, 3) := by decide +kernel
theorem dM_row_5 : decode cM_row 5 = .ok (.ifCond .eq 7, 3) := by decide +kernel
theorem dM_row_8 : decode cM_row 8 = .ok (.iconst 0, 1) := by decide +kernel
theorem dM_row_9 : decode cM_row 9 = .ok (.goto 4, 3) := by decide +kernel
theorem dM_row_12 : decode cM_row 12 = .ok (.iconst 1, 1) := by decide +kernel
theorem dM_row_13 : decode cM_row 13 = .ok (.invokevirtual 60, 3) := by decide +kernel
theorem dM_row_16 : decode cM_row 16 = .ok (.ifCond .eq 5, 3) := by decide +kernel
theorem dM_row_19 : decode cM_row 19 = .ok (.lconst 0, 1) := by decide +kernel
theorem dM_row_20 : decode cM_row 20 = .ok (.lreturn, 1) := by decide +kernel
theorem dM_row_21 : decode cM_row 21 = .ok (.aload_n 0, 1) := by decide +kernel
theorem dM_row_22 : decode cM_row 22 = .ok (.invokevirtual 139, 3) := by decide +kernel
theorem dM_row_25 : decode cM_row 25 = .ok (.lconst 0, 1) := by decide +kernel
theorem dM_row_26 : decode cM_row 26 = .ok (.lstore_n 2, 1) := by decide +kernel
theorem dM_row_27 : decode cM_row 27 = .ok (.iconst 0, 1) := by decide +kernel
theorem dM_row_28 : decode cM_row 28 = .ok (.istore 4, 2) := by decide +kernel
theorem dM_row_30 : decode cM_row 30 = .ok (.iload 4, 2) := by decide +kernel
theorem dM_row_32 : decode cM_row 32 = .ok (.bipush 64, 2) := by decide +kernel
theorem dM_row_34 : decode cM_row 34 = .ok (.if_icmp .ge 30, 3) := by decide +kernel
theorem dM_row_37 : decode cM_row 37 = .ok (.aload_n 0, 1) := by decide +kernel
theorem dM_row_38 : decode cM_row 38 = .ok (.iload 4, 2) := by decide +kernel
theorem dM_row_40 : decode cM_row 40 = .ok (.iload_n 1, 1) := by decide +kernel
theorem dM_row_41 : decode cM_row 41 = .ok (.invokevirtual 142, 3) := by decide +kernel
theorem dM_row_44 : decode cM_row 44 = .ok (.ifCond .eq 12, 3) := by decide +kernel
theorem dM_row_47 : decode cM_row 47 = .ok (.lload_n 2, 1) := by decide +kernel
theorem dM_row_48 : decode cM_row 48 = .ok (.lconst 1, 1) := by decide +kernel
theorem dM_row_49 : decode cM_row 49 = .ok (.iload 4, 2) := by decide +kernel
theorem dM_row_51 : decode cM_row 51 = .ok (.lshl, 1) := by decide +kernel
theorem dM_row_52 : decode cM_row 52 = .ok (.lor, 1) := by decide +kernel
theorem dM_row_53 : decode cM_row 53 = .ok (.goto 4, 3) := by decide +kernel
theorem dM_row_56 : decode cM_row 56 = .ok (.lload_n 2, 1) := by decide +kernel
theorem dM_row_57 : decode cM_row 57 = .ok (.lstore_n 2, 1) := by decide +kernel
theorem dM_row_58 : decode cM_row 58 = .ok (.iinc 4 1, 3) := by decide +kernel
theorem dM_row_61 : decode cM_row 61 = .ok (.goto (-31), 3) := by decide +kernel
theorem dM_row_64 : decode cM_row 64 = .ok (.lload_n 2, 1) := by decide +kernel
theorem dM_row_65 : decode cM_row 65 = .ok (.lreturn, 1) := by decide +kernel
theorem dM_isPlace_0 : decode cM_isPlace 0 = .ok (.iload_n 0, 1) := by decide +kernel
theorem dM_isPlace_1 : decode cM_isPlace 1 = .ok (.ifCond .lt 13, 3) := by decide +kernel
theorem dM_isPlace_4 : decode cM_isPlace 4 = .ok (.iload_n 0, 1) := by decide +kernel
theorem dM_isPlace_5 : decode cM_isPlace 5 = .ok (.bipush 64, 2) := by decide +kernel
theorem dM_isPlace_7 : decode cM_isPlace 7 = .ok (.if_icmp .ge 7, 3) := by decide +kernel
theorem dM_isPlace_10 : decode cM_isPlace 10 = .ok (.iconst 1, 1) := by decide +kernel
theorem dM_isPlace_11 : decode cM_isPlace 11 = .ok (.goto 4, 3) := by decide +kernel
theorem dM_isPlace_14 : decode cM_isPlace 14 = .ok (.iconst 0, 1) := by decide +kernel
theorem dM_isPlace_15 : decode cM_isPlace 15 = .ok (.ireturn, 1) := by decide +kernel
theorem dM_share_0 : decode cM_share 0 = .ok (.aload_n 0, 1) := by decide +kernel
theorem dM_share_1 : decode cM_share 1 = .ok (.iload_n 1, 1) := by decide +kernel
theorem dM_share_2 : decode cM_share 2 = .ok (.invokestatic 155, 3) := by decide +kernel
theorem dM_share_5 : decode cM_share 5 = .ok (.ifCond .eq 14, 3) := by decide +kernel
theorem dM_share_8 : decode cM_share 8 = .ok (.iload_n 2, 1) := by decide +kernel
theorem dM_share_9 : decode cM_share 9 = .ok (.invokestatic 155, 3) := by decide +kernel
theorem dM_share_12 : decode cM_share 12 = .ok (.ifCond .eq 7, 3) := by decide +kernel
theorem dM_share_15 : decode cM_share 15 = .ok (.iconst 0, 1) := by decide +kernel
theorem dM_share_16 : decode cM_share 16 = .ok (.goto 4, 3) := by decide +kernel
theorem dM_share_19 : decode cM_share 19 = .ok (.iconst 1, 1) := by decide +kernel
theorem dM_share_20 : decode cM_share 20 = .ok (.invokevirtual 60, 3) := by decide +kernel
theorem dM_share_23 : decode cM_share 23 = .ok (.ifCond .eq 5, 3) := by decide +kernel
theorem dM_share_26 : decode cM_share 26 = .ok (.iconst 0, 1) := by decide +kernel
theorem dM_share_27 : decode cM_share 27 = .ok (.ireturn, 1) := by decide +kernel
theorem dM_share_28 : decode cM_share 28 = .ok (.aload_n 0, 1) := by decide +kernel
