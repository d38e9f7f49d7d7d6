/-! decode rows -/
theorem dL_init_0 : decode cL_init 0 = .ok (.aload_n 0, 1) := by decide +kernel
theorem dL_init_1 : decode cL_init 1 = .ok (.invokespecial 3, 3) := by decide +kernel
theorem dL_init_4 : decode cL_init 4 = .ok (.return_, 1) := by decide +kernel
theorem dL_take_0 : decode cL_take 0 = .ok (.aload_n 1, 1) := by decide +kernel
theorem dL_take_1 : decode cL_take 1 = .ok (.getfield 9, 3) := by decide +kernel
theorem dL_take_4 : decode cL_take 4 = .ok (.i2l, 1) := by decide +kernel
theorem dL_take_5 : decode cL_take 5 = .ok (.lstore 4, 2) := by decide +kernel
theorem dL_take_7 : decode cL_take 7 = .ok (.aload_n 1, 1) := by decide +kernel
theorem dL_take_8 : decode cL_take 8 = .ok (.getfield 15, 3) := by decide +kernel
theorem dL_take_11 : decode cL_take 11 = .ok (.i2l, 1) := by decide +kernel
theorem dL_take_12 : decode cL_take 12 = .ok (.lstore 6, 2) := by decide +kernel
theorem dL_take_14 : decode cL_take 14 = .ok (.aload_n 1, 1) := by decide +kernel
theorem dL_take_15 : decode cL_take 15 = .ok (.getfield 18, 3) := by decide +kernel
theorem dL_take_18 : decode cL_take 18 = .ok (.i2l, 1) := by decide +kernel
theorem dL_take_19 : decode cL_take 19 = .ok (.lstore 8, 2) := by decide +kernel
theorem dL_take_21 : decode cL_take 21 = .ok (.aload_n 1, 1) := by decide +kernel
theorem dL_take_22 : decode cL_take 22 = .ok (.getfield 21, 3) := by decide +kernel
theorem dL_take_25 : decode cL_take 25 = .ok (.i2l, 1) := by decide +kernel
theorem dL_take_26 : decode cL_take 26 = .ok (.lstore 10, 2) := by decide +kernel
theorem dL_take_28 : decode cL_take 28 = .ok (.aload_n 1, 1) := by decide +kernel
theorem dL_take_29 : decode cL_take 29 = .ok (.getfield 24, 3) := by decide +kernel
theorem dL_take_32 : decode cL_take 32 = .ok (.iload_n 2, 1) := by decide +kernel
theorem dL_take_33 : decode cL_take 33 = .ok (.isub, 1) := by decide +kernel
theorem dL_take_34 : decode cL_take 34 = .ok (.i2l, 1) := by decide +kernel
theorem dL_take_35 : decode cL_take 35 = .ok (.lstore 12, 2) := by decide +kernel
theorem dL_take_37 : decode cL_take 37 = .ok (.lload 8, 2) := by decide +kernel
theorem dL_take_39 : decode cL_take 39 = .ok (.lconst 0, 1) := by decide +kernel
theorem dL_take_40 : decode cL_take 40 = .ok (.lcmp, 1) := by decide +kernel
theorem dL_take_41 : decode cL_take 41 = .ok (.ifCond .ne 57, 3) := by decide +kernel
theorem dL_take_44 : decode cL_take 44 = .ok (.aload_n 0, 1) := by decide +kernel
theorem dL_take_45 : decode cL_take 45 = .ok (.lconst 0, 1) := by decide +kernel
theorem dL_take_46 : decode cL_take 46 = .ok (.putfield 27, 3) := by decide +kernel
theorem dL_take_49 : decode cL_take 49 = .ok (.aload_n 0, 1) := by decide +kernel
theorem dL_take_50 : decode cL_take 50 = .ok (.lconst 0, 1) := by decide +kernel
theorem dL_take_51 : decode cL_take 51 = .ok (.putfield 33, 3) := by decide +kernel
theorem dL_take_54 : decode cL_take 54 = .ok (.aload_n 0, 1) := by decide +kernel
theorem dL_take_55 : decode cL_take 55 = .ok (.lload 10, 2) := by decide +kernel
theorem dL_take_57 : decode cL_take 57 = .ok (.lload 10, 2) := by decide +kernel
theorem dL_take_59 : decode cL_take 59 = .ok (.lmul, 1) := by decide +kernel
theorem dL_take_60 : decode cL_take 60 = .ok (.putfield 36, 3) := by decide +kernel
theorem dL_take_63 : decode cL_take 63 = .ok (.aload_n 0, 1) := by decide +kernel
theorem dL_take_64 : decode cL_take 64 = .ok (.lload 4, 2) := by decide +kernel
theorem dL_take_66 : decode cL_take 66 = .ok (.lload 12, 2) := by decide +kernel
theorem dL_take_68 : decode cL_take 68 = .ok (.lmul, 1) := by decide +kernel
theorem dL_take_69 : decode cL_take 69 = .ok (.lload 12, 2) := by decide +kernel
theorem dL_take_71 : decode cL_take 71 = .ok (.lmul, 1) := by decide +kernel
theorem dL_take_72 : decode cL_take 72 = .ok (.lload 6, 2) := by decide +kernel
theorem dL_take_74 : decode cL_take 74 = .ok (.lload 10, 2) := by decide +kernel
theorem dL_take_76 : decode cL_take 76 = .ok (.lmul, 1) := by decide +kernel
theorem dL_take_77 : decode cL_take 77 = .ok (.lload 12, 2) := by decide +kernel
theorem dL_take_79 : decode cL_take 79 = .ok (.lmul, 1) := by decide +kernel
theorem dL_take_80 : decode cL_take 80 = .ok (.lsub, 1) := by decide +kernel
theorem dL_take_81 : decode cL_take 81 = .ok (.aload_n 0, 1) := by decide +kernel
theorem dL_take_82 : decode cL_take 82 = .ok (.getfield 36, 3) := by decide +kernel
theorem dL_take_85 : decode cL_take 85 = .ok (.aload_n 1, 1) := by decide +kernel
theorem dL_take_86 : decode cL_take 86 = .ok (.getfield 39, 3) := by decide +kernel
theorem dL_take_89 : decode cL_take 89 = .ok (.i2l, 1) := by decide +kernel
theorem dL_take_90 : decode cL_take 90 = .ok (.lmul, 1) := by decide +kernel
theorem dL_take_91 : decode cL_take 91 = .ok (.ladd, 1) := by decide +kernel
theorem dL_take_92 : decode cL_take 92 = .ok (.putfield 42, 3) := by decide +kernel
theorem dL_take_95 : decode cL_take 95 = .ok (.goto 88, 3) := by decide +kernel
theorem dL_take_98 : decode cL_take 98 = .ok (.lload 8, 2) := by decide +kernel
theorem dL_take_100 : decode cL_take 100 = .ok (.lload 6, 2) := by decide +kernel
theorem dL_take_102 : decode cL_take 102 = .ok (.lmul, 1) := by decide +kernel
theorem dL_take_103 : decode cL_take 103 = .ok (.lload 4, 2) := by decide +kernel
theorem dL_take_105 : decode cL_take 105 = .ok (.lload 10, 2) := by decide +kernel
theorem dL_take_107 : decode cL_take 107 = .ok (.lmul, 1) := by decide +kernel
theorem dL_take_108 : decode cL_take 108 = .ok (.lsub, 1) := by decide +kernel
theorem dL_take_109 : decode cL_take 109 = .ok (.lstore 14, 2) := by decide +kernel
theorem dL_take_111 : decode cL_take 111 = .ok (.aload_n 0, 1) := by decide +kernel
theorem dL_take_112 : decode cL_take 112 = .ok (.iload_n 3, 1) := by decide +kernel
theorem dL_take_113 : decode cL_take 113 = .ok (.ifCond .eq 8, 3) := by decide +kernel
theorem dL_take_116 : decode cL_take 116 = .ok (.lload 14, 2) := by decide +kernel
theorem dL_take_118 : decode cL_take 118 = .ok (.goto 6, 3) := by decide +kernel
theorem dL_take_121 : decode cL_take 121 = .ok (.lload 14, 2) := by decide +kernel
theorem dL_take_123 : decode cL_take 123 = .ok (.lneg, 1) := by decide +kernel
theorem dL_take_124 : decode cL_take 124 = .ok (.putfield 27, 3) := by decide +kernel
theorem dL_take_127 : decode cL_take 127 = .ok (.aload_n 0, 1) := by decide +kernel
theorem dL_take_128 : decode cL_take 128 = .ok (.aload_n 1, 1) := by decide +kernel
theorem dL_take_129 : decode cL_take 129 = .ok (.iload_n 2, 1) := by decide +kernel
theorem dL_take_130 : decode cL_take 130 = .ok (.invokevirtual 45, 3) := by decide +kernel
theorem dL_take_133 : decode cL_take 133 = .ok (.putfield 33, 3) := by decide +kernel
theorem dL_take_136 : decode cL_take 136 = .ok (.aload_n 0, 1) := by decide +kernel
theorem dL_take_137 : decode cL_take 137 = .ok (.ldc2_w 49, 3) := by decide +kernel
theorem dL_take_140 : decode cL_take 140 = .ok (.lload 8, 2) := by decide +kernel
theorem dL_take_142 : decode cL_take 142 = .ok (.lmul, 1) := by decide +kernel
theorem dL_take_143 : decode cL_take 143 = .ok (.lload 8, 2) := by decide +kernel
theorem dL_take_145 : decode cL_take 145 = .ok (.lmul, 1) := by decide +kernel
theorem dL_take_146 : decode cL_take 146 = .ok (.putfield 36, 3) := by decide +kernel
theorem dL_take_149 : decode cL_take 149 = .ok (.aload_n 0, 1) := by decide +kernel
theorem dL_take_150 : decode cL_take 150 = .ok (.lload 14, 2) := by decide +kernel
theorem dL_take_152 : decode cL_take 152 = .ok (.lneg, 1) := by decide +kernel
theorem dL_take_153 : decode cL_take 153 = .ok (.lload 10, 2) := by decide +kernel
theorem dL_take_155 : decode cL_take 155 = .ok (.lmul, 1) := by decide +kernel
theorem dL_take_156 : decode cL_take 156 = .ok (.ldc2_w 49, 3) := by decide +kernel
theorem dL_take_159 : decode cL_take 159 = .ok (.lload 8, 2) := by decide +kernel
theorem dL_take_161 : decode cL_take 161 = .ok (.lmul, 1) := by decide +kernel
theorem dL_take_162 : decode cL_take 162 = .ok (.lload 4, 2) := by decide +kernel
theorem dL_take_164 : decode cL_take 164 = .ok (.lmul, 1) := by decide +kernel
theorem dL_take_165 : decode cL_take 165 = .ok (.lload 12, 2) := by decide +kernel
theorem dL_take_167 : decode cL_take 167 = .ok (.lmul, 1) := by decide +kernel
theorem dL_take_168 : decode cL_take 168 = .ok (.lsub, 1) := by decide +kernel
theorem dL_take_169 : decode cL_take 169 = .ok (.aload_n 0, 1) := by decide +kernel
theorem dL_take_170 : decode cL_take 170 = .ok (.getfield 36, 3) := by decide +kernel
theorem dL_take_173 : decode cL_take 173 = .ok (.aload_n 1, 1) := by decide +kernel
theorem dL_take_174 : decode cL_take 174 = .ok (.getfield 39, 3) := by decide +kernel
theorem dL_take_177 : decode cL_take 177 = .ok (.i2l, 1) := by decide +kernel
theorem dL_take_178 : decode cL_take 178 = .ok (.lmul, 1) := by decide +kernel
theorem dL_take_179 : decode cL_take 179 = .ok (.ladd, 1) := by decide +kernel
theorem dL_take_180 : decode cL_take 180 = .ok (.putfield 42, 3) := by decide +kernel
theorem dL_take_183 : decode cL_take 183 = .ok (.return_, 1) := by decide +kernel
theorem dL_pointsLeft_0 : decode cL_pointsLeft 0 = .ok (.iconst 0, 1) := by decide +kernel
theorem dL_pointsLeft_1 : decode cL_pointsLeft 1 = .ok (.istore 4, 2) := by decide +kernel
theorem dL_pointsLeft_3 : decode cL_pointsLeft 3 = .ok (.bipush 64, 2) := by decide +kernel
theorem dL_pointsLeft_5 : decode cL_pointsLeft 5 = .ok (.istore 5, 2) := by decide +kernel
theorem dL_pointsLeft_7 : decode cL_pointsLeft 7 = .ok (.iload 5, 2) := by decide +kernel
theorem dL_pointsLeft_9 : decode cL_pointsLeft 9 = .ok (.ifCond .le 46, 3) := by decide +kernel
theorem dL_pointsLeft_12 : decode cL_pointsLeft 12 = .ok (.iload 4, 2) := by decide +kernel
theorem dL_pointsLeft_14 : decode cL_pointsLeft 14 = .ok (.iload 5, 2) := by decide +kernel
theorem dL_pointsLeft_16 : decode cL_pointsLeft 16 = .ok (.iadd, 1) := by decide +kernel
theorem dL_pointsLeft_17 : decode cL_pointsLeft 17 = .ok (.iload_n 3, 1) := by decide +kernel
theorem dL_pointsLeft_18 : decode cL_pointsLeft 18 = .ok (.if_icmp .gt 28, 3) := by decide +kernel
theorem dL_pointsLeft_21 : decode cL_pointsLeft 21 = .ok (.aload_n 0, 1) := by decide +kernel
theorem dL_pointsLeft_22 : decode cL_pointsLeft 22 = .ok (.iload_n 1, 1) := by decide +kernel
theorem dL_pointsLeft_23 : decode cL_pointsLeft 23 = .ok (.iload_n 2, 1) := by decide +kernel
theorem dL_pointsLeft_24 : decode cL_pointsLeft 24 = .ok (.iload 4, 2) := by decide +kernel
theorem dL_pointsLeft_26 : decode cL_pointsLeft 26 = .ok (.iload 5, 2) := by decide +kernel
theorem dL_pointsLeft_28 : decode cL_pointsLeft 28 = .ok (.iadd, 1) := by decide +kernel
theorem dL_pointsLeft_29 : decode cL_pointsLeft 29 = .ok (.iconst 1, 1) := by decide +kernel
theorem dL_pointsLeft_30 : decode cL_pointsLeft 30 = .ok (.isub, 1) := by decide +kernel
theorem dL_pointsLeft_31 : decode cL_pointsLeft 31 = .ok (.imul, 1) := by decide +kernel
theorem dL_pointsLeft_32 : decode cL_pointsLeft 32 = .ok (.iadd, 1) := by decide +kernel
theorem dL_pointsLeft_33 : decode cL_pointsLeft 33 = .ok (.invokevirtual 51, 3) := by decide +kernel
theorem dL_pointsLeft_36 : decode cL_pointsLeft 36 = .ok (.ifCond .eq 10, 3) := by decide +kernel
theorem dL_pointsLeft_39 : decode cL_pointsLeft 39 = .ok (.iload 4, 2) := by decide +kernel
theorem dL_pointsLeft_41 : decode cL_pointsLeft 41 = .ok (.iload 5, 2) := by decide +kernel
theorem dL_pointsLeft_43 : decode cL_pointsLeft 43 = .ok (.iadd, 1) := by decide +kernel
theorem dL_pointsLeft_44 : decode cL_pointsLeft 44 = .ok (.istore 4, 2) := by decide +kernel
theorem dL_pointsLeft_46 : decode cL_pointsLeft 46 = .ok (.iload 5, 2) := by decide +kernel
theorem dL_pointsLeft_48 : decode cL_pointsLeft 48 = .ok (.iconst 2, 1) := by decide +kernel
theorem dL_pointsLeft_49 : decode cL_pointsLeft 49 = .ok (.idiv, 1) := by decide +kernel
theorem dL_pointsLeft_50 : decode cL_pointsLeft 50 = .ok (.istore 5, 2) := by decide +kernel
theorem dL_pointsLeft_52 : decode cL_pointsLeft 52 = .ok (.goto (-45), 3) := by decide +kernel
theorem dL_pointsLeft_55 : decode cL_pointsLeft 55 = .ok (.iload 4, 2) := by decide +kernel
theorem dL_pointsLeft_57 : decode cL_pointsLeft 57 = .ok (.ireturn, 1) := by decide +kernel
theorem dL_isRightOf_0 : decode cL_isRightOf 0 = .ok (.aload_n 0, 1) := by decide +kernel
theorem dL_isRightOf_1 : decode cL_isRightOf 1 = .ok (.getfield 42, 3) := by decide +kernel
theorem dL_isRightOf_4 : decode cL_isRightOf 4 = .ok (.aload_n 0, 1) := by decide +kernel
theorem dL_isRightOf_5 : decode cL_isRightOf 5 = .ok (.getfield 36, 3) := by decide +kernel
theorem dL_isRightOf_8 : decode cL_isRightOf 8 = .ok (.iload_n 1, 1) := by decide +kernel
theorem dL_isRightOf_9 : decode cL_isRightOf 9 = .ok (.i2l, 1) := by decide +kernel
theorem dL_isRightOf_10 : decode cL_isRightOf 10 = .ok (.lmul, 1) := by decide +kernel
theorem dL_isRightOf_11 : decode cL_isRightOf 11 = .ok (.lsub, 1) := by decide +kernel
theorem dL_isRightOf_12 : decode cL_isRightOf 12 = .ok (.lstore_n 2, 1) := by decide +kernel
theorem dL_isRightOf_13 : decode cL_isRightOf 13 = .ok (.aload_n 0, 1) := by decide +kernel
theorem dL_isRightOf_14 : decode cL_isRightOf 14 = .ok (.getfield 27, 3) := by decide +kernel
theorem dL_isRightOf_17 : decode cL_isRightOf 17 = .ok (.lconst 0, 1) := by decide +kernel
theorem dL_isRightOf_18 : decode cL_isRightOf 18 = .ok (.lcmp, 1) := by decide +kernel
theorem dL_isRightOf_19 : decode cL_isRightOf 19 = .ok (.ifCond .eq 12, 3) := by decide +kernel
theorem dL_isRightOf_22 : decode cL_isRightOf 22 = .ok (.aload_n 0, 1) := by decide +kernel
theorem dL_isRightOf_23 : decode cL_isRightOf 23 = .ok (.getfield 33, 3) := by decide +kernel
theorem dL_isRightOf_26 : decode cL_isRightOf 26 = .ok (.lconst 0, 1) := by decide +kernel
theorem dL_isRightOf_27 : decode cL_isRightOf 27 = .ok (.lcmp, 1) := by decide +kernel
theorem dL_isRightOf_28 : decode cL_isRightOf 28 = .ok (.ifCond .gt 15, 3) := by decide +kernel
theorem dL_isRightOf_31 : decode cL_isRightOf 31 = .ok (.lload_n 2, 1) := by decide +kernel
theorem dL_isRightOf_32 : decode cL_isRightOf 32 = .ok (.lconst 0, 1) := by decide +kernel
theorem dL_isRightOf_33 : decode cL_isRightOf 33 = .ok (.lcmp, 1) := by decide +kernel
theorem dL_isRightOf_34 : decode cL_isRightOf 34 = .ok (.ifCond .le 7, 3) := by decide +kernel
theorem dL_isRightOf_37 : decode cL_isRightOf 37 = .ok (.iconst 1, 1) := by decide +kernel
theorem dL_isRightOf_38 : decode cL_isRightOf 38 = .ok (.goto 4, 3) := by decide +kernel
theorem dL_isRightOf_41 : decode cL_isRightOf 41 = .ok (.iconst 0, 1) := by decide +kernel
theorem dL_isRightOf_42 : decode cL_isRightOf 42 = .ok (.ireturn, 1) := by decide +kernel
theorem dL_isRightOf_43 : decode cL_isRightOf 43 = .ok (.aload_n 0, 1) := by decide +kernel
theorem dL_isRightOf_44 : decode cL_isRightOf 44 = .ok (.getfield 27, 3) := by decide +kernel
theorem dL_isRightOf_47 : decode cL_isRightOf 47 = .ok (.lconst 0, 1) := by decide +kernel
theorem dL_isRightOf_48 : decode cL_isRightOf 48 = .ok (.lcmp, 1) := by decide +kernel
theorem dL_isRightOf_49 : decode cL_isRightOf 49 = .ok (.ifCond .le 30, 3) := by decide +kernel
theorem dL_isRightOf_52 : decode cL_isRightOf 52 = .ok (.lload_n 2, 1) := by decide +kernel
theorem dL_isRightOf_53 : decode cL_isRightOf 53 = .ok (.lconst 0, 1) := by decide +kernel
theorem dL_isRightOf_54 : decode cL_isRightOf 54 = .ok (.lcmp, 1) := by decide +kernel
theorem dL_isRightOf_55 : decode cL_isRightOf 55 = .ok (.ifCond .ge 18, 3) := by decide +kernel
theorem dL_isRightOf_58 : decode cL_isRightOf 58 = .ok (.aload_n 0, 1) := by decide +kernel
theorem dL_isRightOf_59 : decode cL_isRightOf 59 = .ok (.lload_n 2, 1) := by decide +kernel
theorem dL_isRightOf_60 : decode cL_isRightOf 60 = .ok (.lneg, 1) := by decide +kernel
theorem dL_isRightOf_61 : decode cL_isRightOf 61 = .ok (.aload_n 0, 1) := by decide +kernel
theorem dL_isRightOf_62 : decode cL_isRightOf 62 = .ok (.getfield 27, 3) := by decide +kernel
theorem dL_isRightOf_65 : decode cL_isRightOf 65 = .ok (.invokevirtual 55, 3) := by decide +kernel
theorem dL_isRightOf_68 : decode cL_isRightOf 68 = .ok (.lconst 0, 1) := by decide +kernel
theorem dL_isRightOf_69 : decode cL_isRightOf 69 = .ok (.lcmp, 1) := by decide +kernel
theorem dL_isRightOf_70 : decode cL_isRightOf 70 = .ok (.ifCond .ge 7, 3) := by decide +kernel
theorem dL_isRightOf_73 : decode cL_isRightOf 73 = .ok (.iconst 1, 1) := by decide +kernel
theorem dL_isRightOf_74 : decode cL_isRightOf 74 = .ok (.goto 4, 3) := by decide +kernel
theorem dL_isRightOf_77 : decode cL_isRightOf 77 = .ok (.iconst 0, 1) := by decide +kernel
theorem dL_isRightOf_78 : decode cL_isRightOf 78 = .ok (.ireturn, 1) := by decide +kernel
theorem dL_isRightOf_79 : decode cL_isRightOf 79 = .ok (.lload_n 2, 1) := by decide +kernel
theorem dL_isRightOf_80 : decode cL_isRightOf 80 = .ok (.lconst 0, 1) := by decide +kernel
theorem dL_isRightOf_81 : decode cL_isRightOf 81 = .ok (.lcmp, 1) := by decide +kernel
theorem dL_isRightOf_82 : decode cL_isRightOf 82 = .ok (.ifCond .le 22, 3) := by decide +kernel
theorem dL_isRightOf_85 : decode cL_isRightOf 85 = .ok (.aload_n 0, 1) := by decide +kernel
theorem dL_isRightOf_86 : decode cL_isRightOf 86 = .ok (.lload_n 2, 1) := by decide +kernel
theorem dL_isRightOf_87 : decode cL_isRightOf 87 = .ok (.aload_n 0, 1) := by decide +kernel
theorem dL_isRightOf_88 : decode cL_isRightOf 88 = .ok (.getfield 27, 3) := by decide +kernel
theorem dL_isRightOf_91 : decode cL_isRightOf 91 = .ok (.lneg, 1) := by decide +kernel
theorem dL_isRightOf_92 : decode cL_isRightOf 92 = .ok (.invokevirtual 55, 3) := by decide +kernel
theorem dL_isRightOf_95 : decode cL_isRightOf 95 = .ok (.lconst 0, 1) := by decide +kernel
theorem dL_isRightOf_96 : decode cL_isRightOf 96 = .ok (.lcmp, 1) := by decide +kernel
theorem dL_isRightOf_97 : decode cL_isRightOf 97 = .ok (.ifCond .le 7, 3) := by decide +kernel
theorem dL_isRightOf_100 : decode cL_isRightOf 100 = .ok (.iconst 1, 1) := by decide +kernel
theorem dL_isRightOf_101 : decode cL_isRightOf 101 = .ok (.goto 4, 3) := by decide +kernel
theorem dL_isRightOf_104 : decode cL_isRightOf 104 = .ok (.iconst 0, 1) := by decide +kernel
theorem dL_isRightOf_105 : decode cL_isRightOf 105 = .ok (.ireturn, 1) := by decide +kernel
theorem dL_compareToRoot_0 : decode cL_compareToRoot 0 = .ok (.lload_n 3, 1) := by decide +kernel
theorem dL_compareToRoot_1 : decode cL_compareToRoot 1 = .ok (.lconst 0, 1) := by decide +kernel
theorem dL_compareToRoot_2 : decode cL_compareToRoot 2 = .ok (.lcmp, 1) := by decide +kernel
theorem dL_compareToRoot_3 : decode cL_compareToRoot 3 = .ok (.ifCond .gt 5, 3) := by decide +kernel
theorem dL_compareToRoot_6 : decode cL_compareToRoot 6 = .ok (.lconst 1, 1) := by decide +kernel
theorem dL_compareToRoot_7 : decode cL_compareToRoot 7 = .ok (.lreturn, 1) := by decide +kernel
theorem dL_compareToRoot_8 : decode cL_compareToRoot 8 = .ok (.lload_n 1, 1) := by decide +kernel
theorem dL_compareToRoot_9 : decode cL_compareToRoot 9 = .ok (.lload_n 3, 1) := by decide +kernel
theorem dL_compareToRoot_10 : decode cL_compareToRoot 10 = .ok (.ldiv, 1) := by decide +kernel
theorem dL_compareToRoot_11 : decode cL_compareToRoot 11 = .ok (.lstore 5, 2) := by decide +kernel
theorem dL_compareToRoot_13 : decode cL_compareToRoot 13 = .ok (.lload_n 1, 1) := by decide +kernel
theorem dL_compareToRoot_14 : decode cL_compareToRoot 14 = .ok (.lload_n 3, 1) := by decide +kernel
theorem dL_compareToRoot_15 : decode cL_compareToRoot 15 = .ok (.lrem, 1) := by decide +kernel
theorem dL_compareToRoot_16 : decode cL_compareToRoot 16 = .ok (.lstore 7, 2) := by decide +kernel
theorem dL_compareToRoot_18 : decode cL_compareToRoot 18 = .ok (.lload 5, 2) := by decide +kernel
theorem dL_compareToRoot_20 : decode cL_compareToRoot 20 = .ok (.ldc2_w 59, 3) := by decide +kernel
theorem dL_compareToRoot_23 : decode cL_compareToRoot 23 = .ok (.lcmp, 1) := by decide +kernel
theorem dL_compareToRoot_24 : decode cL_compareToRoot 24 = .ok (.ifCond .le 5, 3) := by decide +kernel
theorem dL_compareToRoot_27 : decode cL_compareToRoot 27 = .ok (.lconst 1, 1) := by decide +kernel
theorem dL_compareToRoot_28 : decode cL_compareToRoot 28 = .ok (.lreturn, 1) := by decide +kernel
theorem dL_compareToRoot_29 : decode cL_compareToRoot 29 = .ok (.aload_n 0, 1) := by decide +kernel
theorem dL_compareToRoot_30 : decode cL_compareToRoot 30 = .ok (.getfield 33, 3) := by decide +kernel
theorem dL_compareToRoot_33 : decode cL_compareToRoot 33 = .ok (.lload 5, 2) := by decide +kernel
theorem dL_compareToRoot_35 : decode cL_compareToRoot 35 = .ok (.lload 5, 2) := by decide +kernel
theorem dL_compareToRoot_37 : decode cL_compareToRoot 37 = .ok (.lmul, 1) := by decide +kernel
theorem dL_compareToRoot_38 : decode cL_compareToRoot 38 = .ok (.lsub, 1) := by decide +kernel
theorem dL_compareToRoot_39 : decode cL_compareToRoot 39 = .ok (.lload_n 3, 1) := by decide +kernel
theorem dL_compareToRoot_40 : decode cL_compareToRoot 40 = .ok (.lmul, 1) := by decide +kernel
theorem dL_compareToRoot_41 : decode cL_compareToRoot 41 = .ok (.ldc2_w 49, 3) := by decide +kernel
theorem dL_compareToRoot_44 : decode cL_compareToRoot 44 = .ok (.lload 5, 2) := by decide +kernel
theorem dL_compareToRoot_46 : decode cL_compareToRoot 46 = .ok (.lmul, 1) := by decide +kernel
theorem dL_compareToRoot_47 : decode cL_compareToRoot 47 = .ok (.lload 7, 2) := by decide +kernel
theorem dL_compareToRoot_49 : decode cL_compareToRoot 49 = .ok (.lmul, 1) := by decide +kernel
theorem dL_compareToRoot_50 : decode cL_compareToRoot 50 = .ok (.lsub, 1) := by decide +kernel
theorem dL_compareToRoot_51 : decode cL_compareToRoot 51 = .ok (.lstore 9, 2) := by decide +kernel
theorem dL_compareToRoot_53 : decode cL_compareToRoot 53 = .ok (.lload 9, 2) := by decide +kernel
theorem dL_compareToRoot_55 : decode cL_compareToRoot 55 = .ok (.lconst 0, 1) := by decide +kernel
theorem dL_compareToRoot_56 : decode cL_compareToRoot 56 = .ok (.lcmp, 1) := by decide +kernel
theorem dL_compareToRoot_57 : decode cL_compareToRoot 57 = .ok (.ifCond .ge 5, 3) := by decide +kernel
theorem dL_compareToRoot_60 : decode cL_compareToRoot 60 = .ok (.lconst 1, 1) := by decide +kernel
theorem dL_compareToRoot_61 : decode cL_compareToRoot 61 = .ok (.lreturn, 1) := by decide +kernel
theorem dL_compareToRoot_62 : decode cL_compareToRoot 62 = .ok (.lload 9, 2) := by decide +kernel
theorem dL_compareToRoot_64 : decode cL_compareToRoot 64 = .ok (.lload 7, 2) := by decide +kernel
theorem dL_compareToRoot_66 : decode cL_compareToRoot 66 = .ok (.lcmp, 1) := by decide +kernel
theorem dL_compareToRoot_67 : decode cL_compareToRoot 67 = .ok (.ifCond .le 7, 3) := by decide +kernel
theorem dL_compareToRoot_70 : decode cL_compareToRoot 70 = .ok (.ldc2_w 61, 3) := by decide +kernel
theorem dL_compareToRoot_73 : decode cL_compareToRoot 73 = .ok (.lreturn, 1) := by decide +kernel
theorem dL_compareToRoot_74 : decode cL_compareToRoot 74 = .ok (.lload 7, 2) := by decide +kernel
theorem dL_compareToRoot_76 : decode cL_compareToRoot 76 = .ok (.lload 7, 2) := by decide +kernel
theorem dL_compareToRoot_78 : decode cL_compareToRoot 78 = .ok (.lmul, 1) := by decide +kernel
theorem dL_compareToRoot_79 : decode cL_compareToRoot 79 = .ok (.lload 9, 2) := by decide +kernel
theorem dL_compareToRoot_81 : decode cL_compareToRoot 81 = .ok (.lload_n 3, 1) := by decide +kernel
theorem dL_compareToRoot_82 : decode cL_compareToRoot 82 = .ok (.lmul, 1) := by decide +kernel
theorem dL_compareToRoot_83 : decode cL_compareToRoot 83 = .ok (.lsub, 1) := by decide +kernel
theorem dL_compareToRoot_84 : decode cL_compareToRoot 84 = .ok (.lreturn, 1) := by decide +kernel
