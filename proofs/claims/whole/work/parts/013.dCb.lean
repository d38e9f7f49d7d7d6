/-! decode rows -/
theorem dC_pieceOf_95 : decode cC_pieceOf 95 = .ok (.aload_n 0, 1) := by decide +kernel
theorem dC_pieceOf_96 : decode cC_pieceOf 96 = .ok (.aload_n 0, 1) := by decide +kernel
theorem dC_pieceOf_97 : decode cC_pieceOf 97 = .ok (.getfield 9, 3) := by decide +kernel
theorem dC_pieceOf_100 : decode cC_pieceOf 100 = .ok (.iload_n 1, 1) := by decide +kernel
theorem dC_pieceOf_101 : decode cC_pieceOf 101 = .ok (.iload_n 3, 1) := by decide +kernel
theorem dC_pieceOf_102 : decode cC_pieceOf 102 = .ok (.invokevirtual 156, 3) := by decide +kernel
theorem dC_pieceOf_105 : decode cC_pieceOf 105 = .ok (.aload_n 0, 1) := by decide +kernel
theorem dC_pieceOf_106 : decode cC_pieceOf 106 = .ok (.aload_n 0, 1) := by decide +kernel
theorem dC_pieceOf_107 : decode cC_pieceOf 107 = .ok (.getfield 13, 3) := by decide +kernel
theorem dC_pieceOf_110 : decode cC_pieceOf 110 = .ok (.iload_n 1, 1) := by decide +kernel
theorem dC_pieceOf_111 : decode cC_pieceOf 111 = .ok (.iload_n 3, 1) := by decide +kernel
theorem dC_pieceOf_112 : decode cC_pieceOf 112 = .ok (.invokevirtual 156, 3) := by decide +kernel
theorem dC_pieceOf_115 : decode cC_pieceOf 115 = .ok (.iconst 0, 1) := by decide +kernel
theorem dC_pieceOf_116 : decode cC_pieceOf 116 = .ok (.invokespecial 160, 3) := by decide +kernel
theorem dC_pieceOf_119 : decode cC_pieceOf 119 = .ok (.areturn, 1) := by decide +kernel
theorem dC_pieceOf_120 : decode cC_pieceOf 120 = .ok (.aload_n 0, 1) := by decide +kernel
theorem dC_pieceOf_121 : decode cC_pieceOf 121 = .ok (.getfield 16, 3) := by decide +kernel
theorem dC_pieceOf_124 : decode cC_pieceOf 124 = .ok (.iload_n 3, 1) := by decide +kernel
theorem dC_pieceOf_125 : decode cC_pieceOf 125 = .ok (.baload, 1) := by decide +kernel
theorem dC_pieceOf_126 : decode cC_pieceOf 126 = .ok (.ifCond .eq 32, 3) := by decide +kernel
theorem dC_pieceOf_129 : decode cC_pieceOf 129 = .ok (.new 20, 3) := by decide +kernel
theorem dC_pieceOf_132 : decode cC_pieceOf 132 = .ok (.dup, 1) := by decide +kernel
theorem dC_pieceOf_133 : decode cC_pieceOf 133 = .ok (.iload 4, 2) := by decide +kernel
theorem dC_pieceOf_135 : decode cC_pieceOf 135 = .ok (.iload 5, 2) := by decide +kernel
theorem dC_pieceOf_137 : decode cC_pieceOf 137 = .ok (.iload 4, 2) := by decide +kernel
theorem dC_pieceOf_139 : decode cC_pieceOf 139 = .ok (.iload 5, 2) := by decide +kernel
theorem dC_pieceOf_141 : decode cC_pieceOf 141 = .ok (.aload_n 0, 1) := by decide +kernel
theorem dC_pieceOf_142 : decode cC_pieceOf 142 = .ok (.getfield 9, 3) := by decide +kernel
theorem dC_pieceOf_145 : decode cC_pieceOf 145 = .ok (.iload_n 3, 1) := by decide +kernel
theorem dC_pieceOf_146 : decode cC_pieceOf 146 = .ok (.iaload, 1) := by decide +kernel
theorem dC_pieceOf_147 : decode cC_pieceOf 147 = .ok (.aload_n 0, 1) := by decide +kernel
theorem dC_pieceOf_148 : decode cC_pieceOf 148 = .ok (.getfield 13, 3) := by decide +kernel
theorem dC_pieceOf_151 : decode cC_pieceOf 151 = .ok (.iload_n 3, 1) := by decide +kernel
theorem dC_pieceOf_152 : decode cC_pieceOf 152 = .ok (.iaload, 1) := by decide +kernel
theorem dC_pieceOf_153 : decode cC_pieceOf 153 = .ok (.iconst 1, 1) := by decide +kernel
theorem dC_pieceOf_154 : decode cC_pieceOf 154 = .ok (.invokespecial 160, 3) := by decide +kernel
theorem dC_pieceOf_157 : decode cC_pieceOf 157 = .ok (.areturn, 1) := by decide +kernel
theorem dC_pieceOf_158 : decode cC_pieceOf 158 = .ok (.aconst_null, 1) := by decide +kernel
theorem dC_pieceOf_159 : decode cC_pieceOf 159 = .ok (.areturn, 1) := by decide +kernel
theorem dC_curveEnd_0 : decode cC_curveEnd 0 = .ok (.aload_n 0, 1) := by decide +kernel
theorem dC_curveEnd_1 : decode cC_curveEnd 1 = .ok (.getfield 16, 3) := by decide +kernel
theorem dC_curveEnd_4 : decode cC_curveEnd 4 = .ok (.iload_n 3, 1) := by decide +kernel
theorem dC_curveEnd_5 : decode cC_curveEnd 5 = .ok (.baload, 1) := by decide +kernel
theorem dC_curveEnd_6 : decode cC_curveEnd 6 = .ok (.ifCond .eq 7, 3) := by decide +kernel
theorem dC_curveEnd_9 : decode cC_curveEnd 9 = .ok (.aload_n 1, 1) := by decide +kernel
theorem dC_curveEnd_10 : decode cC_curveEnd 10 = .ok (.iload_n 3, 1) := by decide +kernel
theorem dC_curveEnd_11 : decode cC_curveEnd 11 = .ok (.iaload, 1) := by decide +kernel
theorem dC_curveEnd_12 : decode cC_curveEnd 12 = .ok (.ireturn, 1) := by decide +kernel
theorem dC_curveEnd_13 : decode cC_curveEnd 13 = .ok (.aload_n 1, 1) := by decide +kernel
theorem dC_curveEnd_14 : decode cC_curveEnd 14 = .ok (.iload_n 2, 1) := by decide +kernel
theorem dC_curveEnd_15 : decode cC_curveEnd 15 = .ok (.iaload, 1) := by decide +kernel
theorem dC_curveEnd_16 : decode cC_curveEnd 16 = .ok (.aload_n 1, 1) := by decide +kernel
theorem dC_curveEnd_17 : decode cC_curveEnd 17 = .ok (.iload_n 3, 1) := by decide +kernel
theorem dC_curveEnd_18 : decode cC_curveEnd 18 = .ok (.iaload, 1) := by decide +kernel
theorem dC_curveEnd_19 : decode cC_curveEnd 19 = .ok (.iadd, 1) := by decide +kernel
theorem dC_curveEnd_20 : decode cC_curveEnd 20 = .ok (.iconst 2, 1) := by decide +kernel
theorem dC_curveEnd_21 : decode cC_curveEnd 21 = .ok (.invokestatic 163, 3) := by decide +kernel
theorem dC_curveEnd_24 : decode cC_curveEnd 24 = .ok (.ireturn, 1) := by decide +kernel
theorem dC_move_0 : decode cC_move 0 = .ok (.iconst 0, 1) := by decide +kernel
theorem dC_move_1 : decode cC_move 1 = .ok (.istore_n 3, 1) := by decide +kernel
theorem dC_move_2 : decode cC_move 2 = .ok (.iload_n 3, 1) := by decide +kernel
theorem dC_move_3 : decode cC_move 3 = .ok (.aload_n 0, 1) := by decide +kernel
theorem dC_move_4 : decode cC_move 4 = .ok (.getfield 40, 3) := by decide +kernel
theorem dC_move_7 : decode cC_move 7 = .ok (.if_icmp .ge 51, 3) := by decide +kernel
theorem dC_move_10 : decode cC_move 10 = .ok (.aload_n 0, 1) := by decide +kernel
theorem dC_move_11 : decode cC_move 11 = .ok (.getfield 9, 3) := by decide +kernel
theorem dC_move_14 : decode cC_move 14 = .ok (.iload_n 3, 1) := by decide +kernel
theorem dC_move_15 : decode cC_move 15 = .ok (.iaload, 1) := by decide +kernel
theorem dC_move_16 : decode cC_move 16 = .ok (.i2l, 1) := by decide +kernel
theorem dC_move_17 : decode cC_move 17 = .ok (.iload_n 1, 1) := by decide +kernel
theorem dC_move_18 : decode cC_move 18 = .ok (.i2l, 1) := by decide +kernel
theorem dC_move_19 : decode cC_move 19 = .ok (.ladd, 1) := by decide +kernel
theorem dC_move_20 : decode cC_move 20 = .ok (.invokestatic 50, 3) := by decide +kernel
theorem dC_move_23 : decode cC_move 23 = .ok (.ifCond .eq 19, 3) := by decide +kernel
theorem dC_move_26 : decode cC_move 26 = .ok (.aload_n 0, 1) := by decide +kernel
theorem dC_move_27 : decode cC_move 27 = .ok (.getfield 13, 3) := by decide +kernel
theorem dC_move_30 : decode cC_move 30 = .ok (.iload_n 3, 1) := by decide +kernel
theorem dC_move_31 : decode cC_move 31 = .ok (.iaload, 1) := by decide +kernel
theorem dC_move_32 : decode cC_move 32 = .ok (.i2l, 1) := by decide +kernel
theorem dC_move_33 : decode cC_move 33 = .ok (.iload_n 2, 1) := by decide +kernel
theorem dC_move_34 : decode cC_move 34 = .ok (.i2l, 1) := by decide +kernel
theorem dC_move_35 : decode cC_move 35 = .ok (.ladd, 1) := by decide +kernel
theorem dC_move_36 : decode cC_move 36 = .ok (.invokestatic 50, 3) := by decide +kernel
theorem dC_move_39 : decode cC_move 39 = .ok (.ifCond .ne 13, 3) := by decide +kernel
theorem dC_move_42 : decode cC_move 42 = .ok (.new 54, 3) := by decide +kernel
theorem dC_move_45 : decode cC_move 45 = .ok (.dup, 1) := by decide +kernel
theorem dC_move_46 : decode cC_move 46 = .ok (.ldc 74, 2) := by decide +kernel
theorem dC_move_48 : decode cC_move 48 = .ok (.invokespecial 58, 3) := by decide +kernel
theorem dC_move_51 : decode cC_move 51 = .ok (.athrow, 1) := by decide +kernel
theorem dC_move_52 : decode cC_move 52 = .ok (.iinc 3 1, 3) := by decide +kernel
theorem dC_move_55 : decode cC_move 55 = .ok (.goto (-53), 3) := by decide +kernel
theorem dC_move_58 : decode cC_move 58 = .ok (.iconst 0, 1) := by decide +kernel
theorem dC_move_59 : decode cC_move 59 = .ok (.istore_n 3, 1) := by decide +kernel
theorem dC_move_60 : decode cC_move 60 = .ok (.iload_n 3, 1) := by decide +kernel
theorem dC_move_61 : decode cC_move 61 = .ok (.aload_n 0, 1) := by decide +kernel
theorem dC_move_62 : decode cC_move 62 = .ok (.getfield 40, 3) := by decide +kernel
theorem dC_move_65 : decode cC_move 65 = .ok (.if_icmp .ge 29, 3) := by decide +kernel
theorem dC_move_68 : decode cC_move 68 = .ok (.aload_n 0, 1) := by decide +kernel
theorem dC_move_69 : decode cC_move 69 = .ok (.getfield 9, 3) := by decide +kernel
theorem dC_move_72 : decode cC_move 72 = .ok (.iload_n 3, 1) := by decide +kernel
theorem dC_move_73 : decode cC_move 73 = .ok (.dup2, 1) := by decide +kernel
theorem dC_move_74 : decode cC_move 74 = .ok (.iaload, 1) := by decide +kernel
theorem dC_move_75 : decode cC_move 75 = .ok (.iload_n 1, 1) := by decide +kernel
theorem dC_move_76 : decode cC_move 76 = .ok (.iadd, 1) := by decide +kernel
theorem dC_move_77 : decode cC_move 77 = .ok (.iastore, 1) := by decide +kernel
theorem dC_move_78 : decode cC_move 78 = .ok (.aload_n 0, 1) := by decide +kernel
theorem dC_move_79 : decode cC_move 79 = .ok (.getfield 13, 3) := by decide +kernel
theorem dC_move_82 : decode cC_move 82 = .ok (.iload_n 3, 1) := by decide +kernel
theorem dC_move_83 : decode cC_move 83 = .ok (.dup2, 1) := by decide +kernel
theorem dC_move_84 : decode cC_move 84 = .ok (.iaload, 1) := by decide +kernel
theorem dC_move_85 : decode cC_move 85 = .ok (.iload_n 2, 1) := by decide +kernel
theorem dC_move_86 : decode cC_move 86 = .ok (.iadd, 1) := by decide +kernel
theorem dC_move_87 : decode cC_move 87 = .ok (.iastore, 1) := by decide +kernel
theorem dC_move_88 : decode cC_move 88 = .ok (.iinc 3 1, 3) := by decide +kernel
theorem dC_move_91 : decode cC_move 91 = .ok (.goto (-31), 3) := by decide +kernel
theorem dC_move_94 : decode cC_move 94 = .ok (.iconst 0, 1) := by decide +kernel
theorem dC_move_95 : decode cC_move 95 = .ok (.istore_n 3, 1) := by decide +kernel
theorem dC_move_96 : decode cC_move 96 = .ok (.iload_n 3, 1) := by decide +kernel
theorem dC_move_97 : decode cC_move 97 = .ok (.aload_n 0, 1) := by decide +kernel
theorem dC_move_98 : decode cC_move 98 = .ok (.getfield 43, 3) := by decide +kernel
theorem dC_move_101 : decode cC_move 101 = .ok (.if_icmp .ge 29, 3) := by decide +kernel
theorem dC_move_104 : decode cC_move 104 = .ok (.aload_n 0, 1) := by decide +kernel
theorem dC_move_105 : decode cC_move 105 = .ok (.getfield 22, 3) := by decide +kernel
theorem dC_move_108 : decode cC_move 108 = .ok (.iload_n 3, 1) := by decide +kernel
theorem dC_move_109 : decode cC_move 109 = .ok (.aaload, 1) := by decide +kernel
theorem dC_move_110 : decode cC_move 110 = .ok (.astore 4, 2) := by decide +kernel
theorem dC_move_112 : decode cC_move 112 = .ok (.aload 4, 2) := by decide +kernel
theorem dC_move_114 : decode cC_move 114 = .ok (.ifnull 10, 3) := by decide +kernel
theorem dC_move_117 : decode cC_move 117 = .ok (.aload 4, 2) := by decide +kernel
theorem dC_move_119 : decode cC_move 119 = .ok (.iload_n 1, 1) := by decide +kernel
theorem dC_move_120 : decode cC_move 120 = .ok (.iload_n 2, 1) := by decide +kernel
theorem dC_move_121 : decode cC_move 121 = .ok (.invokevirtual 76, 3) := by decide +kernel
theorem dC_move_124 : decode cC_move 124 = .ok (.iinc 3 1, 3) := by decide +kernel
theorem dC_move_127 : decode cC_move 127 = .ok (.goto (-31), 3) := by decide +kernel
theorem dC_move_130 : decode cC_move 130 = .ok (.return_, 1) := by decide +kernel
theorem dC_winding_0 : decode cC_winding 0 = .ok (.iload_n 1, 1) := by decide +kernel
theorem dC_winding_1 : decode cC_winding 1 = .ok (.invokestatic 88, 3) := by decide +kernel
theorem dC_winding_4 : decode cC_winding 4 = .ok (.ifCond .eq 10, 3) := by decide +kernel
theorem dC_winding_7 : decode cC_winding 7 = .ok (.iload_n 2, 1) := by decide +kernel
theorem dC_winding_8 : decode cC_winding 8 = .ok (.invokestatic 88, 3) := by decide +kernel
theorem dC_winding_11 : decode cC_winding 11 = .ok (.ifCond .ne 13, 3) := by decide +kernel
theorem dC_winding_14 : decode cC_winding 14 = .ok (.new 54, 3) := by decide +kernel
theorem dC_winding_17 : decode cC_winding 17 = .ok (.dup, 1) := by decide +kernel
theorem dC_winding_18 : decode cC_winding 18 = .ok (.ldc 92, 2) := by decide +kernel
theorem dC_winding_20 : decode cC_winding 20 = .ok (.invokespecial 58, 3) := by decide +kernel
theorem dC_winding_23 : decode cC_winding 23 = .ok (.athrow, 1) := by decide +kernel
theorem dC_winding_24 : decode cC_winding 24 = .ok (.aload_n 0, 1) := by decide +kernel
theorem dC_winding_25 : decode cC_winding 25 = .ok (.iload_n 2, 1) := by decide +kernel
theorem dC_winding_26 : decode cC_winding 26 = .ok (.iload_n 1, 1) := by decide +kernel
theorem dC_winding_27 : decode cC_winding 27 = .ok (.iconst 1, 1) := by decide +kernel
theorem dC_winding_28 : decode cC_winding 28 = .ok (.iconst 1, 1) := by decide +kernel
theorem dC_winding_29 : decode cC_winding 29 = .ok (.invokevirtual 94, 3) := by decide +kernel
theorem dC_winding_32 : decode cC_winding 32 = .ok (.aload_n 0, 1) := by decide +kernel
theorem dC_winding_33 : decode cC_winding 33 = .ok (.getfield 26, 3) := by decide +kernel
theorem dC_winding_36 : decode cC_winding 36 = .ok (.iconst 0, 1) := by decide +kernel
theorem dC_winding_37 : decode cC_winding 37 = .ok (.iaload, 1) := by decide +kernel
theorem dC_winding_38 : decode cC_winding 38 = .ok (.ireturn, 1) := by decide +kernel
theorem dC_canBeAsked_0 : decode cC_canBeAsked 0 = .ok (.iload_n 0, 1) := by decide +kernel
theorem dC_canBeAsked_1 : decode cC_canBeAsked 1 = .ok (.sipush (-16384), 3) := by decide +kernel
theorem dC_canBeAsked_4 : decode cC_canBeAsked 4 = .ok (.if_icmp .lt 14, 3) := by decide +kernel
theorem dC_canBeAsked_7 : decode cC_canBeAsked 7 = .ok (.iload_n 0, 1) := by decide +kernel
theorem dC_canBeAsked_8 : decode cC_canBeAsked 8 = .ok (.sipush 16383, 3) := by decide +kernel
theorem dC_canBeAsked_11 : decode cC_canBeAsked 11 = .ok (.if_icmp .gt 7, 3) := by decide +kernel
theorem dC_canBeAsked_14 : decode cC_canBeAsked 14 = .ok (.iconst 1, 1) := by decide +kernel
theorem dC_canBeAsked_15 : decode cC_canBeAsked 15 = .ok (.goto 4, 3) := by decide +kernel
theorem dC_canBeAsked_18 : decode cC_canBeAsked 18 = .ok (.iconst 0, 1) := by decide +kernel
theorem dC_canBeAsked_19 : decode cC_canBeAsked 19 = .ok (.ireturn, 1) := by decide +kernel
theorem dC_row_0 : decode cC_row 0 = .ok (.iload_n 1, 1) := by decide +kernel
theorem dC_row_1 : decode cC_row 1 = .ok (.invokestatic 98, 3) := by decide +kernel
theorem dC_row_4 : decode cC_row 4 = .ok (.ifCond .ne 13, 3) := by decide +kernel
theorem dC_row_7 : decode cC_row 7 = .ok (.new 101, 3) := by decide +kernel
theorem dC_row_10 : decode cC_row 10 = .ok (.dup, 1) := by decide +kernel
theorem dC_row_11 : decode cC_row 11 = .ok (.ldc 103, 2) := by decide +kernel
theorem dC_row_13 : decode cC_row 13 = .ok (.invokespecial 105, 3) := by decide +kernel
theorem dC_row_16 : decode cC_row 16 = .ok (.athrow, 1) := by decide +kernel
theorem dC_row_17 : decode cC_row 17 = .ok (.aload_n 0, 1) := by decide +kernel
theorem dC_row_18 : decode cC_row 18 = .ok (.iload_n 1, 1) := by decide +kernel
theorem dC_row_19 : decode cC_row 19 = .ok (.invokevirtual 106, 3) := by decide +kernel
theorem dC_row_22 : decode cC_row 22 = .ok (.lreturn, 1) := by decide +kernel
theorem dC_isInPicture_0 : decode cC_isInPicture 0 = .ok (.iload_n 0, 1) := by decide +kernel
theorem dC_isInPicture_1 : decode cC_isInPicture 1 = .ok (.ifCond .lt 13, 3) := by decide +kernel
theorem dC_isInPicture_4 : decode cC_isInPicture 4 = .ok (.iload_n 0, 1) := by decide +kernel
theorem dC_isInPicture_5 : decode cC_isInPicture 5 = .ok (.bipush 64, 2) := by decide +kernel
theorem dC_isInPicture_7 : decode cC_isInPicture 7 = .ok (.if_icmp .ge 7, 3) := by decide +kernel
theorem dC_isInPicture_10 : decode cC_isInPicture 10 = .ok (.iconst 1, 1) := by decide +kernel
theorem dC_isInPicture_11 : decode cC_isInPicture 11 = .ok (.goto 4, 3) := by decide +kernel
theorem dC_isInPicture_14 : decode cC_isInPicture 14 = .ok (.iconst 0, 1) := by decide +kernel
theorem dC_isInPicture_15 : decode cC_isInPicture 15 = .ok (.ireturn, 1) := by decide +kernel
theorem dC_share_0 : decode cC_share 0 = .ok (.iload_n 1, 1) := by decide +kernel
theorem dC_share_1 : decode cC_share 1 = .ok (.invokestatic 98, 3) := by decide +kernel
theorem dC_share_4 : decode cC_share 4 = .ok (.ifCond .eq 10, 3) := by decide +kernel
theorem dC_share_7 : decode cC_share 7 = .ok (.iload_n 2, 1) := by decide +kernel
theorem dC_share_8 : decode cC_share 8 = .ok (.invokestatic 98, 3) := by decide +kernel
theorem dC_share_11 : decode cC_share 11 = .ok (.ifCond .ne 13, 3) := by decide +kernel
theorem dC_share_14 : decode cC_share 14 = .ok (.new 101, 3) := by decide +kernel
theorem dC_share_17 : decode cC_share 17 = .ok (.dup, 1) := by decide +kernel
theorem dC_share_18 : decode cC_share 18 = .ok (.ldc 110, 2) := by decide +kernel
theorem dC_share_20 : decode cC_share 20 = .ok (.invokespecial 105, 3) := by decide +kernel
theorem dC_share_23 : decode cC_share 23 = .ok (.athrow, 1) := by decide +kernel
theorem dC_share_24 : decode cC_share 24 = .ok (.iconst 0, 1) := by decide +kernel
theorem dC_share_25 : decode cC_share 25 = .ok (.istore_n 3, 1) := by decide +kernel
theorem dC_share_26 : decode cC_share 26 = .ok (.iconst 0, 1) := by decide +kernel
theorem dC_share_27 : decode cC_share 27 = .ok (.istore 4, 2) := by decide +kernel
theorem dC_share_29 : decode cC_share 29 = .ok (.iload 4, 2) := by decide +kernel
theorem dC_share_31 : decode cC_share 31 = .ok (.iconst 4, 1) := by decide +kernel
theorem dC_share_32 : decode cC_share 32 = .ok (.if_icmp .ge 68, 3) := by decide +kernel
theorem dC_share_35 : decode cC_share 35 = .ok (.aload_n 0, 1) := by decide +kernel
theorem dC_share_36 : decode cC_share 36 = .ok (.iload_n 2, 1) := by decide +kernel
theorem dC_share_37 : decode cC_share 37 = .ok (.invokestatic 112, 3) := by decide +kernel
theorem dC_share_40 : decode cC_share 40 = .ok (.bipush 8, 2) := by decide +kernel
theorem dC_share_42 : decode cC_share 42 = .ok (.iadd, 1) := by decide +kernel
theorem dC_share_43 : decode cC_share 43 = .ok (.bipush 16, 2) := by decide +kernel
theorem dC_share_45 : decode cC_share 45 = .ok (.iload 4, 2) := by decide +kernel
theorem dC_share_47 : decode cC_share 47 = .ok (.imul, 1) := by decide +kernel
theorem dC_share_48 : decode cC_share 48 = .ok (.iadd, 1) := by decide +kernel
theorem dC_share_49 : decode cC_share 49 = .ok (.bipush 64, 2) := by decide +kernel
theorem dC_share_51 : decode cC_share 51 = .ok (.iload_n 1, 1) := by decide +kernel
theorem dC_share_52 : decode cC_share 52 = .ok (.imul, 1) := by decide +kernel
theorem dC_share_53 : decode cC_share 53 = .ok (.bipush 8, 2) := by decide +kernel
theorem dC_share_55 : decode cC_share 55 = .ok (.iadd, 1) := by decide +kernel
theorem dC_share_56 : decode cC_share 56 = .ok (.bipush 16, 2) := by decide +kernel
theorem dC_share_58 : decode cC_share 58 = .ok (.iconst 4, 1) := by decide +kernel
theorem dC_share_59 : decode cC_share 59 = .ok (.invokevirtual 94, 3) := by decide +kernel
theorem dC_share_62 : decode cC_share 62 = .ok (.iconst 0, 1) := by decide +kernel
theorem dC_share_63 : decode cC_share 63 = .ok (.istore 5, 2) := by decide +kernel
theorem dC_share_65 : decode cC_share 65 = .ok (.iload 5, 2) := by decide +kernel
theorem dC_share_67 : decode cC_share 67 = .ok (.iconst 4, 1) := by decide +kernel
theorem dC_share_68 : decode cC_share 68 = .ok (.if_icmp .ge 26, 3) := by decide +kernel
theorem dC_share_71 : decode cC_share 71 = .ok (.aload_n 0, 1) := by decide +kernel
theorem dC_share_72 : decode cC_share 72 = .ok (.aload_n 0, 1) := by decide +kernel
theorem dC_share_73 : decode cC_share 73 = .ok (.getfield 26, 3) := by decide +kernel
theorem dC_share_76 : decode cC_share 76 = .ok (.iload 5, 2) := by decide +kernel
theorem dC_share_78 : decode cC_share 78 = .ok (.iaload, 1) := by decide +kernel
theorem dC_share_79 : decode cC_share 79 = .ok (.invokevirtual 116, 3) := by decide +kernel
theorem dC_share_82 : decode cC_share 82 = .ok (.ifCond .eq 6, 3) := by decide +kernel
theorem dC_share_85 : decode cC_share 85 = .ok (.iinc 3 1, 3) := by decide +kernel
theorem dC_share_88 : decode cC_share 88 = .ok (.iinc 5 1, 3) := by decide +kernel
theorem dC_share_91 : decode cC_share 91 = .ok (.goto (-26), 3) := by decide +kernel
theorem dC_share_94 : decode cC_share 94 = .ok (.iinc 4 1, 3) := by decide +kernel
theorem dC_share_97 : decode cC_share 97 = .ok (.goto (-68), 3) := by decide +kernel
theorem dC_share_100 : decode cC_share 100 = .ok (.iload_n 3, 1) := by decide +kernel
theorem dC_share_101 : decode cC_share 101 = .ok (.ireturn, 1) := by decide +kernel
theorem dC_spans_0 : decode cC_spans 0 = .ok (.iload_n 1, 1) := by decide +kernel
theorem dC_spans_1 : decode cC_spans 1 = .ok (.invokestatic 98, 3) := by decide +kernel
theorem dC_spans_4 : decode cC_spans 4 = .ok (.ifCond .ne 13, 3) := by decide +kernel
theorem dC_spans_7 : decode cC_spans 7 = .ok (.new 101, 3) := by decide +kernel
theorem dC_spans_10 : decode cC_spans 10 = .ok (.dup, 1) := by decide +kernel
theorem dC_spans_11 : decode cC_spans 11 = .ok (.ldc 103, 2) := by decide +kernel
theorem dC_spans_13 : decode cC_spans 13 = .ok (.invokespecial 105, 3) := by decide +kernel
theorem dC_spans_16 : decode cC_spans 16 = .ok (.athrow, 1) := by decide +kernel
theorem dC_spans_17 : decode cC_spans 17 = .ok (.aload_n 0, 1) := by decide +kernel
theorem dC_spans_18 : decode cC_spans 18 = .ok (.iload_n 1, 1) := by decide +kernel
theorem dC_spans_19 : decode cC_spans 19 = .ok (.invokevirtual 106, 3) := by decide +kernel
theorem dC_spans_22 : decode cC_spans 22 = .ok (.invokestatic 119, 3) := by decide +kernel
theorem dC_spans_25 : decode cC_spans 25 = .ok (.invokestatic 123, 3) := by decide +kernel
theorem dC_spans_28 : decode cC_spans 28 = .ok (.ireturn, 1) := by decide +kernel
theorem dC_firstsOf_0 : decode cC_firstsOf 0 = .ok (.lload_n 0, 1) := by decide +kernel
theorem dC_firstsOf_1 : decode cC_firstsOf 1 = .ok (.lload_n 0, 1) := by decide +kernel
theorem dC_firstsOf_2 : decode cC_firstsOf 2 = .ok (.iconst 1, 1) := by decide +kernel
theorem dC_firstsOf_3 : decode cC_firstsOf 3 = .ok (.lshl, 1) := by decide +kernel
theorem dC_firstsOf_4 : decode cC_firstsOf 4 = .ok (.ldc2_w 169, 3) := by decide +kernel
theorem dC_firstsOf_7 : decode cC_firstsOf 7 = .ok (.lxor, 1) := by decide +kernel
theorem dC_firstsOf_8 : decode cC_firstsOf 8 = .ok (.land, 1) := by decide +kernel
theorem dC_firstsOf_9 : decode cC_firstsOf 9 = .ok (.lreturn, 1) := by decide +kernel
theorem dC_span_0 : decode cC_span 0 = .ok (.iload_n 1, 1) := by decide +kernel
theorem dC_span_1 : decode cC_span 1 = .ok (.invokestatic 98, 3) := by decide +kernel
theorem dC_span_4 : decode cC_span 4 = .ok (.ifCond .ne 13, 3) := by decide +kernel
theorem dC_span_7 : decode cC_span 7 = .ok (.new 101, 3) := by decide +kernel
theorem dC_span_10 : decode cC_span 10 = .ok (.dup, 1) := by decide +kernel
theorem dC_span_11 : decode cC_span 11 = .ok (.ldc 103, 2) := by decide +kernel
theorem dC_span_13 : decode cC_span 13 = .ok (.invokespecial 105, 3) := by decide +kernel
theorem dC_span_16 : decode cC_span 16 = .ok (.athrow, 1) := by decide +kernel
theorem dC_span_17 : decode cC_span 17 = .ok (.aload_n 0, 1) := by decide +kernel
theorem dC_span_18 : decode cC_span 18 = .ok (.iload_n 1, 1) := by decide +kernel
theorem dC_span_19 : decode cC_span 19 = .ok (.invokevirtual 106, 3) := by decide +kernel
theorem dC_span_22 : decode cC_span 22 = .ok (.lstore 4, 2) := by decide +kernel
theorem dC_span_24 : decode cC_span 24 = .ok (.iload_n 3, 1) := by decide +kernel
theorem dC_span_25 : decode cC_span 25 = .ok (.ifCond .eq 11, 3) := by decide +kernel
theorem dC_span_28 : decode cC_span 28 = .ok (.lload 4, 2) := by decide +kernel
theorem dC_span_30 : decode cC_span 30 = .ok (.invokestatic 129, 3) := by decide +kernel
theorem dC_span_33 : decode cC_span 33 = .ok (.goto 8, 3) := by decide +kernel
theorem dC_span_36 : decode cC_span 36 = .ok (.lload 4, 2) := by decide +kernel
theorem dC_span_38 : decode cC_span 38 = .ok (.invokestatic 119, 3) := by decide +kernel
theorem dC_span_41 : decode cC_span 41 = .ok (.iload_n 2, 1) := by decide +kernel
theorem dC_span_42 : decode cC_span 42 = .ok (.invokestatic 132, 3) := by decide +kernel
theorem dC_span_45 : decode cC_span 45 = .ok (.istore 6, 2) := by decide +kernel
theorem dC_span_47 : decode cC_span 47 = .ok (.iload_n 3, 1) := by decide +kernel
theorem dC_span_48 : decode cC_span 48 = .ok (.ifCond .eq 16, 3) := by decide +kernel
theorem dC_span_51 : decode cC_span 51 = .ok (.iload 6, 2) := by decide +kernel
theorem dC_span_53 : decode cC_span 53 = .ok (.iconst (-1), 1) := by decide +kernel
theorem dC_span_54 : decode cC_span 54 = .ok (.if_icmp .eq 10, 3) := by decide +kernel
theorem dC_span_57 : decode cC_span 57 = .ok (.iload 6, 2) := by decide +kernel
theorem dC_span_59 : decode cC_span 59 = .ok (.iconst 1, 1) := by decide +kernel
theorem dC_span_60 : decode cC_span 60 = .ok (.iadd, 1) := by decide +kernel
theorem dC_span_61 : decode cC_span 61 = .ok (.goto 5, 3) := by decide +kernel
theorem dC_span_64 : decode cC_span 64 = .ok (.iload 6, 2) := by decide +kernel
theorem dC_span_66 : decode cC_span 66 = .ok (.ireturn, 1) := by decide +kernel
theorem dC_lastsOf_0 : decode cC_lastsOf 0 = .ok (.lload_n 0, 1) := by decide +kernel
theorem dC_lastsOf_1 : decode cC_lastsOf 1 = .ok (.lload_n 0, 1) := by decide +kernel
theorem dC_lastsOf_2 : decode cC_lastsOf 2 = .ok (.iconst 1, 1) := by decide +kernel
theorem dC_lastsOf_3 : decode cC_lastsOf 3 = .ok (.lushr, 1) := by decide +kernel
theorem dC_lastsOf_4 : decode cC_lastsOf 4 = .ok (.ldc2_w 169, 3) := by decide +kernel
theorem dC_lastsOf_7 : decode cC_lastsOf 7 = .ok (.lxor, 1) := by decide +kernel
theorem dC_lastsOf_8 : decode cC_lastsOf 8 = .ok (.land, 1) := by decide +kernel
theorem dC_lastsOf_9 : decode cC_lastsOf 9 = .ok (.lreturn, 1) := by decide +kernel
theorem dC_bitNumber_0 : decode cC_bitNumber 0 = .ok (.iconst 0, 1) := by decide +kernel
theorem dC_bitNumber_1 : decode cC_bitNumber 1 = .ok (.istore_n 3, 1) := by decide +kernel
theorem dC_bitNumber_2 : decode cC_bitNumber 2 = .ok (.iconst 0, 1) := by decide +kernel
theorem dC_bitNumber_3 : decode cC_bitNumber 3 = .ok (.istore 4, 2) := by decide +kernel
theorem dC_bitNumber_5 : decode cC_bitNumber 5 = .ok (.iload 4, 2) := by decide +kernel
theorem dC_bitNumber_7 : decode cC_bitNumber 7 = .ok (.bipush 64, 2) := by decide +kernel
theorem dC_bitNumber_9 : decode cC_bitNumber 9 = .ok (.if_icmp .ge 31, 3) := by decide +kernel
theorem dC_bitNumber_12 : decode cC_bitNumber 12 = .ok (.lload_n 0, 1) := by decide +kernel
theorem dC_bitNumber_13 : decode cC_bitNumber 13 = .ok (.iload 4, 2) := by decide +kernel
theorem dC_bitNumber_15 : decode cC_bitNumber 15 = .ok (.lushr, 1) := by decide +kernel
theorem dC_bitNumber_16 : decode cC_bitNumber 16 = .ok (.lconst 1, 1) := by decide +kernel
theorem dC_bitNumber_17 : decode cC_bitNumber 17 = .ok (.land, 1) := by decide +kernel
theorem dC_bitNumber_18 : decode cC_bitNumber 18 = .ok (.lconst 0, 1) := by decide +kernel
theorem dC_bitNumber_19 : decode cC_bitNumber 19 = .ok (.lcmp, 1) := by decide +kernel
theorem dC_bitNumber_20 : decode cC_bitNumber 20 = .ok (.ifCond .eq 14, 3) := by decide +kernel
theorem dC_bitNumber_23 : decode cC_bitNumber 23 = .ok (.iload_n 3, 1) := by decide +kernel
theorem dC_bitNumber_24 : decode cC_bitNumber 24 = .ok (.iload_n 2, 1) := by decide +kernel
theorem dC_bitNumber_25 : decode cC_bitNumber 25 = .ok (.if_icmp .ne 6, 3) := by decide +kernel
theorem dC_bitNumber_28 : decode cC_bitNumber 28 = .ok (.iload 4, 2) := by decide +kernel
theorem dC_bitNumber_30 : decode cC_bitNumber 30 = .ok (.ireturn, 1) := by decide +kernel
theorem dC_bitNumber_31 : decode cC_bitNumber 31 = .ok (.iinc 3 1, 3) := by decide +kernel
theorem dC_bitNumber_34 : decode cC_bitNumber 34 = .ok (.iinc 4 1, 3) := by decide +kernel
theorem dC_bitNumber_37 : decode cC_bitNumber 37 = .ok (.goto (-32), 3) := by decide +kernel
theorem dC_bitNumber_40 : decode cC_bitNumber 40 = .ok (.iconst (-1), 1) := by decide +kernel
theorem dC_bitNumber_41 : decode cC_bitNumber 41 = .ok (.ireturn, 1) := by decide +kernel
theorem dC_extent_0 : decode cC_extent 0 = .ok (.iload_n 1, 1) := by decide +kernel
theorem dC_extent_1 : decode cC_extent 1 = .ok (.ifCond .lt 8, 3) := by decide +kernel
theorem dC_extent_4 : decode cC_extent 4 = .ok (.iload_n 1, 1) := by decide +kernel
theorem dC_extent_5 : decode cC_extent 5 = .ok (.iconst 3, 1) := by decide +kernel
theorem dC_extent_6 : decode cC_extent 6 = .ok (.if_icmp .le 13, 3) := by decide +kernel
theorem dC_extent_9 : decode cC_extent 9 = .ok (.new 101, 3) := by decide +kernel
theorem dC_extent_12 : decode cC_extent 12 = .ok (.dup, 1) := by decide +kernel
theorem dC_extent_13 : decode cC_extent 13 = .ok (.ldc 136, 2) := by decide +kernel
theorem dC_extent_15 : decode cC_extent 15 = .ok (.invokespecial 105, 3) := by decide +kernel
theorem dC_extent_18 : decode cC_extent 18 = .ok (.athrow, 1) := by decide +kernel
theorem dC_extent_19 : decode cC_extent 19 = .ok (.aload_n 0, 1) := by decide +kernel
theorem dC_extent_20 : decode cC_extent 20 = .ok (.getfield 36, 3) := by decide +kernel
theorem dC_extent_23 : decode cC_extent 23 = .ok (.ifCond .ne 13, 3) := by decide +kernel
theorem dC_extent_26 : decode cC_extent 26 = .ok (.new 61, 3) := by decide +kernel
theorem dC_extent_29 : decode cC_extent 29 = .ok (.dup, 1) := by decide +kernel
theorem dC_extent_30 : decode cC_extent 30 = .ok (.ldc 138, 2) := by decide +kernel
theorem dC_extent_32 : decode cC_extent 32 = .ok (.invokespecial 65, 3) := by decide +kernel
theorem dC_extent_35 : decode cC_extent 35 = .ok (.athrow, 1) := by decide +kernel
theorem dC_extent_36 : decode cC_extent 36 = .ok (.iload_n 1, 1) := by decide +kernel
theorem dC_extent_37 : decode cC_extent 37 = .ok (.iconst 2, 1) := by decide +kernel
theorem dC_extent_38 : decode cC_extent 38 = .ok (.if_icmp .ge 7, 3) := by decide +kernel
theorem dC_extent_41 : decode cC_extent 41 = .ok (.iconst 1, 1) := by decide +kernel
theorem dC_extent_42 : decode cC_extent 42 = .ok (.goto 4, 3) := by decide +kernel
theorem dC_extent_45 : decode cC_extent 45 = .ok (.iconst 0, 1) := by decide +kernel
theorem dC_extent_46 : decode cC_extent 46 = .ok (.istore_n 2, 1) := by decide +kernel
theorem dC_extent_47 : decode cC_extent 47 = .ok (.iload_n 2, 1) := by decide +kernel
theorem dC_extent_48 : decode cC_extent 48 = .ok (.ifCond .eq 9, 3) := by decide +kernel
theorem dC_extent_51 : decode cC_extent 51 = .ok (.sipush 8191, 3) := by decide +kernel
theorem dC_extent_54 : decode cC_extent 54 = .ok (.goto 6, 3) := by decide +kernel
theorem dC_extent_57 : decode cC_extent 57 = .ok (.sipush (-8192), 3) := by decide +kernel
theorem dC_extent_60 : decode cC_extent 60 = .ok (.istore_n 3, 1) := by decide +kernel
theorem dC_extent_61 : decode cC_extent 61 = .ok (.iconst 0, 1) := by decide +kernel
theorem dC_extent_62 : decode cC_extent 62 = .ok (.istore 4, 2) := by decide +kernel
theorem dC_extent_64 : decode cC_extent 64 = .ok (.iload 4, 2) := by decide +kernel
theorem dC_extent_66 : decode cC_extent 66 = .ok (.aload_n 0, 1) := by decide +kernel
theorem dC_extent_67 : decode cC_extent 67 = .ok (.getfield 43, 3) := by decide +kernel
theorem dC_extent_70 : decode cC_extent 70 = .ok (.if_icmp .ge 51, 3) := by decide +kernel
theorem dC_extent_73 : decode cC_extent 73 = .ok (.aload_n 0, 1) := by decide +kernel
theorem dC_extent_74 : decode cC_extent 74 = .ok (.getfield 22, 3) := by decide +kernel
theorem dC_extent_77 : decode cC_extent 77 = .ok (.iload 4, 2) := by decide +kernel
theorem dC_extent_79 : decode cC_extent 79 = .ok (.aaload, 1) := by decide +kernel
theorem dC_extent_80 : decode cC_extent 80 = .ok (.astore 5, 2) := by decide +kernel
theorem dC_extent_82 : decode cC_extent 82 = .ok (.aload 5, 2) := by decide +kernel
theorem dC_extent_84 : decode cC_extent 84 = .ok (.ifnull 31, 3) := by decide +kernel
theorem dC_extent_87 : decode cC_extent 87 = .ok (.aload 5, 2) := by decide +kernel
theorem dC_extent_89 : decode cC_extent 89 = .ok (.iload_n 1, 1) := by decide +kernel
theorem dC_extent_90 : decode cC_extent 90 = .ok (.invokevirtual 140, 3) := by decide +kernel
theorem dC_extent_93 : decode cC_extent 93 = .ok (.istore 6, 2) := by decide +kernel
theorem dC_extent_95 : decode cC_extent 95 = .ok (.iload_n 2, 1) := by decide +kernel
theorem dC_extent_96 : decode cC_extent 96 = .ok (.ifCond .eq 12, 3) := by decide +kernel
theorem dC_extent_99 : decode cC_extent 99 = .ok (.iload_n 3, 1) := by decide +kernel
theorem dC_extent_100 : decode cC_extent 100 = .ok (.iload 6, 2) := by decide +kernel
theorem dC_extent_102 : decode cC_extent 102 = .ok (.invokestatic 143, 3) := by decide +kernel
theorem dC_extent_105 : decode cC_extent 105 = .ok (.goto 9, 3) := by decide +kernel
theorem dC_extent_108 : decode cC_extent 108 = .ok (.iload_n 3, 1) := by decide +kernel
theorem dC_extent_109 : decode cC_extent 109 = .ok (.iload 6, 2) := by decide +kernel
theorem dC_extent_111 : decode cC_extent 111 = .ok (.invokestatic 149, 3) := by decide +kernel
theorem dC_extent_114 : decode cC_extent 114 = .ok (.istore_n 3, 1) := by decide +kernel
theorem dC_extent_115 : decode cC_extent 115 = .ok (.iinc 4 1, 3) := by decide +kernel
theorem dC_extent_118 : decode cC_extent 118 = .ok (.goto (-54), 3) := by decide +kernel
theorem dC_extent_121 : decode cC_extent 121 = .ok (.iload_n 3, 1) := by decide +kernel
theorem dC_extent_122 : decode cC_extent 122 = .ok (.ireturn, 1) := by decide +kernel
