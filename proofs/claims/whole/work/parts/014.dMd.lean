/-! decode rows -/
theorem dM_share_29 : decode cM_share 29 = .ok (.invokevirtual 139, 3) := by decide +kernel
theorem dM_share_32 : decode cM_share 32 = .ok (.iconst 0, 1) := by decide +kernel
theorem dM_share_33 : decode cM_share 33 = .ok (.istore_n 3, 1) := by decide +kernel
theorem dM_share_34 : decode cM_share 34 = .ok (.iconst 0, 1) := by decide +kernel
theorem dM_share_35 : decode cM_share 35 = .ok (.istore 4, 2) := by decide +kernel
theorem dM_share_37 : decode cM_share 37 = .ok (.iload 4, 2) := by decide +kernel
theorem dM_share_39 : decode cM_share 39 = .ok (.bipush 16, 2) := by decide +kernel
theorem dM_share_41 : decode cM_share 41 = .ok (.if_icmp .ge 57, 3) := by decide +kernel
theorem dM_share_44 : decode cM_share 44 = .ok (.aload_n 0, 1) := by decide +kernel
theorem dM_share_45 : decode cM_share 45 = .ok (.bipush 64, 2) := by decide +kernel
theorem dM_share_47 : decode cM_share 47 = .ok (.iload_n 1, 1) := by decide +kernel
theorem dM_share_48 : decode cM_share 48 = .ok (.imul, 1) := by decide +kernel
theorem dM_share_49 : decode cM_share 49 = .ok (.bipush 8, 2) := by decide +kernel
theorem dM_share_51 : decode cM_share 51 = .ok (.iadd, 1) := by decide +kernel
theorem dM_share_52 : decode cM_share 52 = .ok (.bipush 16, 2) := by decide +kernel
theorem dM_share_54 : decode cM_share 54 = .ok (.iload 4, 2) := by decide +kernel
theorem dM_share_56 : decode cM_share 56 = .ok (.iconst 4, 1) := by decide +kernel
theorem dM_share_57 : decode cM_share 57 = .ok (.irem, 1) := by decide +kernel
theorem dM_share_58 : decode cM_share 58 = .ok (.imul, 1) := by decide +kernel
theorem dM_share_59 : decode cM_share 59 = .ok (.iadd, 1) := by decide +kernel
theorem dM_share_60 : decode cM_share 60 = .ok (.bipush 64, 2) := by decide +kernel
theorem dM_share_62 : decode cM_share 62 = .ok (.bipush 63, 2) := by decide +kernel
theorem dM_share_64 : decode cM_share 64 = .ok (.iload_n 2, 1) := by decide +kernel
theorem dM_share_65 : decode cM_share 65 = .ok (.isub, 1) := by decide +kernel
theorem dM_share_66 : decode cM_share 66 = .ok (.imul, 1) := by decide +kernel
theorem dM_share_67 : decode cM_share 67 = .ok (.bipush 8, 2) := by decide +kernel
theorem dM_share_69 : decode cM_share 69 = .ok (.iadd, 1) := by decide +kernel
theorem dM_share_70 : decode cM_share 70 = .ok (.bipush 16, 2) := by decide +kernel
theorem dM_share_72 : decode cM_share 72 = .ok (.iload 4, 2) := by decide +kernel
theorem dM_share_74 : decode cM_share 74 = .ok (.iconst 4, 1) := by decide +kernel
theorem dM_share_75 : decode cM_share 75 = .ok (.idiv, 1) := by decide +kernel
theorem dM_share_76 : decode cM_share 76 = .ok (.imul, 1) := by decide +kernel
theorem dM_share_77 : decode cM_share 77 = .ok (.iadd, 1) := by decide +kernel
theorem dM_share_78 : decode cM_share 78 = .ok (.invokevirtual 135, 3) := by decide +kernel
theorem dM_share_81 : decode cM_share 81 = .ok (.ifCond .eq 9, 3) := by decide +kernel
theorem dM_share_84 : decode cM_share 84 = .ok (.iload_n 3, 1) := by decide +kernel
theorem dM_share_85 : decode cM_share 85 = .ok (.iconst 1, 1) := by decide +kernel
theorem dM_share_86 : decode cM_share 86 = .ok (.iadd, 1) := by decide +kernel
theorem dM_share_87 : decode cM_share 87 = .ok (.goto 4, 3) := by decide +kernel
theorem dM_share_90 : decode cM_share 90 = .ok (.iload_n 3, 1) := by decide +kernel
theorem dM_share_91 : decode cM_share 91 = .ok (.istore_n 3, 1) := by decide +kernel
theorem dM_share_92 : decode cM_share 92 = .ok (.iinc 4 1, 3) := by decide +kernel
theorem dM_share_95 : decode cM_share 95 = .ok (.goto (-58), 3) := by decide +kernel
theorem dM_share_98 : decode cM_share 98 = .ok (.iload_n 3, 1) := by decide +kernel
theorem dM_share_99 : decode cM_share 99 = .ok (.ireturn, 1) := by decide +kernel
theorem dM_spans_0 : decode cM_spans 0 = .ok (.aload_n 0, 1) := by decide +kernel
theorem dM_spans_1 : decode cM_spans 1 = .ok (.iload_n 1, 1) := by decide +kernel
theorem dM_spans_2 : decode cM_spans 2 = .ok (.invokestatic 155, 3) := by decide +kernel
theorem dM_spans_5 : decode cM_spans 5 = .ok (.ifCond .eq 7, 3) := by decide +kernel
theorem dM_spans_8 : decode cM_spans 8 = .ok (.iconst 0, 1) := by decide +kernel
theorem dM_spans_9 : decode cM_spans 9 = .ok (.goto 4, 3) := by decide +kernel
theorem dM_spans_12 : decode cM_spans 12 = .ok (.iconst 1, 1) := by decide +kernel
theorem dM_spans_13 : decode cM_spans 13 = .ok (.invokevirtual 60, 3) := by decide +kernel
theorem dM_spans_16 : decode cM_spans 16 = .ok (.ifCond .eq 5, 3) := by decide +kernel
theorem dM_spans_19 : decode cM_spans 19 = .ok (.iconst 0, 1) := by decide +kernel
theorem dM_spans_20 : decode cM_spans 20 = .ok (.ireturn, 1) := by decide +kernel
theorem dM_spans_21 : decode cM_spans 21 = .ok (.aload_n 0, 1) := by decide +kernel
theorem dM_spans_22 : decode cM_spans 22 = .ok (.invokevirtual 139, 3) := by decide +kernel
theorem dM_spans_25 : decode cM_spans 25 = .ok (.iconst 0, 1) := by decide +kernel
theorem dM_spans_26 : decode cM_spans 26 = .ok (.istore_n 2, 1) := by decide +kernel
theorem dM_spans_27 : decode cM_spans 27 = .ok (.iconst 0, 1) := by decide +kernel
theorem dM_spans_28 : decode cM_spans 28 = .ok (.istore_n 3, 1) := by decide +kernel
theorem dM_spans_29 : decode cM_spans 29 = .ok (.iconst 0, 1) := by decide +kernel
theorem dM_spans_30 : decode cM_spans 30 = .ok (.istore 4, 2) := by decide +kernel
theorem dM_spans_32 : decode cM_spans 32 = .ok (.iload 4, 2) := by decide +kernel
theorem dM_spans_34 : decode cM_spans 34 = .ok (.bipush 64, 2) := by decide +kernel
theorem dM_spans_36 : decode cM_spans 36 = .ok (.if_icmp .ge 38, 3) := by decide +kernel
theorem dM_spans_39 : decode cM_spans 39 = .ok (.aload_n 0, 1) := by decide +kernel
theorem dM_spans_40 : decode cM_spans 40 = .ok (.iload 4, 2) := by decide +kernel
theorem dM_spans_42 : decode cM_spans 42 = .ok (.iload_n 1, 1) := by decide +kernel
theorem dM_spans_43 : decode cM_spans 43 = .ok (.invokevirtual 142, 3) := by decide +kernel
theorem dM_spans_46 : decode cM_spans 46 = .ok (.istore 5, 2) := by decide +kernel
theorem dM_spans_48 : decode cM_spans 48 = .ok (.iload 5, 2) := by decide +kernel
theorem dM_spans_50 : decode cM_spans 50 = .ok (.ifCond .eq 13, 3) := by decide +kernel
theorem dM_spans_53 : decode cM_spans 53 = .ok (.iload_n 3, 1) := by decide +kernel
theorem dM_spans_54 : decode cM_spans 54 = .ok (.ifCond .ne 9, 3) := by decide +kernel
theorem dM_spans_57 : decode cM_spans 57 = .ok (.iload_n 2, 1) := by decide +kernel
theorem dM_spans_58 : decode cM_spans 58 = .ok (.iconst 1, 1) := by decide +kernel
theorem dM_spans_59 : decode cM_spans 59 = .ok (.iadd, 1) := by decide +kernel
theorem dM_spans_60 : decode cM_spans 60 = .ok (.goto 4, 3) := by decide +kernel
theorem dM_spans_63 : decode cM_spans 63 = .ok (.iload_n 2, 1) := by decide +kernel
theorem dM_spans_64 : decode cM_spans 64 = .ok (.istore_n 2, 1) := by decide +kernel
theorem dM_spans_65 : decode cM_spans 65 = .ok (.iload 5, 2) := by decide +kernel
theorem dM_spans_67 : decode cM_spans 67 = .ok (.istore_n 3, 1) := by decide +kernel
theorem dM_spans_68 : decode cM_spans 68 = .ok (.iinc 4 1, 3) := by decide +kernel
theorem dM_spans_71 : decode cM_spans 71 = .ok (.goto (-39), 3) := by decide +kernel
theorem dM_spans_74 : decode cM_spans 74 = .ok (.iload_n 2, 1) := by decide +kernel
theorem dM_spans_75 : decode cM_spans 75 = .ok (.ireturn, 1) := by decide +kernel
theorem dM_span_0 : decode cM_span 0 = .ok (.aload_n 0, 1) := by decide +kernel
theorem dM_span_1 : decode cM_span 1 = .ok (.iload_n 1, 1) := by decide +kernel
theorem dM_span_2 : decode cM_span 2 = .ok (.invokestatic 155, 3) := by decide +kernel
theorem dM_span_5 : decode cM_span 5 = .ok (.ifCond .eq 7, 3) := by decide +kernel
theorem dM_span_8 : decode cM_span 8 = .ok (.iconst 0, 1) := by decide +kernel
theorem dM_span_9 : decode cM_span 9 = .ok (.goto 4, 3) := by decide +kernel
theorem dM_span_12 : decode cM_span 12 = .ok (.iconst 1, 1) := by decide +kernel
theorem dM_span_13 : decode cM_span 13 = .ok (.invokevirtual 60, 3) := by decide +kernel
theorem dM_span_16 : decode cM_span 16 = .ok (.ifCond .eq 5, 3) := by decide +kernel
theorem dM_span_19 : decode cM_span 19 = .ok (.iconst 0, 1) := by decide +kernel
theorem dM_span_20 : decode cM_span 20 = .ok (.ireturn, 1) := by decide +kernel
theorem dM_span_21 : decode cM_span 21 = .ok (.aload_n 0, 1) := by decide +kernel
theorem dM_span_22 : decode cM_span 22 = .ok (.invokevirtual 139, 3) := by decide +kernel
theorem dM_span_25 : decode cM_span 25 = .ok (.iconst (-1), 1) := by decide +kernel
theorem dM_span_26 : decode cM_span 26 = .ok (.istore 4, 2) := by decide +kernel
theorem dM_span_28 : decode cM_span 28 = .ok (.iconst (-1), 1) := by decide +kernel
theorem dM_span_29 : decode cM_span 29 = .ok (.istore 5, 2) := by decide +kernel
theorem dM_span_31 : decode cM_span 31 = .ok (.iconst 0, 1) := by decide +kernel
theorem dM_span_32 : decode cM_span 32 = .ok (.istore 6, 2) := by decide +kernel
theorem dM_span_34 : decode cM_span 34 = .ok (.iconst 0, 1) := by decide +kernel
theorem dM_span_35 : decode cM_span 35 = .ok (.istore 7, 2) := by decide +kernel
theorem dM_span_37 : decode cM_span 37 = .ok (.iload 7, 2) := by decide +kernel
theorem dM_span_39 : decode cM_span 39 = .ok (.bipush 64, 2) := by decide +kernel
theorem dM_span_41 : decode cM_span 41 = .ok (.if_icmp .gt 117, 3) := by decide +kernel
theorem dM_span_44 : decode cM_span 44 = .ok (.iload 7, 2) := by decide +kernel
theorem dM_span_46 : decode cM_span 46 = .ok (.bipush 64, 2) := by decide +kernel
theorem dM_span_48 : decode cM_span 48 = .ok (.if_icmp .ge 17, 3) := by decide +kernel
theorem dM_span_51 : decode cM_span 51 = .ok (.aload_n 0, 1) := by decide +kernel
theorem dM_span_52 : decode cM_span 52 = .ok (.iload 7, 2) := by decide +kernel
theorem dM_span_54 : decode cM_span 54 = .ok (.iload_n 1, 1) := by decide +kernel
theorem dM_span_55 : decode cM_span 55 = .ok (.invokevirtual 142, 3) := by decide +kernel
theorem dM_span_58 : decode cM_span 58 = .ok (.ifCond .eq 7, 3) := by decide +kernel
theorem dM_span_61 : decode cM_span 61 = .ok (.iconst 1, 1) := by decide +kernel
theorem dM_span_62 : decode cM_span 62 = .ok (.goto 4, 3) := by decide +kernel
theorem dM_span_65 : decode cM_span 65 = .ok (.iconst 0, 1) := by decide +kernel
theorem dM_span_66 : decode cM_span 66 = .ok (.istore 8, 2) := by decide +kernel
theorem dM_span_68 : decode cM_span 68 = .ok (.iload 8, 2) := by decide +kernel
theorem dM_span_70 : decode cM_span 70 = .ok (.ifCond .eq 15, 3) := by decide +kernel
theorem dM_span_73 : decode cM_span 73 = .ok (.iload 6, 2) := by decide +kernel
theorem dM_span_75 : decode cM_span 75 = .ok (.ifCond .ne 10, 3) := by decide +kernel
theorem dM_span_78 : decode cM_span 78 = .ok (.iload 4, 2) := by decide +kernel
theorem dM_span_80 : decode cM_span 80 = .ok (.iconst 1, 1) := by decide +kernel
theorem dM_span_81 : decode cM_span 81 = .ok (.iadd, 1) := by decide +kernel
theorem dM_span_82 : decode cM_span 82 = .ok (.goto 5, 3) := by decide +kernel
theorem dM_span_85 : decode cM_span 85 = .ok (.iload 4, 2) := by decide +kernel
theorem dM_span_87 : decode cM_span 87 = .ok (.istore 4, 2) := by decide +kernel
theorem dM_span_89 : decode cM_span 89 = .ok (.iload_n 3, 1) := by decide +kernel
theorem dM_span_90 : decode cM_span 90 = .ok (.ifCond .eq 21, 3) := by decide +kernel
theorem dM_span_93 : decode cM_span 93 = .ok (.iload 6, 2) := by decide +kernel
theorem dM_span_95 : decode cM_span 95 = .ok (.ifCond .eq 12, 3) := by decide +kernel
theorem dM_span_98 : decode cM_span 98 = .ok (.iload 8, 2) := by decide +kernel
theorem dM_span_100 : decode cM_span 100 = .ok (.ifCond .ne 7, 3) := by decide +kernel
theorem dM_span_103 : decode cM_span 103 = .ok (.iconst 1, 1) := by decide +kernel
theorem dM_span_104 : decode cM_span 104 = .ok (.goto 22, 3) := by decide +kernel
theorem dM_span_107 : decode cM_span 107 = .ok (.iconst 0, 1) := by decide +kernel
theorem dM_span_108 : decode cM_span 108 = .ok (.goto 18, 3) := by decide +kernel
theorem dM_span_111 : decode cM_span 111 = .ok (.iload 8, 2) := by decide +kernel
theorem dM_span_113 : decode cM_span 113 = .ok (.ifCond .eq 12, 3) := by decide +kernel
theorem dM_span_116 : decode cM_span 116 = .ok (.iload 6, 2) := by decide +kernel
theorem dM_span_118 : decode cM_span 118 = .ok (.ifCond .ne 7, 3) := by decide +kernel
theorem dM_span_121 : decode cM_span 121 = .ok (.iconst 1, 1) := by decide +kernel
theorem dM_span_122 : decode cM_span 122 = .ok (.goto 4, 3) := by decide +kernel
theorem dM_span_125 : decode cM_span 125 = .ok (.iconst 0, 1) := by decide +kernel
theorem dM_span_126 : decode cM_span 126 = .ok (.istore 9, 2) := by decide +kernel
theorem dM_span_128 : decode cM_span 128 = .ok (.iload 9, 2) := by decide +kernel
theorem dM_span_130 : decode cM_span 130 = .ok (.ifCond .eq 14, 3) := by decide +kernel
theorem dM_span_133 : decode cM_span 133 = .ok (.iload 4, 2) := by decide +kernel
theorem dM_span_135 : decode cM_span 135 = .ok (.iload_n 2, 1) := by decide +kernel
theorem dM_span_136 : decode cM_span 136 = .ok (.if_icmp .ne 8, 3) := by decide +kernel
theorem dM_span_139 : decode cM_span 139 = .ok (.iload 7, 2) := by decide +kernel
theorem dM_span_141 : decode cM_span 141 = .ok (.goto 5, 3) := by decide +kernel
theorem dM_span_144 : decode cM_span 144 = .ok (.iload 5, 2) := by decide +kernel
theorem dM_span_146 : decode cM_span 146 = .ok (.istore 5, 2) := by decide +kernel
theorem dM_span_148 : decode cM_span 148 = .ok (.iload 8, 2) := by decide +kernel
theorem dM_span_150 : decode cM_span 150 = .ok (.istore 6, 2) := by decide +kernel
theorem dM_span_152 : decode cM_span 152 = .ok (.iinc 7 1, 3) := by decide +kernel
theorem dM_span_155 : decode cM_span 155 = .ok (.goto (-118), 3) := by decide +kernel
theorem dM_span_158 : decode cM_span 158 = .ok (.iload 5, 2) := by decide +kernel
theorem dM_span_160 : decode cM_span 160 = .ok (.ireturn, 1) := by decide +kernel
theorem dM_extent_0 : decode cM_extent 0 = .ok (.aload_n 0, 1) := by decide +kernel
theorem dM_extent_1 : decode cM_extent 1 = .ok (.iload_n 1, 1) := by decide +kernel
theorem dM_extent_2 : decode cM_extent 2 = .ok (.ifCond .lt 8, 3) := by decide +kernel
theorem dM_extent_5 : decode cM_extent 5 = .ok (.iload_n 1, 1) := by decide +kernel
theorem dM_extent_6 : decode cM_extent 6 = .ok (.iconst 3, 1) := by decide +kernel
theorem dM_extent_7 : decode cM_extent 7 = .ok (.if_icmp .le 7, 3) := by decide +kernel
theorem dM_extent_10 : decode cM_extent 10 = .ok (.iconst 1, 1) := by decide +kernel
theorem dM_extent_11 : decode cM_extent 11 = .ok (.goto 15, 3) := by decide +kernel
theorem dM_extent_14 : decode cM_extent 14 = .ok (.aload_n 0, 1) := by decide +kernel
theorem dM_extent_15 : decode cM_extent 15 = .ok (.getfield 53, 3) := by decide +kernel
theorem dM_extent_18 : decode cM_extent 18 = .ok (.ifCond .ne 7, 3) := by decide +kernel
theorem dM_extent_21 : decode cM_extent 21 = .ok (.iconst 2, 1) := by decide +kernel
theorem dM_extent_22 : decode cM_extent 22 = .ok (.goto 4, 3) := by decide +kernel
theorem dM_extent_25 : decode cM_extent 25 = .ok (.iconst 0, 1) := by decide +kernel
theorem dM_extent_26 : decode cM_extent 26 = .ok (.invokevirtual 60, 3) := by decide +kernel
theorem dM_extent_29 : decode cM_extent 29 = .ok (.ifCond .eq 5, 3) := by decide +kernel
theorem dM_extent_32 : decode cM_extent 32 = .ok (.iconst 0, 1) := by decide +kernel
theorem dM_extent_33 : decode cM_extent 33 = .ok (.ireturn, 1) := by decide +kernel
theorem dM_extent_34 : decode cM_extent 34 = .ok (.aload_n 0, 1) := by decide +kernel
theorem dM_extent_35 : decode cM_extent 35 = .ok (.invokevirtual 139, 3) := by decide +kernel
theorem dM_extent_38 : decode cM_extent 38 = .ok (.iload_n 1, 1) := by decide +kernel
theorem dM_extent_39 : decode cM_extent 39 = .ok (.iconst 2, 1) := by decide +kernel
theorem dM_extent_40 : decode cM_extent 40 = .ok (.if_icmp .ge 7, 3) := by decide +kernel
theorem dM_extent_43 : decode cM_extent 43 = .ok (.iconst 1, 1) := by decide +kernel
theorem dM_extent_44 : decode cM_extent 44 = .ok (.goto 4, 3) := by decide +kernel
theorem dM_extent_47 : decode cM_extent 47 = .ok (.iconst 0, 1) := by decide +kernel
theorem dM_extent_48 : decode cM_extent 48 = .ok (.istore_n 2, 1) := by decide +kernel
theorem dM_extent_49 : decode cM_extent 49 = .ok (.lconst 0, 1) := by decide +kernel
theorem dM_extent_50 : decode cM_extent 50 = .ok (.lstore_n 3, 1) := by decide +kernel
theorem dM_extent_51 : decode cM_extent 51 = .ok (.iconst 0, 1) := by decide +kernel
theorem dM_extent_52 : decode cM_extent 52 = .ok (.istore 5, 2) := by decide +kernel
theorem dM_extent_54 : decode cM_extent 54 = .ok (.iload 5, 2) := by decide +kernel
theorem dM_extent_56 : decode cM_extent 56 = .ok (.aload_n 0, 1) := by decide +kernel
theorem dM_extent_57 : decode cM_extent 57 = .ok (.getfield 78, 3) := by decide +kernel
theorem dM_extent_60 : decode cM_extent 60 = .ok (.if_icmp .ge 65, 3) := by decide +kernel
theorem dM_extent_63 : decode cM_extent 63 = .ok (.aload_n 0, 1) := by decide +kernel
theorem dM_extent_64 : decode cM_extent 64 = .ok (.bipush 6, 2) := by decide +kernel
theorem dM_extent_66 : decode cM_extent 66 = .ok (.iload 5, 2) := by decide +kernel
theorem dM_extent_68 : decode cM_extent 68 = .ok (.imul, 1) := by decide +kernel
theorem dM_extent_69 : decode cM_extent 69 = .ok (.iload_n 1, 1) := by decide +kernel
theorem dM_extent_70 : decode cM_extent 70 = .ok (.iconst 2, 1) := by decide +kernel
theorem dM_extent_71 : decode cM_extent 71 = .ok (.irem, 1) := by decide +kernel
theorem dM_extent_72 : decode cM_extent 72 = .ok (.iadd, 1) := by decide +kernel
theorem dM_extent_73 : decode cM_extent 73 = .ok (.aload_n 0, 1) := by decide +kernel
theorem dM_extent_74 : decode cM_extent 74 = .ok (.getfield 35, 3) := by decide +kernel
theorem dM_extent_77 : decode cM_extent 77 = .ok (.iload 5, 2) := by decide +kernel
theorem dM_extent_79 : decode cM_extent 79 = .ok (.baload, 1) := by decide +kernel
theorem dM_extent_80 : decode cM_extent 80 = .ok (.iload_n 2, 1) := by decide +kernel
theorem dM_extent_81 : decode cM_extent 81 = .ok (.invokevirtual 162, 3) := by decide +kernel
theorem dM_extent_84 : decode cM_extent 84 = .ok (.lstore 6, 2) := by decide +kernel
theorem dM_extent_86 : decode cM_extent 86 = .ok (.iload 5, 2) := by decide +kernel
theorem dM_extent_88 : decode cM_extent 88 = .ok (.ifCond .eq 24, 3) := by decide +kernel
theorem dM_extent_91 : decode cM_extent 91 = .ok (.iload_n 2, 1) := by decide +kernel
theorem dM_extent_92 : decode cM_extent 92 = .ok (.ifCond .eq 13, 3) := by decide +kernel
theorem dM_extent_95 : decode cM_extent 95 = .ok (.lload 6, 2) := by decide +kernel
theorem dM_extent_97 : decode cM_extent 97 = .ok (.lload_n 3, 1) := by decide +kernel
theorem dM_extent_98 : decode cM_extent 98 = .ok (.lcmp, 1) := by decide +kernel
theorem dM_extent_99 : decode cM_extent 99 = .ok (.ifCond .ge 18, 3) := by decide +kernel
theorem dM_extent_102 : decode cM_extent 102 = .ok (.goto 10, 3) := by decide +kernel
theorem dM_extent_105 : decode cM_extent 105 = .ok (.lload 6, 2) := by decide +kernel
theorem dM_extent_107 : decode cM_extent 107 = .ok (.lload_n 3, 1) := by decide +kernel
theorem dM_extent_108 : decode cM_extent 108 = .ok (.lcmp, 1) := by decide +kernel
theorem dM_extent_109 : decode cM_extent 109 = .ok (.ifCond .le 8, 3) := by decide +kernel
theorem dM_extent_112 : decode cM_extent 112 = .ok (.lload 6, 2) := by decide +kernel
theorem dM_extent_114 : decode cM_extent 114 = .ok (.goto 4, 3) := by decide +kernel
theorem dM_extent_117 : decode cM_extent 117 = .ok (.lload_n 3, 1) := by decide +kernel
theorem dM_extent_118 : decode cM_extent 118 = .ok (.lstore_n 3, 1) := by decide +kernel
theorem dM_extent_119 : decode cM_extent 119 = .ok (.iinc 5 1, 3) := by decide +kernel
theorem dM_extent_122 : decode cM_extent 122 = .ok (.goto (-68), 3) := by decide +kernel
theorem dM_extent_125 : decode cM_extent 125 = .ok (.lload_n 3, 1) := by decide +kernel
theorem dM_extent_126 : decode cM_extent 126 = .ok (.l2i, 1) := by decide +kernel
theorem dM_extent_127 : decode cM_extent 127 = .ok (.ireturn, 1) := by decide +kernel
theorem dM_bound_0 : decode cM_bound 0 = .ok (.aload_n 0, 1) := by decide +kernel
theorem dM_bound_1 : decode cM_bound 1 = .ok (.getfield 32, 3) := by decide +kernel
theorem dM_bound_4 : decode cM_bound 4 = .ok (.iload_n 1, 1) := by decide +kernel
theorem dM_bound_5 : decode cM_bound 5 = .ok (.iaload, 1) := by decide +kernel
theorem dM_bound_6 : decode cM_bound 6 = .ok (.i2l, 1) := by decide +kernel
theorem dM_bound_7 : decode cM_bound 7 = .ok (.lstore 4, 2) := by decide +kernel
theorem dM_bound_9 : decode cM_bound 9 = .ok (.aload_n 0, 1) := by decide +kernel
theorem dM_bound_10 : decode cM_bound 10 = .ok (.getfield 32, 3) := by decide +kernel
theorem dM_bound_13 : decode cM_bound 13 = .ok (.iload_n 1, 1) := by decide +kernel
theorem dM_bound_14 : decode cM_bound 14 = .ok (.iconst 2, 1) := by decide +kernel
theorem dM_bound_15 : decode cM_bound 15 = .ok (.iadd, 1) := by decide +kernel
theorem dM_bound_16 : decode cM_bound 16 = .ok (.iaload, 1) := by decide +kernel
theorem dM_bound_17 : decode cM_bound 17 = .ok (.i2l, 1) := by decide +kernel
theorem dM_bound_18 : decode cM_bound 18 = .ok (.lstore 6, 2) := by decide +kernel
theorem dM_bound_20 : decode cM_bound 20 = .ok (.aload_n 0, 1) := by decide +kernel
theorem dM_bound_21 : decode cM_bound 21 = .ok (.getfield 32, 3) := by decide +kernel
theorem dM_bound_24 : decode cM_bound 24 = .ok (.iload_n 1, 1) := by decide +kernel
theorem dM_bound_25 : decode cM_bound 25 = .ok (.iconst 4, 1) := by decide +kernel
theorem dM_bound_26 : decode cM_bound 26 = .ok (.iadd, 1) := by decide +kernel
theorem dM_bound_27 : decode cM_bound 27 = .ok (.iaload, 1) := by decide +kernel
theorem dM_bound_28 : decode cM_bound 28 = .ok (.i2l, 1) := by decide +kernel
theorem dM_bound_29 : decode cM_bound 29 = .ok (.lstore 8, 2) := by decide +kernel
theorem dM_bound_31 : decode cM_bound 31 = .ok (.iload_n 3, 1) := by decide +kernel
theorem dM_bound_32 : decode cM_bound 32 = .ok (.ifCond .eq 21, 3) := by decide +kernel
theorem dM_bound_35 : decode cM_bound 35 = .ok (.lload 4, 2) := by decide +kernel
theorem dM_bound_37 : decode cM_bound 37 = .ok (.lload 8, 2) := by decide +kernel
theorem dM_bound_39 : decode cM_bound 39 = .ok (.lcmp, 1) := by decide +kernel
theorem dM_bound_40 : decode cM_bound 40 = .ok (.ifCond .ge 8, 3) := by decide +kernel
theorem dM_bound_43 : decode cM_bound 43 = .ok (.lload 4, 2) := by decide +kernel
theorem dM_bound_45 : decode cM_bound 45 = .ok (.goto 23, 3) := by decide +kernel
theorem dM_bound_48 : decode cM_bound 48 = .ok (.lload 8, 2) := by decide +kernel
theorem dM_bound_50 : decode cM_bound 50 = .ok (.goto 18, 3) := by decide +kernel
theorem dM_bound_53 : decode cM_bound 53 = .ok (.lload 4, 2) := by decide +kernel
theorem dM_bound_55 : decode cM_bound 55 = .ok (.lload 8, 2) := by decide +kernel
theorem dM_bound_57 : decode cM_bound 57 = .ok (.lcmp, 1) := by decide +kernel
theorem dM_bound_58 : decode cM_bound 58 = .ok (.ifCond .le 8, 3) := by decide +kernel
theorem dM_bound_61 : decode cM_bound 61 = .ok (.lload 4, 2) := by decide +kernel
theorem dM_bound_63 : decode cM_bound 63 = .ok (.goto 5, 3) := by decide +kernel
theorem dM_bound_66 : decode cM_bound 66 = .ok (.lload 8, 2) := by decide +kernel
theorem dM_bound_68 : decode cM_bound 68 = .ok (.lstore 10, 2) := by decide +kernel
theorem dM_bound_70 : decode cM_bound 70 = .ok (.iload_n 2, 1) := by decide +kernel
theorem dM_bound_71 : decode cM_bound 71 = .ok (.ifCond .ne 6, 3) := by decide +kernel
theorem dM_bound_74 : decode cM_bound 74 = .ok (.lload 10, 2) := by decide +kernel
theorem dM_bound_76 : decode cM_bound 76 = .ok (.lreturn, 1) := by decide +kernel
theorem dM_bound_77 : decode cM_bound 77 = .ok (.lload 4, 2) := by decide +kernel
theorem dM_bound_79 : decode cM_bound 79 = .ok (.ldc2_w 110, 3) := by decide +kernel
theorem dM_bound_82 : decode cM_bound 82 = .ok (.lload 6, 2) := by decide +kernel
theorem dM_bound_84 : decode cM_bound 84 = .ok (.lmul, 1) := by decide +kernel
theorem dM_bound_85 : decode cM_bound 85 = .ok (.lsub, 1) := by decide +kernel
theorem dM_bound_86 : decode cM_bound 86 = .ok (.lload 8, 2) := by decide +kernel
theorem dM_bound_88 : decode cM_bound 88 = .ok (.ladd, 1) := by decide +kernel
theorem dM_bound_89 : decode cM_bound 89 = .ok (.lstore 12, 2) := by decide +kernel
theorem dM_bound_91 : decode cM_bound 91 = .ok (.lload 6, 2) := by decide +kernel
theorem dM_bound_93 : decode cM_bound 93 = .ok (.lload 4, 2) := by decide +kernel
theorem dM_bound_95 : decode cM_bound 95 = .ok (.lsub, 1) := by decide +kernel
theorem dM_bound_96 : decode cM_bound 96 = .ok (.lstore 14, 2) := by decide +kernel
theorem dM_bound_98 : decode cM_bound 98 = .ok (.lload 12, 2) := by decide +kernel
theorem dM_bound_100 : decode cM_bound 100 = .ok (.lconst 0, 1) := by decide +kernel
theorem dM_bound_101 : decode cM_bound 101 = .ok (.lcmp, 1) := by decide +kernel
theorem dM_bound_102 : decode cM_bound 102 = .ok (.ifCond .le 27, 3) := by decide +kernel
theorem dM_bound_105 : decode cM_bound 105 = .ok (.lload 14, 2) := by decide +kernel
theorem dM_bound_107 : decode cM_bound 107 = .ok (.lconst 0, 1) := by decide +kernel
theorem dM_bound_108 : decode cM_bound 108 = .ok (.lcmp, 1) := by decide +kernel
theorem dM_bound_109 : decode cM_bound 109 = .ok (.ifCond .ge 16, 3) := by decide +kernel
theorem dM_bound_112 : decode cM_bound 112 = .ok (.lload 14, 2) := by decide +kernel
theorem dM_bound_114 : decode cM_bound 114 = .ok (.lneg, 1) := by decide +kernel
theorem dM_bound_115 : decode cM_bound 115 = .ok (.lload 12, 2) := by decide +kernel
theorem dM_bound_117 : decode cM_bound 117 = .ok (.lcmp, 1) := by decide +kernel
theorem dM_bound_118 : decode cM_bound 118 = .ok (.ifCond .ge 7, 3) := by decide +kernel
theorem dM_bound_121 : decode cM_bound 121 = .ok (.iconst 1, 1) := by decide +kernel
theorem dM_bound_122 : decode cM_bound 122 = .ok (.goto 35, 3) := by decide +kernel
theorem dM_bound_125 : decode cM_bound 125 = .ok (.iconst 0, 1) := by decide +kernel
theorem dM_bound_126 : decode cM_bound 126 = .ok (.goto 31, 3) := by decide +kernel
theorem dM_bound_129 : decode cM_bound 129 = .ok (.lload 12, 2) := by decide +kernel
theorem dM_bound_131 : decode cM_bound 131 = .ok (.lconst 0, 1) := by decide +kernel
theorem dM_bound_132 : decode cM_bound 132 = .ok (.lcmp, 1) := by decide +kernel
theorem dM_bound_133 : decode cM_bound 133 = .ok (.ifCond .ge 23, 3) := by decide +kernel
theorem dM_bound_136 : decode cM_bound 136 = .ok (.lload 14, 2) := by decide +kernel
theorem dM_bound_138 : decode cM_bound 138 = .ok (.lconst 0, 1) := by decide +kernel
theorem dM_bound_139 : decode cM_bound 139 = .ok (.lcmp, 1) := by decide +kernel
theorem dM_bound_140 : decode cM_bound 140 = .ok (.ifCond .le 16, 3) := by decide +kernel
theorem dM_bound_143 : decode cM_bound 143 = .ok (.lload 14, 2) := by decide +kernel
theorem dM_bound_145 : decode cM_bound 145 = .ok (.lload 12, 2) := by decide +kernel
theorem dM_bound_147 : decode cM_bound 147 = .ok (.lneg, 1) := by decide +kernel
theorem dM_bound_148 : decode cM_bound 148 = .ok (.lcmp, 1) := by decide +kernel
theorem dM_bound_149 : decode cM_bound 149 = .ok (.ifCond .ge 7, 3) := by decide +kernel
theorem dM_bound_152 : decode cM_bound 152 = .ok (.iconst 1, 1) := by decide +kernel
theorem dM_bound_153 : decode cM_bound 153 = .ok (.goto 4, 3) := by decide +kernel
theorem dM_bound_156 : decode cM_bound 156 = .ok (.iconst 0, 1) := by decide +kernel
theorem dM_bound_157 : decode cM_bound 157 = .ok (.istore 16, 2) := by decide +kernel
theorem dM_bound_159 : decode cM_bound 159 = .ok (.iload 16, 2) := by decide +kernel
theorem dM_bound_161 : decode cM_bound 161 = .ok (.ifCond .eq 28, 3) := by decide +kernel
theorem dM_bound_164 : decode cM_bound 164 = .ok (.lload 12, 2) := by decide +kernel
theorem dM_bound_166 : decode cM_bound 166 = .ok (.lconst 0, 1) := by decide +kernel
theorem dM_bound_167 : decode cM_bound 167 = .ok (.lcmp, 1) := by decide +kernel
theorem dM_bound_168 : decode cM_bound 168 = .ok (.ifCond .le 21, 3) := by decide +kernel
theorem dM_bound_171 : decode cM_bound 171 = .ok (.iload_n 3, 1) := by decide +kernel
theorem dM_bound_172 : decode cM_bound 172 = .ok (.ifCond .eq 17, 3) := by decide +kernel
theorem dM_bound_175 : decode cM_bound 175 = .ok (.lload 4, 2) := by decide +kernel
theorem dM_bound_177 : decode cM_bound 177 = .ok (.lload 14, 2) := by decide +kernel
theorem dM_bound_179 : decode cM_bound 179 = .ok (.lload 14, 2) := by decide +kernel
theorem dM_bound_181 : decode cM_bound 181 = .ok (.lmul, 1) := by decide +kernel
theorem dM_bound_182 : decode cM_bound 182 = .ok (.lload 12, 2) := by decide +kernel
theorem dM_bound_184 : decode cM_bound 184 = .ok (.invokestatic 158, 3) := by decide +kernel
theorem dM_bound_187 : decode cM_bound 187 = .ok (.lsub, 1) := by decide +kernel
theorem dM_bound_188 : decode cM_bound 188 = .ok (.lreturn, 1) := by decide +kernel
theorem dM_bound_189 : decode cM_bound 189 = .ok (.iload 16, 2) := by decide +kernel
theorem dM_bound_191 : decode cM_bound 191 = .ok (.ifCond .eq 31, 3) := by decide +kernel
theorem dM_bound_194 : decode cM_bound 194 = .ok (.lload 12, 2) := by decide +kernel
theorem dM_bound_196 : decode cM_bound 196 = .ok (.lconst 0, 1) := by decide +kernel
theorem dM_bound_197 : decode cM_bound 197 = .ok (.lcmp, 1) := by decide +kernel
theorem dM_bound_198 : decode cM_bound 198 = .ok (.ifCond .ge 24, 3) := by decide +kernel
theorem dM_bound_201 : decode cM_bound 201 = .ok (.iload_n 3, 1) := by decide +kernel
theorem dM_bound_202 : decode cM_bound 202 = .ok (.ifCond .ne 20, 3) := by decide +kernel
theorem dM_bound_205 : decode cM_bound 205 = .ok (.lload 4, 2) := by decide +kernel
theorem dM_bound_207 : decode cM_bound 207 = .ok (.lload 14, 2) := by decide +kernel
theorem dM_bound_209 : decode cM_bound 209 = .ok (.lload 14, 2) := by decide +kernel
theorem dM_bound_211 : decode cM_bound 211 = .ok (.lmul, 1) := by decide +kernel
theorem dM_bound_212 : decode cM_bound 212 = .ok (.lload 12, 2) := by decide +kernel
theorem dM_bound_214 : decode cM_bound 214 = .ok (.lneg, 1) := by decide +kernel
theorem dM_bound_215 : decode cM_bound 215 = .ok (.invokestatic 158, 3) := by decide +kernel
theorem dM_bound_218 : decode cM_bound 218 = .ok (.ladd, 1) := by decide +kernel
theorem dM_bound_219 : decode cM_bound 219 = .ok (.goto 5, 3) := by decide +kernel
theorem dM_bound_222 : decode cM_bound 222 = .ok (.lload 10, 2) := by decide +kernel
theorem dM_bound_224 : decode cM_bound 224 = .ok (.lreturn, 1) := by decide +kernel
theorem dM_ceiling_0 : decode cM_ceiling 0 = .ok (.lload_n 0, 1) := by decide +kernel
theorem dM_ceiling_1 : decode cM_ceiling 1 = .ok (.lload_n 2, 1) := by decide +kernel
theorem dM_ceiling_2 : decode cM_ceiling 2 = .ok (.ladd, 1) := by decide +kernel
theorem dM_ceiling_3 : decode cM_ceiling 3 = .ok (.lconst 1, 1) := by decide +kernel
theorem dM_ceiling_4 : decode cM_ceiling 4 = .ok (.lsub, 1) := by decide +kernel
theorem dM_ceiling_5 : decode cM_ceiling 5 = .ok (.lload_n 2, 1) := by decide +kernel
theorem dM_ceiling_6 : decode cM_ceiling 6 = .ok (.ldiv, 1) := by decide +kernel
theorem dM_ceiling_7 : decode cM_ceiling 7 = .ok (.lreturn, 1) := by decide +kernel
