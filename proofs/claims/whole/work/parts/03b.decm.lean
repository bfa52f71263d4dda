theorem dX12_thrown_0 : decode cX12_thrown 0 = .ok (.aload_n 0, 1) := by decide +kernel
theorem dX12_thrown_1 : decode cX12_thrown 1 = .ok (.getfield 3, 3) := by decide +kernel
theorem dX12_thrown_4 : decode cX12_thrown 4 = .ok (.ireturn, 1) := by decide +kernel
theorem dX12_throwsIf_0 : decode cX12_throwsIf 0 = .ok (.iload_n 1, 1) := by decide +kernel
theorem dX12_throwsIf_1 : decode cX12_throwsIf 1 = .ok (.ifCond .eq 8, 3) := by decide +kernel
theorem dX12_throwsIf_4 : decode cX12_throwsIf 4 = .ok (.aload_n 0, 1) := by decide +kernel
theorem dX12_throwsIf_5 : decode cX12_throwsIf 5 = .ok (.iload_n 2, 1) := by decide +kernel
theorem dX12_throwsIf_6 : decode cX12_throwsIf 6 = .ok (.putfield 3, 3) := by decide +kernel
theorem dX12_throwsIf_9 : decode cX12_throwsIf 9 = .ok (.iload_n 1, 1) := by decide +kernel
theorem dX12_throwsIf_10 : decode cX12_throwsIf 10 = .ok (.ireturn, 1) := by decide +kernel
theorem dX12_in_0 : decode cX12_in 0 = .ok (.iload_n 0, 1) := by decide +kernel
theorem dX12_in_1 : decode cX12_in 1 = .ok (.iload_n 1, 1) := by decide +kernel
theorem dX12_in_2 : decode cX12_in 2 = .ok (.if_icmp .lt 12, 3) := by decide +kernel
theorem dX12_in_5 : decode cX12_in 5 = .ok (.iload_n 0, 1) := by decide +kernel
theorem dX12_in_6 : decode cX12_in 6 = .ok (.iload_n 2, 1) := by decide +kernel
theorem dX12_in_7 : decode cX12_in 7 = .ok (.if_icmp .gt 7, 3) := by decide +kernel
theorem dX12_in_10 : decode cX12_in 10 = .ok (.iconst 1, 1) := by decide +kernel
theorem dX12_in_11 : decode cX12_in 11 = .ok (.goto 4, 3) := by decide +kernel
theorem dX12_in_14 : decode cX12_in 14 = .ok (.iconst 0, 1) := by decide +kernel
theorem dX12_in_15 : decode cX12_in 15 = .ok (.ireturn, 1) := by decide +kernel
theorem dX12_has_0 : decode cX12_has 0 = .ok (.iload_n 0, 1) := by decide +kernel
theorem dX12_has_1 : decode cX12_has 1 = .ok (.iload_n 1, 1) := by decide +kernel
theorem dX12_has_2 : decode cX12_has 2 = .ok (.ishr, 1) := by decide +kernel
theorem dX12_has_3 : decode cX12_has 3 = .ok (.iconst 1, 1) := by decide +kernel
theorem dX12_has_4 : decode cX12_has 4 = .ok (.iand, 1) := by decide +kernel
theorem dX12_has_5 : decode cX12_has 5 = .ok (.iconst 1, 1) := by decide +kernel
theorem dX12_has_6 : decode cX12_has 6 = .ok (.if_icmp .ne 7, 3) := by decide +kernel
theorem dX12_has_9 : decode cX12_has 9 = .ok (.iconst 1, 1) := by decide +kernel
theorem dX12_has_10 : decode cX12_has 10 = .ok (.goto 4, 3) := by decide +kernel
theorem dX12_has_13 : decode cX12_has 13 = .ok (.iconst 0, 1) := by decide +kernel
theorem dX12_has_14 : decode cX12_has 14 = .ok (.ireturn, 1) := by decide +kernel
theorem dX12_size_0 : decode cX12_size 0 = .ok (.bipush 63, 2) := by decide +kernel
theorem dX12_size_2 : decode cX12_size 2 = .ok (.lload_n 0, 1) := by decide +kernel
theorem dX12_size_3 : decode cX12_size 3 = .ok (.invokestatic 7, 3) := by decide +kernel
theorem dX12_size_6 : decode cX12_size 6 = .ok (.isub, 1) := by decide +kernel
theorem dX12_size_7 : decode cX12_size 7 = .ok (.iconst 3, 1) := by decide +kernel
theorem dX12_size_8 : decode cX12_size 8 = .ok (.idiv, 1) := by decide +kernel
theorem dX12_size_9 : decode cX12_size 9 = .ok (.ireturn, 1) := by decide +kernel
theorem dX12_isCode_0 : decode cX12_isCode 0 = .ok (.lload_n 0, 1) := by decide +kernel
theorem dX12_isCode_1 : decode cX12_isCode 1 = .ok (.lconst 0, 1) := by decide +kernel
theorem dX12_isCode_2 : decode cX12_isCode 2 = .ok (.lcmp, 1) := by decide +kernel
theorem dX12_isCode_3 : decode cX12_isCode 3 = .ok (.ifCond .le 28, 3) := by decide +kernel
theorem dX12_isCode_6 : decode cX12_isCode 6 = .ok (.bipush 63, 2) := by decide +kernel
theorem dX12_isCode_8 : decode cX12_isCode 8 = .ok (.lload_n 0, 1) := by decide +kernel
theorem dX12_isCode_9 : decode cX12_isCode 9 = .ok (.invokestatic 7, 3) := by decide +kernel
theorem dX12_isCode_12 : decode cX12_isCode 12 = .ok (.isub, 1) := by decide +kernel
theorem dX12_isCode_13 : decode cX12_isCode 13 = .ok (.iconst 3, 1) := by decide +kernel
theorem dX12_isCode_14 : decode cX12_isCode 14 = .ok (.irem, 1) := by decide +kernel
theorem dX12_isCode_15 : decode cX12_isCode 15 = .ok (.ifCond .ne 16, 3) := by decide +kernel
theorem dX12_isCode_18 : decode cX12_isCode 18 = .ok (.lload_n 0, 1) := by decide +kernel
theorem dX12_isCode_19 : decode cX12_isCode 19 = .ok (.invokestatic 13, 3) := by decide +kernel
theorem dX12_isCode_22 : decode cX12_isCode 22 = .ok (.bipush 20, 2) := by decide +kernel
theorem dX12_isCode_24 : decode cX12_isCode 24 = .ok (.if_icmp .gt 7, 3) := by decide +kernel
theorem dX12_isCode_27 : decode cX12_isCode 27 = .ok (.iconst 1, 1) := by decide +kernel
theorem dX12_isCode_28 : decode cX12_isCode 28 = .ok (.goto 4, 3) := by decide +kernel
theorem dX12_isCode_31 : decode cX12_isCode 31 = .ok (.iconst 0, 1) := by decide +kernel
theorem dX12_isCode_32 : decode cX12_isCode 32 = .ok (.ireturn, 1) := by decide +kernel
theorem dX12_beastOf_0 : decode cX12_beastOf 0 = .ok (.lload_n 0, 1) := by decide +kernel
theorem dX12_beastOf_1 : decode cX12_beastOf 1 = .ok (.iconst 3, 1) := by decide +kernel
theorem dX12_beastOf_2 : decode cX12_beastOf 2 = .ok (.lload_n 0, 1) := by decide +kernel
theorem dX12_beastOf_3 : decode cX12_beastOf 3 = .ok (.invokestatic 13, 3) := by decide +kernel
theorem dX12_beastOf_6 : decode cX12_beastOf 6 = .ok (.iconst 1, 1) := by decide +kernel
theorem dX12_beastOf_7 : decode cX12_beastOf 7 = .ok (.isub, 1) := by decide +kernel
theorem dX12_beastOf_8 : decode cX12_beastOf 8 = .ok (.iload_n 2, 1) := by decide +kernel
theorem dX12_beastOf_9 : decode cX12_beastOf 9 = .ok (.isub, 1) := by decide +kernel
theorem dX12_beastOf_10 : decode cX12_beastOf 10 = .ok (.imul, 1) := by decide +kernel
theorem dX12_beastOf_11 : decode cX12_beastOf 11 = .ok (.lshr, 1) := by decide +kernel
theorem dX12_beastOf_12 : decode cX12_beastOf 12 = .ok (.l2i, 1) := by decide +kernel
theorem dX12_beastOf_13 : decode cX12_beastOf 13 = .ok (.bipush 7, 2) := by decide +kernel
theorem dX12_beastOf_15 : decode cX12_beastOf 15 = .ok (.iand, 1) := by decide +kernel
theorem dX12_beastOf_16 : decode cX12_beastOf 16 = .ok (.ireturn, 1) := by decide +kernel
theorem dX12_ahead_0 : decode cX12_ahead 0 = .ok (.lload_n 0, 1) := by decide +kernel
theorem dX12_ahead_1 : decode cX12_ahead 1 = .ok (.iconst 3, 1) := by decide +kernel
theorem dX12_ahead_2 : decode cX12_ahead 2 = .ok (.lload_n 0, 1) := by decide +kernel
theorem dX12_ahead_3 : decode cX12_ahead 3 = .ok (.invokestatic 13, 3) := by decide +kernel
theorem dX12_ahead_6 : decode cX12_ahead 6 = .ok (.iload_n 2, 1) := by decide +kernel
theorem dX12_ahead_7 : decode cX12_ahead 7 = .ok (.isub, 1) := by decide +kernel
theorem dX12_ahead_8 : decode cX12_ahead 8 = .ok (.imul, 1) := by decide +kernel
theorem dX12_ahead_9 : decode cX12_ahead 9 = .ok (.lshr, 1) := by decide +kernel
theorem dX12_ahead_10 : decode cX12_ahead 10 = .ok (.lreturn, 1) := by decide +kernel
theorem dX12_behind_0 : decode cX12_behind 0 = .ok (.lconst 1, 1) := by decide +kernel
theorem dX12_behind_1 : decode cX12_behind 1 = .ok (.iconst 3, 1) := by decide +kernel
theorem dX12_behind_2 : decode cX12_behind 2 = .ok (.lload_n 0, 1) := by decide +kernel
theorem dX12_behind_3 : decode cX12_behind 3 = .ok (.invokestatic 13, 3) := by decide +kernel
theorem dX12_behind_6 : decode cX12_behind 6 = .ok (.iload_n 2, 1) := by decide +kernel
theorem dX12_behind_7 : decode cX12_behind 7 = .ok (.isub, 1) := by decide +kernel
theorem dX12_behind_8 : decode cX12_behind 8 = .ok (.imul, 1) := by decide +kernel
theorem dX12_behind_9 : decode cX12_behind 9 = .ok (.lshl, 1) := by decide +kernel
theorem dX12_behind_10 : decode cX12_behind 10 = .ok (.lstore_n 3, 1) := by decide +kernel
theorem dX12_behind_11 : decode cX12_behind 11 = .ok (.lload_n 3, 1) := by decide +kernel
theorem dX12_behind_12 : decode cX12_behind 12 = .ok (.lload_n 0, 1) := by decide +kernel
theorem dX12_behind_13 : decode cX12_behind 13 = .ok (.lload_n 3, 1) := by decide +kernel
theorem dX12_behind_14 : decode cX12_behind 14 = .ok (.lconst 1, 1) := by decide +kernel
theorem dX12_behind_15 : decode cX12_behind 15 = .ok (.lsub, 1) := by decide +kernel
theorem dX12_behind_16 : decode cX12_behind 16 = .ok (.land, 1) := by decide +kernel
theorem dX12_behind_17 : decode cX12_behind 17 = .ok (.lor, 1) := by decide +kernel
theorem dX12_behind_18 : decode cX12_behind 18 = .ok (.lreturn, 1) := by decide +kernel
theorem dX12_join_0 : decode cX12_join 0 = .ok (.iconst 3, 1) := by decide +kernel
theorem dX12_join_1 : decode cX12_join 1 = .ok (.lload_n 2, 1) := by decide +kernel
theorem dX12_join_2 : decode cX12_join 2 = .ok (.invokestatic 13, 3) := by decide +kernel
theorem dX12_join_5 : decode cX12_join 5 = .ok (.imul, 1) := by decide +kernel
theorem dX12_join_6 : decode cX12_join 6 = .ok (.istore 4, 2) := by decide +kernel
theorem dX12_join_8 : decode cX12_join 8 = .ok (.lload_n 0, 1) := by decide +kernel
theorem dX12_join_9 : decode cX12_join 9 = .ok (.iload 4, 2) := by decide +kernel
theorem dX12_join_11 : decode cX12_join 11 = .ok (.lshl, 1) := by decide +kernel
theorem dX12_join_12 : decode cX12_join 12 = .ok (.lload_n 2, 1) := by decide +kernel
theorem dX12_join_13 : decode cX12_join 13 = .ok (.lconst 1, 1) := by decide +kernel
theorem dX12_join_14 : decode cX12_join 14 = .ok (.iload 4, 2) := by decide +kernel
theorem dX12_join_16 : decode cX12_join 16 = .ok (.lshl, 1) := by decide +kernel
theorem dX12_join_17 : decode cX12_join 17 = .ok (.lconst 1, 1) := by decide +kernel
theorem dX12_join_18 : decode cX12_join 18 = .ok (.lsub, 1) := by decide +kernel
theorem dX12_join_19 : decode cX12_join 19 = .ok (.land, 1) := by decide +kernel
theorem dX12_join_20 : decode cX12_join 20 = .ok (.lor, 1) := by decide +kernel
theorem dX12_join_21 : decode cX12_join 21 = .ok (.lreturn, 1) := by decide +kernel
theorem dX12_part_0 : decode cX12_part 0 = .ok (.lload_n 0, 1) := by decide +kernel
theorem dX12_part_1 : decode cX12_part 1 = .ok (.iload_n 2, 1) := by decide +kernel
theorem dX12_part_2 : decode cX12_part 2 = .ok (.invokestatic 16, 3) := by decide +kernel
theorem dX12_part_5 : decode cX12_part 5 = .ok (.iload_n 3, 1) := by decide +kernel
theorem dX12_part_6 : decode cX12_part 6 = .ok (.invokestatic 20, 3) := by decide +kernel
theorem dX12_part_9 : decode cX12_part 9 = .ok (.lreturn, 1) := by decide +kernel
theorem dX12_row_0 : decode cX12_row 0 = .ok (.lconst 1, 1) := by decide +kernel
theorem dX12_row_1 : decode cX12_row 1 = .ok (.lstore_n 2, 1) := by decide +kernel
theorem dX12_row_2 : decode cX12_row 2 = .ok (.iconst 0, 1) := by decide +kernel
theorem dX12_row_3 : decode cX12_row 3 = .ok (.istore 4, 2) := by decide +kernel
theorem dX12_row_5 : decode cX12_row 5 = .ok (.iload 4, 2) := by decide +kernel
theorem dX12_row_7 : decode cX12_row 7 = .ok (.iload_n 1, 1) := by decide +kernel
theorem dX12_row_8 : decode cX12_row 8 = .ok (.if_icmp .ge 16, 3) := by decide +kernel
theorem dX12_row_11 : decode cX12_row 11 = .ok (.lload_n 2, 1) := by decide +kernel
theorem dX12_row_12 : decode cX12_row 12 = .ok (.iconst 3, 1) := by decide +kernel
theorem dX12_row_13 : decode cX12_row 13 = .ok (.lshl, 1) := by decide +kernel
theorem dX12_row_14 : decode cX12_row 14 = .ok (.iload_n 0, 1) := by decide +kernel
theorem dX12_row_15 : decode cX12_row 15 = .ok (.i2l, 1) := by decide +kernel
theorem dX12_row_16 : decode cX12_row 16 = .ok (.lor, 1) := by decide +kernel
theorem dX12_row_17 : decode cX12_row 17 = .ok (.lstore_n 2, 1) := by decide +kernel
theorem dX12_row_18 : decode cX12_row 18 = .ok (.iinc 4 1, 3) := by decide +kernel
theorem dX12_row_21 : decode cX12_row 21 = .ok (.goto (-16), 3) := by decide +kernel
theorem dX12_row_24 : decode cX12_row 24 = .ok (.lload_n 2, 1) := by decide +kernel
theorem dX12_row_25 : decode cX12_row 25 = .ok (.lreturn, 1) := by decide +kernel
theorem dX12_init_0 : decode cX12_init 0 = .ok (.aload_n 0, 1) := by decide +kernel
theorem dX12_init_1 : decode cX12_init 1 = .ok (.invokespecial 23, 3) := by decide +kernel
theorem dX12_init_4 : decode cX12_init 4 = .ok (.aload_n 0, 1) := by decide +kernel
theorem dX12_init_5 : decode cX12_init 5 = .ok (.sipush 1989, 3) := by decide +kernel
theorem dX12_init_8 : decode cX12_init 8 = .ok (.newarray .int, 2) := by decide +kernel
theorem dX12_init_10 : decode cX12_init 10 = .ok (.putfield 29, 3) := by decide +kernel
theorem dX12_init_13 : decode cX12_init 13 = .ok (.aload_n 0, 1) := by decide +kernel
theorem dX12_init_14 : decode cX12_init 14 = .ok (.sipush 1164, 3) := by decide +kernel
theorem dX12_init_17 : decode cX12_init 17 = .ok (.newarray .int, 2) := by decide +kernel
theorem dX12_init_19 : decode cX12_init 19 = .ok (.putfield 33, 3) := by decide +kernel
theorem dX12_init_22 : decode cX12_init 22 = .ok (.aload_n 0, 1) := by decide +kernel
theorem dX12_init_23 : decode cX12_init 23 = .ok (.sipush 1164, 3) := by decide +kernel
theorem dX12_init_26 : decode cX12_init 26 = .ok (.newarray .int, 2) := by decide +kernel
theorem dX12_init_28 : decode cX12_init 28 = .ok (.putfield 36, 3) := by decide +kernel
theorem dX12_init_31 : decode cX12_init 31 = .ok (.aload_n 0, 1) := by decide +kernel
theorem dX12_init_32 : decode cX12_init 32 = .ok (.sipush 5424, 3) := by decide +kernel
theorem dX12_init_35 : decode cX12_init 35 = .ok (.newarray .int, 2) := by decide +kernel
theorem dX12_init_37 : decode cX12_init 37 = .ok (.putfield 39, 3) := by decide +kernel
theorem dX12_init_40 : decode cX12_init 40 = .ok (.aload_n 0, 1) := by decide +kernel
theorem dX12_init_41 : decode cX12_init 41 = .ok (.sipush 400, 3) := by decide +kernel
theorem dX12_init_44 : decode cX12_init 44 = .ok (.newarray .byte, 2) := by decide +kernel
theorem dX12_init_46 : decode cX12_init 46 = .ok (.putfield 42, 3) := by decide +kernel
theorem dX12_init_49 : decode cX12_init 49 = .ok (.aload_n 0, 1) := by decide +kernel
theorem dX12_init_50 : decode cX12_init 50 = .ok (.iconst (-1), 1) := by decide +kernel
theorem dX12_init_51 : decode cX12_init 51 = .ok (.putfield 46, 3) := by decide +kernel
theorem dX12_init_54 : decode cX12_init 54 = .ok (.aload_n 0, 1) := by decide +kernel
theorem dX12_init_55 : decode cX12_init 55 = .ok (.iconst 5, 1) := by decide +kernel
theorem dX12_init_56 : decode cX12_init 56 = .ok (.newarray .int, 2) := by decide +kernel
theorem dX12_init_58 : decode cX12_init 58 = .ok (.putfield 49, 3) := by decide +kernel
theorem dX12_init_61 : decode cX12_init 61 = .ok (.aload_n 0, 1) := by decide +kernel
theorem dX12_init_62 : decode cX12_init 62 = .ok (.sipush 400, 3) := by decide +kernel
theorem dX12_init_65 : decode cX12_init 65 = .ok (.newarray .int, 2) := by decide +kernel
theorem dX12_init_67 : decode cX12_init 67 = .ok (.putfield 52, 3) := by decide +kernel
theorem dX12_init_70 : decode cX12_init 70 = .ok (.aload_n 0, 1) := by decide +kernel
theorem dX12_init_71 : decode cX12_init 71 = .ok (.bipush 40, 2) := by decide +kernel
theorem dX12_init_73 : decode cX12_init 73 = .ok (.newarray .int, 2) := by decide +kernel
theorem dX12_init_75 : decode cX12_init 75 = .ok (.putfield 55, 3) := by decide +kernel
theorem dX12_init_78 : decode cX12_init 78 = .ok (.aload_n 0, 1) := by decide +kernel
theorem dX12_init_79 : decode cX12_init 79 = .ok (.sipush 501, 3) := by decide +kernel
theorem dX12_init_82 : decode cX12_init 82 = .ok (.newarray .long, 2) := by decide +kernel
theorem dX12_init_84 : decode cX12_init 84 = .ok (.putfield 58, 3) := by decide +kernel
theorem dX12_init_87 : decode cX12_init 87 = .ok (.aload_n 0, 1) := by decide +kernel
theorem dX12_init_88 : decode cX12_init 88 = .ok (.sipush 1501, 3) := by decide +kernel
theorem dX12_init_91 : decode cX12_init 91 = .ok (.newarray .long, 2) := by decide +kernel
theorem dX12_init_93 : decode cX12_init 93 = .ok (.putfield 62, 3) := by decide +kernel
theorem dX12_init_96 : decode cX12_init 96 = .ok (.aload_n 0, 1) := by decide +kernel
theorem dX12_init_97 : decode cX12_init 97 = .ok (.sipush 1501, 3) := by decide +kernel
theorem dX12_init_100 : decode cX12_init 100 = .ok (.newarray .int, 2) := by decide +kernel
theorem dX12_init_102 : decode cX12_init 102 = .ok (.putfield 65, 3) := by decide +kernel
theorem dX12_init_105 : decode cX12_init 105 = .ok (.aload_n 0, 1) := by decide +kernel
theorem dX12_init_106 : decode cX12_init 106 = .ok (.sipush 4096, 3) := by decide +kernel
theorem dX12_init_109 : decode cX12_init 109 = .ok (.newarray .int, 2) := by decide +kernel
theorem dX12_init_111 : decode cX12_init 111 = .ok (.putfield 68, 3) := by decide +kernel
theorem dX12_init_114 : decode cX12_init 114 = .ok (.aload_n 0, 1) := by decide +kernel
theorem dX12_init_115 : decode cX12_init 115 = .ok (.sipush 1501, 3) := by decide +kernel
theorem dX12_init_118 : decode cX12_init 118 = .ok (.newarray .long, 2) := by decide +kernel
theorem dX12_init_120 : decode cX12_init 120 = .ok (.putfield 71, 3) := by decide +kernel
theorem dX12_init_123 : decode cX12_init 123 = .ok (.aload_n 0, 1) := by decide +kernel
theorem dX12_init_124 : decode cX12_init 124 = .ok (.sipush 1501, 3) := by decide +kernel
theorem dX12_init_127 : decode cX12_init 127 = .ok (.newarray .int, 2) := by decide +kernel
theorem dX12_init_129 : decode cX12_init 129 = .ok (.putfield 74, 3) := by decide +kernel
theorem dX12_init_132 : decode cX12_init 132 = .ok (.aload_n 0, 1) := by decide +kernel
theorem dX12_init_133 : decode cX12_init 133 = .ok (.bipush 8, 2) := by decide +kernel
theorem dX12_init_135 : decode cX12_init 135 = .ok (.newarray .int, 2) := by decide +kernel
theorem dX12_init_137 : decode cX12_init 137 = .ok (.putfield 77, 3) := by decide +kernel
theorem dX12_init_140 : decode cX12_init 140 = .ok (.aload_n 0, 1) := by decide +kernel
theorem dX12_init_141 : decode cX12_init 141 = .ok (.bipush 8, 2) := by decide +kernel
theorem dX12_init_143 : decode cX12_init 143 = .ok (.newarray .int, 2) := by decide +kernel
theorem dX12_init_145 : decode cX12_init 145 = .ok (.putfield 80, 3) := by decide +kernel
theorem dX12_init_148 : decode cX12_init 148 = .ok (.aload_n 0, 1) := by decide +kernel
theorem dX12_init_149 : decode cX12_init 149 = .ok (.bipush 10, 2) := by decide +kernel
theorem dX12_init_151 : decode cX12_init 151 = .ok (.newarray .int, 2) := by decide +kernel
theorem dX12_init_153 : decode cX12_init 153 = .ok (.putfield 83, 3) := by decide +kernel
theorem dX12_init_156 : decode cX12_init 156 = .ok (.aload_n 0, 1) := by decide +kernel
theorem dX12_init_157 : decode cX12_init 157 = .ok (.bipush 100, 2) := by decide +kernel
theorem dX12_init_159 : decode cX12_init 159 = .ok (.newarray .long, 2) := by decide +kernel
theorem dX12_init_161 : decode cX12_init 161 = .ok (.putfield 86, 3) := by decide +kernel
theorem dX12_init_164 : decode cX12_init 164 = .ok (.aload_n 0, 1) := by decide +kernel
theorem dX12_init_165 : decode cX12_init 165 = .ok (.bipush 100, 2) := by decide +kernel
theorem dX12_init_167 : decode cX12_init 167 = .ok (.newarray .long, 2) := by decide +kernel
theorem dX12_init_169 : decode cX12_init 169 = .ok (.putfield 89, 3) := by decide +kernel
theorem dX12_init_172 : decode cX12_init 172 = .ok (.aload_n 0, 1) := by decide +kernel
theorem dX12_init_173 : decode cX12_init 173 = .ok (.sipush 1501, 3) := by decide +kernel
theorem dX12_init_176 : decode cX12_init 176 = .ok (.newarray .int, 2) := by decide +kernel
theorem dX12_init_178 : decode cX12_init 178 = .ok (.putfield 92, 3) := by decide +kernel
theorem dX12_init_181 : decode cX12_init 181 = .ok (.aload_n 0, 1) := by decide +kernel
theorem dX12_init_182 : decode cX12_init 182 = .ok (.sipush 1501, 3) := by decide +kernel
theorem dX12_init_185 : decode cX12_init 185 = .ok (.newarray .int, 2) := by decide +kernel
theorem dX12_init_187 : decode cX12_init 187 = .ok (.putfield 95, 3) := by decide +kernel
theorem dX12_init_190 : decode cX12_init 190 = .ok (.aload_n 0, 1) := by decide +kernel
theorem dX12_init_191 : decode cX12_init 191 = .ok (.getfield 29, 3) := by decide +kernel
theorem dX12_init_194 : decode cX12_init 194 = .ok (.bipush 8, 2) := by decide +kernel
theorem dX12_init_196 : decode cX12_init 196 = .ok (.iconst 1, 1) := by decide +kernel
theorem dX12_init_197 : decode cX12_init 197 = .ok (.iastore, 1) := by decide +kernel
theorem dX12_init_198 : decode cX12_init 198 = .ok (.iconst 0, 1) := by decide +kernel
theorem dX12_init_199 : decode cX12_init 199 = .ok (.istore_n 1, 1) := by decide +kernel
theorem dX12_init_200 : decode cX12_init 200 = .ok (.iload_n 1, 1) := by decide +kernel
theorem dX12_init_201 : decode cX12_init 201 = .ok (.bipush 8, 2) := by decide +kernel
theorem dX12_init_203 : decode cX12_init 203 = .ok (.if_icmp .ge 19, 3) := by decide +kernel
theorem dX12_init_206 : decode cX12_init 206 = .ok (.aload_n 0, 1) := by decide +kernel
theorem dX12_init_207 : decode cX12_init 207 = .ok (.getfield 29, 3) := by decide +kernel
theorem dX12_init_210 : decode cX12_init 210 = .ok (.bipush 9, 2) := by decide +kernel
theorem dX12_init_212 : decode cX12_init 212 = .ok (.iload_n 1, 1) := by decide +kernel
theorem dX12_init_213 : decode cX12_init 213 = .ok (.iadd, 1) := by decide +kernel
theorem dX12_init_214 : decode cX12_init 214 = .ok (.iconst 1, 1) := by decide +kernel
theorem dX12_init_215 : decode cX12_init 215 = .ok (.iastore, 1) := by decide +kernel
theorem dX12_init_216 : decode cX12_init 216 = .ok (.iinc 1 1, 3) := by decide +kernel
theorem dX12_init_219 : decode cX12_init 219 = .ok (.goto (-19), 3) := by decide +kernel
theorem dX12_init_222 : decode cX12_init 222 = .ok (.return_, 1) := by decide +kernel
theorem dX12_image_0 : decode cX12_image 0 = .ok (.aload_n 0, 1) := by decide +kernel
theorem dX12_image_1 : decode cX12_image 1 = .ok (.iconst 0, 1) := by decide +kernel
theorem dX12_image_2 : decode cX12_image 2 = .ok (.putfield 3, 3) := by decide +kernel
theorem dX12_image_5 : decode cX12_image 5 = .ok (.iconst 0, 1) := by decide +kernel
theorem dX12_image_6 : decode cX12_image 6 = .ok (.istore_n 1, 1) := by decide +kernel
theorem dX12_image_7 : decode cX12_image 7 = .ok (.iload_n 1, 1) := by decide +kernel
theorem dX12_image_8 : decode cX12_image 8 = .ok (.sipush 1164, 3) := by decide +kernel
theorem dX12_image_11 : decode cX12_image 11 = .ok (.if_icmp .ge 21, 3) := by decide +kernel
theorem dX12_image_14 : decode cX12_image 14 = .ok (.aload_n 0, 1) := by decide +kernel
theorem dX12_image_15 : decode cX12_image 15 = .ok (.getfield 33, 3) := by decide +kernel
theorem dX12_image_18 : decode cX12_image 18 = .ok (.iload_n 1, 1) := by decide +kernel
theorem dX12_image_19 : decode cX12_image 19 = .ok (.aload_n 0, 1) := by decide +kernel
theorem dX12_image_20 : decode cX12_image 20 = .ok (.getfield 29, 3) := by decide +kernel
theorem dX12_image_23 : decode cX12_image 23 = .ok (.iload_n 1, 1) := by decide +kernel
theorem dX12_image_24 : decode cX12_image 24 = .ok (.iaload, 1) := by decide +kernel
theorem dX12_image_25 : decode cX12_image 25 = .ok (.iastore, 1) := by decide +kernel
theorem dX12_image_26 : decode cX12_image 26 = .ok (.iinc 1 1, 3) := by decide +kernel
theorem dX12_image_29 : decode cX12_image 29 = .ok (.goto (-22), 3) := by decide +kernel
theorem dX12_image_32 : decode cX12_image 32 = .ok (.aload_n 0, 1) := by decide +kernel
theorem dX12_image_33 : decode cX12_image 33 = .ok (.iconst 1, 1) := by decide +kernel
theorem dX12_image_34 : decode cX12_image 34 = .ok (.putfield 98, 3) := by decide +kernel
theorem dX12_image_37 : decode cX12_image 37 = .ok (.return_, 1) := by decide +kernel
theorem dX12_back_0 : decode cX12_back 0 = .ok (.aload_n 0, 1) := by decide +kernel
theorem dX12_back_1 : decode cX12_back 1 = .ok (.iconst 0, 1) := by decide +kernel
theorem dX12_back_2 : decode cX12_back 2 = .ok (.putfield 3, 3) := by decide +kernel
theorem dX12_back_5 : decode cX12_back 5 = .ok (.aload_n 0, 1) := by decide +kernel
theorem dX12_back_6 : decode cX12_back 6 = .ok (.getfield 98, 3) := by decide +kernel
theorem dX12_back_9 : decode cX12_back 9 = .ok (.ifCond .ne 5, 3) := by decide +kernel
theorem dX12_back_12 : decode cX12_back 12 = .ok (.iconst 0, 1) := by decide +kernel
theorem dX12_back_13 : decode cX12_back 13 = .ok (.ireturn, 1) := by decide +kernel
theorem dX12_back_14 : decode cX12_back 14 = .ok (.iconst 0, 1) := by decide +kernel
theorem dX12_back_15 : decode cX12_back 15 = .ok (.istore_n 1, 1) := by decide +kernel
theorem dX12_back_16 : decode cX12_back 16 = .ok (.iload_n 1, 1) := by decide +kernel
theorem dX12_back_17 : decode cX12_back 17 = .ok (.sipush 1164, 3) := by decide +kernel
theorem dX12_back_20 : decode cX12_back 20 = .ok (.if_icmp .ge 21, 3) := by decide +kernel
theorem dX12_back_23 : decode cX12_back 23 = .ok (.aload_n 0, 1) := by decide +kernel
theorem dX12_back_24 : decode cX12_back 24 = .ok (.getfield 29, 3) := by decide +kernel
theorem dX12_back_27 : decode cX12_back 27 = .ok (.iload_n 1, 1) := by decide +kernel
theorem dX12_back_28 : decode cX12_back 28 = .ok (.aload_n 0, 1) := by decide +kernel
theorem dX12_back_29 : decode cX12_back 29 = .ok (.getfield 33, 3) := by decide +kernel
theorem dX12_back_32 : decode cX12_back 32 = .ok (.iload_n 1, 1) := by decide +kernel
theorem dX12_back_33 : decode cX12_back 33 = .ok (.iaload, 1) := by decide +kernel
theorem dX12_back_34 : decode cX12_back 34 = .ok (.iastore, 1) := by decide +kernel
theorem dX12_back_35 : decode cX12_back 35 = .ok (.iinc 1 1, 3) := by decide +kernel
theorem dX12_back_38 : decode cX12_back 38 = .ok (.goto (-22), 3) := by decide +kernel
theorem dX12_back_41 : decode cX12_back 41 = .ok (.aload_n 0, 1) := by decide +kernel
theorem dX12_back_42 : decode cX12_back 42 = .ok (.iconst 0, 1) := by decide +kernel
theorem dX12_back_43 : decode cX12_back 43 = .ok (.putfield 102, 3) := by decide +kernel
theorem dX12_back_46 : decode cX12_back 46 = .ok (.iconst 1, 1) := by decide +kernel
theorem dX12_back_47 : decode cX12_back 47 = .ok (.ireturn, 1) := by decide +kernel
theorem dX12_remembers_0 : decode cX12_remembers 0 = .ok (.aload_n 0, 1) := by decide +kernel
theorem dX12_remembers_1 : decode cX12_remembers 1 = .ok (.getfield 102, 3) := by decide +kernel
theorem dX12_remembers_4 : decode cX12_remembers 4 = .ok (.bipush 16, 2) := by decide +kernel
theorem dX12_remembers_6 : decode cX12_remembers 6 = .ok (.if_icmp .ne 37, 3) := by decide +kernel
theorem dX12_remembers_9 : decode cX12_remembers 9 = .ok (.iconst 0, 1) := by decide +kernel
theorem dX12_remembers_10 : decode cX12_remembers 10 = .ok (.istore_n 1, 1) := by decide +kernel
theorem dX12_remembers_11 : decode cX12_remembers 11 = .ok (.iload_n 1, 1) := by decide +kernel
theorem dX12_remembers_12 : decode cX12_remembers 12 = .ok (.sipush 5085, 3) := by decide +kernel
theorem dX12_remembers_15 : decode cX12_remembers 15 = .ok (.if_icmp .ge 25, 3) := by decide +kernel
theorem dX12_remembers_18 : decode cX12_remembers 18 = .ok (.aload_n 0, 1) := by decide +kernel
theorem dX12_remembers_19 : decode cX12_remembers 19 = .ok (.getfield 39, 3) := by decide +kernel
theorem dX12_remembers_22 : decode cX12_remembers 22 = .ok (.iload_n 1, 1) := by decide +kernel
theorem dX12_remembers_23 : decode cX12_remembers 23 = .ok (.aload_n 0, 1) := by decide +kernel
theorem dX12_remembers_24 : decode cX12_remembers 24 = .ok (.getfield 39, 3) := by decide +kernel
theorem dX12_remembers_27 : decode cX12_remembers 27 = .ok (.iload_n 1, 1) := by decide +kernel
theorem dX12_remembers_28 : decode cX12_remembers 28 = .ok (.sipush 339, 3) := by decide +kernel
theorem dX12_remembers_31 : decode cX12_remembers 31 = .ok (.iadd, 1) := by decide +kernel
theorem dX12_remembers_32 : decode cX12_remembers 32 = .ok (.iaload, 1) := by decide +kernel
theorem dX12_remembers_33 : decode cX12_remembers 33 = .ok (.iastore, 1) := by decide +kernel
theorem dX12_remembers_34 : decode cX12_remembers 34 = .ok (.iinc 1 1, 3) := by decide +kernel
theorem dX12_remembers_37 : decode cX12_remembers 37 = .ok (.goto (-26), 3) := by decide +kernel
theorem dX12_remembers_40 : decode cX12_remembers 40 = .ok (.goto 13, 3) := by decide +kernel
theorem dX12_remembers_43 : decode cX12_remembers 43 = .ok (.aload_n 0, 1) := by decide +kernel
theorem dX12_remembers_44 : decode cX12_remembers 44 = .ok (.dup, 1) := by decide +kernel
theorem dX12_remembers_45 : decode cX12_remembers 45 = .ok (.getfield 102, 3) := by decide +kernel
theorem dX12_remembers_48 : decode cX12_remembers 48 = .ok (.iconst 1, 1) := by decide +kernel
theorem dX12_remembers_49 : decode cX12_remembers 49 = .ok (.iadd, 1) := by decide +kernel
theorem dX12_remembers_50 : decode cX12_remembers 50 = .ok (.putfield 102, 3) := by decide +kernel
theorem dX12_remembers_53 : decode cX12_remembers 53 = .ok (.iconst 0, 1) := by decide +kernel
theorem dX12_remembers_54 : decode cX12_remembers 54 = .ok (.istore_n 1, 1) := by decide +kernel
theorem dX12_remembers_55 : decode cX12_remembers 55 = .ok (.iload_n 1, 1) := by decide +kernel
theorem dX12_remembers_56 : decode cX12_remembers 56 = .ok (.sipush 339, 3) := by decide +kernel
theorem dX12_remembers_59 : decode cX12_remembers 59 = .ok (.if_icmp .ge 32, 3) := by decide +kernel
theorem dX12_remembers_62 : decode cX12_remembers 62 = .ok (.aload_n 0, 1) := by decide +kernel
theorem dX12_remembers_63 : decode cX12_remembers 63 = .ok (.getfield 39, 3) := by decide +kernel
theorem dX12_remembers_66 : decode cX12_remembers 66 = .ok (.sipush 339, 3) := by decide +kernel
theorem dX12_remembers_69 : decode cX12_remembers 69 = .ok (.aload_n 0, 1) := by decide +kernel
theorem dX12_remembers_70 : decode cX12_remembers 70 = .ok (.getfield 102, 3) := by decide +kernel
theorem dX12_remembers_73 : decode cX12_remembers 73 = .ok (.iconst 1, 1) := by decide +kernel
theorem dX12_remembers_74 : decode cX12_remembers 74 = .ok (.isub, 1) := by decide +kernel
theorem dX12_remembers_75 : decode cX12_remembers 75 = .ok (.imul, 1) := by decide +kernel
theorem dX12_remembers_76 : decode cX12_remembers 76 = .ok (.iload_n 1, 1) := by decide +kernel
theorem dX12_remembers_77 : decode cX12_remembers 77 = .ok (.iadd, 1) := by decide +kernel
theorem dX12_remembers_78 : decode cX12_remembers 78 = .ok (.aload_n 0, 1) := by decide +kernel
theorem dX12_remembers_79 : decode cX12_remembers 79 = .ok (.getfield 29, 3) := by decide +kernel
theorem dX12_remembers_82 : decode cX12_remembers 82 = .ok (.iload_n 1, 1) := by decide +kernel
theorem dX12_remembers_83 : decode cX12_remembers 83 = .ok (.iaload, 1) := by decide +kernel
theorem dX12_remembers_84 : decode cX12_remembers 84 = .ok (.iastore, 1) := by decide +kernel
theorem dX12_remembers_85 : decode cX12_remembers 85 = .ok (.iinc 1 1, 3) := by decide +kernel
theorem dX12_remembers_88 : decode cX12_remembers 88 = .ok (.goto (-33), 3) := by decide +kernel
theorem dX12_remembers_91 : decode cX12_remembers 91 = .ok (.return_, 1) := by decide +kernel
theorem dX12_undo_0 : decode cX12_undo 0 = .ok (.aload_n 0, 1) := by decide +kernel
theorem dX12_undo_1 : decode cX12_undo 1 = .ok (.iconst 0, 1) := by decide +kernel
theorem dX12_undo_2 : decode cX12_undo 2 = .ok (.putfield 3, 3) := by decide +kernel
theorem dX12_undo_5 : decode cX12_undo 5 = .ok (.aload_n 0, 1) := by decide +kernel
theorem dX12_undo_6 : decode cX12_undo 6 = .ok (.getfield 102, 3) := by decide +kernel
theorem dX12_undo_9 : decode cX12_undo 9 = .ok (.ifCond .ne 5, 3) := by decide +kernel
theorem dX12_undo_12 : decode cX12_undo 12 = .ok (.iconst 0, 1) := by decide +kernel
theorem dX12_undo_13 : decode cX12_undo 13 = .ok (.ireturn, 1) := by decide +kernel
theorem dX12_undo_14 : decode cX12_undo 14 = .ok (.aload_n 0, 1) := by decide +kernel
theorem dX12_undo_15 : decode cX12_undo 15 = .ok (.dup, 1) := by decide +kernel
theorem dX12_undo_16 : decode cX12_undo 16 = .ok (.getfield 102, 3) := by decide +kernel
theorem dX12_undo_19 : decode cX12_undo 19 = .ok (.iconst 1, 1) := by decide +kernel
theorem dX12_undo_20 : decode cX12_undo 20 = .ok (.isub, 1) := by decide +kernel
theorem dX12_undo_21 : decode cX12_undo 21 = .ok (.putfield 102, 3) := by decide +kernel
theorem dX12_undo_24 : decode cX12_undo 24 = .ok (.iconst 0, 1) := by decide +kernel
theorem dX12_undo_25 : decode cX12_undo 25 = .ok (.istore_n 1, 1) := by decide +kernel
theorem dX12_undo_26 : decode cX12_undo 26 = .ok (.iload_n 1, 1) := by decide +kernel
theorem dX12_undo_27 : decode cX12_undo 27 = .ok (.sipush 339, 3) := by decide +kernel
theorem dX12_undo_30 : decode cX12_undo 30 = .ok (.if_icmp .ge 30, 3) := by decide +kernel
theorem dX12_undo_33 : decode cX12_undo 33 = .ok (.aload_n 0, 1) := by decide +kernel
theorem dX12_undo_34 : decode cX12_undo 34 = .ok (.getfield 29, 3) := by decide +kernel
theorem dX12_undo_37 : decode cX12_undo 37 = .ok (.iload_n 1, 1) := by decide +kernel
theorem dX12_undo_38 : decode cX12_undo 38 = .ok (.aload_n 0, 1) := by decide +kernel
theorem dX12_undo_39 : decode cX12_undo 39 = .ok (.getfield 39, 3) := by decide +kernel
theorem dX12_undo_42 : decode cX12_undo 42 = .ok (.sipush 339, 3) := by decide +kernel
theorem dX12_undo_45 : decode cX12_undo 45 = .ok (.aload_n 0, 1) := by decide +kernel
theorem dX12_undo_46 : decode cX12_undo 46 = .ok (.getfield 102, 3) := by decide +kernel
theorem dX12_undo_49 : decode cX12_undo 49 = .ok (.imul, 1) := by decide +kernel
theorem dX12_undo_50 : decode cX12_undo 50 = .ok (.iload_n 1, 1) := by decide +kernel
theorem dX12_undo_51 : decode cX12_undo 51 = .ok (.iadd, 1) := by decide +kernel
theorem dX12_undo_52 : decode cX12_undo 52 = .ok (.iaload, 1) := by decide +kernel
theorem dX12_undo_53 : decode cX12_undo 53 = .ok (.iastore, 1) := by decide +kernel
theorem dX12_undo_54 : decode cX12_undo 54 = .ok (.iinc 1 1, 3) := by decide +kernel
theorem dX12_undo_57 : decode cX12_undo 57 = .ok (.goto (-31), 3) := by decide +kernel
theorem dX12_undo_60 : decode cX12_undo 60 = .ok (.iconst 1, 1) := by decide +kernel
theorem dX12_undo_61 : decode cX12_undo 61 = .ok (.ireturn, 1) := by decide +kernel
theorem dX12_rules_0 : decode cX12_rules 0 = .ok (.aload_n 0, 1) := by decide +kernel
theorem dX12_rules_1 : decode cX12_rules 1 = .ok (.getfield 29, 3) := by decide +kernel
theorem dX12_rules_4 : decode cX12_rules 4 = .ok (.iconst 0, 1) := by decide +kernel
theorem dX12_rules_5 : decode cX12_rules 5 = .ok (.iaload, 1) := by decide +kernel
theorem dX12_rules_6 : decode cX12_rules 6 = .ok (.ireturn, 1) := by decide +kernel
theorem dX12_fields_0 : decode cX12_fields 0 = .ok (.aload_n 0, 1) := by decide +kernel
theorem dX12_fields_1 : decode cX12_fields 1 = .ok (.getfield 29, 3) := by decide +kernel
theorem dX12_fields_4 : decode cX12_fields 4 = .ok (.iconst 1, 1) := by decide +kernel
theorem dX12_fields_5 : decode cX12_fields 5 = .ok (.iaload, 1) := by decide +kernel
theorem dX12_fields_6 : decode cX12_fields 6 = .ok (.ireturn, 1) := by decide +kernel
theorem dX12_codeAt_0 : decode cX12_codeAt 0 = .ok (.aload_n 0, 1) := by decide +kernel
theorem dX12_codeAt_1 : decode cX12_codeAt 1 = .ok (.getfield 29, 3) := by decide +kernel
theorem dX12_codeAt_4 : decode cX12_codeAt 4 = .ok (.iload_n 1, 1) := by decide +kernel
theorem dX12_codeAt_5 : decode cX12_codeAt 5 = .ok (.iaload, 1) := by decide +kernel
theorem dX12_codeAt_6 : decode cX12_codeAt 6 = .ok (.i2l, 1) := by decide +kernel
theorem dX12_codeAt_7 : decode cX12_codeAt 7 = .ok (.bipush 32, 2) := by decide +kernel
theorem dX12_codeAt_9 : decode cX12_codeAt 9 = .ok (.lshl, 1) := by decide +kernel
theorem dX12_codeAt_10 : decode cX12_codeAt 10 = .ok (.aload_n 0, 1) := by decide +kernel
theorem dX12_codeAt_11 : decode cX12_codeAt 11 = .ok (.getfield 29, 3) := by decide +kernel
theorem dX12_codeAt_14 : decode cX12_codeAt 14 = .ok (.iload_n 1, 1) := by decide +kernel
theorem dX12_codeAt_15 : decode cX12_codeAt 15 = .ok (.iconst 1, 1) := by decide +kernel
theorem dX12_codeAt_16 : decode cX12_codeAt 16 = .ok (.iadd, 1) := by decide +kernel
theorem dX12_codeAt_17 : decode cX12_codeAt 17 = .ok (.iaload, 1) := by decide +kernel
theorem dX12_codeAt_18 : decode cX12_codeAt 18 = .ok (.i2l, 1) := by decide +kernel
theorem dX12_codeAt_19 : decode cX12_codeAt 19 = .ok (.ldc2_w 105, 3) := by decide +kernel
theorem dX12_codeAt_22 : decode cX12_codeAt 22 = .ok (.land, 1) := by decide +kernel
theorem dX12_codeAt_23 : decode cX12_codeAt 23 = .ok (.lor, 1) := by decide +kernel
theorem dX12_codeAt_24 : decode cX12_codeAt 24 = .ok (.lreturn, 1) := by decide +kernel
theorem dX12_putsCode_0 : decode cX12_putsCode 0 = .ok (.aload_n 0, 1) := by decide +kernel
theorem dX12_putsCode_1 : decode cX12_putsCode 1 = .ok (.getfield 29, 3) := by decide +kernel
theorem dX12_putsCode_4 : decode cX12_putsCode 4 = .ok (.iload_n 1, 1) := by decide +kernel
theorem dX12_putsCode_5 : decode cX12_putsCode 5 = .ok (.lload_n 2, 1) := by decide +kernel
theorem dX12_putsCode_6 : decode cX12_putsCode 6 = .ok (.bipush 32, 2) := by decide +kernel
theorem dX12_putsCode_8 : decode cX12_putsCode 8 = .ok (.lshr, 1) := by decide +kernel
theorem dX12_putsCode_9 : decode cX12_putsCode 9 = .ok (.l2i, 1) := by decide +kernel
theorem dX12_putsCode_10 : decode cX12_putsCode 10 = .ok (.iastore, 1) := by decide +kernel
theorem dX12_putsCode_11 : decode cX12_putsCode 11 = .ok (.aload_n 0, 1) := by decide +kernel
theorem dX12_putsCode_12 : decode cX12_putsCode 12 = .ok (.getfield 29, 3) := by decide +kernel
theorem dX12_putsCode_15 : decode cX12_putsCode 15 = .ok (.iload_n 1, 1) := by decide +kernel
theorem dX12_putsCode_16 : decode cX12_putsCode 16 = .ok (.iconst 1, 1) := by decide +kernel
theorem dX12_putsCode_17 : decode cX12_putsCode 17 = .ok (.iadd, 1) := by decide +kernel
theorem dX12_putsCode_18 : decode cX12_putsCode 18 = .ok (.lload_n 2, 1) := by decide +kernel
theorem dX12_putsCode_19 : decode cX12_putsCode 19 = .ok (.l2i, 1) := by decide +kernel
theorem dX12_putsCode_20 : decode cX12_putsCode 20 = .ok (.iastore, 1) := by decide +kernel
theorem dX12_putsCode_21 : decode cX12_putsCode 21 = .ok (.return_, 1) := by decide +kernel
theorem dX12_left_0 : decode cX12_left 0 = .ok (.aload_n 0, 1) := by decide +kernel
theorem dX12_left_1 : decode cX12_left 1 = .ok (.getfield 29, 3) := by decide +kernel
theorem dX12_left_4 : decode cX12_left 4 = .ok (.bipush 17, 2) := by decide +kernel
theorem dX12_left_6 : decode cX12_left 6 = .ok (.iconst 2, 1) := by decide +kernel
theorem dX12_left_7 : decode cX12_left 7 = .ok (.iload_n 1, 1) := by decide +kernel
theorem dX12_left_8 : decode cX12_left 8 = .ok (.imul, 1) := by decide +kernel
theorem dX12_left_9 : decode cX12_left 9 = .ok (.iadd, 1) := by decide +kernel
theorem dX12_left_10 : decode cX12_left 10 = .ok (.iaload, 1) := by decide +kernel
theorem dX12_left_11 : decode cX12_left 11 = .ok (.i2l, 1) := by decide +kernel
theorem dX12_left_12 : decode cX12_left 12 = .ok (.lreturn, 1) := by decide +kernel
theorem dX12_right_0 : decode cX12_right 0 = .ok (.aload_n 0, 1) := by decide +kernel
theorem dX12_right_1 : decode cX12_right 1 = .ok (.getfield 29, 3) := by decide +kernel
theorem dX12_right_4 : decode cX12_right 4 = .ok (.bipush 17, 2) := by decide +kernel
theorem dX12_right_6 : decode cX12_right 6 = .ok (.iconst 2, 1) := by decide +kernel
theorem dX12_right_7 : decode cX12_right 7 = .ok (.iload_n 1, 1) := by decide +kernel
theorem dX12_right_8 : decode cX12_right 8 = .ok (.imul, 1) := by decide +kernel
theorem dX12_right_9 : decode cX12_right 9 = .ok (.iadd, 1) := by decide +kernel
theorem dX12_right_10 : decode cX12_right 10 = .ok (.iconst 1, 1) := by decide +kernel
theorem dX12_right_11 : decode cX12_right 11 = .ok (.iadd, 1) := by decide +kernel
theorem dX12_right_12 : decode cX12_right 12 = .ok (.iaload, 1) := by decide +kernel
theorem dX12_right_13 : decode cX12_right 13 = .ok (.i2l, 1) := by decide +kernel
theorem dX12_right_14 : decode cX12_right 14 = .ok (.lreturn, 1) := by decide +kernel
theorem dX12_lefts_0 : decode cX12_lefts 0 = .ok (.aload_n 0, 1) := by decide +kernel
theorem dX12_lefts_1 : decode cX12_lefts 1 = .ok (.iload_n 1, 1) := by decide +kernel
theorem dX12_lefts_2 : decode cX12_lefts 2 = .ok (.invokevirtual 107, 3) := by decide +kernel
theorem dX12_lefts_5 : decode cX12_lefts 5 = .ok (.invokestatic 13, 3) := by decide +kernel
theorem dX12_lefts_8 : decode cX12_lefts 8 = .ok (.ireturn, 1) := by decide +kernel
theorem dX12_rights_0 : decode cX12_rights 0 = .ok (.aload_n 0, 1) := by decide +kernel
theorem dX12_rights_1 : decode cX12_rights 1 = .ok (.iload_n 1, 1) := by decide +kernel
theorem dX12_rights_2 : decode cX12_rights 2 = .ok (.invokevirtual 111, 3) := by decide +kernel
theorem dX12_rights_5 : decode cX12_rights 5 = .ok (.invokestatic 13, 3) := by decide +kernel
theorem dX12_rights_8 : decode cX12_rights 8 = .ok (.ireturn, 1) := by decide +kernel
theorem dX12_at_0 : decode cX12_at 0 = .ok (.bipush 41, 2) := by decide +kernel
theorem dX12_at_2 : decode cX12_at 2 = .ok (.bipush 43, 2) := by decide +kernel
theorem dX12_at_4 : decode cX12_at 4 = .ok (.iload_n 0, 1) := by decide +kernel
theorem dX12_at_5 : decode cX12_at 5 = .ok (.imul, 1) := by decide +kernel
theorem dX12_at_6 : decode cX12_at 6 = .ok (.iadd, 1) := by decide +kernel
theorem dX12_at_7 : decode cX12_at 7 = .ok (.ireturn, 1) := by decide +kernel
theorem dX12_meadow_0 : decode cX12_meadow 0 = .ok (.aload_n 0, 1) := by decide +kernel
theorem dX12_meadow_1 : decode cX12_meadow 1 = .ok (.iload_n 1, 1) := by decide +kernel
theorem dX12_meadow_2 : decode cX12_meadow 2 = .ok (.invokestatic 114, 3) := by decide +kernel
theorem dX12_meadow_5 : decode cX12_meadow 5 = .ok (.invokevirtual 118, 3) := by decide +kernel
theorem dX12_meadow_8 : decode cX12_meadow 8 = .ok (.lreturn, 1) := by decide +kernel
theorem dX12_noRule_0 : decode cX12_noRule 0 = .ok (.iload_n 1, 1) := by decide +kernel
theorem dX12_noRule_1 : decode cX12_noRule 1 = .ok (.iconst 0, 1) := by decide +kernel
theorem dX12_noRule_2 : decode cX12_noRule 2 = .ok (.aload_n 0, 1) := by decide +kernel
theorem dX12_noRule_3 : decode cX12_noRule 3 = .ok (.invokevirtual 121, 3) := by decide +kernel
theorem dX12_noRule_6 : decode cX12_noRule 6 = .ok (.iconst 1, 1) := by decide +kernel
theorem dX12_noRule_7 : decode cX12_noRule 7 = .ok (.isub, 1) := by decide +kernel
theorem dX12_noRule_8 : decode cX12_noRule 8 = .ok (.invokestatic 125, 3) := by decide +kernel
theorem dX12_noRule_11 : decode cX12_noRule 11 = .ok (.ifCond .ne 7, 3) := by decide +kernel
theorem dX12_noRule_14 : decode cX12_noRule 14 = .ok (.iconst 1, 1) := by decide +kernel
theorem dX12_noRule_15 : decode cX12_noRule 15 = .ok (.goto 4, 3) := by decide +kernel
theorem dX12_noRule_18 : decode cX12_noRule 18 = .ok (.iconst 0, 1) := by decide +kernel
theorem dX12_noRule_19 : decode cX12_noRule 19 = .ok (.ireturn, 1) := by decide +kernel
theorem dX12_noField_0 : decode cX12_noField 0 = .ok (.iload_n 1, 1) := by decide +kernel
theorem dX12_noField_1 : decode cX12_noField 1 = .ok (.iconst 0, 1) := by decide +kernel
theorem dX12_noField_2 : decode cX12_noField 2 = .ok (.aload_n 0, 1) := by decide +kernel
theorem dX12_noField_3 : decode cX12_noField 3 = .ok (.invokevirtual 129, 3) := by decide +kernel
theorem dX12_noField_6 : decode cX12_noField 6 = .ok (.iconst 1, 1) := by decide +kernel
theorem dX12_noField_7 : decode cX12_noField 7 = .ok (.isub, 1) := by decide +kernel
theorem dX12_noField_8 : decode cX12_noField 8 = .ok (.invokestatic 125, 3) := by decide +kernel
theorem dX12_noField_11 : decode cX12_noField 11 = .ok (.ifCond .ne 7, 3) := by decide +kernel
theorem dX12_noField_14 : decode cX12_noField 14 = .ok (.iconst 1, 1) := by decide +kernel
theorem dX12_noField_15 : decode cX12_noField 15 = .ok (.goto 4, 3) := by decide +kernel
theorem dX12_noField_18 : decode cX12_noField 18 = .ok (.iconst 0, 1) := by decide +kernel
theorem dX12_noField_19 : decode cX12_noField 19 = .ok (.ireturn, 1) := by decide +kernel
theorem dX12_adds_0 : decode cX12_adds 0 = .ok (.aload_n 0, 1) := by decide +kernel
theorem dX12_adds_1 : decode cX12_adds 1 = .ok (.getfield 29, 3) := by decide +kernel
theorem dX12_adds_4 : decode cX12_adds 4 = .ok (.bipush 17, 2) := by decide +kernel
theorem dX12_adds_6 : decode cX12_adds 6 = .ok (.iconst 2, 1) := by decide +kernel
theorem dX12_adds_7 : decode cX12_adds 7 = .ok (.aload_n 0, 1) := by decide +kernel
theorem dX12_adds_8 : decode cX12_adds 8 = .ok (.invokevirtual 121, 3) := by decide +kernel
theorem dX12_adds_11 : decode cX12_adds 11 = .ok (.imul, 1) := by decide +kernel
theorem dX12_adds_12 : decode cX12_adds 12 = .ok (.iadd, 1) := by decide +kernel
theorem dX12_adds_13 : decode cX12_adds 13 = .ok (.lload_n 1, 1) := by decide +kernel
theorem dX12_adds_14 : decode cX12_adds 14 = .ok (.l2i, 1) := by decide +kernel
theorem dX12_adds_15 : decode cX12_adds 15 = .ok (.iastore, 1) := by decide +kernel
theorem dX12_adds_16 : decode cX12_adds 16 = .ok (.aload_n 0, 1) := by decide +kernel
theorem dX12_adds_17 : decode cX12_adds 17 = .ok (.getfield 29, 3) := by decide +kernel
theorem dX12_adds_20 : decode cX12_adds 20 = .ok (.bipush 17, 2) := by decide +kernel
theorem dX12_adds_22 : decode cX12_adds 22 = .ok (.iconst 2, 1) := by decide +kernel
theorem dX12_adds_23 : decode cX12_adds 23 = .ok (.aload_n 0, 1) := by decide +kernel
theorem dX12_adds_24 : decode cX12_adds 24 = .ok (.invokevirtual 121, 3) := by decide +kernel
theorem dX12_adds_27 : decode cX12_adds 27 = .ok (.imul, 1) := by decide +kernel
theorem dX12_adds_28 : decode cX12_adds 28 = .ok (.iadd, 1) := by decide +kernel
theorem dX12_adds_29 : decode cX12_adds 29 = .ok (.iconst 1, 1) := by decide +kernel
theorem dX12_adds_30 : decode cX12_adds 30 = .ok (.iadd, 1) := by decide +kernel
theorem dX12_adds_31 : decode cX12_adds 31 = .ok (.lload_n 3, 1) := by decide +kernel
theorem dX12_adds_32 : decode cX12_adds 32 = .ok (.l2i, 1) := by decide +kernel
theorem dX12_adds_33 : decode cX12_adds 33 = .ok (.iastore, 1) := by decide +kernel
theorem dX12_adds_34 : decode cX12_adds 34 = .ok (.aload_n 0, 1) := by decide +kernel
theorem dX12_adds_35 : decode cX12_adds 35 = .ok (.getfield 29, 3) := by decide +kernel
theorem dX12_adds_38 : decode cX12_adds 38 = .ok (.iconst 0, 1) := by decide +kernel
theorem dX12_adds_39 : decode cX12_adds 39 = .ok (.dup2, 1) := by decide +kernel
theorem dX12_adds_40 : decode cX12_adds 40 = .ok (.iaload, 1) := by decide +kernel
theorem dX12_adds_41 : decode cX12_adds 41 = .ok (.iconst 1, 1) := by decide +kernel
theorem dX12_adds_42 : decode cX12_adds 42 = .ok (.iadd, 1) := by decide +kernel
theorem dX12_adds_43 : decode cX12_adds 43 = .ok (.iastore, 1) := by decide +kernel
theorem dX12_adds_44 : decode cX12_adds 44 = .ok (.return_, 1) := by decide +kernel
theorem dX12_drops_0 : decode cX12_drops 0 = .ok (.iconst 2, 1) := by decide +kernel
theorem dX12_drops_1 : decode cX12_drops 1 = .ok (.iload_n 1, 1) := by decide +kernel
theorem dX12_drops_2 : decode cX12_drops 2 = .ok (.imul, 1) := by decide +kernel
theorem dX12_drops_3 : decode cX12_drops 3 = .ok (.istore_n 2, 1) := by decide +kernel
theorem dX12_drops_4 : decode cX12_drops 4 = .ok (.iload_n 2, 1) := by decide +kernel
theorem dX12_drops_5 : decode cX12_drops 5 = .ok (.iconst 2, 1) := by decide +kernel
theorem dX12_drops_6 : decode cX12_drops 6 = .ok (.aload_n 0, 1) := by decide +kernel
theorem dX12_drops_7 : decode cX12_drops 7 = .ok (.invokevirtual 121, 3) := by decide +kernel
theorem dX12_drops_10 : decode cX12_drops 10 = .ok (.imul, 1) := by decide +kernel
theorem dX12_drops_11 : decode cX12_drops 11 = .ok (.iconst 2, 1) := by decide +kernel
theorem dX12_drops_12 : decode cX12_drops 12 = .ok (.isub, 1) := by decide +kernel
theorem dX12_drops_13 : decode cX12_drops 13 = .ok (.if_icmp .ge 29, 3) := by decide +kernel
theorem dX12_drops_16 : decode cX12_drops 16 = .ok (.aload_n 0, 1) := by decide +kernel
theorem dX12_drops_17 : decode cX12_drops 17 = .ok (.getfield 29, 3) := by decide +kernel
theorem dX12_drops_20 : decode cX12_drops 20 = .ok (.bipush 17, 2) := by decide +kernel
theorem dX12_drops_22 : decode cX12_drops 22 = .ok (.iload_n 2, 1) := by decide +kernel
theorem dX12_drops_23 : decode cX12_drops 23 = .ok (.iadd, 1) := by decide +kernel
theorem dX12_drops_24 : decode cX12_drops 24 = .ok (.aload_n 0, 1) := by decide +kernel
theorem dX12_drops_25 : decode cX12_drops 25 = .ok (.getfield 29, 3) := by decide +kernel
theorem dX12_drops_28 : decode cX12_drops 28 = .ok (.bipush 17, 2) := by decide +kernel
theorem dX12_drops_30 : decode cX12_drops 30 = .ok (.iload_n 2, 1) := by decide +kernel
theorem dX12_drops_31 : decode cX12_drops 31 = .ok (.iadd, 1) := by decide +kernel
theorem dX12_drops_32 : decode cX12_drops 32 = .ok (.iconst 2, 1) := by decide +kernel
theorem dX12_drops_33 : decode cX12_drops 33 = .ok (.iadd, 1) := by decide +kernel
theorem dX12_drops_34 : decode cX12_drops 34 = .ok (.iaload, 1) := by decide +kernel
theorem dX12_drops_35 : decode cX12_drops 35 = .ok (.iastore, 1) := by decide +kernel
theorem dX12_drops_36 : decode cX12_drops 36 = .ok (.iinc 2 1, 3) := by decide +kernel
theorem dX12_drops_39 : decode cX12_drops 39 = .ok (.goto (-35), 3) := by decide +kernel
theorem dX12_drops_42 : decode cX12_drops 42 = .ok (.aload_n 0, 1) := by decide +kernel
theorem dX12_drops_43 : decode cX12_drops 43 = .ok (.getfield 29, 3) := by decide +kernel
theorem dX12_drops_46 : decode cX12_drops 46 = .ok (.iconst 0, 1) := by decide +kernel
theorem dX12_drops_47 : decode cX12_drops 47 = .ok (.dup2, 1) := by decide +kernel
theorem dX12_drops_48 : decode cX12_drops 48 = .ok (.iaload, 1) := by decide +kernel
theorem dX12_drops_49 : decode cX12_drops 49 = .ok (.iconst 1, 1) := by decide +kernel
theorem dX12_drops_50 : decode cX12_drops 50 = .ok (.isub, 1) := by decide +kernel
theorem dX12_drops_51 : decode cX12_drops 51 = .ok (.iastore, 1) := by decide +kernel
theorem dX12_drops_52 : decode cX12_drops 52 = .ok (.return_, 1) := by decide +kernel
theorem dX12_tells_0 : decode cX12_tells 0 = .ok (.aload_n 0, 1) := by decide +kernel
theorem dX12_tells_1 : decode cX12_tells 1 = .ok (.iload_n 1, 1) := by decide +kernel
theorem dX12_tells_2 : decode cX12_tells 2 = .ok (.invokestatic 114, 3) := by decide +kernel
theorem dX12_tells_5 : decode cX12_tells 5 = .ok (.lload_n 2, 1) := by decide +kernel
theorem dX12_tells_6 : decode cX12_tells 6 = .ok (.invokevirtual 132, 3) := by decide +kernel
theorem dX12_tells_9 : decode cX12_tells 9 = .ok (.aload_n 0, 1) := by decide +kernel
theorem dX12_tells_10 : decode cX12_tells 10 = .ok (.getfield 29, 3) := by decide +kernel
theorem dX12_tells_13 : decode cX12_tells 13 = .ok (.iload_n 1, 1) := by decide +kernel
theorem dX12_tells_14 : decode cX12_tells 14 = .ok (.invokestatic 114, 3) := by decide +kernel
theorem dX12_tells_17 : decode cX12_tells 17 = .ok (.iconst 2, 1) := by decide +kernel
theorem dX12_tells_18 : decode cX12_tells 18 = .ok (.iadd, 1) := by decide +kernel
theorem dX12_tells_19 : decode cX12_tells 19 = .ok (.iconst 0, 1) := by decide +kernel
theorem dX12_tells_20 : decode cX12_tells 20 = .ok (.iastore, 1) := by decide +kernel
theorem dX12_tells_21 : decode cX12_tells 21 = .ok (.iconst 0, 1) := by decide +kernel
theorem dX12_tells_22 : decode cX12_tells 22 = .ok (.istore 4, 2) := by decide +kernel
theorem dX12_tells_24 : decode cX12_tells 24 = .ok (.iload 4, 2) := by decide +kernel
theorem dX12_tells_26 : decode cX12_tells 26 = .ok (.bipush 40, 2) := by decide +kernel
theorem dX12_tells_28 : decode cX12_tells 28 = .ok (.if_icmp .ge 24, 3) := by decide +kernel
theorem dX12_tells_31 : decode cX12_tells 31 = .ok (.aload_n 0, 1) := by decide +kernel
theorem dX12_tells_32 : decode cX12_tells 32 = .ok (.getfield 29, 3) := by decide +kernel
theorem dX12_tells_35 : decode cX12_tells 35 = .ok (.iload_n 1, 1) := by decide +kernel
theorem dX12_tells_36 : decode cX12_tells 36 = .ok (.invokestatic 114, 3) := by decide +kernel
theorem dX12_tells_39 : decode cX12_tells 39 = .ok (.iconst 3, 1) := by decide +kernel
theorem dX12_tells_40 : decode cX12_tells 40 = .ok (.iadd, 1) := by decide +kernel
theorem dX12_tells_41 : decode cX12_tells 41 = .ok (.iload 4, 2) := by decide +kernel
theorem dX12_tells_43 : decode cX12_tells 43 = .ok (.iadd, 1) := by decide +kernel
theorem dX12_tells_44 : decode cX12_tells 44 = .ok (.iconst (-1), 1) := by decide +kernel
theorem dX12_tells_45 : decode cX12_tells 45 = .ok (.iastore, 1) := by decide +kernel
theorem dX12_tells_46 : decode cX12_tells 46 = .ok (.iinc 4 1, 3) := by decide +kernel
theorem dX12_tells_49 : decode cX12_tells 49 = .ok (.goto (-25), 3) := by decide +kernel
theorem dX12_tells_52 : decode cX12_tells 52 = .ok (.return_, 1) := by decide +kernel
theorem dX12_feed_0 : decode cX12_feed 0 = .ok (.aload_n 0, 1) := by decide +kernel
theorem dX12_feed_1 : decode cX12_feed 1 = .ok (.iconst 0, 1) := by decide +kernel
theorem dX12_feed_2 : decode cX12_feed 2 = .ok (.putfield 3, 3) := by decide +kernel
theorem dX12_feed_5 : decode cX12_feed 5 = .ok (.aload_n 0, 1) := by decide +kernel
theorem dX12_feed_6 : decode cX12_feed 6 = .ok (.getfield 136, 3) := by decide +kernel
theorem dX12_feed_9 : decode cX12_feed 9 = .ok (.bipush 20, 2) := by decide +kernel
theorem dX12_feed_11 : decode cX12_feed 11 = .ok (.iadd, 1) := by decide +kernel
theorem dX12_feed_12 : decode cX12_feed 12 = .ok (.sipush 400, 3) := by decide +kernel
theorem dX12_feed_15 : decode cX12_feed 15 = .ok (.if_icmp .le 5, 3) := by decide +kernel
theorem dX12_feed_18 : decode cX12_feed 18 = .ok (.iconst (-1), 1) := by decide +kernel
theorem dX12_feed_19 : decode cX12_feed 19 = .ok (.ireturn, 1) := by decide +kernel
theorem dX12_feed_20 : decode cX12_feed 20 = .ok (.aload_n 0, 1) := by decide +kernel
theorem dX12_feed_21 : decode cX12_feed 21 = .ok (.getfield 49, 3) := by decide +kernel
theorem dX12_feed_24 : decode cX12_feed 24 = .ok (.iconst 0, 1) := by decide +kernel
theorem dX12_feed_25 : decode cX12_feed 25 = .ok (.iload_n 1, 1) := by decide +kernel
theorem dX12_feed_26 : decode cX12_feed 26 = .ok (.iastore, 1) := by decide +kernel
theorem dX12_feed_27 : decode cX12_feed 27 = .ok (.aload_n 0, 1) := by decide +kernel
theorem dX12_feed_28 : decode cX12_feed 28 = .ok (.getfield 49, 3) := by decide +kernel
theorem dX12_feed_31 : decode cX12_feed 31 = .ok (.iconst 1, 1) := by decide +kernel
theorem dX12_feed_32 : decode cX12_feed 32 = .ok (.iload_n 2, 1) := by decide +kernel
theorem dX12_feed_33 : decode cX12_feed 33 = .ok (.iastore, 1) := by decide +kernel
theorem dX12_feed_34 : decode cX12_feed 34 = .ok (.aload_n 0, 1) := by decide +kernel
theorem dX12_feed_35 : decode cX12_feed 35 = .ok (.getfield 49, 3) := by decide +kernel
theorem dX12_feed_38 : decode cX12_feed 38 = .ok (.iconst 2, 1) := by decide +kernel
theorem dX12_feed_39 : decode cX12_feed 39 = .ok (.iload_n 3, 1) := by decide +kernel
theorem dX12_feed_40 : decode cX12_feed 40 = .ok (.iastore, 1) := by decide +kernel
theorem dX12_feed_41 : decode cX12_feed 41 = .ok (.aload_n 0, 1) := by decide +kernel
theorem dX12_feed_42 : decode cX12_feed 42 = .ok (.getfield 49, 3) := by decide +kernel
theorem dX12_feed_45 : decode cX12_feed 45 = .ok (.iconst 3, 1) := by decide +kernel
theorem dX12_feed_46 : decode cX12_feed 46 = .ok (.iload 4, 2) := by decide +kernel
theorem dX12_feed_48 : decode cX12_feed 48 = .ok (.iastore, 1) := by decide +kernel
theorem dX12_feed_49 : decode cX12_feed 49 = .ok (.aload_n 0, 1) := by decide +kernel
theorem dX12_feed_50 : decode cX12_feed 50 = .ok (.getfield 49, 3) := by decide +kernel
theorem dX12_feed_53 : decode cX12_feed 53 = .ok (.iconst 4, 1) := by decide +kernel
theorem dX12_feed_54 : decode cX12_feed 54 = .ok (.iload 5, 2) := by decide +kernel
theorem dX12_feed_56 : decode cX12_feed 56 = .ok (.iastore, 1) := by decide +kernel
theorem dX12_feed_57 : decode cX12_feed 57 = .ok (.iconst 0, 1) := by decide +kernel
theorem dX12_feed_58 : decode cX12_feed 58 = .ok (.istore 6, 2) := by decide +kernel
theorem dX12_feed_60 : decode cX12_feed 60 = .ok (.iload 6, 2) := by decide +kernel
theorem dX12_feed_62 : decode cX12_feed 62 = .ok (.bipush 20, 2) := by decide +kernel
theorem dX12_feed_64 : decode cX12_feed 64 = .ok (.if_icmp .ge 42, 3) := by decide +kernel
theorem dX12_feed_67 : decode cX12_feed 67 = .ok (.aload_n 0, 1) := by decide +kernel
theorem dX12_feed_68 : decode cX12_feed 68 = .ok (.getfield 42, 3) := by decide +kernel
theorem dX12_feed_71 : decode cX12_feed 71 = .ok (.aload_n 0, 1) := by decide +kernel
theorem dX12_feed_72 : decode cX12_feed 72 = .ok (.getfield 136, 3) := by decide +kernel
theorem dX12_feed_75 : decode cX12_feed 75 = .ok (.iload 6, 2) := by decide +kernel
theorem dX12_feed_77 : decode cX12_feed 77 = .ok (.iadd, 1) := by decide +kernel
theorem dX12_feed_78 : decode cX12_feed 78 = .ok (.aload_n 0, 1) := by decide +kernel
theorem dX12_feed_79 : decode cX12_feed 79 = .ok (.getfield 49, 3) := by decide +kernel
theorem dX12_feed_82 : decode cX12_feed 82 = .ok (.iload 6, 2) := by decide +kernel
theorem dX12_feed_84 : decode cX12_feed 84 = .ok (.iconst 4, 1) := by decide +kernel
theorem dX12_feed_85 : decode cX12_feed 85 = .ok (.idiv, 1) := by decide +kernel
theorem dX12_feed_86 : decode cX12_feed 86 = .ok (.iaload, 1) := by decide +kernel
theorem dX12_feed_87 : decode cX12_feed 87 = .ok (.bipush 24, 2) := by decide +kernel
theorem dX12_feed_89 : decode cX12_feed 89 = .ok (.bipush 8, 2) := by decide +kernel
theorem dX12_feed_91 : decode cX12_feed 91 = .ok (.iload 6, 2) := by decide +kernel
theorem dX12_feed_93 : decode cX12_feed 93 = .ok (.iconst 4, 1) := by decide +kernel
theorem dX12_feed_94 : decode cX12_feed 94 = .ok (.irem, 1) := by decide +kernel
theorem dX12_feed_95 : decode cX12_feed 95 = .ok (.imul, 1) := by decide +kernel
theorem dX12_feed_96 : decode cX12_feed 96 = .ok (.isub, 1) := by decide +kernel
theorem dX12_feed_97 : decode cX12_feed 97 = .ok (.ishr, 1) := by decide +kernel
theorem dX12_feed_98 : decode cX12_feed 98 = .ok (.i2b, 1) := by decide +kernel
theorem dX12_feed_99 : decode cX12_feed 99 = .ok (.bastore, 1) := by decide +kernel
theorem dX12_feed_100 : decode cX12_feed 100 = .ok (.iinc 6 1, 3) := by decide +kernel
theorem dX12_feed_103 : decode cX12_feed 103 = .ok (.goto (-43), 3) := by decide +kernel
theorem dX12_feed_106 : decode cX12_feed 106 = .ok (.aload_n 0, 1) := by decide +kernel
theorem dX12_feed_107 : decode cX12_feed 107 = .ok (.dup, 1) := by decide +kernel
theorem dX12_feed_108 : decode cX12_feed 108 = .ok (.getfield 136, 3) := by decide +kernel
theorem dX12_feed_111 : decode cX12_feed 111 = .ok (.bipush 20, 2) := by decide +kernel
theorem dX12_feed_113 : decode cX12_feed 113 = .ok (.iadd, 1) := by decide +kernel
theorem dX12_feed_114 : decode cX12_feed 114 = .ok (.putfield 136, 3) := by decide +kernel
theorem dX12_feed_117 : decode cX12_feed 117 = .ok (.aload_n 0, 1) := by decide +kernel
theorem dX12_feed_118 : decode cX12_feed 118 = .ok (.getfield 136, 3) := by decide +kernel
theorem dX12_feed_121 : decode cX12_feed 121 = .ok (.ireturn, 1) := by decide +kernel
theorem dX12_end_0 : decode cX12_end 0 = .ok (.aload_n 0, 1) := by decide +kernel
theorem dX12_end_1 : decode cX12_end 1 = .ok (.iconst 0, 1) := by decide +kernel
theorem dX12_end_2 : decode cX12_end 2 = .ok (.putfield 3, 3) := by decide +kernel
theorem dX12_end_5 : decode cX12_end 5 = .ok (.iload_n 1, 1) := by decide +kernel
theorem dX12_end_6 : decode cX12_end 6 = .ok (.ifCond .lt 11, 3) := by decide +kernel
theorem dX12_end_9 : decode cX12_end 9 = .ok (.iload_n 1, 1) := by decide +kernel
theorem dX12_end_10 : decode cX12_end 10 = .ok (.aload_n 0, 1) := by decide +kernel
theorem dX12_end_11 : decode cX12_end 11 = .ok (.getfield 136, 3) := by decide +kernel
theorem dX12_end_14 : decode cX12_end 14 = .ok (.if_icmp .le 5, 3) := by decide +kernel
theorem dX12_end_17 : decode cX12_end 17 = .ok (.iconst 0, 1) := by decide +kernel
theorem dX12_end_18 : decode cX12_end 18 = .ok (.ireturn, 1) := by decide +kernel
theorem dX12_end_19 : decode cX12_end 19 = .ok (.aload_n 0, 1) := by decide +kernel
theorem dX12_end_20 : decode cX12_end 20 = .ok (.iload_n 1, 1) := by decide +kernel
theorem dX12_end_21 : decode cX12_end 21 = .ok (.putfield 136, 3) := by decide +kernel
theorem dX12_end_24 : decode cX12_end 24 = .ok (.iconst 1, 1) := by decide +kernel
theorem dX12_end_25 : decode cX12_end 25 = .ok (.ireturn, 1) := by decide +kernel
theorem dX12_isAt_0 : decode cX12_isAt 0 = .ok (.aload_n 0, 1) := by decide +kernel
theorem dX12_isAt_1 : decode cX12_isAt 1 = .ok (.getfield 139, 3) := by decide +kernel
theorem dX12_isAt_4 : decode cX12_isAt 4 = .ok (.aload_n 0, 1) := by decide +kernel
theorem dX12_isAt_5 : decode cX12_isAt 5 = .ok (.getfield 142, 3) := by decide +kernel
theorem dX12_isAt_8 : decode cX12_isAt 8 = .ok (.if_icmp .ge 33, 3) := by decide +kernel
theorem dX12_isAt_11 : decode cX12_isAt 11 = .ok (.aload_n 0, 1) := by decide +kernel
theorem dX12_isAt_12 : decode cX12_isAt 12 = .ok (.getfield 42, 3) := by decide +kernel
theorem dX12_isAt_15 : decode cX12_isAt 15 = .ok (.aload_n 0, 1) := by decide +kernel
theorem dX12_isAt_16 : decode cX12_isAt 16 = .ok (.getfield 139, 3) := by decide +kernel
theorem dX12_isAt_19 : decode cX12_isAt 19 = .ok (.baload, 1) := by decide +kernel
theorem dX12_isAt_20 : decode cX12_isAt 20 = .ok (.iload_n 1, 1) := by decide +kernel
theorem dX12_isAt_21 : decode cX12_isAt 21 = .ok (.if_icmp .lt 20, 3) := by decide +kernel
theorem dX12_isAt_24 : decode cX12_isAt 24 = .ok (.aload_n 0, 1) := by decide +kernel
theorem dX12_isAt_25 : decode cX12_isAt 25 = .ok (.getfield 42, 3) := by decide +kernel
theorem dX12_isAt_28 : decode cX12_isAt 28 = .ok (.aload_n 0, 1) := by decide +kernel
theorem dX12_isAt_29 : decode cX12_isAt 29 = .ok (.getfield 139, 3) := by decide +kernel
theorem dX12_isAt_32 : decode cX12_isAt 32 = .ok (.baload, 1) := by decide +kernel
theorem dX12_isAt_33 : decode cX12_isAt 33 = .ok (.iload_n 2, 1) := by decide +kernel
theorem dX12_isAt_34 : decode cX12_isAt 34 = .ok (.if_icmp .gt 7, 3) := by decide +kernel
theorem dX12_isAt_37 : decode cX12_isAt 37 = .ok (.iconst 1, 1) := by decide +kernel
theorem dX12_isAt_38 : decode cX12_isAt 38 = .ok (.goto 4, 3) := by decide +kernel
theorem dX12_isAt_41 : decode cX12_isAt 41 = .ok (.iconst 0, 1) := by decide +kernel
theorem dX12_isAt_42 : decode cX12_isAt 42 = .ok (.ireturn, 1) := by decide +kernel
theorem dX12_blanks_0 : decode cX12_blanks 0 = .ok (.aload_n 0, 1) := by decide +kernel
theorem dX12_blanks_1 : decode cX12_blanks 1 = .ok (.bipush 32, 2) := by decide +kernel
theorem dX12_blanks_3 : decode cX12_blanks 3 = .ok (.bipush 32, 2) := by decide +kernel
theorem dX12_blanks_5 : decode cX12_blanks 5 = .ok (.invokevirtual 145, 3) := by decide +kernel
theorem dX12_blanks_8 : decode cX12_blanks 8 = .ok (.ifCond .eq 16, 3) := by decide +kernel
theorem dX12_blanks_11 : decode cX12_blanks 11 = .ok (.aload_n 0, 1) := by decide +kernel
theorem dX12_blanks_12 : decode cX12_blanks 12 = .ok (.dup, 1) := by decide +kernel
theorem dX12_blanks_13 : decode cX12_blanks 13 = .ok (.getfield 139, 3) := by decide +kernel
theorem dX12_blanks_16 : decode cX12_blanks 16 = .ok (.iconst 1, 1) := by decide +kernel
theorem dX12_blanks_17 : decode cX12_blanks 17 = .ok (.iadd, 1) := by decide +kernel
theorem dX12_blanks_18 : decode cX12_blanks 18 = .ok (.putfield 139, 3) := by decide +kernel
theorem dX12_blanks_21 : decode cX12_blanks 21 = .ok (.goto (-21), 3) := by decide +kernel
theorem dX12_blanks_24 : decode cX12_blanks 24 = .ok (.aload_n 0, 1) := by decide +kernel
theorem dX12_blanks_25 : decode cX12_blanks 25 = .ok (.aload_n 0, 1) := by decide +kernel
theorem dX12_blanks_26 : decode cX12_blanks 26 = .ok (.getfield 139, 3) := by decide +kernel
theorem dX12_blanks_29 : decode cX12_blanks 29 = .ok (.putfield 149, 3) := by decide +kernel
theorem dX12_blanks_32 : decode cX12_blanks 32 = .ok (.return_, 1) := by decide +kernel
theorem dX12_letters_0 : decode cX12_letters 0 = .ok (.aload_n 0, 1) := by decide +kernel
theorem dX12_letters_1 : decode cX12_letters 1 = .ok (.invokevirtual 152, 3) := by decide +kernel
theorem dX12_letters_4 : decode cX12_letters 4 = .ok (.aload_n 0, 1) := by decide +kernel
theorem dX12_letters_5 : decode cX12_letters 5 = .ok (.bipush 97, 2) := by decide +kernel
theorem dX12_letters_7 : decode cX12_letters 7 = .ok (.bipush 122, 2) := by decide +kernel
theorem dX12_letters_9 : decode cX12_letters 9 = .ok (.invokevirtual 145, 3) := by decide +kernel
theorem dX12_letters_12 : decode cX12_letters 12 = .ok (.ifCond .eq 16, 3) := by decide +kernel
theorem dX12_letters_15 : decode cX12_letters 15 = .ok (.aload_n 0, 1) := by decide +kernel
theorem dX12_letters_16 : decode cX12_letters 16 = .ok (.dup, 1) := by decide +kernel
theorem dX12_letters_17 : decode cX12_letters 17 = .ok (.getfield 139, 3) := by decide +kernel
theorem dX12_letters_20 : decode cX12_letters 20 = .ok (.iconst 1, 1) := by decide +kernel
theorem dX12_letters_21 : decode cX12_letters 21 = .ok (.iadd, 1) := by decide +kernel
theorem dX12_letters_22 : decode cX12_letters 22 = .ok (.putfield 139, 3) := by decide +kernel
theorem dX12_letters_25 : decode cX12_letters 25 = .ok (.goto (-21), 3) := by decide +kernel
theorem dX12_letters_28 : decode cX12_letters 28 = .ok (.return_, 1) := by decide +kernel
theorem dX12_isWord_0 : decode cX12_isWord 0 = .ok (.aload_n 0, 1) := by decide +kernel
theorem dX12_isWord_1 : decode cX12_isWord 1 = .ok (.getfield 139, 3) := by decide +kernel
theorem dX12_isWord_4 : decode cX12_isWord 4 = .ok (.aload_n 0, 1) := by decide +kernel
theorem dX12_isWord_5 : decode cX12_isWord 5 = .ok (.getfield 149, 3) := by decide +kernel
theorem dX12_isWord_8 : decode cX12_isWord 8 = .ok (.isub, 1) := by decide +kernel
theorem dX12_isWord_9 : decode cX12_isWord 9 = .ok (.aload_n 1, 1) := by decide +kernel
theorem dX12_isWord_10 : decode cX12_isWord 10 = .ok (.invokevirtual 155, 3) := by decide +kernel
theorem dX12_isWord_13 : decode cX12_isWord 13 = .ok (.if_icmp .ne 7, 3) := by decide +kernel
theorem dX12_isWord_16 : decode cX12_isWord 16 = .ok (.iconst 1, 1) := by decide +kernel
theorem dX12_isWord_17 : decode cX12_isWord 17 = .ok (.goto 4, 3) := by decide +kernel
theorem dX12_isWord_20 : decode cX12_isWord 20 = .ok (.iconst 0, 1) := by decide +kernel
theorem dX12_isWord_21 : decode cX12_isWord 21 = .ok (.istore_n 2, 1) := by decide +kernel
theorem dX12_isWord_22 : decode cX12_isWord 22 = .ok (.iconst 0, 1) := by decide +kernel
theorem dX12_isWord_23 : decode cX12_isWord 23 = .ok (.istore_n 3, 1) := by decide +kernel
theorem dX12_isWord_24 : decode cX12_isWord 24 = .ok (.iload_n 2, 1) := by decide +kernel
theorem dX12_isWord_25 : decode cX12_isWord 25 = .ok (.ifCond .eq 42, 3) := by decide +kernel
theorem dX12_isWord_28 : decode cX12_isWord 28 = .ok (.iload_n 3, 1) := by decide +kernel
theorem dX12_isWord_29 : decode cX12_isWord 29 = .ok (.aload_n 1, 1) := by decide +kernel
theorem dX12_isWord_30 : decode cX12_isWord 30 = .ok (.invokevirtual 155, 3) := by decide +kernel
theorem dX12_isWord_33 : decode cX12_isWord 33 = .ok (.if_icmp .ge 34, 3) := by decide +kernel
theorem dX12_isWord_36 : decode cX12_isWord 36 = .ok (.aload_n 0, 1) := by decide +kernel
theorem dX12_isWord_37 : decode cX12_isWord 37 = .ok (.getfield 42, 3) := by decide +kernel
theorem dX12_isWord_40 : decode cX12_isWord 40 = .ok (.aload_n 0, 1) := by decide +kernel
theorem dX12_isWord_41 : decode cX12_isWord 41 = .ok (.getfield 149, 3) := by decide +kernel
theorem dX12_isWord_44 : decode cX12_isWord 44 = .ok (.iload_n 3, 1) := by decide +kernel
theorem dX12_isWord_45 : decode cX12_isWord 45 = .ok (.iadd, 1) := by decide +kernel
theorem dX12_isWord_46 : decode cX12_isWord 46 = .ok (.baload, 1) := by decide +kernel
theorem dX12_isWord_47 : decode cX12_isWord 47 = .ok (.aload_n 1, 1) := by decide +kernel
theorem dX12_isWord_48 : decode cX12_isWord 48 = .ok (.iload_n 3, 1) := by decide +kernel
theorem dX12_isWord_49 : decode cX12_isWord 49 = .ok (.invokevirtual 160, 3) := by decide +kernel
theorem dX12_isWord_52 : decode cX12_isWord 52 = .ok (.if_icmp .ne 7, 3) := by decide +kernel
theorem dX12_isWord_55 : decode cX12_isWord 55 = .ok (.iconst 1, 1) := by decide +kernel
theorem dX12_isWord_56 : decode cX12_isWord 56 = .ok (.goto 4, 3) := by decide +kernel
theorem dX12_isWord_59 : decode cX12_isWord 59 = .ok (.iconst 0, 1) := by decide +kernel
theorem dX12_isWord_60 : decode cX12_isWord 60 = .ok (.istore_n 2, 1) := by decide +kernel
theorem dX12_isWord_61 : decode cX12_isWord 61 = .ok (.iinc 3 1, 3) := by decide +kernel
theorem dX12_isWord_64 : decode cX12_isWord 64 = .ok (.goto (-40), 3) := by decide +kernel
theorem dX12_isWord_67 : decode cX12_isWord 67 = .ok (.iload_n 2, 1) := by decide +kernel
theorem dX12_isWord_68 : decode cX12_isWord 68 = .ok (.ireturn, 1) := by decide +kernel
theorem dX12_passes_0 : decode cX12_passes 0 = .ok (.aload_n 0, 1) := by decide +kernel
theorem dX12_passes_1 : decode cX12_passes 1 = .ok (.invokevirtual 164, 3) := by decide +kernel
theorem dX12_passes_4 : decode cX12_passes 4 = .ok (.aload_n 0, 1) := by decide +kernel
theorem dX12_passes_5 : decode cX12_passes 5 = .ok (.aload_n 1, 1) := by decide +kernel
theorem dX12_passes_6 : decode cX12_passes 6 = .ok (.invokevirtual 167, 3) := by decide +kernel
theorem dX12_passes_9 : decode cX12_passes 9 = .ok (.ifCond .eq 5, 3) := by decide +kernel
theorem dX12_passes_12 : decode cX12_passes 12 = .ok (.iconst 1, 1) := by decide +kernel
theorem dX12_passes_13 : decode cX12_passes 13 = .ok (.ireturn, 1) := by decide +kernel
theorem dX12_passes_14 : decode cX12_passes 14 = .ok (.aload_n 0, 1) := by decide +kernel
theorem dX12_passes_15 : decode cX12_passes 15 = .ok (.aload_n 0, 1) := by decide +kernel
theorem dX12_passes_16 : decode cX12_passes 16 = .ok (.getfield 149, 3) := by decide +kernel
theorem dX12_passes_19 : decode cX12_passes 19 = .ok (.putfield 139, 3) := by decide +kernel
theorem dX12_passes_22 : decode cX12_passes 22 = .ok (.iconst 0, 1) := by decide +kernel
theorem dX12_passes_23 : decode cX12_passes 23 = .ok (.ireturn, 1) := by decide +kernel
theorem dX12_needs_0 : decode cX12_needs 0 = .ok (.aload_n 0, 1) := by decide +kernel
theorem dX12_needs_1 : decode cX12_needs 1 = .ok (.invokevirtual 164, 3) := by decide +kernel
theorem dX12_needs_4 : decode cX12_needs 4 = .ok (.aload_n 0, 1) := by decide +kernel
theorem dX12_needs_5 : decode cX12_needs 5 = .ok (.aload_n 1, 1) := by decide +kernel
theorem dX12_needs_6 : decode cX12_needs 6 = .ok (.invokevirtual 167, 3) := by decide +kernel
theorem dX12_needs_9 : decode cX12_needs 9 = .ok (.ireturn, 1) := by decide +kernel
theorem dX12_sign_0 : decode cX12_sign 0 = .ok (.aload_n 0, 1) := by decide +kernel
theorem dX12_sign_1 : decode cX12_sign 1 = .ok (.invokevirtual 152, 3) := by decide +kernel
theorem dX12_sign_4 : decode cX12_sign 4 = .ok (.aload_n 0, 1) := by decide +kernel
theorem dX12_sign_5 : decode cX12_sign 5 = .ok (.iload_n 1, 1) := by decide +kernel
theorem dX12_sign_6 : decode cX12_sign 6 = .ok (.iload_n 1, 1) := by decide +kernel
theorem dX12_sign_7 : decode cX12_sign 7 = .ok (.invokevirtual 145, 3) := by decide +kernel
theorem dX12_sign_10 : decode cX12_sign 10 = .ok (.ifCond .ne 5, 3) := by decide +kernel
theorem dX12_sign_13 : decode cX12_sign 13 = .ok (.iconst 0, 1) := by decide +kernel
theorem dX12_sign_14 : decode cX12_sign 14 = .ok (.ireturn, 1) := by decide +kernel
theorem dX12_sign_15 : decode cX12_sign 15 = .ok (.aload_n 0, 1) := by decide +kernel
theorem dX12_sign_16 : decode cX12_sign 16 = .ok (.dup, 1) := by decide +kernel
theorem dX12_sign_17 : decode cX12_sign 17 = .ok (.getfield 139, 3) := by decide +kernel
theorem dX12_sign_20 : decode cX12_sign 20 = .ok (.iconst 1, 1) := by decide +kernel
theorem dX12_sign_21 : decode cX12_sign 21 = .ok (.iadd, 1) := by decide +kernel
theorem dX12_sign_22 : decode cX12_sign 22 = .ok (.putfield 139, 3) := by decide +kernel
theorem dX12_sign_25 : decode cX12_sign 25 = .ok (.iconst 1, 1) := by decide +kernel
theorem dX12_sign_26 : decode cX12_sign 26 = .ok (.ireturn, 1) := by decide +kernel
theorem dX12_number_0 : decode cX12_number 0 = .ok (.aload_n 0, 1) := by decide +kernel
theorem dX12_number_1 : decode cX12_number 1 = .ok (.invokevirtual 152, 3) := by decide +kernel
theorem dX12_number_4 : decode cX12_number 4 = .ok (.iconst 0, 1) := by decide +kernel
theorem dX12_number_5 : decode cX12_number 5 = .ok (.istore_n 3, 1) := by decide +kernel
theorem dX12_number_6 : decode cX12_number 6 = .ok (.aload_n 0, 1) := by decide +kernel
theorem dX12_number_7 : decode cX12_number 7 = .ok (.bipush 48, 2) := by decide +kernel
theorem dX12_number_9 : decode cX12_number 9 = .ok (.bipush 57, 2) := by decide +kernel
theorem dX12_number_11 : decode cX12_number 11 = .ok (.invokevirtual 145, 3) := by decide +kernel
theorem dX12_number_14 : decode cX12_number 14 = .ok (.ifCond .eq 51, 3) := by decide +kernel
theorem dX12_number_17 : decode cX12_number 17 = .ok (.aload_n 0, 1) := by decide +kernel
theorem dX12_number_18 : decode cX12_number 18 = .ok (.getfield 139, 3) := by decide +kernel
theorem dX12_number_21 : decode cX12_number 21 = .ok (.aload_n 0, 1) := by decide +kernel
theorem dX12_number_22 : decode cX12_number 22 = .ok (.getfield 149, 3) := by decide +kernel
theorem dX12_number_25 : decode cX12_number 25 = .ok (.isub, 1) := by decide +kernel
theorem dX12_number_26 : decode cX12_number 26 = .ok (.iconst 3, 1) := by decide +kernel
theorem dX12_number_27 : decode cX12_number 27 = .ok (.if_icmp .ge 23, 3) := by decide +kernel
theorem dX12_number_30 : decode cX12_number 30 = .ok (.bipush 10, 2) := by decide +kernel
theorem dX12_number_32 : decode cX12_number 32 = .ok (.iload_n 3, 1) := by decide +kernel
theorem dX12_number_33 : decode cX12_number 33 = .ok (.imul, 1) := by decide +kernel
theorem dX12_number_34 : decode cX12_number 34 = .ok (.aload_n 0, 1) := by decide +kernel
theorem dX12_number_35 : decode cX12_number 35 = .ok (.getfield 42, 3) := by decide +kernel
theorem dX12_number_38 : decode cX12_number 38 = .ok (.aload_n 0, 1) := by decide +kernel
theorem dX12_number_39 : decode cX12_number 39 = .ok (.getfield 139, 3) := by decide +kernel
theorem dX12_number_42 : decode cX12_number 42 = .ok (.baload, 1) := by decide +kernel
theorem dX12_number_43 : decode cX12_number 43 = .ok (.iadd, 1) := by decide +kernel
theorem dX12_number_44 : decode cX12_number 44 = .ok (.bipush 48, 2) := by decide +kernel
theorem dX12_number_46 : decode cX12_number 46 = .ok (.isub, 1) := by decide +kernel
theorem dX12_number_47 : decode cX12_number 47 = .ok (.goto 4, 3) := by decide +kernel
theorem dX12_number_50 : decode cX12_number 50 = .ok (.iload_n 3, 1) := by decide +kernel
theorem dX12_number_51 : decode cX12_number 51 = .ok (.istore_n 3, 1) := by decide +kernel
theorem dX12_number_52 : decode cX12_number 52 = .ok (.aload_n 0, 1) := by decide +kernel
theorem dX12_number_53 : decode cX12_number 53 = .ok (.dup, 1) := by decide +kernel
theorem dX12_number_54 : decode cX12_number 54 = .ok (.getfield 139, 3) := by decide +kernel
theorem dX12_number_57 : decode cX12_number 57 = .ok (.iconst 1, 1) := by decide +kernel
theorem dX12_number_58 : decode cX12_number 58 = .ok (.iadd, 1) := by decide +kernel
theorem dX12_number_59 : decode cX12_number 59 = .ok (.putfield 139, 3) := by decide +kernel
theorem dX12_number_62 : decode cX12_number 62 = .ok (.goto (-56), 3) := by decide +kernel
theorem dX12_number_65 : decode cX12_number 65 = .ok (.aload_n 0, 1) := by decide +kernel
theorem dX12_number_66 : decode cX12_number 66 = .ok (.getfield 139, 3) := by decide +kernel
theorem dX12_number_69 : decode cX12_number 69 = .ok (.aload_n 0, 1) := by decide +kernel
theorem dX12_number_70 : decode cX12_number 70 = .ok (.getfield 149, 3) := by decide +kernel
theorem dX12_number_73 : decode cX12_number 73 = .ok (.if_icmp .eq 26, 3) := by decide +kernel
theorem dX12_number_76 : decode cX12_number 76 = .ok (.aload_n 0, 1) := by decide +kernel
theorem dX12_number_77 : decode cX12_number 77 = .ok (.getfield 139, 3) := by decide +kernel
theorem dX12_number_80 : decode cX12_number 80 = .ok (.aload_n 0, 1) := by decide +kernel
theorem dX12_number_81 : decode cX12_number 81 = .ok (.getfield 149, 3) := by decide +kernel
theorem dX12_number_84 : decode cX12_number 84 = .ok (.isub, 1) := by decide +kernel
theorem dX12_number_85 : decode cX12_number 85 = .ok (.iconst 3, 1) := by decide +kernel
theorem dX12_number_86 : decode cX12_number 86 = .ok (.if_icmp .gt 13, 3) := by decide +kernel
theorem dX12_number_89 : decode cX12_number 89 = .ok (.iload_n 3, 1) := by decide +kernel
theorem dX12_number_90 : decode cX12_number 90 = .ok (.iload_n 1, 1) := by decide +kernel
theorem dX12_number_91 : decode cX12_number 91 = .ok (.if_icmp .lt 8, 3) := by decide +kernel
theorem dX12_number_94 : decode cX12_number 94 = .ok (.iload_n 3, 1) := by decide +kernel
theorem dX12_number_95 : decode cX12_number 95 = .ok (.iload_n 2, 1) := by decide +kernel
theorem dX12_number_96 : decode cX12_number 96 = .ok (.if_icmp .le 7, 3) := by decide +kernel
theorem dX12_number_99 : decode cX12_number 99 = .ok (.iconst (-1), 1) := by decide +kernel
theorem dX12_number_100 : decode cX12_number 100 = .ok (.goto 4, 3) := by decide +kernel
theorem dX12_number_103 : decode cX12_number 103 = .ok (.iload_n 3, 1) := by decide +kernel
theorem dX12_number_104 : decode cX12_number 104 = .ok (.ireturn, 1) := by decide +kernel
theorem dX12_beastsTold_0 : decode cX12_beastsTold 0 = .ok (.aload_n 0, 1) := by decide +kernel
theorem dX12_beastsTold_1 : decode cX12_beastsTold 1 = .ok (.invokevirtual 164, 3) := by decide +kernel
theorem dX12_beastsTold_4 : decode cX12_beastsTold 4 = .ok (.aload_n 0, 1) := by decide +kernel
theorem dX12_beastsTold_5 : decode cX12_beastsTold 5 = .ok (.getfield 139, 3) := by decide +kernel
theorem dX12_beastsTold_8 : decode cX12_beastsTold 8 = .ok (.aload_n 0, 1) := by decide +kernel
theorem dX12_beastsTold_9 : decode cX12_beastsTold 9 = .ok (.getfield 149, 3) := by decide +kernel
theorem dX12_beastsTold_12 : decode cX12_beastsTold 12 = .ok (.isub, 1) := by decide +kernel
theorem dX12_beastsTold_13 : decode cX12_beastsTold 13 = .ok (.istore_n 3, 1) := by decide +kernel
theorem dX12_beastsTold_14 : decode cX12_beastsTold 14 = .ok (.iload_n 3, 1) := by decide +kernel
theorem dX12_beastsTold_15 : decode cX12_beastsTold 15 = .ok (.ifCond .ne 30, 3) := by decide +kernel
theorem dX12_beastsTold_18 : decode cX12_beastsTold 18 = .ok (.iload_n 1, 1) := by decide +kernel
theorem dX12_beastsTold_19 : decode cX12_beastsTold 19 = .ok (.ifCond .ne 26, 3) := by decide +kernel
theorem dX12_beastsTold_22 : decode cX12_beastsTold 22 = .ok (.aload_n 0, 1) := by decide +kernel
theorem dX12_beastsTold_23 : decode cX12_beastsTold 23 = .ok (.bipush 46, 2) := by decide +kernel
theorem dX12_beastsTold_25 : decode cX12_beastsTold 25 = .ok (.bipush 46, 2) := by decide +kernel
theorem dX12_beastsTold_27 : decode cX12_beastsTold 27 = .ok (.invokevirtual 145, 3) := by decide +kernel
theorem dX12_beastsTold_30 : decode cX12_beastsTold 30 = .ok (.ifCond .eq 15, 3) := by decide +kernel
theorem dX12_beastsTold_33 : decode cX12_beastsTold 33 = .ok (.aload_n 0, 1) := by decide +kernel
theorem dX12_beastsTold_34 : decode cX12_beastsTold 34 = .ok (.dup, 1) := by decide +kernel
theorem dX12_beastsTold_35 : decode cX12_beastsTold 35 = .ok (.getfield 139, 3) := by decide +kernel
theorem dX12_beastsTold_38 : decode cX12_beastsTold 38 = .ok (.iconst 1, 1) := by decide +kernel
theorem dX12_beastsTold_39 : decode cX12_beastsTold 39 = .ok (.iadd, 1) := by decide +kernel
theorem dX12_beastsTold_40 : decode cX12_beastsTold 40 = .ok (.putfield 139, 3) := by decide +kernel
theorem dX12_beastsTold_43 : decode cX12_beastsTold 43 = .ok (.lconst 1, 1) := by decide +kernel
theorem dX12_beastsTold_44 : decode cX12_beastsTold 44 = .ok (.lreturn, 1) := by decide +kernel
theorem dX12_beastsTold_45 : decode cX12_beastsTold 45 = .ok (.iload_n 3, 1) := by decide +kernel
theorem dX12_beastsTold_46 : decode cX12_beastsTold 46 = .ok (.ifCond .eq 8, 3) := by decide +kernel
theorem dX12_beastsTold_49 : decode cX12_beastsTold 49 = .ok (.iload_n 3, 1) := by decide +kernel
theorem dX12_beastsTold_50 : decode cX12_beastsTold 50 = .ok (.iload_n 2, 1) := by decide +kernel
theorem dX12_beastsTold_51 : decode cX12_beastsTold 51 = .ok (.if_icmp .le 7, 3) := by decide +kernel
theorem dX12_beastsTold_54 : decode cX12_beastsTold 54 = .ok (.ldc2_w 171, 3) := by decide +kernel
theorem dX12_beastsTold_57 : decode cX12_beastsTold 57 = .ok (.lreturn, 1) := by decide +kernel
theorem dX12_beastsTold_58 : decode cX12_beastsTold 58 = .ok (.lconst 1, 1) := by decide +kernel
theorem dX12_beastsTold_59 : decode cX12_beastsTold 59 = .ok (.lstore 4, 2) := by decide +kernel
theorem dX12_beastsTold_61 : decode cX12_beastsTold 61 = .ok (.aload_n 0, 1) := by decide +kernel
theorem dX12_beastsTold_62 : decode cX12_beastsTold 62 = .ok (.getfield 149, 3) := by decide +kernel
theorem dX12_beastsTold_65 : decode cX12_beastsTold 65 = .ok (.istore 6, 2) := by decide +kernel
theorem dX12_beastsTold_67 : decode cX12_beastsTold 67 = .ok (.iload 6, 2) := by decide +kernel
theorem dX12_beastsTold_69 : decode cX12_beastsTold 69 = .ok (.aload_n 0, 1) := by decide +kernel
theorem dX12_beastsTold_70 : decode cX12_beastsTold 70 = .ok (.getfield 139, 3) := by decide +kernel
theorem dX12_beastsTold_73 : decode cX12_beastsTold 73 = .ok (.if_icmp .ge 43, 3) := by decide +kernel
theorem dX12_beastsTold_76 : decode cX12_beastsTold 76 = .ok (.aload_n 0, 1) := by decide +kernel
theorem dX12_beastsTold_77 : decode cX12_beastsTold 77 = .ok (.getfield 42, 3) := by decide +kernel
theorem dX12_beastsTold_80 : decode cX12_beastsTold 80 = .ok (.iload 6, 2) := by decide +kernel
theorem dX12_beastsTold_82 : decode cX12_beastsTold 82 = .ok (.baload, 1) := by decide +kernel
theorem dX12_beastsTold_83 : decode cX12_beastsTold 83 = .ok (.bipush 104, 2) := by decide +kernel
theorem dX12_beastsTold_85 : decode cX12_beastsTold 85 = .ok (.if_icmp .le 7, 3) := by decide +kernel
theorem dX12_beastsTold_88 : decode cX12_beastsTold 88 = .ok (.ldc2_w 171, 3) := by decide +kernel
theorem dX12_beastsTold_91 : decode cX12_beastsTold 91 = .ok (.lreturn, 1) := by decide +kernel
theorem dX12_beastsTold_92 : decode cX12_beastsTold 92 = .ok (.lload 4, 2) := by decide +kernel
theorem dX12_beastsTold_94 : decode cX12_beastsTold 94 = .ok (.iconst 3, 1) := by decide +kernel
theorem dX12_beastsTold_95 : decode cX12_beastsTold 95 = .ok (.lshl, 1) := by decide +kernel
theorem dX12_beastsTold_96 : decode cX12_beastsTold 96 = .ok (.aload_n 0, 1) := by decide +kernel
theorem dX12_beastsTold_97 : decode cX12_beastsTold 97 = .ok (.getfield 42, 3) := by decide +kernel
theorem dX12_beastsTold_100 : decode cX12_beastsTold 100 = .ok (.iload 6, 2) := by decide +kernel
theorem dX12_beastsTold_102 : decode cX12_beastsTold 102 = .ok (.baload, 1) := by decide +kernel
theorem dX12_beastsTold_103 : decode cX12_beastsTold 103 = .ok (.bipush 97, 2) := by decide +kernel
theorem dX12_beastsTold_105 : decode cX12_beastsTold 105 = .ok (.isub, 1) := by decide +kernel
theorem dX12_beastsTold_106 : decode cX12_beastsTold 106 = .ok (.i2l, 1) := by decide +kernel
theorem dX12_beastsTold_107 : decode cX12_beastsTold 107 = .ok (.lor, 1) := by decide +kernel
theorem dX12_beastsTold_108 : decode cX12_beastsTold 108 = .ok (.lstore 4, 2) := by decide +kernel
theorem dX12_beastsTold_110 : decode cX12_beastsTold 110 = .ok (.iinc 6 1, 3) := by decide +kernel
theorem dX12_beastsTold_113 : decode cX12_beastsTold 113 = .ok (.goto (-46), 3) := by decide +kernel
theorem dX12_beastsTold_116 : decode cX12_beastsTold 116 = .ok (.lload 4, 2) := by decide +kernel
theorem dX12_beastsTold_118 : decode cX12_beastsTold 118 = .ok (.lreturn, 1) := by decide +kernel
theorem dX12_fault_0 : decode cX12_fault 0 = .ok (.aload_n 0, 1) := by decide +kernel
theorem dX12_fault_1 : decode cX12_fault 1 = .ok (.iconst 0, 1) := by decide +kernel
theorem dX12_fault_2 : decode cX12_fault 2 = .ok (.putfield 3, 3) := by decide +kernel
theorem dX12_fault_5 : decode cX12_fault 5 = .ok (.aload_n 0, 1) := by decide +kernel
theorem dX12_fault_6 : decode cX12_fault 6 = .ok (.getfield 46, 3) := by decide +kernel
theorem dX12_fault_9 : decode cX12_fault 9 = .ok (.ireturn, 1) := by decide +kernel
theorem dX12_uses_0 : decode cX12_uses 0 = .ok (.aload_n 0, 1) := by decide +kernel
theorem dX12_uses_1 : decode cX12_uses 1 = .ok (.iconst 0, 1) := by decide +kernel
theorem dX12_uses_2 : decode cX12_uses 2 = .ok (.putfield 3, 3) := by decide +kernel
theorem dX12_uses_5 : decode cX12_uses 5 = .ok (.aload_n 0, 1) := by decide +kernel
theorem dX12_uses_6 : decode cX12_uses 6 = .ok (.aload_n 0, 1) := by decide +kernel
theorem dX12_uses_7 : decode cX12_uses 7 = .ok (.getfield 136, 3) := by decide +kernel
theorem dX12_uses_10 : decode cX12_uses 10 = .ok (.putfield 142, 3) := by decide +kernel
theorem dX12_uses_13 : decode cX12_uses 13 = .ok (.aload_n 0, 1) := by decide +kernel
theorem dX12_uses_14 : decode cX12_uses 14 = .ok (.iconst 0, 1) := by decide +kernel
theorem dX12_uses_15 : decode cX12_uses 15 = .ok (.putfield 136, 3) := by decide +kernel
theorem dX12_uses_18 : decode cX12_uses 18 = .ok (.aload_n 0, 1) := by decide +kernel
theorem dX12_uses_19 : decode cX12_uses 19 = .ok (.iconst 0, 1) := by decide +kernel
theorem dX12_uses_20 : decode cX12_uses 20 = .ok (.putfield 139, 3) := by decide +kernel
theorem dX12_uses_23 : decode cX12_uses 23 = .ok (.return_, 1) := by decide +kernel
theorem dX12_readRule_0 : decode cX12_readRule 0 = .ok (.aload_n 0, 1) := by decide +kernel
theorem dX12_readRule_1 : decode cX12_readRule 1 = .ok (.invokevirtual 121, 3) := by decide +kernel
theorem dX12_readRule_4 : decode cX12_readRule 4 = .ok (.bipush 12, 2) := by decide +kernel
theorem dX12_readRule_6 : decode cX12_readRule 6 = .ok (.if_icmp .ne 5, 3) := by decide +kernel
theorem dX12_readRule_9 : decode cX12_readRule 9 = .ok (.iconst 0, 1) := by decide +kernel
theorem dX12_readRule_10 : decode cX12_readRule 10 = .ok (.ireturn, 1) := by decide +kernel
theorem dX12_readRule_11 : decode cX12_readRule 11 = .ok (.aload_n 0, 1) := by decide +kernel
theorem dX12_readRule_12 : decode cX12_readRule 12 = .ok (.iconst 1, 1) := by decide +kernel
theorem dX12_readRule_13 : decode cX12_readRule 13 = .ok (.iconst 4, 1) := by decide +kernel
theorem dX12_readRule_14 : decode cX12_readRule 14 = .ok (.invokevirtual 173, 3) := by decide +kernel
theorem dX12_readRule_17 : decode cX12_readRule 17 = .ok (.lstore_n 1, 1) := by decide +kernel
theorem dX12_readRule_18 : decode cX12_readRule 18 = .ok (.lload_n 1, 1) := by decide +kernel
theorem dX12_readRule_19 : decode cX12_readRule 19 = .ok (.lconst 0, 1) := by decide +kernel
theorem dX12_readRule_20 : decode cX12_readRule 20 = .ok (.lcmp, 1) := by decide +kernel
theorem dX12_readRule_21 : decode cX12_readRule 21 = .ok (.ifCond .lt 12, 3) := by decide +kernel
theorem dX12_readRule_24 : decode cX12_readRule 24 = .ok (.aload_n 0, 1) := by decide +kernel
theorem dX12_readRule_25 : decode cX12_readRule 25 = .ok (.ldc 177, 2) := by decide +kernel
theorem dX12_readRule_27 : decode cX12_readRule 27 = .ok (.invokevirtual 179, 3) := by decide +kernel
theorem dX12_readRule_30 : decode cX12_readRule 30 = .ok (.ifCond .ne 5, 3) := by decide +kernel
theorem dX12_readRule_33 : decode cX12_readRule 33 = .ok (.iconst 0, 1) := by decide +kernel
theorem dX12_readRule_34 : decode cX12_readRule 34 = .ok (.ireturn, 1) := by decide +kernel
theorem dX12_readRule_35 : decode cX12_readRule 35 = .ok (.aload_n 0, 1) := by decide +kernel
theorem dX12_readRule_36 : decode cX12_readRule 36 = .ok (.iconst 0, 1) := by decide +kernel
theorem dX12_readRule_37 : decode cX12_readRule 37 = .ok (.iconst 5, 1) := by decide +kernel
theorem dX12_readRule_38 : decode cX12_readRule 38 = .ok (.invokevirtual 173, 3) := by decide +kernel
theorem dX12_readRule_41 : decode cX12_readRule 41 = .ok (.lstore_n 3, 1) := by decide +kernel
theorem dX12_readRule_42 : decode cX12_readRule 42 = .ok (.lload_n 3, 1) := by decide +kernel
theorem dX12_readRule_43 : decode cX12_readRule 43 = .ok (.lconst 0, 1) := by decide +kernel
theorem dX12_readRule_44 : decode cX12_readRule 44 = .ok (.lcmp, 1) := by decide +kernel
theorem dX12_readRule_45 : decode cX12_readRule 45 = .ok (.ifCond .lt 9, 3) := by decide +kernel
theorem dX12_readRule_48 : decode cX12_readRule 48 = .ok (.aload_n 0, 1) := by decide +kernel
theorem dX12_readRule_49 : decode cX12_readRule 49 = .ok (.lload_n 1, 1) := by decide +kernel
theorem dX12_readRule_50 : decode cX12_readRule 50 = .ok (.lload_n 3, 1) := by decide +kernel
theorem dX12_readRule_51 : decode cX12_readRule 51 = .ok (.invokevirtual 182, 3) := by decide +kernel
theorem dX12_readRule_54 : decode cX12_readRule 54 = .ok (.lload_n 3, 1) := by decide +kernel
theorem dX12_readRule_55 : decode cX12_readRule 55 = .ok (.lconst 0, 1) := by decide +kernel
theorem dX12_readRule_56 : decode cX12_readRule 56 = .ok (.lcmp, 1) := by decide +kernel
theorem dX12_readRule_57 : decode cX12_readRule 57 = .ok (.ifCond .lt 7, 3) := by decide +kernel
theorem dX12_readRule_60 : decode cX12_readRule 60 = .ok (.iconst 1, 1) := by decide +kernel
theorem dX12_readRule_61 : decode cX12_readRule 61 = .ok (.goto 4, 3) := by decide +kernel
theorem dX12_readRule_64 : decode cX12_readRule 64 = .ok (.iconst 0, 1) := by decide +kernel
theorem dX12_readRule_65 : decode cX12_readRule 65 = .ok (.ireturn, 1) := by decide +kernel
theorem dX12_readField_0 : decode cX12_readField 0 = .ok (.aload_n 0, 1) := by decide +kernel
theorem dX12_readField_1 : decode cX12_readField 1 = .ok (.invokevirtual 129, 3) := by decide +kernel
theorem dX12_readField_4 : decode cX12_readField 4 = .ok (.bipush 6, 2) := by decide +kernel
theorem dX12_readField_6 : decode cX12_readField 6 = .ok (.if_icmp .ne 5, 3) := by decide +kernel
theorem dX12_readField_9 : decode cX12_readField 9 = .ok (.iconst 0, 1) := by decide +kernel
theorem dX12_readField_10 : decode cX12_readField 10 = .ok (.ireturn, 1) := by decide +kernel
theorem dX12_readField_11 : decode cX12_readField 11 = .ok (.aload_n 0, 1) := by decide +kernel
theorem dX12_readField_12 : decode cX12_readField 12 = .ok (.iconst 0, 1) := by decide +kernel
theorem dX12_readField_13 : decode cX12_readField 13 = .ok (.bipush 20, 2) := by decide +kernel
theorem dX12_readField_15 : decode cX12_readField 15 = .ok (.invokevirtual 173, 3) := by decide +kernel
theorem dX12_readField_18 : decode cX12_readField 18 = .ok (.lstore_n 1, 1) := by decide +kernel
theorem dX12_readField_19 : decode cX12_readField 19 = .ok (.lload_n 1, 1) := by decide +kernel
theorem dX12_readField_20 : decode cX12_readField 20 = .ok (.lconst 0, 1) := by decide +kernel
theorem dX12_readField_21 : decode cX12_readField 21 = .ok (.lcmp, 1) := by decide +kernel
theorem dX12_readField_22 : decode cX12_readField 22 = .ok (.ifCond .ge 5, 3) := by decide +kernel
theorem dX12_readField_25 : decode cX12_readField 25 = .ok (.iconst 0, 1) := by decide +kernel
theorem dX12_readField_26 : decode cX12_readField 26 = .ok (.ireturn, 1) := by decide +kernel
theorem dX12_readField_27 : decode cX12_readField 27 = .ok (.aload_n 0, 1) := by decide +kernel
theorem dX12_readField_28 : decode cX12_readField 28 = .ok (.aload_n 0, 1) := by decide +kernel
theorem dX12_readField_29 : decode cX12_readField 29 = .ok (.invokevirtual 129, 3) := by decide +kernel
theorem dX12_readField_32 : decode cX12_readField 32 = .ok (.lload_n 1, 1) := by decide +kernel
theorem dX12_readField_33 : decode cX12_readField 33 = .ok (.invokevirtual 186, 3) := by decide +kernel
theorem dX12_readField_36 : decode cX12_readField 36 = .ok (.aload_n 0, 1) := by decide +kernel
theorem dX12_readField_37 : decode cX12_readField 37 = .ok (.getfield 29, 3) := by decide +kernel
theorem dX12_readField_40 : decode cX12_readField 40 = .ok (.iconst 1, 1) := by decide +kernel
theorem dX12_readField_41 : decode cX12_readField 41 = .ok (.dup2, 1) := by decide +kernel
theorem dX12_readField_42 : decode cX12_readField 42 = .ok (.iaload, 1) := by decide +kernel
theorem dX12_readField_43 : decode cX12_readField 43 = .ok (.iconst 1, 1) := by decide +kernel
theorem dX12_readField_44 : decode cX12_readField 44 = .ok (.iadd, 1) := by decide +kernel
theorem dX12_readField_45 : decode cX12_readField 45 = .ok (.iastore, 1) := by decide +kernel
theorem dX12_readField_46 : decode cX12_readField 46 = .ok (.iconst 1, 1) := by decide +kernel
theorem dX12_readField_47 : decode cX12_readField 47 = .ok (.ireturn, 1) := by decide +kernel
theorem dX12_readSeen_0 : decode cX12_readSeen 0 = .ok (.aload_n 0, 1) := by decide +kernel
theorem dX12_readSeen_1 : decode cX12_readSeen 1 = .ok (.getfield 29, 3) := by decide +kernel
theorem dX12_readSeen_4 : decode cX12_readSeen 4 = .ok (.iconst 2, 1) := by decide +kernel
theorem dX12_readSeen_5 : decode cX12_readSeen 5 = .ok (.iaload, 1) := by decide +kernel
theorem dX12_readSeen_6 : decode cX12_readSeen 6 = .ok (.istore_n 1, 1) := by decide +kernel
theorem dX12_readSeen_7 : decode cX12_readSeen 7 = .ok (.iload_n 1, 1) := by decide +kernel
theorem dX12_readSeen_8 : decode cX12_readSeen 8 = .ok (.bipush 10, 2) := by decide +kernel
theorem dX12_readSeen_10 : decode cX12_readSeen 10 = .ok (.if_icmp .ne 5, 3) := by decide +kernel
theorem dX12_readSeen_13 : decode cX12_readSeen 13 = .ok (.iconst 0, 1) := by decide +kernel
theorem dX12_readSeen_14 : decode cX12_readSeen 14 = .ok (.ireturn, 1) := by decide +kernel
theorem dX12_readSeen_15 : decode cX12_readSeen 15 = .ok (.aload_n 0, 1) := by decide +kernel
theorem dX12_readSeen_16 : decode cX12_readSeen 16 = .ok (.iconst 0, 1) := by decide +kernel
theorem dX12_readSeen_17 : decode cX12_readSeen 17 = .ok (.bipush 20, 2) := by decide +kernel
theorem dX12_readSeen_19 : decode cX12_readSeen 19 = .ok (.invokevirtual 173, 3) := by decide +kernel
theorem dX12_readSeen_22 : decode cX12_readSeen 22 = .ok (.lstore_n 2, 1) := by decide +kernel
theorem dX12_readSeen_23 : decode cX12_readSeen 23 = .ok (.lload_n 2, 1) := by decide +kernel
theorem dX12_readSeen_24 : decode cX12_readSeen 24 = .ok (.lconst 0, 1) := by decide +kernel
theorem dX12_readSeen_25 : decode cX12_readSeen 25 = .ok (.lcmp, 1) := by decide +kernel
theorem dX12_readSeen_26 : decode cX12_readSeen 26 = .ok (.ifCond .lt 12, 3) := by decide +kernel
theorem dX12_readSeen_29 : decode cX12_readSeen 29 = .ok (.aload_n 0, 1) := by decide +kernel
theorem dX12_readSeen_30 : decode cX12_readSeen 30 = .ok (.ldc 177, 2) := by decide +kernel
theorem dX12_readSeen_32 : decode cX12_readSeen 32 = .ok (.invokevirtual 179, 3) := by decide +kernel
theorem dX12_readSeen_35 : decode cX12_readSeen 35 = .ok (.ifCond .ne 5, 3) := by decide +kernel
theorem dX12_readSeen_38 : decode cX12_readSeen 38 = .ok (.iconst 0, 1) := by decide +kernel
theorem dX12_readSeen_39 : decode cX12_readSeen 39 = .ok (.ireturn, 1) := by decide +kernel
theorem dX12_readSeen_40 : decode cX12_readSeen 40 = .ok (.aload_n 0, 1) := by decide +kernel
theorem dX12_readSeen_41 : decode cX12_readSeen 41 = .ok (.iconst 0, 1) := by decide +kernel
theorem dX12_readSeen_42 : decode cX12_readSeen 42 = .ok (.bipush 20, 2) := by decide +kernel
theorem dX12_readSeen_44 : decode cX12_readSeen 44 = .ok (.invokevirtual 173, 3) := by decide +kernel
theorem dX12_readSeen_47 : decode cX12_readSeen 47 = .ok (.lstore 4, 2) := by decide +kernel
theorem dX12_readSeen_49 : decode cX12_readSeen 49 = .ok (.lload 4, 2) := by decide +kernel
theorem dX12_readSeen_51 : decode cX12_readSeen 51 = .ok (.lconst 0, 1) := by decide +kernel
theorem dX12_readSeen_52 : decode cX12_readSeen 52 = .ok (.lcmp, 1) := by decide +kernel
theorem dX12_readSeen_53 : decode cX12_readSeen 53 = .ok (.ifCond .ge 5, 3) := by decide +kernel
theorem dX12_readSeen_56 : decode cX12_readSeen 56 = .ok (.iconst 0, 1) := by decide +kernel
theorem dX12_readSeen_57 : decode cX12_readSeen 57 = .ok (.ireturn, 1) := by decide +kernel
theorem dX12_readSeen_58 : decode cX12_readSeen 58 = .ok (.aload_n 0, 1) := by decide +kernel
theorem dX12_readSeen_59 : decode cX12_readSeen 59 = .ok (.sipush 299, 3) := by decide +kernel
theorem dX12_readSeen_62 : decode cX12_readSeen 62 = .ok (.iconst 4, 1) := by decide +kernel
theorem dX12_readSeen_63 : decode cX12_readSeen 63 = .ok (.iload_n 1, 1) := by decide +kernel
theorem dX12_readSeen_64 : decode cX12_readSeen 64 = .ok (.imul, 1) := by decide +kernel
theorem dX12_readSeen_65 : decode cX12_readSeen 65 = .ok (.iadd, 1) := by decide +kernel
theorem dX12_readSeen_66 : decode cX12_readSeen 66 = .ok (.lload_n 2, 1) := by decide +kernel
theorem dX12_readSeen_67 : decode cX12_readSeen 67 = .ok (.invokevirtual 132, 3) := by decide +kernel
theorem dX12_readSeen_70 : decode cX12_readSeen 70 = .ok (.aload_n 0, 1) := by decide +kernel
theorem dX12_readSeen_71 : decode cX12_readSeen 71 = .ok (.sipush 299, 3) := by decide +kernel
theorem dX12_readSeen_74 : decode cX12_readSeen 74 = .ok (.iconst 4, 1) := by decide +kernel
theorem dX12_readSeen_75 : decode cX12_readSeen 75 = .ok (.iload_n 1, 1) := by decide +kernel
theorem dX12_readSeen_76 : decode cX12_readSeen 76 = .ok (.imul, 1) := by decide +kernel
theorem dX12_readSeen_77 : decode cX12_readSeen 77 = .ok (.iadd, 1) := by decide +kernel
theorem dX12_readSeen_78 : decode cX12_readSeen 78 = .ok (.iconst 2, 1) := by decide +kernel
theorem dX12_readSeen_79 : decode cX12_readSeen 79 = .ok (.iadd, 1) := by decide +kernel
theorem dX12_readSeen_80 : decode cX12_readSeen 80 = .ok (.lload 4, 2) := by decide +kernel
theorem dX12_readSeen_82 : decode cX12_readSeen 82 = .ok (.invokevirtual 132, 3) := by decide +kernel
theorem dX12_readSeen_85 : decode cX12_readSeen 85 = .ok (.aload_n 0, 1) := by decide +kernel
theorem dX12_readSeen_86 : decode cX12_readSeen 86 = .ok (.getfield 29, 3) := by decide +kernel
theorem dX12_readSeen_89 : decode cX12_readSeen 89 = .ok (.iconst 2, 1) := by decide +kernel
theorem dX12_readSeen_90 : decode cX12_readSeen 90 = .ok (.dup2, 1) := by decide +kernel
theorem dX12_readSeen_91 : decode cX12_readSeen 91 = .ok (.iaload, 1) := by decide +kernel
theorem dX12_readSeen_92 : decode cX12_readSeen 92 = .ok (.iconst 1, 1) := by decide +kernel
theorem dX12_readSeen_93 : decode cX12_readSeen 93 = .ok (.iadd, 1) := by decide +kernel
theorem dX12_readSeen_94 : decode cX12_readSeen 94 = .ok (.iastore, 1) := by decide +kernel
theorem dX12_readSeen_95 : decode cX12_readSeen 95 = .ok (.iconst 1, 1) := by decide +kernel
theorem dX12_readSeen_96 : decode cX12_readSeen 96 = .ok (.ireturn, 1) := by decide +kernel
theorem dX12_readFirst_0 : decode cX12_readFirst 0 = .ok (.aload_n 0, 1) := by decide +kernel
theorem dX12_readFirst_1 : decode cX12_readFirst 1 = .ok (.invokevirtual 164, 3) := by decide +kernel
theorem dX12_readFirst_4 : decode cX12_readFirst 4 = .ok (.aload_n 0, 1) := by decide +kernel
theorem dX12_readFirst_5 : decode cX12_readFirst 5 = .ok (.ldc 189, 2) := by decide +kernel
theorem dX12_readFirst_7 : decode cX12_readFirst 7 = .ok (.invokevirtual 167, 3) := by decide +kernel
theorem dX12_readFirst_10 : decode cX12_readFirst 10 = .ok (.ifCond .eq 7, 3) := by decide +kernel
theorem dX12_readFirst_13 : decode cX12_readFirst 13 = .ok (.iconst 0, 1) := by decide +kernel
theorem dX12_readFirst_14 : decode cX12_readFirst 14 = .ok (.goto 43, 3) := by decide +kernel
theorem dX12_readFirst_17 : decode cX12_readFirst 17 = .ok (.aload_n 0, 1) := by decide +kernel
theorem dX12_readFirst_18 : decode cX12_readFirst 18 = .ok (.ldc 190, 2) := by decide +kernel
theorem dX12_readFirst_20 : decode cX12_readFirst 20 = .ok (.invokevirtual 167, 3) := by decide +kernel
theorem dX12_readFirst_23 : decode cX12_readFirst 23 = .ok (.ifCond .eq 7, 3) := by decide +kernel
theorem dX12_readFirst_26 : decode cX12_readFirst 26 = .ok (.iconst 1, 1) := by decide +kernel
theorem dX12_readFirst_27 : decode cX12_readFirst 27 = .ok (.goto 30, 3) := by decide +kernel
theorem dX12_readFirst_30 : decode cX12_readFirst 30 = .ok (.aload_n 0, 1) := by decide +kernel
theorem dX12_readFirst_31 : decode cX12_readFirst 31 = .ok (.ldc 191, 2) := by decide +kernel
theorem dX12_readFirst_33 : decode cX12_readFirst 33 = .ok (.invokevirtual 167, 3) := by decide +kernel
theorem dX12_readFirst_36 : decode cX12_readFirst 36 = .ok (.ifCond .eq 7, 3) := by decide +kernel
theorem dX12_readFirst_39 : decode cX12_readFirst 39 = .ok (.iconst 2, 1) := by decide +kernel
theorem dX12_readFirst_40 : decode cX12_readFirst 40 = .ok (.goto 17, 3) := by decide +kernel
theorem dX12_readFirst_43 : decode cX12_readFirst 43 = .ok (.aload_n 0, 1) := by decide +kernel
theorem dX12_readFirst_44 : decode cX12_readFirst 44 = .ok (.ldc 193, 2) := by decide +kernel
theorem dX12_readFirst_46 : decode cX12_readFirst 46 = .ok (.invokevirtual 167, 3) := by decide +kernel
theorem dX12_readFirst_49 : decode cX12_readFirst 49 = .ok (.ifCond .eq 7, 3) := by decide +kernel
theorem dX12_readFirst_52 : decode cX12_readFirst 52 = .ok (.iconst 3, 1) := by decide +kernel
theorem dX12_readFirst_53 : decode cX12_readFirst 53 = .ok (.goto 4, 3) := by decide +kernel
theorem dX12_readFirst_56 : decode cX12_readFirst 56 = .ok (.iconst (-1), 1) := by decide +kernel
theorem dX12_readFirst_57 : decode cX12_readFirst 57 = .ok (.istore_n 1, 1) := by decide +kernel
theorem dX12_readFirst_58 : decode cX12_readFirst 58 = .ok (.iload_n 1, 1) := by decide +kernel
theorem dX12_readFirst_59 : decode cX12_readFirst 59 = .ok (.ifCond .lt 10, 3) := by decide +kernel
theorem dX12_readFirst_62 : decode cX12_readFirst 62 = .ok (.aload_n 0, 1) := by decide +kernel
theorem dX12_readFirst_63 : decode cX12_readFirst 63 = .ok (.getfield 29, 3) := by decide +kernel
theorem dX12_readFirst_66 : decode cX12_readFirst 66 = .ok (.iconst 5, 1) := by decide +kernel
theorem dX12_readFirst_67 : decode cX12_readFirst 67 = .ok (.iload_n 1, 1) := by decide +kernel
theorem dX12_readFirst_68 : decode cX12_readFirst 68 = .ok (.iastore, 1) := by decide +kernel
theorem dX12_readFirst_69 : decode cX12_readFirst 69 = .ok (.iload_n 1, 1) := by decide +kernel
theorem dX12_readFirst_70 : decode cX12_readFirst 70 = .ok (.ifCond .lt 7, 3) := by decide +kernel
theorem dX12_readFirst_73 : decode cX12_readFirst 73 = .ok (.iconst 1, 1) := by decide +kernel
theorem dX12_readFirst_74 : decode cX12_readFirst 74 = .ok (.goto 4, 3) := by decide +kernel
theorem dX12_readFirst_77 : decode cX12_readFirst 77 = .ok (.iconst 0, 1) := by decide +kernel
theorem dX12_readFirst_78 : decode cX12_readFirst 78 = .ok (.ireturn, 1) := by decide +kernel
theorem dX12_readWeight_0 : decode cX12_readWeight 0 = .ok (.aload_n 0, 1) := by decide +kernel
theorem dX12_readWeight_1 : decode cX12_readWeight 1 = .ok (.iconst 1, 1) := by decide +kernel
theorem dX12_readWeight_2 : decode cX12_readWeight 2 = .ok (.iconst 1, 1) := by decide +kernel
theorem dX12_readWeight_3 : decode cX12_readWeight 3 = .ok (.invokevirtual 173, 3) := by decide +kernel
theorem dX12_readWeight_6 : decode cX12_readWeight 6 = .ok (.lstore_n 1, 1) := by decide +kernel
theorem dX12_readWeight_7 : decode cX12_readWeight 7 = .ok (.lload_n 1, 1) := by decide +kernel
theorem dX12_readWeight_8 : decode cX12_readWeight 8 = .ok (.lconst 0, 1) := by decide +kernel
theorem dX12_readWeight_9 : decode cX12_readWeight 9 = .ok (.lcmp, 1) := by decide +kernel
theorem dX12_readWeight_10 : decode cX12_readWeight 10 = .ok (.ifCond .ge 7, 3) := by decide +kernel
theorem dX12_readWeight_13 : decode cX12_readWeight 13 = .ok (.iconst (-1), 1) := by decide +kernel
theorem dX12_readWeight_14 : decode cX12_readWeight 14 = .ok (.goto 10, 3) := by decide +kernel
theorem dX12_readWeight_17 : decode cX12_readWeight 17 = .ok (.aload_n 0, 1) := by decide +kernel
theorem dX12_readWeight_18 : decode cX12_readWeight 18 = .ok (.iconst 0, 1) := by decide +kernel
theorem dX12_readWeight_19 : decode cX12_readWeight 19 = .ok (.bipush 99, 2) := by decide +kernel
theorem dX12_readWeight_21 : decode cX12_readWeight 21 = .ok (.invokevirtual 195, 3) := by decide +kernel
theorem dX12_readWeight_24 : decode cX12_readWeight 24 = .ok (.istore_n 3, 1) := by decide +kernel
theorem dX12_readWeight_25 : decode cX12_readWeight 25 = .ok (.iload_n 3, 1) := by decide +kernel
theorem dX12_readWeight_26 : decode cX12_readWeight 26 = .ok (.ifCond .lt 17, 3) := by decide +kernel
theorem dX12_readWeight_29 : decode cX12_readWeight 29 = .ok (.aload_n 0, 1) := by decide +kernel
theorem dX12_readWeight_30 : decode cX12_readWeight 30 = .ok (.getfield 29, 3) := by decide +kernel
theorem dX12_readWeight_33 : decode cX12_readWeight 33 = .ok (.bipush 9, 2) := by decide +kernel
theorem dX12_readWeight_35 : decode cX12_readWeight 35 = .ok (.lload_n 1, 1) := by decide +kernel
theorem dX12_readWeight_36 : decode cX12_readWeight 36 = .ok (.iconst 0, 1) := by decide +kernel
theorem dX12_readWeight_37 : decode cX12_readWeight 37 = .ok (.invokestatic 199, 3) := by decide +kernel
theorem dX12_readWeight_40 : decode cX12_readWeight 40 = .ok (.iadd, 1) := by decide +kernel
theorem dX12_readWeight_41 : decode cX12_readWeight 41 = .ok (.iload_n 3, 1) := by decide +kernel
theorem dX12_readWeight_42 : decode cX12_readWeight 42 = .ok (.iastore, 1) := by decide +kernel
theorem dX12_readWeight_43 : decode cX12_readWeight 43 = .ok (.iload_n 3, 1) := by decide +kernel
theorem dX12_readWeight_44 : decode cX12_readWeight 44 = .ok (.ifCond .lt 7, 3) := by decide +kernel
theorem dX12_readWeight_47 : decode cX12_readWeight 47 = .ok (.iconst 1, 1) := by decide +kernel
theorem dX12_readWeight_48 : decode cX12_readWeight 48 = .ok (.goto 4, 3) := by decide +kernel
theorem dX12_readWeight_51 : decode cX12_readWeight 51 = .ok (.iconst 0, 1) := by decide +kernel
theorem dX12_readWeight_52 : decode cX12_readWeight 52 = .ok (.ireturn, 1) := by decide +kernel
theorem dX12_readValleyLine_0 : decode cX12_readValleyLine 0 = .ok (.aload_n 0, 1) := by decide +kernel
theorem dX12_readValleyLine_1 : decode cX12_readValleyLine 1 = .ok (.ldc 191, 2) := by decide +kernel
theorem dX12_readValleyLine_3 : decode cX12_readValleyLine 3 = .ok (.invokevirtual 167, 3) := by decide +kernel
theorem dX12_readValleyLine_6 : decode cX12_readValleyLine 6 = .ok (.ifCond .eq 8, 3) := by decide +kernel
theorem dX12_readValleyLine_9 : decode cX12_readValleyLine 9 = .ok (.aload_n 0, 1) := by decide +kernel
theorem dX12_readValleyLine_10 : decode cX12_readValleyLine 10 = .ok (.invokevirtual 203, 3) := by decide +kernel
theorem dX12_readValleyLine_13 : decode cX12_readValleyLine 13 = .ok (.ireturn, 1) := by decide +kernel
theorem dX12_readValleyLine_14 : decode cX12_readValleyLine 14 = .ok (.aload_n 0, 1) := by decide +kernel
theorem dX12_readValleyLine_15 : decode cX12_readValleyLine 15 = .ok (.ldc 207, 2) := by decide +kernel
theorem dX12_readValleyLine_17 : decode cX12_readValleyLine 17 = .ok (.invokevirtual 167, 3) := by decide +kernel
theorem dX12_readValleyLine_20 : decode cX12_readValleyLine 20 = .ok (.ifCond .eq 8, 3) := by decide +kernel
theorem dX12_readValleyLine_23 : decode cX12_readValleyLine 23 = .ok (.aload_n 0, 1) := by decide +kernel
theorem dX12_readValleyLine_24 : decode cX12_readValleyLine 24 = .ok (.invokevirtual 209, 3) := by decide +kernel
theorem dX12_readValleyLine_27 : decode cX12_readValleyLine 27 = .ok (.ireturn, 1) := by decide +kernel
theorem dX12_readValleyLine_28 : decode cX12_readValleyLine 28 = .ok (.aload_n 0, 1) := by decide +kernel
theorem dX12_readValleyLine_29 : decode cX12_readValleyLine 29 = .ok (.ldc 212, 2) := by decide +kernel
theorem dX12_readValleyLine_31 : decode cX12_readValleyLine 31 = .ok (.invokevirtual 167, 3) := by decide +kernel
theorem dX12_readValleyLine_34 : decode cX12_readValleyLine 34 = .ok (.ifCond .eq 8, 3) := by decide +kernel
theorem dX12_readValleyLine_37 : decode cX12_readValleyLine 37 = .ok (.aload_n 0, 1) := by decide +kernel
theorem dX12_readValleyLine_38 : decode cX12_readValleyLine 38 = .ok (.invokevirtual 214, 3) := by decide +kernel
theorem dX12_readValleyLine_41 : decode cX12_readValleyLine 41 = .ok (.ireturn, 1) := by decide +kernel
theorem dX12_readValleyLine_42 : decode cX12_readValleyLine 42 = .ok (.aload_n 0, 1) := by decide +kernel
theorem dX12_readValleyLine_43 : decode cX12_readValleyLine 43 = .ok (.ldc 217, 2) := by decide +kernel
theorem dX12_readValleyLine_45 : decode cX12_readValleyLine 45 = .ok (.invokevirtual 167, 3) := by decide +kernel
theorem dX12_readValleyLine_48 : decode cX12_readValleyLine 48 = .ok (.ifCond .eq 8, 3) := by decide +kernel
theorem dX12_readValleyLine_51 : decode cX12_readValleyLine 51 = .ok (.aload_n 0, 1) := by decide +kernel
theorem dX12_readValleyLine_52 : decode cX12_readValleyLine 52 = .ok (.invokevirtual 219, 3) := by decide +kernel
theorem dX12_readValleyLine_55 : decode cX12_readValleyLine 55 = .ok (.ireturn, 1) := by decide +kernel
theorem dX12_readValleyLine_56 : decode cX12_readValleyLine 56 = .ok (.aload_n 0, 1) := by decide +kernel
theorem dX12_readValleyLine_57 : decode cX12_readValleyLine 57 = .ok (.ldc 222, 2) := by decide +kernel
theorem dX12_readValleyLine_59 : decode cX12_readValleyLine 59 = .ok (.invokevirtual 167, 3) := by decide +kernel
theorem dX12_readValleyLine_62 : decode cX12_readValleyLine 62 = .ok (.ifCond .eq 8, 3) := by decide +kernel
theorem dX12_readValleyLine_65 : decode cX12_readValleyLine 65 = .ok (.aload_n 0, 1) := by decide +kernel
theorem dX12_readValleyLine_66 : decode cX12_readValleyLine 66 = .ok (.invokevirtual 224, 3) := by decide +kernel
theorem dX12_readValleyLine_69 : decode cX12_readValleyLine 69 = .ok (.ireturn, 1) := by decide +kernel
theorem dX12_readValleyLine_70 : decode cX12_readValleyLine 70 = .ok (.aload_n 0, 1) := by decide +kernel
theorem dX12_readValleyLine_71 : decode cX12_readValleyLine 71 = .ok (.ldc 227, 2) := by decide +kernel
theorem dX12_readValleyLine_73 : decode cX12_readValleyLine 73 = .ok (.invokevirtual 167, 3) := by decide +kernel
theorem dX12_readValleyLine_76 : decode cX12_readValleyLine 76 = .ok (.ifCond .eq 33, 3) := by decide +kernel
theorem dX12_readValleyLine_79 : decode cX12_readValleyLine 79 = .ok (.aload_n 0, 1) := by decide +kernel
theorem dX12_readValleyLine_80 : decode cX12_readValleyLine 80 = .ok (.getfield 29, 3) := by decide +kernel
theorem dX12_readValleyLine_83 : decode cX12_readValleyLine 83 = .ok (.bipush 6, 2) := by decide +kernel
theorem dX12_readValleyLine_85 : decode cX12_readValleyLine 85 = .ok (.aload_n 0, 1) := by decide +kernel
theorem dX12_readValleyLine_86 : decode cX12_readValleyLine 86 = .ok (.iconst 0, 1) := by decide +kernel
theorem dX12_readValleyLine_87 : decode cX12_readValleyLine 87 = .ok (.bipush 100, 2) := by decide +kernel
theorem dX12_readValleyLine_89 : decode cX12_readValleyLine 89 = .ok (.invokevirtual 195, 3) := by decide +kernel
theorem dX12_readValleyLine_92 : decode cX12_readValleyLine 92 = .ok (.iastore, 1) := by decide +kernel
theorem dX12_readValleyLine_93 : decode cX12_readValleyLine 93 = .ok (.aload_n 0, 1) := by decide +kernel
theorem dX12_readValleyLine_94 : decode cX12_readValleyLine 94 = .ok (.getfield 29, 3) := by decide +kernel
theorem dX12_readValleyLine_97 : decode cX12_readValleyLine 97 = .ok (.bipush 6, 2) := by decide +kernel
theorem dX12_readValleyLine_99 : decode cX12_readValleyLine 99 = .ok (.iaload, 1) := by decide +kernel
theorem dX12_readValleyLine_100 : decode cX12_readValleyLine 100 = .ok (.ifCond .lt 7, 3) := by decide +kernel
theorem dX12_readValleyLine_103 : decode cX12_readValleyLine 103 = .ok (.iconst 1, 1) := by decide +kernel
theorem dX12_readValleyLine_104 : decode cX12_readValleyLine 104 = .ok (.goto 4, 3) := by decide +kernel
theorem dX12_readValleyLine_107 : decode cX12_readValleyLine 107 = .ok (.iconst 0, 1) := by decide +kernel
theorem dX12_readValleyLine_108 : decode cX12_readValleyLine 108 = .ok (.ireturn, 1) := by decide +kernel
theorem dX12_readValleyLine_109 : decode cX12_readValleyLine 109 = .ok (.aload_n 0, 1) := by decide +kernel
theorem dX12_readValleyLine_110 : decode cX12_readValleyLine 110 = .ok (.ldc 229, 2) := by decide +kernel
theorem dX12_readValleyLine_112 : decode cX12_readValleyLine 112 = .ok (.invokevirtual 167, 3) := by decide +kernel
theorem dX12_readValleyLine_115 : decode cX12_readValleyLine 115 = .ok (.ifCond .ne 5, 3) := by decide +kernel
theorem dX12_readValleyLine_118 : decode cX12_readValleyLine 118 = .ok (.iconst 0, 1) := by decide +kernel
theorem dX12_readValleyLine_119 : decode cX12_readValleyLine 119 = .ok (.ireturn, 1) := by decide +kernel
theorem dX12_readValleyLine_120 : decode cX12_readValleyLine 120 = .ok (.aload_n 0, 1) := by decide +kernel
theorem dX12_readValleyLine_121 : decode cX12_readValleyLine 121 = .ok (.iconst 0, 1) := by decide +kernel
theorem dX12_readValleyLine_122 : decode cX12_readValleyLine 122 = .ok (.aload_n 0, 1) := by decide +kernel
theorem dX12_readValleyLine_123 : decode cX12_readValleyLine 123 = .ok (.invokevirtual 121, 3) := by decide +kernel
theorem dX12_readValleyLine_126 : decode cX12_readValleyLine 126 = .ok (.iconst 1, 1) := by decide +kernel
theorem dX12_readValleyLine_127 : decode cX12_readValleyLine 127 = .ok (.isub, 1) := by decide +kernel
theorem dX12_readValleyLine_128 : decode cX12_readValleyLine 128 = .ok (.invokevirtual 195, 3) := by decide +kernel
theorem dX12_readValleyLine_131 : decode cX12_readValleyLine 131 = .ok (.istore_n 1, 1) := by decide +kernel
theorem dX12_readValleyLine_132 : decode cX12_readValleyLine 132 = .ok (.iload_n 1, 1) := by decide +kernel
theorem dX12_readValleyLine_133 : decode cX12_readValleyLine 133 = .ok (.ifCond .lt 8, 3) := by decide +kernel
theorem dX12_readValleyLine_136 : decode cX12_readValleyLine 136 = .ok (.aload_n 0, 1) := by decide +kernel
theorem dX12_readValleyLine_137 : decode cX12_readValleyLine 137 = .ok (.iload_n 1, 1) := by decide +kernel
theorem dX12_readValleyLine_138 : decode cX12_readValleyLine 138 = .ok (.invokevirtual 231, 3) := by decide +kernel
theorem dX12_readValleyLine_141 : decode cX12_readValleyLine 141 = .ok (.iload_n 1, 1) := by decide +kernel
theorem dX12_readValleyLine_142 : decode cX12_readValleyLine 142 = .ok (.ifCond .lt 7, 3) := by decide +kernel
theorem dX12_readValleyLine_145 : decode cX12_readValleyLine 145 = .ok (.iconst 1, 1) := by decide +kernel
theorem dX12_readValleyLine_146 : decode cX12_readValleyLine 146 = .ok (.goto 4, 3) := by decide +kernel
theorem dX12_readValleyLine_149 : decode cX12_readValleyLine 149 = .ok (.iconst 0, 1) := by decide +kernel
theorem dX12_readValleyLine_150 : decode cX12_readValleyLine 150 = .ok (.ireturn, 1) := by decide +kernel
theorem dX12_emits_0 : decode cX12_emits 0 = .ok (.aload_n 0, 1) := by decide +kernel
theorem dX12_emits_1 : decode cX12_emits 1 = .ok (.getfield 29, 3) := by decide +kernel
theorem dX12_emits_4 : decode cX12_emits 4 = .ok (.sipush 1189, 3) := by decide +kernel
theorem dX12_emits_7 : decode cX12_emits 7 = .ok (.iconst 2, 1) := by decide +kernel
theorem dX12_emits_8 : decode cX12_emits 8 = .ok (.aload_n 0, 1) := by decide +kernel
theorem dX12_emits_9 : decode cX12_emits 9 = .ok (.getfield 235, 3) := by decide +kernel
theorem dX12_emits_12 : decode cX12_emits 12 = .ok (.imul, 1) := by decide +kernel
theorem dX12_emits_13 : decode cX12_emits 13 = .ok (.iadd, 1) := by decide +kernel
theorem dX12_emits_14 : decode cX12_emits 14 = .ok (.iload_n 1, 1) := by decide +kernel
theorem dX12_emits_15 : decode cX12_emits 15 = .ok (.iastore, 1) := by decide +kernel
theorem dX12_emits_16 : decode cX12_emits 16 = .ok (.aload_n 0, 1) := by decide +kernel
theorem dX12_emits_17 : decode cX12_emits 17 = .ok (.getfield 29, 3) := by decide +kernel
theorem dX12_emits_20 : decode cX12_emits 20 = .ok (.sipush 1189, 3) := by decide +kernel
theorem dX12_emits_23 : decode cX12_emits 23 = .ok (.iconst 2, 1) := by decide +kernel
theorem dX12_emits_24 : decode cX12_emits 24 = .ok (.aload_n 0, 1) := by decide +kernel
theorem dX12_emits_25 : decode cX12_emits 25 = .ok (.getfield 235, 3) := by decide +kernel
theorem dX12_emits_28 : decode cX12_emits 28 = .ok (.imul, 1) := by decide +kernel
theorem dX12_emits_29 : decode cX12_emits 29 = .ok (.iadd, 1) := by decide +kernel
theorem dX12_emits_30 : decode cX12_emits 30 = .ok (.iconst 1, 1) := by decide +kernel
theorem dX12_emits_31 : decode cX12_emits 31 = .ok (.iadd, 1) := by decide +kernel
theorem dX12_emits_32 : decode cX12_emits 32 = .ok (.iload_n 2, 1) := by decide +kernel
theorem dX12_emits_33 : decode cX12_emits 33 = .ok (.iastore, 1) := by decide +kernel
theorem dX12_emits_34 : decode cX12_emits 34 = .ok (.aload_n 0, 1) := by decide +kernel
theorem dX12_emits_35 : decode cX12_emits 35 = .ok (.dup, 1) := by decide +kernel
theorem dX12_emits_36 : decode cX12_emits 36 = .ok (.getfield 235, 3) := by decide +kernel
theorem dX12_emits_39 : decode cX12_emits 39 = .ok (.iconst 1, 1) := by decide +kernel
theorem dX12_emits_40 : decode cX12_emits 40 = .ok (.iadd, 1) := by decide +kernel
theorem dX12_emits_41 : decode cX12_emits 41 = .ok (.putfield 235, 3) := by decide +kernel
theorem dX12_emits_44 : decode cX12_emits 44 = .ok (.return_, 1) := by decide +kernel
theorem dX12_readPart_0 : decode cX12_readPart 0 = .ok (.aload_n 0, 1) := by decide +kernel
theorem dX12_readPart_1 : decode cX12_readPart 1 = .ok (.invokevirtual 164, 3) := by decide +kernel
theorem dX12_readPart_4 : decode cX12_readPart 4 = .ok (.aload_n 0, 1) := by decide +kernel
theorem dX12_readPart_5 : decode cX12_readPart 5 = .ok (.getfield 139, 3) := by decide +kernel
theorem dX12_readPart_8 : decode cX12_readPart 8 = .ok (.aload_n 0, 1) := by decide +kernel
theorem dX12_readPart_9 : decode cX12_readPart 9 = .ok (.getfield 149, 3) := by decide +kernel
theorem dX12_readPart_12 : decode cX12_readPart 12 = .ok (.if_icmp .ne 22, 3) := by decide +kernel
theorem dX12_readPart_15 : decode cX12_readPart 15 = .ok (.aload_n 0, 1) := by decide +kernel
theorem dX12_readPart_16 : decode cX12_readPart 16 = .ok (.iconst 0, 1) := by decide +kernel
theorem dX12_readPart_17 : decode cX12_readPart 17 = .ok (.sipush 999, 3) := by decide +kernel
theorem dX12_readPart_20 : decode cX12_readPart 20 = .ok (.invokevirtual 195, 3) := by decide +kernel
theorem dX12_readPart_23 : decode cX12_readPart 23 = .ok (.istore_n 1, 1) := by decide +kernel
theorem dX12_readPart_24 : decode cX12_readPart 24 = .ok (.aload_n 0, 1) := by decide +kernel
theorem dX12_readPart_25 : decode cX12_readPart 25 = .ok (.bipush 6, 2) := by decide +kernel
theorem dX12_readPart_27 : decode cX12_readPart 27 = .ok (.iload_n 1, 1) := by decide +kernel
theorem dX12_readPart_28 : decode cX12_readPart 28 = .ok (.invokevirtual 238, 3) := by decide +kernel
theorem dX12_readPart_31 : decode cX12_readPart 31 = .ok (.goto 76, 3) := by decide +kernel
theorem dX12_readPart_34 : decode cX12_readPart 34 = .ok (.aload_n 0, 1) := by decide +kernel
theorem dX12_readPart_35 : decode cX12_readPart 35 = .ok (.ldc 191, 2) := by decide +kernel
theorem dX12_readPart_37 : decode cX12_readPart 37 = .ok (.invokevirtual 167, 3) := by decide +kernel
theorem dX12_readPart_40 : decode cX12_readPart 40 = .ok (.ifCond .eq 7, 3) := by decide +kernel
theorem dX12_readPart_43 : decode cX12_readPart 43 = .ok (.iconst 0, 1) := by decide +kernel
theorem dX12_readPart_44 : decode cX12_readPart 44 = .ok (.goto 56, 3) := by decide +kernel
theorem dX12_readPart_47 : decode cX12_readPart 47 = .ok (.aload_n 0, 1) := by decide +kernel
theorem dX12_readPart_48 : decode cX12_readPart 48 = .ok (.ldc 242, 2) := by decide +kernel
theorem dX12_readPart_50 : decode cX12_readPart 50 = .ok (.invokevirtual 167, 3) := by decide +kernel
theorem dX12_readPart_53 : decode cX12_readPart 53 = .ok (.ifCond .eq 7, 3) := by decide +kernel
theorem dX12_readPart_56 : decode cX12_readPart 56 = .ok (.iconst 1, 1) := by decide +kernel
theorem dX12_readPart_57 : decode cX12_readPart 57 = .ok (.goto 43, 3) := by decide +kernel
theorem dX12_readPart_60 : decode cX12_readPart 60 = .ok (.aload_n 0, 1) := by decide +kernel
theorem dX12_readPart_61 : decode cX12_readPart 61 = .ok (.ldc 244, 2) := by decide +kernel
theorem dX12_readPart_63 : decode cX12_readPart 63 = .ok (.invokevirtual 167, 3) := by decide +kernel
theorem dX12_readPart_66 : decode cX12_readPart 66 = .ok (.ifCond .eq 7, 3) := by decide +kernel
theorem dX12_readPart_69 : decode cX12_readPart 69 = .ok (.iconst 2, 1) := by decide +kernel
theorem dX12_readPart_70 : decode cX12_readPart 70 = .ok (.goto 30, 3) := by decide +kernel
theorem dX12_readPart_73 : decode cX12_readPart 73 = .ok (.aload_n 0, 1) := by decide +kernel
theorem dX12_readPart_74 : decode cX12_readPart 74 = .ok (.ldc 246, 2) := by decide +kernel
theorem dX12_readPart_76 : decode cX12_readPart 76 = .ok (.invokevirtual 167, 3) := by decide +kernel
theorem dX12_readPart_79 : decode cX12_readPart 79 = .ok (.ifCond .eq 7, 3) := by decide +kernel
theorem dX12_readPart_82 : decode cX12_readPart 82 = .ok (.iconst 3, 1) := by decide +kernel
theorem dX12_readPart_83 : decode cX12_readPart 83 = .ok (.goto 17, 3) := by decide +kernel
theorem dX12_readPart_86 : decode cX12_readPart 86 = .ok (.aload_n 0, 1) := by decide +kernel
theorem dX12_readPart_87 : decode cX12_readPart 87 = .ok (.ldc 247, 2) := by decide +kernel
theorem dX12_readPart_89 : decode cX12_readPart 89 = .ok (.invokevirtual 167, 3) := by decide +kernel
theorem dX12_readPart_92 : decode cX12_readPart 92 = .ok (.ifCond .eq 7, 3) := by decide +kernel
theorem dX12_readPart_95 : decode cX12_readPart 95 = .ok (.iconst 4, 1) := by decide +kernel
theorem dX12_readPart_96 : decode cX12_readPart 96 = .ok (.goto 4, 3) := by decide +kernel
theorem dX12_readPart_99 : decode cX12_readPart 99 = .ok (.iconst (-1), 1) := by decide +kernel
theorem dX12_readPart_100 : decode cX12_readPart 100 = .ok (.istore_n 1, 1) := by decide +kernel
theorem dX12_readPart_101 : decode cX12_readPart 101 = .ok (.aload_n 0, 1) := by decide +kernel
theorem dX12_readPart_102 : decode cX12_readPart 102 = .ok (.iload_n 1, 1) := by decide +kernel
theorem dX12_readPart_103 : decode cX12_readPart 103 = .ok (.iconst 0, 1) := by decide +kernel
theorem dX12_readPart_104 : decode cX12_readPart 104 = .ok (.invokevirtual 238, 3) := by decide +kernel
theorem dX12_readPart_107 : decode cX12_readPart 107 = .ok (.iload_n 1, 1) := by decide +kernel
theorem dX12_readPart_108 : decode cX12_readPart 108 = .ok (.ifCond .lt 7, 3) := by decide +kernel
theorem dX12_readPart_111 : decode cX12_readPart 111 = .ok (.iconst 1, 1) := by decide +kernel
theorem dX12_readPart_112 : decode cX12_readPart 112 = .ok (.goto 4, 3) := by decide +kernel
theorem dX12_readPart_115 : decode cX12_readPart 115 = .ok (.iconst 0, 1) := by decide +kernel
theorem dX12_readPart_116 : decode cX12_readPart 116 = .ok (.ireturn, 1) := by decide +kernel
theorem dX12_readSum_0 : decode cX12_readSum 0 = .ok (.aload_n 0, 1) := by decide +kernel
theorem dX12_readSum_1 : decode cX12_readSum 1 = .ok (.invokevirtual 249, 3) := by decide +kernel
theorem dX12_readSum_4 : decode cX12_readSum 4 = .ok (.ifCond .ne 5, 3) := by decide +kernel
theorem dX12_readSum_7 : decode cX12_readSum 7 = .ok (.iconst 0, 1) := by decide +kernel
theorem dX12_readSum_8 : decode cX12_readSum 8 = .ok (.ireturn, 1) := by decide +kernel
theorem dX12_readSum_9 : decode cX12_readSum 9 = .ok (.aload_n 0, 1) := by decide +kernel
theorem dX12_readSum_10 : decode cX12_readSum 10 = .ok (.bipush 43, 2) := by decide +kernel
theorem dX12_readSum_12 : decode cX12_readSum 12 = .ok (.invokevirtual 252, 3) := by decide +kernel
theorem dX12_readSum_15 : decode cX12_readSum 15 = .ok (.ifCond .eq 22, 3) := by decide +kernel
theorem dX12_readSum_18 : decode cX12_readSum 18 = .ok (.aload_n 0, 1) := by decide +kernel
theorem dX12_readSum_19 : decode cX12_readSum 19 = .ok (.invokevirtual 249, 3) := by decide +kernel
theorem dX12_readSum_22 : decode cX12_readSum 22 = .ok (.ifCond .ne 5, 3) := by decide +kernel
theorem dX12_readSum_25 : decode cX12_readSum 25 = .ok (.iconst 0, 1) := by decide +kernel
theorem dX12_readSum_26 : decode cX12_readSum 26 = .ok (.ireturn, 1) := by decide +kernel
theorem dX12_readSum_27 : decode cX12_readSum 27 = .ok (.aload_n 0, 1) := by decide +kernel
theorem dX12_readSum_28 : decode cX12_readSum 28 = .ok (.bipush 7, 2) := by decide +kernel
theorem dX12_readSum_30 : decode cX12_readSum 30 = .ok (.iconst 0, 1) := by decide +kernel
theorem dX12_readSum_31 : decode cX12_readSum 31 = .ok (.invokevirtual 238, 3) := by decide +kernel
theorem dX12_readSum_34 : decode cX12_readSum 34 = .ok (.goto (-25), 3) := by decide +kernel
theorem dX12_readSum_37 : decode cX12_readSum 37 = .ok (.iconst 1, 1) := by decide +kernel
theorem dX12_readSum_38 : decode cX12_readSum 38 = .ok (.ireturn, 1) := by decide +kernel
theorem dX12_readAtom_0 : decode cX12_readAtom 0 = .ok (.aload_n 0, 1) := by decide +kernel
theorem dX12_readAtom_1 : decode cX12_readAtom 1 = .ok (.bipush 40, 2) := by decide +kernel
theorem dX12_readAtom_3 : decode cX12_readAtom 3 = .ok (.invokevirtual 252, 3) := by decide +kernel
theorem dX12_readAtom_6 : decode cX12_readAtom 6 = .ok (.ifCond .eq 50, 3) := by decide +kernel
theorem dX12_readAtom_9 : decode cX12_readAtom 9 = .ok (.aload_n 0, 1) := by decide +kernel
theorem dX12_readAtom_10 : decode cX12_readAtom 10 = .ok (.getfield 256, 3) := by decide +kernel
theorem dX12_readAtom_13 : decode cX12_readAtom 13 = .ok (.bipush 6, 2) := by decide +kernel
theorem dX12_readAtom_15 : decode cX12_readAtom 15 = .ok (.if_icmp .ne 5, 3) := by decide +kernel
theorem dX12_readAtom_18 : decode cX12_readAtom 18 = .ok (.iconst 0, 1) := by decide +kernel
theorem dX12_readAtom_19 : decode cX12_readAtom 19 = .ok (.ireturn, 1) := by decide +kernel
theorem dX12_readAtom_20 : decode cX12_readAtom 20 = .ok (.aload_n 0, 1) := by decide +kernel
theorem dX12_readAtom_21 : decode cX12_readAtom 21 = .ok (.dup, 1) := by decide +kernel
theorem dX12_readAtom_22 : decode cX12_readAtom 22 = .ok (.getfield 256, 3) := by decide +kernel
theorem dX12_readAtom_25 : decode cX12_readAtom 25 = .ok (.iconst 1, 1) := by decide +kernel
theorem dX12_readAtom_26 : decode cX12_readAtom 26 = .ok (.iadd, 1) := by decide +kernel
theorem dX12_readAtom_27 : decode cX12_readAtom 27 = .ok (.putfield 256, 3) := by decide +kernel
theorem dX12_readAtom_30 : decode cX12_readAtom 30 = .ok (.aload_n 0, 1) := by decide +kernel
theorem dX12_readAtom_31 : decode cX12_readAtom 31 = .ok (.invokevirtual 259, 3) := by decide +kernel
theorem dX12_readAtom_34 : decode cX12_readAtom 34 = .ok (.ifCond .ne 5, 3) := by decide +kernel
theorem dX12_readAtom_37 : decode cX12_readAtom 37 = .ok (.iconst 0, 1) := by decide +kernel
theorem dX12_readAtom_38 : decode cX12_readAtom 38 = .ok (.ireturn, 1) := by decide +kernel
theorem dX12_readAtom_39 : decode cX12_readAtom 39 = .ok (.aload_n 0, 1) := by decide +kernel
theorem dX12_readAtom_40 : decode cX12_readAtom 40 = .ok (.dup, 1) := by decide +kernel
theorem dX12_readAtom_41 : decode cX12_readAtom 41 = .ok (.getfield 256, 3) := by decide +kernel
theorem dX12_readAtom_44 : decode cX12_readAtom 44 = .ok (.iconst 1, 1) := by decide +kernel
theorem dX12_readAtom_45 : decode cX12_readAtom 45 = .ok (.isub, 1) := by decide +kernel
theorem dX12_readAtom_46 : decode cX12_readAtom 46 = .ok (.putfield 256, 3) := by decide +kernel
theorem dX12_readAtom_49 : decode cX12_readAtom 49 = .ok (.aload_n 0, 1) := by decide +kernel
theorem dX12_readAtom_50 : decode cX12_readAtom 50 = .ok (.bipush 41, 2) := by decide +kernel
theorem dX12_readAtom_52 : decode cX12_readAtom 52 = .ok (.invokevirtual 252, 3) := by decide +kernel
theorem dX12_readAtom_55 : decode cX12_readAtom 55 = .ok (.ireturn, 1) := by decide +kernel
theorem dX12_readAtom_56 : decode cX12_readAtom 56 = .ok (.aload_n 0, 1) := by decide +kernel
theorem dX12_readAtom_57 : decode cX12_readAtom 57 = .ok (.ldc_w 262, 3) := by decide +kernel
theorem dX12_readAtom_60 : decode cX12_readAtom 60 = .ok (.invokevirtual 264, 3) := by decide +kernel
theorem dX12_readAtom_63 : decode cX12_readAtom 63 = .ok (.ifCond .eq 52, 3) := by decide +kernel
theorem dX12_readAtom_66 : decode cX12_readAtom 66 = .ok (.aload_n 0, 1) := by decide +kernel
theorem dX12_readAtom_67 : decode cX12_readAtom 67 = .ok (.getfield 256, 3) := by decide +kernel
theorem dX12_readAtom_70 : decode cX12_readAtom 70 = .ok (.bipush 6, 2) := by decide +kernel
theorem dX12_readAtom_72 : decode cX12_readAtom 72 = .ok (.if_icmp .ne 5, 3) := by decide +kernel
theorem dX12_readAtom_75 : decode cX12_readAtom 75 = .ok (.iconst 0, 1) := by decide +kernel
theorem dX12_readAtom_76 : decode cX12_readAtom 76 = .ok (.ireturn, 1) := by decide +kernel
theorem dX12_readAtom_77 : decode cX12_readAtom 77 = .ok (.aload_n 0, 1) := by decide +kernel
theorem dX12_readAtom_78 : decode cX12_readAtom 78 = .ok (.dup, 1) := by decide +kernel
theorem dX12_readAtom_79 : decode cX12_readAtom 79 = .ok (.getfield 256, 3) := by decide +kernel
theorem dX12_readAtom_82 : decode cX12_readAtom 82 = .ok (.iconst 1, 1) := by decide +kernel
theorem dX12_readAtom_83 : decode cX12_readAtom 83 = .ok (.iadd, 1) := by decide +kernel
theorem dX12_readAtom_84 : decode cX12_readAtom 84 = .ok (.putfield 256, 3) := by decide +kernel
theorem dX12_readAtom_87 : decode cX12_readAtom 87 = .ok (.aload_n 0, 1) := by decide +kernel
theorem dX12_readAtom_88 : decode cX12_readAtom 88 = .ok (.invokevirtual 267, 3) := by decide +kernel
theorem dX12_readAtom_91 : decode cX12_readAtom 91 = .ok (.ifCond .ne 5, 3) := by decide +kernel
theorem dX12_readAtom_94 : decode cX12_readAtom 94 = .ok (.iconst 0, 1) := by decide +kernel
theorem dX12_readAtom_95 : decode cX12_readAtom 95 = .ok (.ireturn, 1) := by decide +kernel
theorem dX12_readAtom_96 : decode cX12_readAtom 96 = .ok (.aload_n 0, 1) := by decide +kernel
theorem dX12_readAtom_97 : decode cX12_readAtom 97 = .ok (.dup, 1) := by decide +kernel
theorem dX12_readAtom_98 : decode cX12_readAtom 98 = .ok (.getfield 256, 3) := by decide +kernel
theorem dX12_readAtom_101 : decode cX12_readAtom 101 = .ok (.iconst 1, 1) := by decide +kernel
theorem dX12_readAtom_102 : decode cX12_readAtom 102 = .ok (.isub, 1) := by decide +kernel
theorem dX12_readAtom_103 : decode cX12_readAtom 103 = .ok (.putfield 256, 3) := by decide +kernel
theorem dX12_readAtom_106 : decode cX12_readAtom 106 = .ok (.aload_n 0, 1) := by decide +kernel
theorem dX12_readAtom_107 : decode cX12_readAtom 107 = .ok (.bipush 10, 2) := by decide +kernel
theorem dX12_readAtom_109 : decode cX12_readAtom 109 = .ok (.iconst 0, 1) := by decide +kernel
theorem dX12_readAtom_110 : decode cX12_readAtom 110 = .ok (.invokevirtual 238, 3) := by decide +kernel
theorem dX12_readAtom_113 : decode cX12_readAtom 113 = .ok (.iconst 1, 1) := by decide +kernel
theorem dX12_readAtom_114 : decode cX12_readAtom 114 = .ok (.ireturn, 1) := by decide +kernel
theorem dX12_readAtom_115 : decode cX12_readAtom 115 = .ok (.aload_n 0, 1) := by decide +kernel
theorem dX12_readAtom_116 : decode cX12_readAtom 116 = .ok (.ldc_w 270, 3) := by decide +kernel
theorem dX12_readAtom_119 : decode cX12_readAtom 119 = .ok (.invokevirtual 264, 3) := by decide +kernel
theorem dX12_readAtom_122 : decode cX12_readAtom 122 = .ok (.ifCond .eq 11, 3) := by decide +kernel
theorem dX12_readAtom_125 : decode cX12_readAtom 125 = .ok (.aload_n 0, 1) := by decide +kernel
theorem dX12_readAtom_126 : decode cX12_readAtom 126 = .ok (.iconst 5, 1) := by decide +kernel
theorem dX12_readAtom_127 : decode cX12_readAtom 127 = .ok (.iconst 0, 1) := by decide +kernel
theorem dX12_readAtom_128 : decode cX12_readAtom 128 = .ok (.invokevirtual 238, 3) := by decide +kernel
theorem dX12_readAtom_131 : decode cX12_readAtom 131 = .ok (.iconst 1, 1) := by decide +kernel
theorem dX12_readAtom_132 : decode cX12_readAtom 132 = .ok (.ireturn, 1) := by decide +kernel
theorem dX12_readAtom_133 : decode cX12_readAtom 133 = .ok (.aload_n 0, 1) := by decide +kernel
theorem dX12_readAtom_134 : decode cX12_readAtom 134 = .ok (.invokevirtual 271, 3) := by decide +kernel
theorem dX12_readAtom_137 : decode cX12_readAtom 137 = .ok (.ifCond .ne 5, 3) := by decide +kernel
theorem dX12_readAtom_140 : decode cX12_readAtom 140 = .ok (.iconst 0, 1) := by decide +kernel
theorem dX12_readAtom_141 : decode cX12_readAtom 141 = .ok (.ireturn, 1) := by decide +kernel
theorem dX12_readAtom_142 : decode cX12_readAtom 142 = .ok (.aload_n 0, 1) := by decide +kernel
theorem dX12_readAtom_143 : decode cX12_readAtom 143 = .ok (.bipush 60, 2) := by decide +kernel
theorem dX12_readAtom_145 : decode cX12_readAtom 145 = .ok (.invokevirtual 252, 3) := by decide +kernel
theorem dX12_readAtom_148 : decode cX12_readAtom 148 = .ok (.istore_n 1, 1) := by decide +kernel
theorem dX12_readAtom_149 : decode cX12_readAtom 149 = .ok (.iload_n 1, 1) := by decide +kernel
theorem dX12_readAtom_150 : decode cX12_readAtom 150 = .ok (.ifCond .ne 12, 3) := by decide +kernel
theorem dX12_readAtom_153 : decode cX12_readAtom 153 = .ok (.aload_n 0, 1) := by decide +kernel
theorem dX12_readAtom_154 : decode cX12_readAtom 154 = .ok (.bipush 62, 2) := by decide +kernel
theorem dX12_readAtom_156 : decode cX12_readAtom 156 = .ok (.invokevirtual 252, 3) := by decide +kernel
theorem dX12_readAtom_159 : decode cX12_readAtom 159 = .ok (.ifCond .eq 10, 3) := by decide +kernel
theorem dX12_readAtom_162 : decode cX12_readAtom 162 = .ok (.aload_n 0, 1) := by decide +kernel
theorem dX12_readAtom_163 : decode cX12_readAtom 163 = .ok (.invokevirtual 271, 3) := by decide +kernel
theorem dX12_readAtom_166 : decode cX12_readAtom 166 = .ok (.ifCond .ne 5, 3) := by decide +kernel
theorem dX12_readAtom_169 : decode cX12_readAtom 169 = .ok (.iconst 0, 1) := by decide +kernel
theorem dX12_readAtom_170 : decode cX12_readAtom 170 = .ok (.ireturn, 1) := by decide +kernel
theorem dX12_readAtom_171 : decode cX12_readAtom 171 = .ok (.aload_n 0, 1) := by decide +kernel
theorem dX12_readAtom_172 : decode cX12_readAtom 172 = .ok (.iload_n 1, 1) := by decide +kernel
theorem dX12_readAtom_173 : decode cX12_readAtom 173 = .ok (.ifCond .eq 8, 3) := by decide +kernel
theorem dX12_readAtom_176 : decode cX12_readAtom 176 = .ok (.bipush 8, 2) := by decide +kernel
theorem dX12_readAtom_178 : decode cX12_readAtom 178 = .ok (.goto 5, 3) := by decide +kernel
theorem dX12_readAtom_181 : decode cX12_readAtom 181 = .ok (.bipush 9, 2) := by decide +kernel
theorem dX12_readAtom_183 : decode cX12_readAtom 183 = .ok (.iconst 0, 1) := by decide +kernel
theorem dX12_readAtom_184 : decode cX12_readAtom 184 = .ok (.invokevirtual 238, 3) := by decide +kernel
theorem dX12_readAtom_187 : decode cX12_readAtom 187 = .ok (.iconst 1, 1) := by decide +kernel
theorem dX12_readAtom_188 : decode cX12_readAtom 188 = .ok (.ireturn, 1) := by decide +kernel
theorem dX12_readAllOf_0 : decode cX12_readAllOf 0 = .ok (.aload_n 0, 1) := by decide +kernel
theorem dX12_readAllOf_1 : decode cX12_readAllOf 1 = .ok (.invokevirtual 267, 3) := by decide +kernel
theorem dX12_readAllOf_4 : decode cX12_readAllOf 4 = .ok (.ifCond .ne 5, 3) := by decide +kernel
theorem dX12_readAllOf_7 : decode cX12_readAllOf 7 = .ok (.iconst 0, 1) := by decide +kernel
theorem dX12_readAllOf_8 : decode cX12_readAllOf 8 = .ok (.ireturn, 1) := by decide +kernel
theorem dX12_readAllOf_9 : decode cX12_readAllOf 9 = .ok (.aload_n 0, 1) := by decide +kernel
theorem dX12_readAllOf_10 : decode cX12_readAllOf 10 = .ok (.ldc_w 274, 3) := by decide +kernel
theorem dX12_readAllOf_13 : decode cX12_readAllOf 13 = .ok (.invokevirtual 264, 3) := by decide +kernel
theorem dX12_readAllOf_16 : decode cX12_readAllOf 16 = .ok (.ifCond .eq 22, 3) := by decide +kernel
theorem dX12_readAllOf_19 : decode cX12_readAllOf 19 = .ok (.aload_n 0, 1) := by decide +kernel
theorem dX12_readAllOf_20 : decode cX12_readAllOf 20 = .ok (.invokevirtual 267, 3) := by decide +kernel
theorem dX12_readAllOf_23 : decode cX12_readAllOf 23 = .ok (.ifCond .ne 5, 3) := by decide +kernel
theorem dX12_readAllOf_26 : decode cX12_readAllOf 26 = .ok (.iconst 0, 1) := by decide +kernel
theorem dX12_readAllOf_27 : decode cX12_readAllOf 27 = .ok (.ireturn, 1) := by decide +kernel
theorem dX12_readAllOf_28 : decode cX12_readAllOf 28 = .ok (.aload_n 0, 1) := by decide +kernel
theorem dX12_readAllOf_29 : decode cX12_readAllOf 29 = .ok (.bipush 11, 2) := by decide +kernel
theorem dX12_readAllOf_31 : decode cX12_readAllOf 31 = .ok (.iconst 0, 1) := by decide +kernel
theorem dX12_readAllOf_32 : decode cX12_readAllOf 32 = .ok (.invokevirtual 238, 3) := by decide +kernel
theorem dX12_readAllOf_35 : decode cX12_readAllOf 35 = .ok (.goto (-26), 3) := by decide +kernel
theorem dX12_readAllOf_38 : decode cX12_readAllOf 38 = .ok (.iconst 1, 1) := by decide +kernel
theorem dX12_readAllOf_39 : decode cX12_readAllOf 39 = .ok (.ireturn, 1) := by decide +kernel
theorem dX12_readCond_0 : decode cX12_readCond 0 = .ok (.aload_n 0, 1) := by decide +kernel
theorem dX12_readCond_1 : decode cX12_readCond 1 = .ok (.invokevirtual 276, 3) := by decide +kernel
theorem dX12_readCond_4 : decode cX12_readCond 4 = .ok (.ifCond .ne 5, 3) := by decide +kernel
theorem dX12_readCond_7 : decode cX12_readCond 7 = .ok (.iconst 0, 1) := by decide +kernel
theorem dX12_readCond_8 : decode cX12_readCond 8 = .ok (.ireturn, 1) := by decide +kernel
theorem dX12_readCond_9 : decode cX12_readCond 9 = .ok (.aload_n 0, 1) := by decide +kernel
theorem dX12_readCond_10 : decode cX12_readCond 10 = .ok (.ldc_w 279, 3) := by decide +kernel
theorem dX12_readCond_13 : decode cX12_readCond 13 = .ok (.invokevirtual 264, 3) := by decide +kernel
theorem dX12_readCond_16 : decode cX12_readCond 16 = .ok (.ifCond .eq 22, 3) := by decide +kernel
theorem dX12_readCond_19 : decode cX12_readCond 19 = .ok (.aload_n 0, 1) := by decide +kernel
theorem dX12_readCond_20 : decode cX12_readCond 20 = .ok (.invokevirtual 276, 3) := by decide +kernel
theorem dX12_readCond_23 : decode cX12_readCond 23 = .ok (.ifCond .ne 5, 3) := by decide +kernel
theorem dX12_readCond_26 : decode cX12_readCond 26 = .ok (.iconst 0, 1) := by decide +kernel
theorem dX12_readCond_27 : decode cX12_readCond 27 = .ok (.ireturn, 1) := by decide +kernel
theorem dX12_readCond_28 : decode cX12_readCond 28 = .ok (.aload_n 0, 1) := by decide +kernel
theorem dX12_readCond_29 : decode cX12_readCond 29 = .ok (.bipush 12, 2) := by decide +kernel
theorem dX12_readCond_31 : decode cX12_readCond 31 = .ok (.iconst 0, 1) := by decide +kernel
theorem dX12_readCond_32 : decode cX12_readCond 32 = .ok (.invokevirtual 238, 3) := by decide +kernel
theorem dX12_readCond_35 : decode cX12_readCond 35 = .ok (.goto (-26), 3) := by decide +kernel
theorem dX12_readCond_38 : decode cX12_readCond 38 = .ok (.iconst 1, 1) := by decide +kernel
theorem dX12_readCond_39 : decode cX12_readCond 39 = .ok (.ireturn, 1) := by decide +kernel
theorem dX12_readLawLine_0 : decode cX12_readLawLine 0 = .ok (.sipush 1165, 3) := by decide +kernel
theorem dX12_readLawLine_3 : decode cX12_readLawLine 3 = .ok (.iconst 2, 1) := by decide +kernel
theorem dX12_readLawLine_4 : decode cX12_readLawLine 4 = .ok (.iload_n 1, 1) := by decide +kernel
theorem dX12_readLawLine_5 : decode cX12_readLawLine 5 = .ok (.imul, 1) := by decide +kernel
theorem dX12_readLawLine_6 : decode cX12_readLawLine 6 = .ok (.iadd, 1) := by decide +kernel
theorem dX12_readLawLine_7 : decode cX12_readLawLine 7 = .ok (.istore_n 2, 1) := by decide +kernel
theorem dX12_readLawLine_8 : decode cX12_readLawLine 8 = .ok (.aload_n 0, 1) := by decide +kernel
theorem dX12_readLawLine_9 : decode cX12_readLawLine 9 = .ok (.ldc_w 281, 3) := by decide +kernel
theorem dX12_readLawLine_12 : decode cX12_readLawLine 12 = .ok (.invokevirtual 167, 3) := by decide +kernel
theorem dX12_readLawLine_15 : decode cX12_readLawLine 15 = .ok (.ifCond .ne 5, 3) := by decide +kernel
theorem dX12_readLawLine_18 : decode cX12_readLawLine 18 = .ok (.iconst 0, 1) := by decide +kernel
theorem dX12_readLawLine_19 : decode cX12_readLawLine 19 = .ok (.ireturn, 1) := by decide +kernel
theorem dX12_readLawLine_20 : decode cX12_readLawLine 20 = .ok (.aload_n 0, 1) := by decide +kernel
theorem dX12_readLawLine_21 : decode cX12_readLawLine 21 = .ok (.getfield 29, 3) := by decide +kernel
theorem dX12_readLawLine_24 : decode cX12_readLawLine 24 = .ok (.iload_n 2, 1) := by decide +kernel
theorem dX12_readLawLine_25 : decode cX12_readLawLine 25 = .ok (.aload_n 0, 1) := by decide +kernel
theorem dX12_readLawLine_26 : decode cX12_readLawLine 26 = .ok (.getfield 235, 3) := by decide +kernel
theorem dX12_readLawLine_29 : decode cX12_readLawLine 29 = .ok (.iastore, 1) := by decide +kernel
theorem dX12_readLawLine_30 : decode cX12_readLawLine 30 = .ok (.aload_n 0, 1) := by decide +kernel
theorem dX12_readLawLine_31 : decode cX12_readLawLine 31 = .ok (.iconst 0, 1) := by decide +kernel
theorem dX12_readLawLine_32 : decode cX12_readLawLine 32 = .ok (.putfield 256, 3) := by decide +kernel
theorem dX12_readLawLine_35 : decode cX12_readLawLine 35 = .ok (.aload_n 0, 1) := by decide +kernel
theorem dX12_readLawLine_36 : decode cX12_readLawLine 36 = .ok (.ldc_w 283, 3) := by decide +kernel
theorem dX12_readLawLine_39 : decode cX12_readLawLine 39 = .ok (.invokevirtual 264, 3) := by decide +kernel
theorem dX12_readLawLine_42 : decode cX12_readLawLine 42 = .ok (.ifCond .eq 12, 3) := by decide +kernel
theorem dX12_readLawLine_45 : decode cX12_readLawLine 45 = .ok (.aload_n 0, 1) := by decide +kernel
theorem dX12_readLawLine_46 : decode cX12_readLawLine 46 = .ok (.invokevirtual 259, 3) := by decide +kernel
theorem dX12_readLawLine_49 : decode cX12_readLawLine 49 = .ok (.ifCond .ne 5, 3) := by decide +kernel
theorem dX12_readLawLine_52 : decode cX12_readLawLine 52 = .ok (.iconst 0, 1) := by decide +kernel
theorem dX12_readLawLine_53 : decode cX12_readLawLine 53 = .ok (.ireturn, 1) := by decide +kernel
theorem dX12_readLawLine_54 : decode cX12_readLawLine 54 = .ok (.aload_n 0, 1) := by decide +kernel
theorem dX12_readLawLine_55 : decode cX12_readLawLine 55 = .ok (.getfield 29, 3) := by decide +kernel
theorem dX12_readLawLine_58 : decode cX12_readLawLine 58 = .ok (.iload_n 2, 1) := by decide +kernel
theorem dX12_readLawLine_59 : decode cX12_readLawLine 59 = .ok (.iconst 1, 1) := by decide +kernel
theorem dX12_readLawLine_60 : decode cX12_readLawLine 60 = .ok (.iadd, 1) := by decide +kernel
theorem dX12_readLawLine_61 : decode cX12_readLawLine 61 = .ok (.aload_n 0, 1) := by decide +kernel
theorem dX12_readLawLine_62 : decode cX12_readLawLine 62 = .ok (.getfield 235, 3) := by decide +kernel
theorem dX12_readLawLine_65 : decode cX12_readLawLine 65 = .ok (.iastore, 1) := by decide +kernel
theorem dX12_readLawLine_66 : decode cX12_readLawLine 66 = .ok (.iconst 1, 1) := by decide +kernel
theorem dX12_readLawLine_67 : decode cX12_readLawLine 67 = .ok (.ireturn, 1) := by decide +kernel
theorem dX12_readLine_0 : decode cX12_readLine 0 = .ok (.aload_n 0, 1) := by decide +kernel
theorem dX12_readLine_1 : decode cX12_readLine 1 = .ok (.invokevirtual 164, 3) := by decide +kernel
theorem dX12_readLine_4 : decode cX12_readLine 4 = .ok (.iload_n 2, 1) := by decide +kernel
theorem dX12_readLine_5 : decode cX12_readLine 5 = .ok (.iload_n 1, 1) := by decide +kernel
theorem dX12_readLine_6 : decode cX12_readLine 6 = .ok (.ifCond .eq 8, 3) := by decide +kernel
theorem dX12_readLine_9 : decode cX12_readLine 9 = .ok (.bipush 14, 2) := by decide +kernel
theorem dX12_readLine_11 : decode cX12_readLine 11 = .ok (.goto 5, 3) := by decide +kernel
theorem dX12_readLine_14 : decode cX12_readLine 14 = .ok (.bipush 12, 2) := by decide +kernel
theorem dX12_readLine_16 : decode cX12_readLine 16 = .ok (.if_icmp .ge 29, 3) := by decide +kernel
theorem dX12_readLine_19 : decode cX12_readLine 19 = .ok (.iload_n 1, 1) := by decide +kernel
theorem dX12_readLine_20 : decode cX12_readLine 20 = .ok (.ifCond .eq 13, 3) := by decide +kernel
theorem dX12_readLine_23 : decode cX12_readLine 23 = .ok (.aload_n 0, 1) := by decide +kernel
theorem dX12_readLine_24 : decode cX12_readLine 24 = .ok (.invokevirtual 285, 3) := by decide +kernel
theorem dX12_readLine_27 : decode cX12_readLine 27 = .ok (.ifCond .eq 18, 3) := by decide +kernel
theorem dX12_readLine_30 : decode cX12_readLine 30 = .ok (.goto 11, 3) := by decide +kernel
theorem dX12_readLine_33 : decode cX12_readLine 33 = .ok (.aload_n 0, 1) := by decide +kernel
theorem dX12_readLine_34 : decode cX12_readLine 34 = .ok (.iload_n 2, 1) := by decide +kernel
theorem dX12_readLine_35 : decode cX12_readLine 35 = .ok (.invokevirtual 288, 3) := by decide +kernel
theorem dX12_readLine_38 : decode cX12_readLine 38 = .ok (.ifCond .eq 7, 3) := by decide +kernel
theorem dX12_readLine_41 : decode cX12_readLine 41 = .ok (.iconst 1, 1) := by decide +kernel
theorem dX12_readLine_42 : decode cX12_readLine 42 = .ok (.goto 4, 3) := by decide +kernel
theorem dX12_readLine_45 : decode cX12_readLine 45 = .ok (.iconst 0, 1) := by decide +kernel
theorem dX12_readLine_46 : decode cX12_readLine 46 = .ok (.ireturn, 1) := by decide +kernel
theorem dX12_readAll_0 : decode cX12_readAll 0 = .ok (.aload_n 0, 1) := by decide +kernel
theorem dX12_readAll_1 : decode cX12_readAll 1 = .ok (.invokevirtual 291, 3) := by decide +kernel
theorem dX12_readAll_4 : decode cX12_readAll 4 = .ok (.aload_n 0, 1) := by decide +kernel
theorem dX12_readAll_5 : decode cX12_readAll 5 = .ok (.iconst 0, 1) := by decide +kernel
theorem dX12_readAll_6 : decode cX12_readAll 6 = .ok (.putfield 235, 3) := by decide +kernel
theorem dX12_readAll_9 : decode cX12_readAll 9 = .ok (.aload_n 0, 1) := by decide +kernel
theorem dX12_readAll_10 : decode cX12_readAll 10 = .ok (.invokevirtual 152, 3) := by decide +kernel
theorem dX12_readAll_13 : decode cX12_readAll 13 = .ok (.aload_n 0, 1) := by decide +kernel
theorem dX12_readAll_14 : decode cX12_readAll 14 = .ok (.getfield 139, 3) := by decide +kernel
theorem dX12_readAll_17 : decode cX12_readAll 17 = .ok (.aload_n 0, 1) := by decide +kernel
theorem dX12_readAll_18 : decode cX12_readAll 18 = .ok (.getfield 142, 3) := by decide +kernel
theorem dX12_readAll_21 : decode cX12_readAll 21 = .ok (.if_icmp .ne 5, 3) := by decide +kernel
theorem dX12_readAll_24 : decode cX12_readAll 24 = .ok (.iconst 0, 1) := by decide +kernel
theorem dX12_readAll_25 : decode cX12_readAll 25 = .ok (.ireturn, 1) := by decide +kernel
theorem dX12_readAll_26 : decode cX12_readAll 26 = .ok (.iconst 0, 1) := by decide +kernel
theorem dX12_readAll_27 : decode cX12_readAll 27 = .ok (.istore_n 2, 1) := by decide +kernel
theorem dX12_readAll_28 : decode cX12_readAll 28 = .ok (.aload_n 0, 1) := by decide +kernel
theorem dX12_readAll_29 : decode cX12_readAll 29 = .ok (.iload_n 1, 1) := by decide +kernel
theorem dX12_readAll_30 : decode cX12_readAll 30 = .ok (.iload_n 2, 1) := by decide +kernel
theorem dX12_readAll_31 : decode cX12_readAll 31 = .ok (.invokevirtual 294, 3) := by decide +kernel
theorem dX12_readAll_34 : decode cX12_readAll 34 = .ok (.ifCond .ne 5, 3) := by decide +kernel
theorem dX12_readAll_37 : decode cX12_readAll 37 = .ok (.iconst (-1), 1) := by decide +kernel
theorem dX12_readAll_38 : decode cX12_readAll 38 = .ok (.ireturn, 1) := by decide +kernel
theorem dX12_readAll_39 : decode cX12_readAll 39 = .ok (.aload_n 0, 1) := by decide +kernel
theorem dX12_readAll_40 : decode cX12_readAll 40 = .ok (.invokevirtual 152, 3) := by decide +kernel
theorem dX12_readAll_43 : decode cX12_readAll 43 = .ok (.aload_n 0, 1) := by decide +kernel
theorem dX12_readAll_44 : decode cX12_readAll 44 = .ok (.getfield 139, 3) := by decide +kernel
theorem dX12_readAll_47 : decode cX12_readAll 47 = .ok (.aload_n 0, 1) := by decide +kernel
theorem dX12_readAll_48 : decode cX12_readAll 48 = .ok (.getfield 142, 3) := by decide +kernel
theorem dX12_readAll_51 : decode cX12_readAll 51 = .ok (.if_icmp .ne 7, 3) := by decide +kernel
theorem dX12_readAll_54 : decode cX12_readAll 54 = .ok (.iload_n 2, 1) := by decide +kernel
theorem dX12_readAll_55 : decode cX12_readAll 55 = .ok (.iconst 1, 1) := by decide +kernel
theorem dX12_readAll_56 : decode cX12_readAll 56 = .ok (.iadd, 1) := by decide +kernel
theorem dX12_readAll_57 : decode cX12_readAll 57 = .ok (.ireturn, 1) := by decide +kernel
theorem dX12_readAll_58 : decode cX12_readAll 58 = .ok (.aload_n 0, 1) := by decide +kernel
theorem dX12_readAll_59 : decode cX12_readAll 59 = .ok (.bipush 59, 2) := by decide +kernel
theorem dX12_readAll_61 : decode cX12_readAll 61 = .ok (.bipush 59, 2) := by decide +kernel
theorem dX12_readAll_63 : decode cX12_readAll 63 = .ok (.invokevirtual 145, 3) := by decide +kernel
theorem dX12_readAll_66 : decode cX12_readAll 66 = .ok (.ifCond .ne 5, 3) := by decide +kernel
theorem dX12_readAll_69 : decode cX12_readAll 69 = .ok (.iconst (-1), 1) := by decide +kernel
theorem dX12_readAll_70 : decode cX12_readAll 70 = .ok (.ireturn, 1) := by decide +kernel
theorem dX12_readAll_71 : decode cX12_readAll 71 = .ok (.aload_n 0, 1) := by decide +kernel
theorem dX12_readAll_72 : decode cX12_readAll 72 = .ok (.dup, 1) := by decide +kernel
theorem dX12_readAll_73 : decode cX12_readAll 73 = .ok (.getfield 139, 3) := by decide +kernel
theorem dX12_readAll_76 : decode cX12_readAll 76 = .ok (.iconst 1, 1) := by decide +kernel
theorem dX12_readAll_77 : decode cX12_readAll 77 = .ok (.iadd, 1) := by decide +kernel
theorem dX12_readAll_78 : decode cX12_readAll 78 = .ok (.putfield 139, 3) := by decide +kernel
theorem dX12_readAll_81 : decode cX12_readAll 81 = .ok (.iinc 2 1, 3) := by decide +kernel
theorem dX12_readAll_84 : decode cX12_readAll 84 = .ok (.goto (-56), 3) := by decide +kernel
theorem dX12_valley_0 : decode cX12_valley 0 = .ok (.iconst 0, 1) := by decide +kernel
theorem dX12_valley_1 : decode cX12_valley 1 = .ok (.istore_n 1, 1) := by decide +kernel
theorem dX12_valley_2 : decode cX12_valley 2 = .ok (.iload_n 1, 1) := by decide +kernel
theorem dX12_valley_3 : decode cX12_valley 3 = .ok (.sipush 1164, 3) := by decide +kernel
theorem dX12_valley_6 : decode cX12_valley 6 = .ok (.if_icmp .ge 21, 3) := by decide +kernel
theorem dX12_valley_9 : decode cX12_valley 9 = .ok (.aload_n 0, 1) := by decide +kernel
theorem dX12_valley_10 : decode cX12_valley 10 = .ok (.getfield 36, 3) := by decide +kernel
theorem dX12_valley_13 : decode cX12_valley 13 = .ok (.iload_n 1, 1) := by decide +kernel
theorem dX12_valley_14 : decode cX12_valley 14 = .ok (.aload_n 0, 1) := by decide +kernel
theorem dX12_valley_15 : decode cX12_valley 15 = .ok (.getfield 29, 3) := by decide +kernel
theorem dX12_valley_18 : decode cX12_valley 18 = .ok (.iload_n 1, 1) := by decide +kernel
theorem dX12_valley_19 : decode cX12_valley 19 = .ok (.iaload, 1) := by decide +kernel
theorem dX12_valley_20 : decode cX12_valley 20 = .ok (.iastore, 1) := by decide +kernel
theorem dX12_valley_21 : decode cX12_valley 21 = .ok (.iinc 1 1, 3) := by decide +kernel
theorem dX12_valley_24 : decode cX12_valley 24 = .ok (.goto (-22), 3) := by decide +kernel
theorem dX12_valley_27 : decode cX12_valley 27 = .ok (.aload_n 0, 1) := by decide +kernel
theorem dX12_valley_28 : decode cX12_valley 28 = .ok (.iconst 1, 1) := by decide +kernel
theorem dX12_valley_29 : decode cX12_valley 29 = .ok (.invokevirtual 298, 3) := by decide +kernel
theorem dX12_valley_32 : decode cX12_valley 32 = .ok (.istore_n 1, 1) := by decide +kernel
theorem dX12_valley_33 : decode cX12_valley 33 = .ok (.aload_n 0, 1) := by decide +kernel
theorem dX12_valley_34 : decode cX12_valley 34 = .ok (.iload_n 1, 1) := by decide +kernel
theorem dX12_valley_35 : decode cX12_valley 35 = .ok (.ifCond .ge 10, 3) := by decide +kernel
theorem dX12_valley_38 : decode cX12_valley 38 = .ok (.aload_n 0, 1) := by decide +kernel
theorem dX12_valley_39 : decode cX12_valley 39 = .ok (.getfield 149, 3) := by decide +kernel
theorem dX12_valley_42 : decode cX12_valley 42 = .ok (.goto 4, 3) := by decide +kernel
theorem dX12_valley_45 : decode cX12_valley 45 = .ok (.iconst (-1), 1) := by decide +kernel
theorem dX12_valley_46 : decode cX12_valley 46 = .ok (.putfield 46, 3) := by decide +kernel
theorem dX12_valley_49 : decode cX12_valley 49 = .ok (.aload_n 0, 1) := by decide +kernel
theorem dX12_valley_50 : decode cX12_valley 50 = .ok (.iload_n 1, 1) := by decide +kernel
theorem dX12_valley_51 : decode cX12_valley 51 = .ok (.ifCond .ge 7, 3) := by decide +kernel
theorem dX12_valley_54 : decode cX12_valley 54 = .ok (.iconst 1, 1) := by decide +kernel
theorem dX12_valley_55 : decode cX12_valley 55 = .ok (.goto 4, 3) := by decide +kernel
theorem dX12_valley_58 : decode cX12_valley 58 = .ok (.iconst 0, 1) := by decide +kernel
theorem dX12_valley_59 : decode cX12_valley 59 = .ok (.iconst 1, 1) := by decide +kernel
theorem dX12_valley_60 : decode cX12_valley 60 = .ok (.invokevirtual 302, 3) := by decide +kernel
theorem dX12_valley_63 : decode cX12_valley 63 = .ok (.ifCond .ne 27, 3) := by decide +kernel
theorem dX12_valley_66 : decode cX12_valley 66 = .ok (.aload_n 0, 1) := by decide +kernel
theorem dX12_valley_67 : decode cX12_valley 67 = .ok (.aload_n 0, 1) := by decide +kernel
theorem dX12_valley_68 : decode cX12_valley 68 = .ok (.getfield 29, 3) := by decide +kernel
theorem dX12_valley_71 : decode cX12_valley 71 = .ok (.iconst 3, 1) := by decide +kernel
theorem dX12_valley_72 : decode cX12_valley 72 = .ok (.iaload, 1) := by decide +kernel
theorem dX12_valley_73 : decode cX12_valley 73 = .ok (.bipush 10, 2) := by decide +kernel
theorem dX12_valley_75 : decode cX12_valley 75 = .ok (.if_icmp .ne 7, 3) := by decide +kernel
theorem dX12_valley_78 : decode cX12_valley 78 = .ok (.iconst 1, 1) := by decide +kernel
theorem dX12_valley_79 : decode cX12_valley 79 = .ok (.goto 4, 3) := by decide +kernel
theorem dX12_valley_82 : decode cX12_valley 82 = .ok (.iconst 0, 1) := by decide +kernel
theorem dX12_valley_83 : decode cX12_valley 83 = .ok (.iconst 2, 1) := by decide +kernel
theorem dX12_valley_84 : decode cX12_valley 84 = .ok (.invokevirtual 302, 3) := by decide +kernel
theorem dX12_valley_87 : decode cX12_valley 87 = .ok (.ifCond .eq 32, 3) := by decide +kernel
theorem dX12_valley_90 : decode cX12_valley 90 = .ok (.iconst 0, 1) := by decide +kernel
theorem dX12_valley_91 : decode cX12_valley 91 = .ok (.istore_n 2, 1) := by decide +kernel
theorem dX12_valley_92 : decode cX12_valley 92 = .ok (.iload_n 2, 1) := by decide +kernel
theorem dX12_valley_93 : decode cX12_valley 93 = .ok (.sipush 1164, 3) := by decide +kernel
theorem dX12_valley_96 : decode cX12_valley 96 = .ok (.if_icmp .ge 21, 3) := by decide +kernel
theorem dX12_valley_99 : decode cX12_valley 99 = .ok (.aload_n 0, 1) := by decide +kernel
theorem dX12_valley_100 : decode cX12_valley 100 = .ok (.getfield 29, 3) := by decide +kernel
theorem dX12_valley_103 : decode cX12_valley 103 = .ok (.iload_n 2, 1) := by decide +kernel
theorem dX12_valley_104 : decode cX12_valley 104 = .ok (.aload_n 0, 1) := by decide +kernel
theorem dX12_valley_105 : decode cX12_valley 105 = .ok (.getfield 36, 3) := by decide +kernel
theorem dX12_valley_108 : decode cX12_valley 108 = .ok (.iload_n 2, 1) := by decide +kernel
theorem dX12_valley_109 : decode cX12_valley 109 = .ok (.iaload, 1) := by decide +kernel
theorem dX12_valley_110 : decode cX12_valley 110 = .ok (.iastore, 1) := by decide +kernel
theorem dX12_valley_111 : decode cX12_valley 111 = .ok (.iinc 2 1, 3) := by decide +kernel
theorem dX12_valley_114 : decode cX12_valley 114 = .ok (.goto (-22), 3) := by decide +kernel
theorem dX12_valley_117 : decode cX12_valley 117 = .ok (.iconst 0, 1) := by decide +kernel
theorem dX12_valley_118 : decode cX12_valley 118 = .ok (.ireturn, 1) := by decide +kernel
theorem dX12_valley_119 : decode cX12_valley 119 = .ok (.aload_n 0, 1) := by decide +kernel
theorem dX12_valley_120 : decode cX12_valley 120 = .ok (.getfield 29, 3) := by decide +kernel
theorem dX12_valley_123 : decode cX12_valley 123 = .ok (.iconst 3, 1) := by decide +kernel
theorem dX12_valley_124 : decode cX12_valley 124 = .ok (.dup2, 1) := by decide +kernel
theorem dX12_valley_125 : decode cX12_valley 125 = .ok (.iaload, 1) := by decide +kernel
theorem dX12_valley_126 : decode cX12_valley 126 = .ok (.iconst 1, 1) := by decide +kernel
theorem dX12_valley_127 : decode cX12_valley 127 = .ok (.iadd, 1) := by decide +kernel
theorem dX12_valley_128 : decode cX12_valley 128 = .ok (.iastore, 1) := by decide +kernel
theorem dX12_valley_129 : decode cX12_valley 129 = .ok (.aload_n 0, 1) := by decide +kernel
theorem dX12_valley_130 : decode cX12_valley 130 = .ok (.iconst 0, 1) := by decide +kernel
theorem dX12_valley_131 : decode cX12_valley 131 = .ok (.putfield 102, 3) := by decide +kernel
theorem dX12_valley_134 : decode cX12_valley 134 = .ok (.aload_n 0, 1) := by decide +kernel
theorem dX12_valley_135 : decode cX12_valley 135 = .ok (.getfield 29, 3) := by decide +kernel
theorem dX12_valley_138 : decode cX12_valley 138 = .ok (.iconst 3, 1) := by decide +kernel
theorem dX12_valley_139 : decode cX12_valley 139 = .ok (.iaload, 1) := by decide +kernel
theorem dX12_valley_140 : decode cX12_valley 140 = .ok (.ireturn, 1) := by decide +kernel
theorem dX12_law_0 : decode cX12_law 0 = .ok (.aload_n 0, 1) := by decide +kernel
theorem dX12_law_1 : decode cX12_law 1 = .ok (.iconst 0, 1) := by decide +kernel
theorem dX12_law_2 : decode cX12_law 2 = .ok (.invokevirtual 298, 3) := by decide +kernel
theorem dX12_law_5 : decode cX12_law 5 = .ok (.istore_n 1, 1) := by decide +kernel
theorem dX12_law_6 : decode cX12_law 6 = .ok (.aload_n 0, 1) := by decide +kernel
theorem dX12_law_7 : decode cX12_law 7 = .ok (.iload_n 1, 1) := by decide +kernel
theorem dX12_law_8 : decode cX12_law 8 = .ok (.ifCond .ge 10, 3) := by decide +kernel
theorem dX12_law_11 : decode cX12_law 11 = .ok (.aload_n 0, 1) := by decide +kernel
theorem dX12_law_12 : decode cX12_law 12 = .ok (.getfield 149, 3) := by decide +kernel
theorem dX12_law_15 : decode cX12_law 15 = .ok (.goto 4, 3) := by decide +kernel
theorem dX12_law_18 : decode cX12_law 18 = .ok (.iconst (-1), 1) := by decide +kernel
theorem dX12_law_19 : decode cX12_law 19 = .ok (.putfield 46, 3) := by decide +kernel
theorem dX12_law_22 : decode cX12_law 22 = .ok (.aload_n 0, 1) := by decide +kernel
theorem dX12_law_23 : decode cX12_law 23 = .ok (.iload_n 1, 1) := by decide +kernel
theorem dX12_law_24 : decode cX12_law 24 = .ok (.ifCond .ge 7, 3) := by decide +kernel
theorem dX12_law_27 : decode cX12_law 27 = .ok (.iconst 1, 1) := by decide +kernel
theorem dX12_law_28 : decode cX12_law 28 = .ok (.goto 4, 3) := by decide +kernel
theorem dX12_law_31 : decode cX12_law 31 = .ok (.iconst 0, 1) := by decide +kernel
theorem dX12_law_32 : decode cX12_law 32 = .ok (.iconst 1, 1) := by decide +kernel
theorem dX12_law_33 : decode cX12_law 33 = .ok (.invokevirtual 302, 3) := by decide +kernel
theorem dX12_law_36 : decode cX12_law 36 = .ok (.ifCond .eq 5, 3) := by decide +kernel
theorem dX12_law_39 : decode cX12_law 39 = .ok (.iconst 0, 1) := by decide +kernel
theorem dX12_law_40 : decode cX12_law 40 = .ok (.ireturn, 1) := by decide +kernel
theorem dX12_law_41 : decode cX12_law 41 = .ok (.aload_n 0, 1) := by decide +kernel
theorem dX12_law_42 : decode cX12_law 42 = .ok (.getfield 29, 3) := by decide +kernel
theorem dX12_law_45 : decode cX12_law 45 = .ok (.sipush 1164, 3) := by decide +kernel
theorem dX12_law_48 : decode cX12_law 48 = .ok (.iload_n 1, 1) := by decide +kernel
theorem dX12_law_49 : decode cX12_law 49 = .ok (.iastore, 1) := by decide +kernel
theorem dX12_law_50 : decode cX12_law 50 = .ok (.iconst 0, 1) := by decide +kernel
theorem dX12_law_51 : decode cX12_law 51 = .ok (.istore_n 2, 1) := by decide +kernel
theorem dX12_law_52 : decode cX12_law 52 = .ok (.iload_n 2, 1) := by decide +kernel
theorem dX12_law_53 : decode cX12_law 53 = .ok (.sipush 825, 3) := by decide +kernel
theorem dX12_law_56 : decode cX12_law 56 = .ok (.if_icmp .ge 29, 3) := by decide +kernel
theorem dX12_law_59 : decode cX12_law 59 = .ok (.aload_n 0, 1) := by decide +kernel
theorem dX12_law_60 : decode cX12_law 60 = .ok (.getfield 29, 3) := by decide +kernel
theorem dX12_law_63 : decode cX12_law 63 = .ok (.sipush 339, 3) := by decide +kernel
theorem dX12_law_66 : decode cX12_law 66 = .ok (.iload_n 2, 1) := by decide +kernel
theorem dX12_law_67 : decode cX12_law 67 = .ok (.iadd, 1) := by decide +kernel
theorem dX12_law_68 : decode cX12_law 68 = .ok (.aload_n 0, 1) := by decide +kernel
theorem dX12_law_69 : decode cX12_law 69 = .ok (.getfield 29, 3) := by decide +kernel
theorem dX12_law_72 : decode cX12_law 72 = .ok (.sipush 1164, 3) := by decide +kernel
theorem dX12_law_75 : decode cX12_law 75 = .ok (.iload_n 2, 1) := by decide +kernel
theorem dX12_law_76 : decode cX12_law 76 = .ok (.iadd, 1) := by decide +kernel
theorem dX12_law_77 : decode cX12_law 77 = .ok (.iaload, 1) := by decide +kernel
theorem dX12_law_78 : decode cX12_law 78 = .ok (.iastore, 1) := by decide +kernel
theorem dX12_law_79 : decode cX12_law 79 = .ok (.iinc 2 1, 3) := by decide +kernel
theorem dX12_law_82 : decode cX12_law 82 = .ok (.goto (-30), 3) := by decide +kernel
theorem dX12_law_85 : decode cX12_law 85 = .ok (.aload_n 0, 1) := by decide +kernel
theorem dX12_law_86 : decode cX12_law 86 = .ok (.getfield 29, 3) := by decide +kernel
theorem dX12_law_89 : decode cX12_law 89 = .ok (.iconst 4, 1) := by decide +kernel
theorem dX12_law_90 : decode cX12_law 90 = .ok (.iconst 1, 1) := by decide +kernel
theorem dX12_law_91 : decode cX12_law 91 = .ok (.iastore, 1) := by decide +kernel
theorem dX12_law_92 : decode cX12_law 92 = .ok (.aload_n 0, 1) := by decide +kernel
theorem dX12_law_93 : decode cX12_law 93 = .ok (.iconst 0, 1) := by decide +kernel
theorem dX12_law_94 : decode cX12_law 94 = .ok (.putfield 102, 3) := by decide +kernel
theorem dX12_law_97 : decode cX12_law 97 = .ok (.iload_n 1, 1) := by decide +kernel
theorem dX12_law_98 : decode cX12_law 98 = .ok (.ireturn, 1) := by decide +kernel
theorem dX12_asTold_0 : decode cX12_asTold 0 = .ok (.aload_n 0, 1) := by decide +kernel
theorem dX12_asTold_1 : decode cX12_asTold 1 = .ok (.iconst 1, 1) := by decide +kernel
theorem dX12_asTold_2 : decode cX12_asTold 2 = .ok (.aload_n 0, 1) := by decide +kernel
theorem dX12_asTold_3 : decode cX12_asTold 3 = .ok (.invokevirtual 121, 3) := by decide +kernel
theorem dX12_asTold_6 : decode cX12_asTold 6 = .ok (.ishl, 1) := by decide +kernel
theorem dX12_asTold_7 : decode cX12_asTold 7 = .ok (.iconst 1, 1) := by decide +kernel
theorem dX12_asTold_8 : decode cX12_asTold 8 = .ok (.isub, 1) := by decide +kernel
theorem dX12_asTold_9 : decode cX12_asTold 9 = .ok (.putfield 305, 3) := by decide +kernel
theorem dX12_asTold_12 : decode cX12_asTold 12 = .ok (.aload_n 0, 1) := by decide +kernel
theorem dX12_asTold_13 : decode cX12_asTold 13 = .ok (.iconst 1, 1) := by decide +kernel
theorem dX12_asTold_14 : decode cX12_asTold 14 = .ok (.putfield 308, 3) := by decide +kernel
theorem dX12_asTold_17 : decode cX12_asTold 17 = .ok (.return_, 1) := by decide +kernel
theorem dX12_factOf_0 : decode cX12_factOf 0 = .ok (.iload 5, 2) := by decide +kernel
theorem dX12_factOf_2 : decode cX12_factOf 2 = .ok (.iload 4, 2) := by decide +kernel
theorem dX12_factOf_4 : decode cX12_factOf 4 = .ok (.isub, 1) := by decide +kernel
theorem dX12_factOf_5 : decode cX12_factOf 5 = .ok (.aload_n 0, 1) := by decide +kernel
theorem dX12_factOf_6 : decode cX12_factOf 6 = .ok (.iload_n 3, 1) := by decide +kernel
theorem dX12_factOf_7 : decode cX12_factOf 7 = .ok (.invokevirtual 311, 3) := by decide +kernel
theorem dX12_factOf_10 : decode cX12_factOf 10 = .ok (.isub, 1) := by decide +kernel
theorem dX12_factOf_11 : decode cX12_factOf 11 = .ok (.istore 6, 2) := by decide +kernel
theorem dX12_factOf_13 : decode cX12_factOf 13 = .ok (.iload_n 1, 1) := by decide +kernel
theorem dX12_factOf_14 : decode cX12_factOf 14 = .ok (.tableswitch 73 0 5 #[38, 40, 43, 46, 49, 57], 38) := by decide +kernel
theorem dX12_factOf_52 : decode cX12_factOf 52 = .ok (.iload_n 3, 1) := by decide +kernel
theorem dX12_factOf_53 : decode cX12_factOf 53 = .ok (.ireturn, 1) := by decide +kernel
theorem dX12_factOf_54 : decode cX12_factOf 54 = .ok (.iload 4, 2) := by decide +kernel
theorem dX12_factOf_56 : decode cX12_factOf 56 = .ok (.ireturn, 1) := by decide +kernel
theorem dX12_factOf_57 : decode cX12_factOf 57 = .ok (.iload 5, 2) := by decide +kernel
theorem dX12_factOf_59 : decode cX12_factOf 59 = .ok (.ireturn, 1) := by decide +kernel
theorem dX12_factOf_60 : decode cX12_factOf 60 = .ok (.iload 6, 2) := by decide +kernel
theorem dX12_factOf_62 : decode cX12_factOf 62 = .ok (.ireturn, 1) := by decide +kernel
theorem dX12_factOf_63 : decode cX12_factOf 63 = .ok (.aload_n 0, 1) := by decide +kernel
theorem dX12_factOf_64 : decode cX12_factOf 64 = .ok (.getfield 29, 3) := by decide +kernel
theorem dX12_factOf_67 : decode cX12_factOf 67 = .ok (.bipush 7, 2) := by decide +kernel
theorem dX12_factOf_69 : decode cX12_factOf 69 = .ok (.iaload, 1) := by decide +kernel
theorem dX12_factOf_70 : decode cX12_factOf 70 = .ok (.ireturn, 1) := by decide +kernel
theorem dX12_factOf_71 : decode cX12_factOf 71 = .ok (.iload 4, 2) := by decide +kernel
theorem dX12_factOf_73 : decode cX12_factOf 73 = .ok (.ifCond .eq 8, 3) := by decide +kernel
theorem dX12_factOf_76 : decode cX12_factOf 76 = .ok (.iload 6, 2) := by decide +kernel
theorem dX12_factOf_78 : decode cX12_factOf 78 = .ok (.ifCond .ne 7, 3) := by decide +kernel
theorem dX12_factOf_81 : decode cX12_factOf 81 = .ok (.iconst 1, 1) := by decide +kernel
theorem dX12_factOf_82 : decode cX12_factOf 82 = .ok (.goto 4, 3) := by decide +kernel
theorem dX12_factOf_85 : decode cX12_factOf 85 = .ok (.iconst 0, 1) := by decide +kernel
theorem dX12_factOf_86 : decode cX12_factOf 86 = .ok (.ireturn, 1) := by decide +kernel
theorem dX12_factOf_87 : decode cX12_factOf 87 = .ok (.iload_n 2, 1) := by decide +kernel
theorem dX12_factOf_88 : decode cX12_factOf 88 = .ok (.ireturn, 1) := by decide +kernel
theorem dX12_holdsLine_0 : decode cX12_holdsLine 0 = .ok (.iconst 0, 1) := by decide +kernel
theorem dX12_holdsLine_1 : decode cX12_holdsLine 1 = .ok (.istore 5, 2) := by decide +kernel
theorem dX12_holdsLine_3 : decode cX12_holdsLine 3 = .ok (.sipush 340, 3) := by decide +kernel
theorem dX12_holdsLine_6 : decode cX12_holdsLine 6 = .ok (.iconst 2, 1) := by decide +kernel
theorem dX12_holdsLine_7 : decode cX12_holdsLine 7 = .ok (.iload_n 1, 1) := by decide +kernel
theorem dX12_holdsLine_8 : decode cX12_holdsLine 8 = .ok (.imul, 1) := by decide +kernel
theorem dX12_holdsLine_9 : decode cX12_holdsLine 9 = .ok (.iadd, 1) := by decide +kernel
theorem dX12_holdsLine_10 : decode cX12_holdsLine 10 = .ok (.istore 6, 2) := by decide +kernel
theorem dX12_holdsLine_12 : decode cX12_holdsLine 12 = .ok (.aload_n 0, 1) := by decide +kernel
theorem dX12_holdsLine_13 : decode cX12_holdsLine 13 = .ok (.getfield 29, 3) := by decide +kernel
theorem dX12_holdsLine_16 : decode cX12_holdsLine 16 = .ok (.iload 6, 2) := by decide +kernel
theorem dX12_holdsLine_18 : decode cX12_holdsLine 18 = .ok (.iaload, 1) := by decide +kernel
theorem dX12_holdsLine_19 : decode cX12_holdsLine 19 = .ok (.istore 7, 2) := by decide +kernel
theorem dX12_holdsLine_21 : decode cX12_holdsLine 21 = .ok (.iload 7, 2) := by decide +kernel
theorem dX12_holdsLine_23 : decode cX12_holdsLine 23 = .ok (.aload_n 0, 1) := by decide +kernel
theorem dX12_holdsLine_24 : decode cX12_holdsLine 24 = .ok (.getfield 29, 3) := by decide +kernel
theorem dX12_holdsLine_27 : decode cX12_holdsLine 27 = .ok (.iload 6, 2) := by decide +kernel
theorem dX12_holdsLine_29 : decode cX12_holdsLine 29 = .ok (.iconst 1, 1) := by decide +kernel
theorem dX12_holdsLine_30 : decode cX12_holdsLine 30 = .ok (.iadd, 1) := by decide +kernel
theorem dX12_holdsLine_31 : decode cX12_holdsLine 31 = .ok (.iaload, 1) := by decide +kernel
theorem dX12_holdsLine_32 : decode cX12_holdsLine 32 = .ok (.if_icmp .ge 239, 3) := by decide +kernel
theorem dX12_holdsLine_35 : decode cX12_holdsLine 35 = .ok (.aload_n 0, 1) := by decide +kernel
theorem dX12_holdsLine_36 : decode cX12_holdsLine 36 = .ok (.getfield 29, 3) := by decide +kernel
theorem dX12_holdsLine_39 : decode cX12_holdsLine 39 = .ok (.sipush 364, 3) := by decide +kernel
theorem dX12_holdsLine_42 : decode cX12_holdsLine 42 = .ok (.iconst 2, 1) := by decide +kernel
theorem dX12_holdsLine_43 : decode cX12_holdsLine 43 = .ok (.iload 7, 2) := by decide +kernel
theorem dX12_holdsLine_45 : decode cX12_holdsLine 45 = .ok (.imul, 1) := by decide +kernel
theorem dX12_holdsLine_46 : decode cX12_holdsLine 46 = .ok (.iadd, 1) := by decide +kernel
theorem dX12_holdsLine_47 : decode cX12_holdsLine 47 = .ok (.iaload, 1) := by decide +kernel
theorem dX12_holdsLine_48 : decode cX12_holdsLine 48 = .ok (.istore 8, 2) := by decide +kernel
theorem dX12_holdsLine_50 : decode cX12_holdsLine 50 = .ok (.iload 8, 2) := by decide +kernel
theorem dX12_holdsLine_52 : decode cX12_holdsLine 52 = .ok (.bipush 6, 2) := by decide +kernel
theorem dX12_holdsLine_54 : decode cX12_holdsLine 54 = .ok (.if_icmp .gt 41, 3) := by decide +kernel
theorem dX12_holdsLine_57 : decode cX12_holdsLine 57 = .ok (.aload_n 0, 1) := by decide +kernel
theorem dX12_holdsLine_58 : decode cX12_holdsLine 58 = .ok (.getfield 52, 3) := by decide +kernel
theorem dX12_holdsLine_61 : decode cX12_holdsLine 61 = .ok (.iload 5, 2) := by decide +kernel
theorem dX12_holdsLine_63 : decode cX12_holdsLine 63 = .ok (.aload_n 0, 1) := by decide +kernel
theorem dX12_holdsLine_64 : decode cX12_holdsLine 64 = .ok (.iload 8, 2) := by decide +kernel
theorem dX12_holdsLine_66 : decode cX12_holdsLine 66 = .ok (.aload_n 0, 1) := by decide +kernel
theorem dX12_holdsLine_67 : decode cX12_holdsLine 67 = .ok (.getfield 29, 3) := by decide +kernel
theorem dX12_holdsLine_70 : decode cX12_holdsLine 70 = .ok (.sipush 364, 3) := by decide +kernel
theorem dX12_holdsLine_73 : decode cX12_holdsLine 73 = .ok (.iconst 2, 1) := by decide +kernel
theorem dX12_holdsLine_74 : decode cX12_holdsLine 74 = .ok (.iload 7, 2) := by decide +kernel
theorem dX12_holdsLine_76 : decode cX12_holdsLine 76 = .ok (.imul, 1) := by decide +kernel
theorem dX12_holdsLine_77 : decode cX12_holdsLine 77 = .ok (.iadd, 1) := by decide +kernel
theorem dX12_holdsLine_78 : decode cX12_holdsLine 78 = .ok (.iconst 1, 1) := by decide +kernel
theorem dX12_holdsLine_79 : decode cX12_holdsLine 79 = .ok (.iadd, 1) := by decide +kernel
theorem dX12_holdsLine_80 : decode cX12_holdsLine 80 = .ok (.iaload, 1) := by decide +kernel
theorem dX12_holdsLine_81 : decode cX12_holdsLine 81 = .ok (.iload_n 2, 1) := by decide +kernel
theorem dX12_holdsLine_82 : decode cX12_holdsLine 82 = .ok (.iload_n 3, 1) := by decide +kernel
theorem dX12_holdsLine_83 : decode cX12_holdsLine 83 = .ok (.iload 4, 2) := by decide +kernel
theorem dX12_holdsLine_85 : decode cX12_holdsLine 85 = .ok (.invokevirtual 314, 3) := by decide +kernel
theorem dX12_holdsLine_88 : decode cX12_holdsLine 88 = .ok (.iastore, 1) := by decide +kernel
theorem dX12_holdsLine_89 : decode cX12_holdsLine 89 = .ok (.iinc 5 1, 3) := by decide +kernel
theorem dX12_holdsLine_92 : decode cX12_holdsLine 92 = .ok (.goto 173, 3) := by decide +kernel
theorem dX12_holdsLine_95 : decode cX12_holdsLine 95 = .ok (.iload 8, 2) := by decide +kernel
theorem dX12_holdsLine_97 : decode cX12_holdsLine 97 = .ok (.bipush 10, 2) := by decide +kernel
theorem dX12_holdsLine_99 : decode cX12_holdsLine 99 = .ok (.if_icmp .ne 26, 3) := by decide +kernel
theorem dX12_holdsLine_102 : decode cX12_holdsLine 102 = .ok (.aload_n 0, 1) := by decide +kernel
theorem dX12_holdsLine_103 : decode cX12_holdsLine 103 = .ok (.getfield 52, 3) := by decide +kernel
theorem dX12_holdsLine_106 : decode cX12_holdsLine 106 = .ok (.iload 5, 2) := by decide +kernel
theorem dX12_holdsLine_108 : decode cX12_holdsLine 108 = .ok (.iconst 1, 1) := by decide +kernel
theorem dX12_holdsLine_109 : decode cX12_holdsLine 109 = .ok (.isub, 1) := by decide +kernel
theorem dX12_holdsLine_110 : decode cX12_holdsLine 110 = .ok (.iconst 1, 1) := by decide +kernel
theorem dX12_holdsLine_111 : decode cX12_holdsLine 111 = .ok (.aload_n 0, 1) := by decide +kernel
theorem dX12_holdsLine_112 : decode cX12_holdsLine 112 = .ok (.getfield 52, 3) := by decide +kernel
theorem dX12_holdsLine_115 : decode cX12_holdsLine 115 = .ok (.iload 5, 2) := by decide +kernel
theorem dX12_holdsLine_117 : decode cX12_holdsLine 117 = .ok (.iconst 1, 1) := by decide +kernel
theorem dX12_holdsLine_118 : decode cX12_holdsLine 118 = .ok (.isub, 1) := by decide +kernel
theorem dX12_holdsLine_119 : decode cX12_holdsLine 119 = .ok (.iaload, 1) := by decide +kernel
theorem dX12_holdsLine_120 : decode cX12_holdsLine 120 = .ok (.isub, 1) := by decide +kernel
theorem dX12_holdsLine_121 : decode cX12_holdsLine 121 = .ok (.iastore, 1) := by decide +kernel
theorem dX12_holdsLine_122 : decode cX12_holdsLine 122 = .ok (.goto 143, 3) := by decide +kernel
theorem dX12_holdsLine_125 : decode cX12_holdsLine 125 = .ok (.iinc 5 (-1), 3) := by decide +kernel
theorem dX12_holdsLine_128 : decode cX12_holdsLine 128 = .ok (.aload_n 0, 1) := by decide +kernel
theorem dX12_holdsLine_129 : decode cX12_holdsLine 129 = .ok (.getfield 52, 3) := by decide +kernel
theorem dX12_holdsLine_132 : decode cX12_holdsLine 132 = .ok (.iload 5, 2) := by decide +kernel
theorem dX12_holdsLine_134 : decode cX12_holdsLine 134 = .ok (.iconst 1, 1) := by decide +kernel
theorem dX12_holdsLine_135 : decode cX12_holdsLine 135 = .ok (.isub, 1) := by decide +kernel
theorem dX12_holdsLine_136 : decode cX12_holdsLine 136 = .ok (.iaload, 1) := by decide +kernel
theorem dX12_holdsLine_137 : decode cX12_holdsLine 137 = .ok (.istore 9, 2) := by decide +kernel
theorem dX12_holdsLine_139 : decode cX12_holdsLine 139 = .ok (.aload_n 0, 1) := by decide +kernel
theorem dX12_holdsLine_140 : decode cX12_holdsLine 140 = .ok (.getfield 52, 3) := by decide +kernel
theorem dX12_holdsLine_143 : decode cX12_holdsLine 143 = .ok (.iload 5, 2) := by decide +kernel
theorem dX12_holdsLine_145 : decode cX12_holdsLine 145 = .ok (.iaload, 1) := by decide +kernel
theorem dX12_holdsLine_146 : decode cX12_holdsLine 146 = .ok (.istore 10, 2) := by decide +kernel
theorem dX12_holdsLine_148 : decode cX12_holdsLine 148 = .ok (.iload 8, 2) := by decide +kernel
theorem dX12_holdsLine_150 : decode cX12_holdsLine 150 = .ok (.bipush 8, 2) := by decide +kernel
theorem dX12_holdsLine_152 : decode cX12_holdsLine 152 = .ok (.if_icmp .ne 18, 3) := by decide +kernel
theorem dX12_holdsLine_155 : decode cX12_holdsLine 155 = .ok (.iload 9, 2) := by decide +kernel
theorem dX12_holdsLine_157 : decode cX12_holdsLine 157 = .ok (.iload 10, 2) := by decide +kernel
theorem dX12_holdsLine_159 : decode cX12_holdsLine 159 = .ok (.if_icmp .ge 7, 3) := by decide +kernel
theorem dX12_holdsLine_162 : decode cX12_holdsLine 162 = .ok (.iconst 1, 1) := by decide +kernel
theorem dX12_holdsLine_163 : decode cX12_holdsLine 163 = .ok (.goto 66, 3) := by decide +kernel
theorem dX12_holdsLine_166 : decode cX12_holdsLine 166 = .ok (.iconst 0, 1) := by decide +kernel
theorem dX12_holdsLine_167 : decode cX12_holdsLine 167 = .ok (.goto 62, 3) := by decide +kernel
theorem dX12_holdsLine_170 : decode cX12_holdsLine 170 = .ok (.iload 8, 2) := by decide +kernel
theorem dX12_holdsLine_172 : decode cX12_holdsLine 172 = .ok (.bipush 9, 2) := by decide +kernel
theorem dX12_holdsLine_174 : decode cX12_holdsLine 174 = .ok (.if_icmp .ne 18, 3) := by decide +kernel
theorem dX12_holdsLine_177 : decode cX12_holdsLine 177 = .ok (.iload 9, 2) := by decide +kernel
theorem dX12_holdsLine_179 : decode cX12_holdsLine 179 = .ok (.iload 10, 2) := by decide +kernel
theorem dX12_holdsLine_181 : decode cX12_holdsLine 181 = .ok (.if_icmp .le 7, 3) := by decide +kernel
theorem dX12_holdsLine_184 : decode cX12_holdsLine 184 = .ok (.iconst 1, 1) := by decide +kernel
theorem dX12_holdsLine_185 : decode cX12_holdsLine 185 = .ok (.goto 44, 3) := by decide +kernel
theorem dX12_holdsLine_188 : decode cX12_holdsLine 188 = .ok (.iconst 0, 1) := by decide +kernel
theorem dX12_holdsLine_189 : decode cX12_holdsLine 189 = .ok (.goto 40, 3) := by decide +kernel
theorem dX12_holdsLine_192 : decode cX12_holdsLine 192 = .ok (.iload 8, 2) := by decide +kernel
theorem dX12_holdsLine_194 : decode cX12_holdsLine 194 = .ok (.bipush 11, 2) := by decide +kernel
theorem dX12_holdsLine_196 : decode cX12_holdsLine 196 = .ok (.if_icmp .ne 20, 3) := by decide +kernel
theorem dX12_holdsLine_199 : decode cX12_holdsLine 199 = .ok (.iload 9, 2) := by decide +kernel
theorem dX12_holdsLine_201 : decode cX12_holdsLine 201 = .ok (.iload 10, 2) := by decide +kernel
theorem dX12_holdsLine_203 : decode cX12_holdsLine 203 = .ok (.iadd, 1) := by decide +kernel
theorem dX12_holdsLine_204 : decode cX12_holdsLine 204 = .ok (.iconst 2, 1) := by decide +kernel
theorem dX12_holdsLine_205 : decode cX12_holdsLine 205 = .ok (.if_icmp .ne 7, 3) := by decide +kernel
theorem dX12_holdsLine_208 : decode cX12_holdsLine 208 = .ok (.iconst 1, 1) := by decide +kernel
theorem dX12_holdsLine_209 : decode cX12_holdsLine 209 = .ok (.goto 20, 3) := by decide +kernel
theorem dX12_holdsLine_212 : decode cX12_holdsLine 212 = .ok (.iconst 0, 1) := by decide +kernel
theorem dX12_holdsLine_213 : decode cX12_holdsLine 213 = .ok (.goto 16, 3) := by decide +kernel
theorem dX12_holdsLine_216 : decode cX12_holdsLine 216 = .ok (.iload 9, 2) := by decide +kernel
theorem dX12_holdsLine_218 : decode cX12_holdsLine 218 = .ok (.iload 10, 2) := by decide +kernel
theorem dX12_holdsLine_220 : decode cX12_holdsLine 220 = .ok (.iadd, 1) := by decide +kernel
theorem dX12_holdsLine_221 : decode cX12_holdsLine 221 = .ok (.ifCond .le 7, 3) := by decide +kernel
theorem dX12_holdsLine_224 : decode cX12_holdsLine 224 = .ok (.iconst 1, 1) := by decide +kernel
theorem dX12_holdsLine_225 : decode cX12_holdsLine 225 = .ok (.goto 4, 3) := by decide +kernel
theorem dX12_holdsLine_228 : decode cX12_holdsLine 228 = .ok (.iconst 0, 1) := by decide +kernel
theorem dX12_holdsLine_229 : decode cX12_holdsLine 229 = .ok (.istore 11, 2) := by decide +kernel
theorem dX12_holdsLine_231 : decode cX12_holdsLine 231 = .ok (.aload_n 0, 1) := by decide +kernel
theorem dX12_holdsLine_232 : decode cX12_holdsLine 232 = .ok (.getfield 52, 3) := by decide +kernel
theorem dX12_holdsLine_235 : decode cX12_holdsLine 235 = .ok (.iload 5, 2) := by decide +kernel
theorem dX12_holdsLine_237 : decode cX12_holdsLine 237 = .ok (.iconst 1, 1) := by decide +kernel
theorem dX12_holdsLine_238 : decode cX12_holdsLine 238 = .ok (.isub, 1) := by decide +kernel
theorem dX12_holdsLine_239 : decode cX12_holdsLine 239 = .ok (.iload 8, 2) := by decide +kernel
theorem dX12_holdsLine_241 : decode cX12_holdsLine 241 = .ok (.bipush 7, 2) := by decide +kernel
theorem dX12_holdsLine_243 : decode cX12_holdsLine 243 = .ok (.if_icmp .ne 11, 3) := by decide +kernel
theorem dX12_holdsLine_246 : decode cX12_holdsLine 246 = .ok (.iload 9, 2) := by decide +kernel
theorem dX12_holdsLine_248 : decode cX12_holdsLine 248 = .ok (.iload 10, 2) := by decide +kernel
theorem dX12_holdsLine_250 : decode cX12_holdsLine 250 = .ok (.iadd, 1) := by decide +kernel
theorem dX12_holdsLine_251 : decode cX12_holdsLine 251 = .ok (.goto 13, 3) := by decide +kernel
theorem dX12_holdsLine_254 : decode cX12_holdsLine 254 = .ok (.iload 11, 2) := by decide +kernel
theorem dX12_holdsLine_256 : decode cX12_holdsLine 256 = .ok (.ifCond .eq 7, 3) := by decide +kernel
theorem dX12_holdsLine_259 : decode cX12_holdsLine 259 = .ok (.iconst 1, 1) := by decide +kernel
theorem dX12_holdsLine_260 : decode cX12_holdsLine 260 = .ok (.goto 4, 3) := by decide +kernel
theorem dX12_holdsLine_263 : decode cX12_holdsLine 263 = .ok (.iconst 0, 1) := by decide +kernel
theorem dX12_holdsLine_264 : decode cX12_holdsLine 264 = .ok (.iastore, 1) := by decide +kernel
theorem dX12_holdsLine_265 : decode cX12_holdsLine 265 = .ok (.iinc 7 1, 3) := by decide +kernel
theorem dX12_holdsLine_268 : decode cX12_holdsLine 268 = .ok (.goto (-247), 3) := by decide +kernel
theorem dX12_holdsLine_271 : decode cX12_holdsLine 271 = .ok (.iload 5, 2) := by decide +kernel
theorem dX12_holdsLine_273 : decode cX12_holdsLine 273 = .ok (.ifCond .eq 13, 3) := by decide +kernel
theorem dX12_holdsLine_276 : decode cX12_holdsLine 276 = .ok (.aload_n 0, 1) := by decide +kernel
theorem dX12_holdsLine_277 : decode cX12_holdsLine 277 = .ok (.getfield 52, 3) := by decide +kernel
theorem dX12_holdsLine_280 : decode cX12_holdsLine 280 = .ok (.iconst 0, 1) := by decide +kernel
theorem dX12_holdsLine_281 : decode cX12_holdsLine 281 = .ok (.iaload, 1) := by decide +kernel
theorem dX12_holdsLine_282 : decode cX12_holdsLine 282 = .ok (.iconst 1, 1) := by decide +kernel
theorem dX12_holdsLine_283 : decode cX12_holdsLine 283 = .ok (.if_icmp .ne 7, 3) := by decide +kernel
theorem dX12_holdsLine_286 : decode cX12_holdsLine 286 = .ok (.iconst 1, 1) := by decide +kernel
theorem dX12_holdsLine_287 : decode cX12_holdsLine 287 = .ok (.goto 4, 3) := by decide +kernel
theorem dX12_holdsLine_290 : decode cX12_holdsLine 290 = .ok (.iconst 0, 1) := by decide +kernel
theorem dX12_holdsLine_291 : decode cX12_holdsLine 291 = .ok (.ireturn, 1) := by decide +kernel
theorem dX12_isBarred_0 : decode cX12_isBarred 0 = .ok (.iconst 0, 1) := by decide +kernel
theorem dX12_isBarred_1 : decode cX12_isBarred 1 = .ok (.istore 4, 2) := by decide +kernel
theorem dX12_isBarred_3 : decode cX12_isBarred 3 = .ok (.iconst 0, 1) := by decide +kernel
theorem dX12_isBarred_4 : decode cX12_isBarred 4 = .ok (.istore 5, 2) := by decide +kernel
theorem dX12_isBarred_6 : decode cX12_isBarred 6 = .ok (.aload_n 0, 1) := by decide +kernel
theorem dX12_isBarred_7 : decode cX12_isBarred 7 = .ok (.getfield 308, 3) := by decide +kernel
theorem dX12_isBarred_10 : decode cX12_isBarred 10 = .ok (.ifCond .eq 48, 3) := by decide +kernel
theorem dX12_isBarred_13 : decode cX12_isBarred 13 = .ok (.aload_n 0, 1) := by decide +kernel
theorem dX12_isBarred_14 : decode cX12_isBarred 14 = .ok (.getfield 29, 3) := by decide +kernel
theorem dX12_isBarred_17 : decode cX12_isBarred 17 = .ok (.iconst 4, 1) := by decide +kernel
theorem dX12_isBarred_18 : decode cX12_isBarred 18 = .ok (.iaload, 1) := by decide +kernel
theorem dX12_isBarred_19 : decode cX12_isBarred 19 = .ok (.iconst 1, 1) := by decide +kernel
theorem dX12_isBarred_20 : decode cX12_isBarred 20 = .ok (.if_icmp .ne 38, 3) := by decide +kernel
theorem dX12_isBarred_23 : decode cX12_isBarred 23 = .ok (.iload 5, 2) := by decide +kernel
theorem dX12_isBarred_25 : decode cX12_isBarred 25 = .ok (.aload_n 0, 1) := by decide +kernel
theorem dX12_isBarred_26 : decode cX12_isBarred 26 = .ok (.getfield 29, 3) := by decide +kernel
theorem dX12_isBarred_29 : decode cX12_isBarred 29 = .ok (.sipush 339, 3) := by decide +kernel
theorem dX12_isBarred_32 : decode cX12_isBarred 32 = .ok (.iaload, 1) := by decide +kernel
theorem dX12_isBarred_33 : decode cX12_isBarred 33 = .ok (.if_icmp .ge 25, 3) := by decide +kernel
theorem dX12_isBarred_36 : decode cX12_isBarred 36 = .ok (.iload 4, 2) := by decide +kernel
theorem dX12_isBarred_38 : decode cX12_isBarred 38 = .ok (.ifCond .ne 20, 3) := by decide +kernel
theorem dX12_isBarred_41 : decode cX12_isBarred 41 = .ok (.aload_n 0, 1) := by decide +kernel
theorem dX12_isBarred_42 : decode cX12_isBarred 42 = .ok (.iload 5, 2) := by decide +kernel
theorem dX12_isBarred_44 : decode cX12_isBarred 44 = .ok (.iload_n 1, 1) := by decide +kernel
theorem dX12_isBarred_45 : decode cX12_isBarred 45 = .ok (.iload_n 2, 1) := by decide +kernel
theorem dX12_isBarred_46 : decode cX12_isBarred 46 = .ok (.iload_n 3, 1) := by decide +kernel
theorem dX12_isBarred_47 : decode cX12_isBarred 47 = .ok (.invokevirtual 318, 3) := by decide +kernel
theorem dX12_isBarred_50 : decode cX12_isBarred 50 = .ok (.istore 4, 2) := by decide +kernel
theorem dX12_isBarred_52 : decode cX12_isBarred 52 = .ok (.iinc 5 1, 3) := by decide +kernel
theorem dX12_isBarred_55 : decode cX12_isBarred 55 = .ok (.goto (-49), 3) := by decide +kernel
theorem dX12_isBarred_58 : decode cX12_isBarred 58 = .ok (.iload 4, 2) := by decide +kernel
theorem dX12_isBarred_60 : decode cX12_isBarred 60 = .ok (.ireturn, 1) := by decide +kernel
theorem dX12_isFit_0 : decode cX12_isFit 0 = .ok (.lload_n 1, 1) := by decide +kernel
theorem dX12_isFit_1 : decode cX12_isFit 1 = .ok (.invokestatic 13, 3) := by decide +kernel
theorem dX12_isFit_4 : decode cX12_isFit 4 = .ok (.istore 5, 2) := by decide +kernel
theorem dX12_isFit_6 : decode cX12_isFit 6 = .ok (.iload 4, 2) := by decide +kernel
theorem dX12_isFit_8 : decode cX12_isFit 8 = .ok (.ifCond .lt 35, 3) := by decide +kernel
theorem dX12_isFit_11 : decode cX12_isFit 11 = .ok (.iload 4, 2) := by decide +kernel
theorem dX12_isFit_13 : decode cX12_isFit 13 = .ok (.iload 5, 2) := by decide +kernel
theorem dX12_isFit_15 : decode cX12_isFit 15 = .ok (.aload_n 0, 1) := by decide +kernel
theorem dX12_isFit_16 : decode cX12_isFit 16 = .ok (.iload_n 3, 1) := by decide +kernel
theorem dX12_isFit_17 : decode cX12_isFit 17 = .ok (.invokevirtual 311, 3) := by decide +kernel
theorem dX12_isFit_20 : decode cX12_isFit 20 = .ok (.isub, 1) := by decide +kernel
theorem dX12_isFit_21 : decode cX12_isFit 21 = .ok (.if_icmp .gt 22, 3) := by decide +kernel
theorem dX12_isFit_24 : decode cX12_isFit 24 = .ok (.iload 5, 2) := by decide +kernel
theorem dX12_isFit_26 : decode cX12_isFit 26 = .ok (.aload_n 0, 1) := by decide +kernel
theorem dX12_isFit_27 : decode cX12_isFit 27 = .ok (.iload_n 3, 1) := by decide +kernel
theorem dX12_isFit_28 : decode cX12_isFit 28 = .ok (.invokevirtual 311, 3) := by decide +kernel
theorem dX12_isFit_31 : decode cX12_isFit 31 = .ok (.isub, 1) := by decide +kernel
theorem dX12_isFit_32 : decode cX12_isFit 32 = .ok (.aload_n 0, 1) := by decide +kernel
theorem dX12_isFit_33 : decode cX12_isFit 33 = .ok (.iload_n 3, 1) := by decide +kernel
theorem dX12_isFit_34 : decode cX12_isFit 34 = .ok (.invokevirtual 322, 3) := by decide +kernel
theorem dX12_isFit_37 : decode cX12_isFit 37 = .ok (.iadd, 1) := by decide +kernel
theorem dX12_isFit_38 : decode cX12_isFit 38 = .ok (.bipush 20, 2) := by decide +kernel
theorem dX12_isFit_40 : decode cX12_isFit 40 = .ok (.if_icmp .le 5, 3) := by decide +kernel
theorem dX12_isFit_43 : decode cX12_isFit 43 = .ok (.iconst 0, 1) := by decide +kernel
theorem dX12_isFit_44 : decode cX12_isFit 44 = .ok (.ireturn, 1) := by decide +kernel
theorem dX12_isFit_45 : decode cX12_isFit 45 = .ok (.aload_n 0, 1) := by decide +kernel
theorem dX12_isFit_46 : decode cX12_isFit 46 = .ok (.getfield 305, 3) := by decide +kernel
theorem dX12_isFit_49 : decode cX12_isFit 49 = .ok (.iload_n 3, 1) := by decide +kernel
theorem dX12_isFit_50 : decode cX12_isFit 50 = .ok (.invokestatic 325, 3) := by decide +kernel
theorem dX12_isFit_53 : decode cX12_isFit 53 = .ok (.ifCond .eq 39, 3) := by decide +kernel
theorem dX12_isFit_56 : decode cX12_isFit 56 = .ok (.lload_n 1, 1) := by decide +kernel
theorem dX12_isFit_57 : decode cX12_isFit 57 = .ok (.iload 4, 2) := by decide +kernel
theorem dX12_isFit_59 : decode cX12_isFit 59 = .ok (.aload_n 0, 1) := by decide +kernel
theorem dX12_isFit_60 : decode cX12_isFit 60 = .ok (.iload_n 3, 1) := by decide +kernel
theorem dX12_isFit_61 : decode cX12_isFit 61 = .ok (.invokevirtual 311, 3) := by decide +kernel
theorem dX12_isFit_64 : decode cX12_isFit 64 = .ok (.invokestatic 328, 3) := by decide +kernel
theorem dX12_isFit_67 : decode cX12_isFit 67 = .ok (.aload_n 0, 1) := by decide +kernel
theorem dX12_isFit_68 : decode cX12_isFit 68 = .ok (.iload_n 3, 1) := by decide +kernel
theorem dX12_isFit_69 : decode cX12_isFit 69 = .ok (.invokevirtual 107, 3) := by decide +kernel
theorem dX12_isFit_72 : decode cX12_isFit 72 = .ok (.lcmp, 1) := by decide +kernel
theorem dX12_isFit_73 : decode cX12_isFit 73 = .ok (.ifCond .ne 19, 3) := by decide +kernel
theorem dX12_isFit_76 : decode cX12_isFit 76 = .ok (.aload_n 0, 1) := by decide +kernel
theorem dX12_isFit_77 : decode cX12_isFit 77 = .ok (.iload_n 3, 1) := by decide +kernel
theorem dX12_isFit_78 : decode cX12_isFit 78 = .ok (.iload 4, 2) := by decide +kernel
theorem dX12_isFit_80 : decode cX12_isFit 80 = .ok (.iload 5, 2) := by decide +kernel
theorem dX12_isFit_82 : decode cX12_isFit 82 = .ok (.invokevirtual 332, 3) := by decide +kernel
theorem dX12_isFit_85 : decode cX12_isFit 85 = .ok (.ifCond .ne 7, 3) := by decide +kernel
theorem dX12_isFit_88 : decode cX12_isFit 88 = .ok (.iconst 1, 1) := by decide +kernel
theorem dX12_isFit_89 : decode cX12_isFit 89 = .ok (.goto 4, 3) := by decide +kernel
theorem dX12_isFit_92 : decode cX12_isFit 92 = .ok (.iconst 0, 1) := by decide +kernel
theorem dX12_isFit_93 : decode cX12_isFit 93 = .ok (.ireturn, 1) := by decide +kernel
theorem dX12_used_0 : decode cX12_used 0 = .ok (.lload_n 1, 1) := by decide +kernel
theorem dX12_used_1 : decode cX12_used 1 = .ok (.iload 4, 2) := by decide +kernel
theorem dX12_used_3 : decode cX12_used 3 = .ok (.invokestatic 20, 3) := by decide +kernel
theorem dX12_used_6 : decode cX12_used 6 = .ok (.aload_n 0, 1) := by decide +kernel
theorem dX12_used_7 : decode cX12_used 7 = .ok (.iload_n 3, 1) := by decide +kernel
theorem dX12_used_8 : decode cX12_used 8 = .ok (.invokevirtual 111, 3) := by decide +kernel
theorem dX12_used_11 : decode cX12_used 11 = .ok (.invokestatic 335, 3) := by decide +kernel
theorem dX12_used_14 : decode cX12_used 14 = .ok (.lload_n 1, 1) := by decide +kernel
theorem dX12_used_15 : decode cX12_used 15 = .ok (.iload 4, 2) := by decide +kernel
theorem dX12_used_17 : decode cX12_used 17 = .ok (.aload_n 0, 1) := by decide +kernel
theorem dX12_used_18 : decode cX12_used 18 = .ok (.iload_n 3, 1) := by decide +kernel
theorem dX12_used_19 : decode cX12_used 19 = .ok (.invokevirtual 311, 3) := by decide +kernel
theorem dX12_used_22 : decode cX12_used 22 = .ok (.iadd, 1) := by decide +kernel
theorem dX12_used_23 : decode cX12_used 23 = .ok (.invokestatic 16, 3) := by decide +kernel
theorem dX12_used_26 : decode cX12_used 26 = .ok (.invokestatic 335, 3) := by decide +kernel
theorem dX12_used_29 : decode cX12_used 29 = .ok (.lreturn, 1) := by decide +kernel
theorem dX12_leastRule_0 : decode cX12_leastRule 0 = .ok (.iconst 0, 1) := by decide +kernel
theorem dX12_leastRule_1 : decode cX12_leastRule 1 = .ok (.istore 4, 2) := by decide +kernel
theorem dX12_leastRule_3 : decode cX12_leastRule 3 = .ok (.iload 4, 2) := by decide +kernel
theorem dX12_leastRule_5 : decode cX12_leastRule 5 = .ok (.aload_n 0, 1) := by decide +kernel
theorem dX12_leastRule_6 : decode cX12_leastRule 6 = .ok (.invokevirtual 121, 3) := by decide +kernel
theorem dX12_leastRule_9 : decode cX12_leastRule 9 = .ok (.if_icmp .ge 23, 3) := by decide +kernel
theorem dX12_leastRule_12 : decode cX12_leastRule 12 = .ok (.aload_n 0, 1) := by decide +kernel
theorem dX12_leastRule_13 : decode cX12_leastRule 13 = .ok (.lload_n 1, 1) := by decide +kernel
theorem dX12_leastRule_14 : decode cX12_leastRule 14 = .ok (.iload 4, 2) := by decide +kernel
theorem dX12_leastRule_16 : decode cX12_leastRule 16 = .ok (.iload_n 3, 1) := by decide +kernel
theorem dX12_leastRule_17 : decode cX12_leastRule 17 = .ok (.invokevirtual 339, 3) := by decide +kernel
theorem dX12_leastRule_20 : decode cX12_leastRule 20 = .ok (.ifCond .eq 6, 3) := by decide +kernel
theorem dX12_leastRule_23 : decode cX12_leastRule 23 = .ok (.iload 4, 2) := by decide +kernel
theorem dX12_leastRule_25 : decode cX12_leastRule 25 = .ok (.ireturn, 1) := by decide +kernel
theorem dX12_leastRule_26 : decode cX12_leastRule 26 = .ok (.iinc 4 1, 3) := by decide +kernel
theorem dX12_leastRule_29 : decode cX12_leastRule 29 = .ok (.goto (-26), 3) := by decide +kernel
theorem dX12_leastRule_32 : decode cX12_leastRule 32 = .ok (.iconst (-1), 1) := by decide +kernel
theorem dX12_leastRule_33 : decode cX12_leastRule 33 = .ok (.ireturn, 1) := by decide +kernel
theorem dX12_finds_0 : decode cX12_finds 0 = .ok (.lload_n 1, 1) := by decide +kernel
theorem dX12_finds_1 : decode cX12_finds 1 = .ok (.invokestatic 13, 3) := by decide +kernel
theorem dX12_finds_4 : decode cX12_finds 4 = .ok (.istore 4, 2) := by decide +kernel
theorem dX12_finds_6 : decode cX12_finds 6 = .ok (.iconst 0, 1) := by decide +kernel
theorem dX12_finds_7 : decode cX12_finds 7 = .ok (.istore 5, 2) := by decide +kernel
theorem dX12_finds_9 : decode cX12_finds 9 = .ok (.iload 5, 2) := by decide +kernel
theorem dX12_finds_11 : decode cX12_finds 11 = .ok (.iload_n 3, 1) := by decide +kernel
theorem dX12_finds_12 : decode cX12_finds 12 = .ok (.iconst 2, 1) := by decide +kernel
theorem dX12_finds_13 : decode cX12_finds 13 = .ok (.if_icmp .ne 10, 3) := by decide +kernel
theorem dX12_finds_16 : decode cX12_finds 16 = .ok (.aload_n 0, 1) := by decide +kernel
theorem dX12_finds_17 : decode cX12_finds 17 = .ok (.invokevirtual 121, 3) := by decide +kernel
theorem dX12_finds_20 : decode cX12_finds 20 = .ok (.goto 5, 3) := by decide +kernel
theorem dX12_finds_23 : decode cX12_finds 23 = .ok (.iload 4, 2) := by decide +kernel
theorem dX12_finds_25 : decode cX12_finds 25 = .ok (.if_icmp .ge 109, 3) := by decide +kernel
theorem dX12_finds_28 : decode cX12_finds 28 = .ok (.iconst 0, 1) := by decide +kernel
theorem dX12_finds_29 : decode cX12_finds 29 = .ok (.istore 6, 2) := by decide +kernel
theorem dX12_finds_31 : decode cX12_finds 31 = .ok (.iload 6, 2) := by decide +kernel
theorem dX12_finds_33 : decode cX12_finds 33 = .ok (.iload_n 3, 1) := by decide +kernel
theorem dX12_finds_34 : decode cX12_finds 34 = .ok (.iconst 2, 1) := by decide +kernel
theorem dX12_finds_35 : decode cX12_finds 35 = .ok (.if_icmp .ne 8, 3) := by decide +kernel
theorem dX12_finds_38 : decode cX12_finds 38 = .ok (.iload 4, 2) := by decide +kernel
theorem dX12_finds_40 : decode cX12_finds 40 = .ok (.goto 7, 3) := by decide +kernel
theorem dX12_finds_43 : decode cX12_finds 43 = .ok (.aload_n 0, 1) := by decide +kernel
theorem dX12_finds_44 : decode cX12_finds 44 = .ok (.invokevirtual 121, 3) := by decide +kernel
theorem dX12_finds_47 : decode cX12_finds 47 = .ok (.if_icmp .ge 81, 3) := by decide +kernel
theorem dX12_finds_50 : decode cX12_finds 50 = .ok (.iload_n 3, 1) := by decide +kernel
theorem dX12_finds_51 : decode cX12_finds 51 = .ok (.iconst 2, 1) := by decide +kernel
theorem dX12_finds_52 : decode cX12_finds 52 = .ok (.if_icmp .ne 8, 3) := by decide +kernel
theorem dX12_finds_55 : decode cX12_finds 55 = .ok (.iload 5, 2) := by decide +kernel
theorem dX12_finds_57 : decode cX12_finds 57 = .ok (.goto 5, 3) := by decide +kernel
theorem dX12_finds_60 : decode cX12_finds 60 = .ok (.iload 6, 2) := by decide +kernel
theorem dX12_finds_62 : decode cX12_finds 62 = .ok (.istore 7, 2) := by decide +kernel
theorem dX12_finds_64 : decode cX12_finds 64 = .ok (.iload_n 3, 1) := by decide +kernel
theorem dX12_finds_65 : decode cX12_finds 65 = .ok (.iconst 2, 1) := by decide +kernel
theorem dX12_finds_66 : decode cX12_finds 66 = .ok (.if_icmp .ne 8, 3) := by decide +kernel
theorem dX12_finds_69 : decode cX12_finds 69 = .ok (.iload 6, 2) := by decide +kernel
theorem dX12_finds_71 : decode cX12_finds 71 = .ok (.goto 20, 3) := by decide +kernel
theorem dX12_finds_74 : decode cX12_finds 74 = .ok (.iload_n 3, 1) := by decide +kernel
theorem dX12_finds_75 : decode cX12_finds 75 = .ok (.iconst 1, 1) := by decide +kernel
theorem dX12_finds_76 : decode cX12_finds 76 = .ok (.if_icmp .ne 13, 3) := by decide +kernel
theorem dX12_finds_79 : decode cX12_finds 79 = .ok (.iload 4, 2) := by decide +kernel
theorem dX12_finds_81 : decode cX12_finds 81 = .ok (.iconst 1, 1) := by decide +kernel
theorem dX12_finds_82 : decode cX12_finds 82 = .ok (.isub, 1) := by decide +kernel
theorem dX12_finds_83 : decode cX12_finds 83 = .ok (.iload 5, 2) := by decide +kernel
theorem dX12_finds_85 : decode cX12_finds 85 = .ok (.isub, 1) := by decide +kernel
theorem dX12_finds_86 : decode cX12_finds 86 = .ok (.goto 5, 3) := by decide +kernel
theorem dX12_finds_89 : decode cX12_finds 89 = .ok (.iload 5, 2) := by decide +kernel
theorem dX12_finds_91 : decode cX12_finds 91 = .ok (.istore 8, 2) := by decide +kernel
theorem dX12_finds_93 : decode cX12_finds 93 = .ok (.aload_n 0, 1) := by decide +kernel
theorem dX12_finds_94 : decode cX12_finds 94 = .ok (.lload_n 1, 1) := by decide +kernel
theorem dX12_finds_95 : decode cX12_finds 95 = .ok (.iload 7, 2) := by decide +kernel
theorem dX12_finds_97 : decode cX12_finds 97 = .ok (.iload 8, 2) := by decide +kernel
theorem dX12_finds_99 : decode cX12_finds 99 = .ok (.invokevirtual 339, 3) := by decide +kernel
theorem dX12_finds_102 : decode cX12_finds 102 = .ok (.ifCond .ne 6, 3) := by decide +kernel
theorem dX12_finds_105 : decode cX12_finds 105 = .ok (.goto 17, 3) := by decide +kernel
theorem dX12_finds_108 : decode cX12_finds 108 = .ok (.aload_n 0, 1) := by decide +kernel
theorem dX12_finds_109 : decode cX12_finds 109 = .ok (.iload 7, 2) := by decide +kernel
theorem dX12_finds_111 : decode cX12_finds 111 = .ok (.putfield 343, 3) := by decide +kernel
theorem dX12_finds_114 : decode cX12_finds 114 = .ok (.aload_n 0, 1) := by decide +kernel
theorem dX12_finds_115 : decode cX12_finds 115 = .ok (.iload 8, 2) := by decide +kernel
theorem dX12_finds_117 : decode cX12_finds 117 = .ok (.putfield 346, 3) := by decide +kernel
theorem dX12_finds_120 : decode cX12_finds 120 = .ok (.iconst 1, 1) := by decide +kernel
theorem dX12_finds_121 : decode cX12_finds 121 = .ok (.ireturn, 1) := by decide +kernel
theorem dX12_finds_122 : decode cX12_finds 122 = .ok (.iinc 6 1, 3) := by decide +kernel
theorem dX12_finds_125 : decode cX12_finds 125 = .ok (.goto (-94), 3) := by decide +kernel
theorem dX12_finds_128 : decode cX12_finds 128 = .ok (.iinc 5 1, 3) := by decide +kernel
theorem dX12_finds_131 : decode cX12_finds 131 = .ok (.goto (-122), 3) := by decide +kernel
theorem dX12_finds_134 : decode cX12_finds 134 = .ok (.iconst 0, 1) := by decide +kernel
theorem dX12_finds_135 : decode cX12_finds 135 = .ok (.ireturn, 1) := by decide +kernel
theorem dX12_allAtOnce_0 : decode cX12_allAtOnce 0 = .ok (.lconst 1, 1) := by decide +kernel
theorem dX12_allAtOnce_1 : decode cX12_allAtOnce 1 = .ok (.lstore_n 3, 1) := by decide +kernel
theorem dX12_allAtOnce_2 : decode cX12_allAtOnce 2 = .ok (.iconst 0, 1) := by decide +kernel
theorem dX12_allAtOnce_3 : decode cX12_allAtOnce 3 = .ok (.istore 5, 2) := by decide +kernel
theorem dX12_allAtOnce_5 : decode cX12_allAtOnce 5 = .ok (.iconst 0, 1) := by decide +kernel
theorem dX12_allAtOnce_6 : decode cX12_allAtOnce 6 = .ok (.istore 6, 2) := by decide +kernel
theorem dX12_allAtOnce_8 : decode cX12_allAtOnce 8 = .ok (.iload 6, 2) := by decide +kernel
theorem dX12_allAtOnce_10 : decode cX12_allAtOnce 10 = .ok (.lload_n 1, 1) := by decide +kernel
theorem dX12_allAtOnce_11 : decode cX12_allAtOnce 11 = .ok (.invokestatic 13, 3) := by decide +kernel
theorem dX12_allAtOnce_14 : decode cX12_allAtOnce 14 = .ok (.if_icmp .ge 101, 3) := by decide +kernel
theorem dX12_allAtOnce_17 : decode cX12_allAtOnce 17 = .ok (.aload_n 0, 1) := by decide +kernel
theorem dX12_allAtOnce_18 : decode cX12_allAtOnce 18 = .ok (.lload_n 1, 1) := by decide +kernel
theorem dX12_allAtOnce_19 : decode cX12_allAtOnce 19 = .ok (.iload 6, 2) := by decide +kernel
theorem dX12_allAtOnce_21 : decode cX12_allAtOnce 21 = .ok (.invokevirtual 349, 3) := by decide +kernel
theorem dX12_allAtOnce_24 : decode cX12_allAtOnce 24 = .ok (.istore 7, 2) := by decide +kernel
theorem dX12_allAtOnce_26 : decode cX12_allAtOnce 26 = .ok (.iload 7, 2) := by decide +kernel
theorem dX12_allAtOnce_28 : decode cX12_allAtOnce 28 = .ok (.ifCond .ge 13, 3) := by decide +kernel
theorem dX12_allAtOnce_31 : decode cX12_allAtOnce 31 = .ok (.lload_n 1, 1) := by decide +kernel
theorem dX12_allAtOnce_32 : decode cX12_allAtOnce 32 = .ok (.iload 6, 2) := by decide +kernel
theorem dX12_allAtOnce_34 : decode cX12_allAtOnce 34 = .ok (.iconst 1, 1) := by decide +kernel
theorem dX12_allAtOnce_35 : decode cX12_allAtOnce 35 = .ok (.invokestatic 328, 3) := by decide +kernel
theorem dX12_allAtOnce_38 : decode cX12_allAtOnce 38 = .ok (.goto 9, 3) := by decide +kernel
theorem dX12_allAtOnce_41 : decode cX12_allAtOnce 41 = .ok (.aload_n 0, 1) := by decide +kernel
theorem dX12_allAtOnce_42 : decode cX12_allAtOnce 42 = .ok (.iload 7, 2) := by decide +kernel
theorem dX12_allAtOnce_44 : decode cX12_allAtOnce 44 = .ok (.invokevirtual 111, 3) := by decide +kernel
theorem dX12_allAtOnce_47 : decode cX12_allAtOnce 47 = .ok (.lstore 8, 2) := by decide +kernel
theorem dX12_allAtOnce_49 : decode cX12_allAtOnce 49 = .ok (.lload_n 3, 1) := by decide +kernel
theorem dX12_allAtOnce_50 : decode cX12_allAtOnce 50 = .ok (.invokestatic 13, 3) := by decide +kernel
theorem dX12_allAtOnce_53 : decode cX12_allAtOnce 53 = .ok (.lload 8, 2) := by decide +kernel
theorem dX12_allAtOnce_55 : decode cX12_allAtOnce 55 = .ok (.invokestatic 13, 3) := by decide +kernel
theorem dX12_allAtOnce_58 : decode cX12_allAtOnce 58 = .ok (.iadd, 1) := by decide +kernel
theorem dX12_allAtOnce_59 : decode cX12_allAtOnce 59 = .ok (.bipush 20, 2) := by decide +kernel
theorem dX12_allAtOnce_61 : decode cX12_allAtOnce 61 = .ok (.if_icmp .le 7, 3) := by decide +kernel
theorem dX12_allAtOnce_64 : decode cX12_allAtOnce 64 = .ok (.ldc2_w 171, 3) := by decide +kernel
theorem dX12_allAtOnce_67 : decode cX12_allAtOnce 67 = .ok (.lreturn, 1) := by decide +kernel
theorem dX12_allAtOnce_68 : decode cX12_allAtOnce 68 = .ok (.lload_n 3, 1) := by decide +kernel
theorem dX12_allAtOnce_69 : decode cX12_allAtOnce 69 = .ok (.lload 8, 2) := by decide +kernel
theorem dX12_allAtOnce_71 : decode cX12_allAtOnce 71 = .ok (.invokestatic 335, 3) := by decide +kernel
theorem dX12_allAtOnce_74 : decode cX12_allAtOnce 74 = .ok (.lstore_n 3, 1) := by decide +kernel
theorem dX12_allAtOnce_75 : decode cX12_allAtOnce 75 = .ok (.iload 5, 2) := by decide +kernel
theorem dX12_allAtOnce_77 : decode cX12_allAtOnce 77 = .ok (.ifCond .ne 8, 3) := by decide +kernel
theorem dX12_allAtOnce_80 : decode cX12_allAtOnce 80 = .ok (.iload 7, 2) := by decide +kernel
theorem dX12_allAtOnce_82 : decode cX12_allAtOnce 82 = .ok (.ifCond .lt 7, 3) := by decide +kernel
theorem dX12_allAtOnce_85 : decode cX12_allAtOnce 85 = .ok (.iconst 1, 1) := by decide +kernel
theorem dX12_allAtOnce_86 : decode cX12_allAtOnce 86 = .ok (.goto 4, 3) := by decide +kernel
theorem dX12_allAtOnce_89 : decode cX12_allAtOnce 89 = .ok (.iconst 0, 1) := by decide +kernel
theorem dX12_allAtOnce_90 : decode cX12_allAtOnce 90 = .ok (.istore 5, 2) := by decide +kernel
theorem dX12_allAtOnce_92 : decode cX12_allAtOnce 92 = .ok (.iload 6, 2) := by decide +kernel
theorem dX12_allAtOnce_94 : decode cX12_allAtOnce 94 = .ok (.iload 7, 2) := by decide +kernel
theorem dX12_allAtOnce_96 : decode cX12_allAtOnce 96 = .ok (.ifCond .ge 7, 3) := by decide +kernel
theorem dX12_allAtOnce_99 : decode cX12_allAtOnce 99 = .ok (.iconst 1, 1) := by decide +kernel
theorem dX12_allAtOnce_100 : decode cX12_allAtOnce 100 = .ok (.goto 9, 3) := by decide +kernel
theorem dX12_allAtOnce_103 : decode cX12_allAtOnce 103 = .ok (.aload_n 0, 1) := by decide +kernel
theorem dX12_allAtOnce_104 : decode cX12_allAtOnce 104 = .ok (.iload 7, 2) := by decide +kernel
theorem dX12_allAtOnce_106 : decode cX12_allAtOnce 106 = .ok (.invokevirtual 311, 3) := by decide +kernel
theorem dX12_allAtOnce_109 : decode cX12_allAtOnce 109 = .ok (.iadd, 1) := by decide +kernel
theorem dX12_allAtOnce_110 : decode cX12_allAtOnce 110 = .ok (.istore 6, 2) := by decide +kernel
theorem dX12_allAtOnce_112 : decode cX12_allAtOnce 112 = .ok (.goto (-104), 3) := by decide +kernel
theorem dX12_allAtOnce_115 : decode cX12_allAtOnce 115 = .ok (.iload 5, 2) := by decide +kernel
theorem dX12_allAtOnce_117 : decode cX12_allAtOnce 117 = .ok (.ifCond .eq 7, 3) := by decide +kernel
theorem dX12_allAtOnce_120 : decode cX12_allAtOnce 120 = .ok (.lload_n 3, 1) := by decide +kernel
theorem dX12_allAtOnce_121 : decode cX12_allAtOnce 121 = .ok (.goto 6, 3) := by decide +kernel
theorem dX12_allAtOnce_124 : decode cX12_allAtOnce 124 = .ok (.ldc2_w 171, 3) := by decide +kernel
theorem dX12_allAtOnce_127 : decode cX12_allAtOnce 127 = .ok (.lreturn, 1) := by decide +kernel
theorem dX12_next_0 : decode cX12_next 0 = .ok (.iload_n 3, 1) := by decide +kernel
theorem dX12_next_1 : decode cX12_next 1 = .ok (.iconst 3, 1) := by decide +kernel
theorem dX12_next_2 : decode cX12_next 2 = .ok (.if_icmp .ne 9, 3) := by decide +kernel
theorem dX12_next_5 : decode cX12_next 5 = .ok (.aload_n 0, 1) := by decide +kernel
theorem dX12_next_6 : decode cX12_next 6 = .ok (.lload_n 1, 1) := by decide +kernel
theorem dX12_next_7 : decode cX12_next 7 = .ok (.invokevirtual 352, 3) := by decide +kernel
theorem dX12_next_10 : decode cX12_next 10 = .ok (.lreturn, 1) := by decide +kernel
theorem dX12_next_11 : decode cX12_next 11 = .ok (.aload_n 0, 1) := by decide +kernel
theorem dX12_next_12 : decode cX12_next 12 = .ok (.lload_n 1, 1) := by decide +kernel
theorem dX12_next_13 : decode cX12_next 13 = .ok (.iload_n 3, 1) := by decide +kernel
theorem dX12_next_14 : decode cX12_next 14 = .ok (.invokevirtual 356, 3) := by decide +kernel
theorem dX12_next_17 : decode cX12_next 17 = .ok (.ifCond .eq 19, 3) := by decide +kernel
theorem dX12_next_20 : decode cX12_next 20 = .ok (.aload_n 0, 1) := by decide +kernel
theorem dX12_next_21 : decode cX12_next 21 = .ok (.lload_n 1, 1) := by decide +kernel
theorem dX12_next_22 : decode cX12_next 22 = .ok (.aload_n 0, 1) := by decide +kernel
theorem dX12_next_23 : decode cX12_next 23 = .ok (.getfield 343, 3) := by decide +kernel
theorem dX12_next_26 : decode cX12_next 26 = .ok (.aload_n 0, 1) := by decide +kernel
theorem dX12_next_27 : decode cX12_next 27 = .ok (.getfield 346, 3) := by decide +kernel
theorem dX12_next_30 : decode cX12_next 30 = .ok (.invokevirtual 360, 3) := by decide +kernel
theorem dX12_next_33 : decode cX12_next 33 = .ok (.goto 6, 3) := by decide +kernel
theorem dX12_next_36 : decode cX12_next 36 = .ok (.ldc2_w 171, 3) := by decide +kernel
theorem dX12_next_39 : decode cX12_next 39 = .ok (.lreturn, 1) := by decide +kernel
theorem dX12_isSettling_0 : decode cX12_isSettling 0 = .ok (.aload_n 0, 1) := by decide +kernel
theorem dX12_isSettling_1 : decode cX12_isSettling 1 = .ok (.lload_n 1, 1) := by decide +kernel
theorem dX12_isSettling_2 : decode cX12_isSettling 2 = .ok (.putfield 363, 3) := by decide +kernel
theorem dX12_isSettling_5 : decode cX12_isSettling 5 = .ok (.aload_n 0, 1) := by decide +kernel
theorem dX12_isSettling_6 : decode cX12_isSettling 6 = .ok (.iconst 0, 1) := by decide +kernel
theorem dX12_isSettling_7 : decode cX12_isSettling 7 = .ok (.putfield 367, 3) := by decide +kernel
theorem dX12_isSettling_10 : decode cX12_isSettling 10 = .ok (.aload_n 0, 1) := by decide +kernel
theorem dX12_isSettling_11 : decode cX12_isSettling 11 = .ok (.aload_n 0, 1) := by decide +kernel
theorem dX12_isSettling_12 : decode cX12_isSettling 12 = .ok (.getfield 363, 3) := by decide +kernel
theorem dX12_isSettling_15 : decode cX12_isSettling 15 = .ok (.iload 4, 2) := by decide +kernel
theorem dX12_isSettling_17 : decode cX12_isSettling 17 = .ok (.invokevirtual 370, 3) := by decide +kernel
theorem dX12_isSettling_20 : decode cX12_isSettling 20 = .ok (.lstore 5, 2) := by decide +kernel
theorem dX12_isSettling_22 : decode cX12_isSettling 22 = .ok (.lload 5, 2) := by decide +kernel
theorem dX12_isSettling_24 : decode cX12_isSettling 24 = .ok (.lconst 0, 1) := by decide +kernel
theorem dX12_isSettling_25 : decode cX12_isSettling 25 = .ok (.lcmp, 1) := by decide +kernel
theorem dX12_isSettling_26 : decode cX12_isSettling 26 = .ok (.ifCond .ge 5, 3) := by decide +kernel
theorem dX12_isSettling_29 : decode cX12_isSettling 29 = .ok (.iconst 1, 1) := by decide +kernel
theorem dX12_isSettling_30 : decode cX12_isSettling 30 = .ok (.ireturn, 1) := by decide +kernel
theorem dX12_isSettling_31 : decode cX12_isSettling 31 = .ok (.aload_n 0, 1) := by decide +kernel
theorem dX12_isSettling_32 : decode cX12_isSettling 32 = .ok (.getfield 367, 3) := by decide +kernel
theorem dX12_isSettling_35 : decode cX12_isSettling 35 = .ok (.iload_n 3, 1) := by decide +kernel
theorem dX12_isSettling_36 : decode cX12_isSettling 36 = .ok (.if_icmp .ne 5, 3) := by decide +kernel
theorem dX12_isSettling_39 : decode cX12_isSettling 39 = .ok (.iconst 0, 1) := by decide +kernel
theorem dX12_isSettling_40 : decode cX12_isSettling 40 = .ok (.ireturn, 1) := by decide +kernel
theorem dX12_isSettling_41 : decode cX12_isSettling 41 = .ok (.aload_n 0, 1) := by decide +kernel
theorem dX12_isSettling_42 : decode cX12_isSettling 42 = .ok (.lload 5, 2) := by decide +kernel
theorem dX12_isSettling_44 : decode cX12_isSettling 44 = .ok (.putfield 363, 3) := by decide +kernel
theorem dX12_isSettling_47 : decode cX12_isSettling 47 = .ok (.aload_n 0, 1) := by decide +kernel
theorem dX12_isSettling_48 : decode cX12_isSettling 48 = .ok (.dup, 1) := by decide +kernel
theorem dX12_isSettling_49 : decode cX12_isSettling 49 = .ok (.getfield 367, 3) := by decide +kernel
theorem dX12_isSettling_52 : decode cX12_isSettling 52 = .ok (.iconst 1, 1) := by decide +kernel
theorem dX12_isSettling_53 : decode cX12_isSettling 53 = .ok (.iadd, 1) := by decide +kernel
theorem dX12_isSettling_54 : decode cX12_isSettling 54 = .ok (.putfield 367, 3) := by decide +kernel
theorem dX12_isSettling_57 : decode cX12_isSettling 57 = .ok (.goto (-47), 3) := by decide +kernel
theorem dX12_rule_0 : decode cX12_rule 0 = .ok (.aload_n 0, 1) := by decide +kernel
theorem dX12_rule_1 : decode cX12_rule 1 = .ok (.iconst 0, 1) := by decide +kernel
theorem dX12_rule_2 : decode cX12_rule 2 = .ok (.putfield 3, 3) := by decide +kernel
theorem dX12_rule_5 : decode cX12_rule 5 = .ok (.aload_n 0, 1) := by decide +kernel
theorem dX12_rule_6 : decode cX12_rule 6 = .ok (.aload_n 0, 1) := by decide +kernel
theorem dX12_rule_7 : decode cX12_rule 7 = .ok (.iload_n 1, 1) := by decide +kernel
theorem dX12_rule_8 : decode cX12_rule 8 = .ok (.invokevirtual 373, 3) := by decide +kernel
theorem dX12_rule_11 : decode cX12_rule 11 = .ok (.iconst 1, 1) := by decide +kernel
theorem dX12_rule_12 : decode cX12_rule 12 = .ok (.invokevirtual 302, 3) := by decide +kernel
theorem dX12_rule_15 : decode cX12_rule 15 = .ok (.ifCond .eq 5, 3) := by decide +kernel
theorem dX12_rule_18 : decode cX12_rule 18 = .ok (.lconst 0, 1) := by decide +kernel
theorem dX12_rule_19 : decode cX12_rule 19 = .ok (.lreturn, 1) := by decide +kernel
theorem dX12_rule_20 : decode cX12_rule 20 = .ok (.iload_n 2, 1) := by decide +kernel
theorem dX12_rule_21 : decode cX12_rule 21 = .ok (.ifCond .eq 11, 3) := by decide +kernel
theorem dX12_rule_24 : decode cX12_rule 24 = .ok (.aload_n 0, 1) := by decide +kernel
theorem dX12_rule_25 : decode cX12_rule 25 = .ok (.iload_n 1, 1) := by decide +kernel
theorem dX12_rule_26 : decode cX12_rule 26 = .ok (.invokevirtual 111, 3) := by decide +kernel
theorem dX12_rule_29 : decode cX12_rule 29 = .ok (.goto 8, 3) := by decide +kernel
theorem dX12_rule_32 : decode cX12_rule 32 = .ok (.aload_n 0, 1) := by decide +kernel
theorem dX12_rule_33 : decode cX12_rule 33 = .ok (.iload_n 1, 1) := by decide +kernel
theorem dX12_rule_34 : decode cX12_rule 34 = .ok (.invokevirtual 107, 3) := by decide +kernel
theorem dX12_rule_37 : decode cX12_rule 37 = .ok (.lreturn, 1) := by decide +kernel
theorem dX12_field_0 : decode cX12_field 0 = .ok (.aload_n 0, 1) := by decide +kernel
theorem dX12_field_1 : decode cX12_field 1 = .ok (.iconst 0, 1) := by decide +kernel
theorem dX12_field_2 : decode cX12_field 2 = .ok (.putfield 3, 3) := by decide +kernel
theorem dX12_field_5 : decode cX12_field 5 = .ok (.aload_n 0, 1) := by decide +kernel
theorem dX12_field_6 : decode cX12_field 6 = .ok (.aload_n 0, 1) := by decide +kernel
theorem dX12_field_7 : decode cX12_field 7 = .ok (.iload_n 1, 1) := by decide +kernel
theorem dX12_field_8 : decode cX12_field 8 = .ok (.invokevirtual 376, 3) := by decide +kernel
theorem dX12_field_11 : decode cX12_field 11 = .ok (.iconst 1, 1) := by decide +kernel
theorem dX12_field_12 : decode cX12_field 12 = .ok (.invokevirtual 302, 3) := by decide +kernel
theorem dX12_field_15 : decode cX12_field 15 = .ok (.ifCond .eq 7, 3) := by decide +kernel
theorem dX12_field_18 : decode cX12_field 18 = .ok (.lconst 0, 1) := by decide +kernel
theorem dX12_field_19 : decode cX12_field 19 = .ok (.goto 8, 3) := by decide +kernel
theorem dX12_field_22 : decode cX12_field 22 = .ok (.aload_n 0, 1) := by decide +kernel
theorem dX12_field_23 : decode cX12_field 23 = .ok (.iload_n 1, 1) := by decide +kernel
theorem dX12_field_24 : decode cX12_field 24 = .ok (.invokevirtual 379, 3) := by decide +kernel
theorem dX12_field_27 : decode cX12_field 27 = .ok (.lreturn, 1) := by decide +kernel
theorem dX12_seen_0 : decode cX12_seen 0 = .ok (.aload_n 0, 1) := by decide +kernel
theorem dX12_seen_1 : decode cX12_seen 1 = .ok (.iconst 0, 1) := by decide +kernel
theorem dX12_seen_2 : decode cX12_seen 2 = .ok (.putfield 3, 3) := by decide +kernel
theorem dX12_seen_5 : decode cX12_seen 5 = .ok (.aload_n 0, 1) := by decide +kernel
theorem dX12_seen_6 : decode cX12_seen 6 = .ok (.iload_n 1, 1) := by decide +kernel
theorem dX12_seen_7 : decode cX12_seen 7 = .ok (.iconst 0, 1) := by decide +kernel
theorem dX12_seen_8 : decode cX12_seen 8 = .ok (.aload_n 0, 1) := by decide +kernel
theorem dX12_seen_9 : decode cX12_seen 9 = .ok (.getfield 29, 3) := by decide +kernel
theorem dX12_seen_12 : decode cX12_seen 12 = .ok (.iconst 2, 1) := by decide +kernel
theorem dX12_seen_13 : decode cX12_seen 13 = .ok (.iaload, 1) := by decide +kernel
theorem dX12_seen_14 : decode cX12_seen 14 = .ok (.iconst 1, 1) := by decide +kernel
theorem dX12_seen_15 : decode cX12_seen 15 = .ok (.isub, 1) := by decide +kernel
theorem dX12_seen_16 : decode cX12_seen 16 = .ok (.invokestatic 125, 3) := by decide +kernel
theorem dX12_seen_19 : decode cX12_seen 19 = .ok (.ifCond .ne 7, 3) := by decide +kernel
theorem dX12_seen_22 : decode cX12_seen 22 = .ok (.iconst 1, 1) := by decide +kernel
theorem dX12_seen_23 : decode cX12_seen 23 = .ok (.goto 4, 3) := by decide +kernel
theorem dX12_seen_26 : decode cX12_seen 26 = .ok (.iconst 0, 1) := by decide +kernel
theorem dX12_seen_27 : decode cX12_seen 27 = .ok (.iconst 1, 1) := by decide +kernel
theorem dX12_seen_28 : decode cX12_seen 28 = .ok (.invokevirtual 302, 3) := by decide +kernel
theorem dX12_seen_31 : decode cX12_seen 31 = .ok (.ifCond .eq 5, 3) := by decide +kernel
theorem dX12_seen_34 : decode cX12_seen 34 = .ok (.lconst 0, 1) := by decide +kernel
theorem dX12_seen_35 : decode cX12_seen 35 = .ok (.lreturn, 1) := by decide +kernel
theorem dX12_seen_36 : decode cX12_seen 36 = .ok (.aload_n 0, 1) := by decide +kernel
theorem dX12_seen_37 : decode cX12_seen 37 = .ok (.sipush 299, 3) := by decide +kernel
theorem dX12_seen_40 : decode cX12_seen 40 = .ok (.iconst 4, 1) := by decide +kernel
theorem dX12_seen_41 : decode cX12_seen 41 = .ok (.iload_n 1, 1) := by decide +kernel
theorem dX12_seen_42 : decode cX12_seen 42 = .ok (.imul, 1) := by decide +kernel
theorem dX12_seen_43 : decode cX12_seen 43 = .ok (.iadd, 1) := by decide +kernel
theorem dX12_seen_44 : decode cX12_seen 44 = .ok (.iload_n 2, 1) := by decide +kernel
theorem dX12_seen_45 : decode cX12_seen 45 = .ok (.ifCond .eq 7, 3) := by decide +kernel
theorem dX12_seen_48 : decode cX12_seen 48 = .ok (.iconst 2, 1) := by decide +kernel
theorem dX12_seen_49 : decode cX12_seen 49 = .ok (.goto 4, 3) := by decide +kernel
theorem dX12_seen_52 : decode cX12_seen 52 = .ok (.iconst 0, 1) := by decide +kernel
theorem dX12_seen_53 : decode cX12_seen 53 = .ok (.iadd, 1) := by decide +kernel
theorem dX12_seen_54 : decode cX12_seen 54 = .ok (.invokevirtual 118, 3) := by decide +kernel
theorem dX12_seen_57 : decode cX12_seen 57 = .ok (.lreturn, 1) := by decide +kernel
theorem dX12_beast_0 : decode cX12_beast 0 = .ok (.aload_n 0, 1) := by decide +kernel
theorem dX12_beast_1 : decode cX12_beast 1 = .ok (.iconst 0, 1) := by decide +kernel
theorem dX12_beast_2 : decode cX12_beast 2 = .ok (.putfield 3, 3) := by decide +kernel
theorem dX12_beast_5 : decode cX12_beast 5 = .ok (.aload_n 0, 1) := by decide +kernel
theorem dX12_beast_6 : decode cX12_beast 6 = .ok (.lload_n 1, 1) := by decide +kernel
theorem dX12_beast_7 : decode cX12_beast 7 = .ok (.invokestatic 382, 3) := by decide +kernel
theorem dX12_beast_10 : decode cX12_beast 10 = .ok (.ifCond .ne 7, 3) := by decide +kernel
theorem dX12_beast_13 : decode cX12_beast 13 = .ok (.iconst 1, 1) := by decide +kernel
theorem dX12_beast_14 : decode cX12_beast 14 = .ok (.goto 4, 3) := by decide +kernel
theorem dX12_beast_17 : decode cX12_beast 17 = .ok (.iconst 0, 1) := by decide +kernel
theorem dX12_beast_18 : decode cX12_beast 18 = .ok (.iconst 1, 1) := by decide +kernel
theorem dX12_beast_19 : decode cX12_beast 19 = .ok (.invokevirtual 302, 3) := by decide +kernel
theorem dX12_beast_22 : decode cX12_beast 22 = .ok (.ifCond .eq 5, 3) := by decide +kernel
theorem dX12_beast_25 : decode cX12_beast 25 = .ok (.iconst 0, 1) := by decide +kernel
theorem dX12_beast_26 : decode cX12_beast 26 = .ok (.ireturn, 1) := by decide +kernel
theorem dX12_beast_27 : decode cX12_beast 27 = .ok (.iload_n 3, 1) := by decide +kernel
theorem dX12_beast_28 : decode cX12_beast 28 = .ok (.iconst 0, 1) := by decide +kernel
theorem dX12_beast_29 : decode cX12_beast 29 = .ok (.lload_n 1, 1) := by decide +kernel
theorem dX12_beast_30 : decode cX12_beast 30 = .ok (.invokestatic 13, 3) := by decide +kernel
theorem dX12_beast_33 : decode cX12_beast 33 = .ok (.iconst 1, 1) := by decide +kernel
theorem dX12_beast_34 : decode cX12_beast 34 = .ok (.isub, 1) := by decide +kernel
theorem dX12_beast_35 : decode cX12_beast 35 = .ok (.invokestatic 125, 3) := by decide +kernel
theorem dX12_beast_38 : decode cX12_beast 38 = .ok (.ifCond .eq 11, 3) := by decide +kernel
theorem dX12_beast_41 : decode cX12_beast 41 = .ok (.lload_n 1, 1) := by decide +kernel
theorem dX12_beast_42 : decode cX12_beast 42 = .ok (.iload_n 3, 1) := by decide +kernel
theorem dX12_beast_43 : decode cX12_beast 43 = .ok (.invokestatic 199, 3) := by decide +kernel
theorem dX12_beast_46 : decode cX12_beast 46 = .ok (.goto 4, 3) := by decide +kernel
theorem dX12_beast_49 : decode cX12_beast 49 = .ok (.iconst (-1), 1) := by decide +kernel
theorem dX12_beast_50 : decode cX12_beast 50 = .ok (.ireturn, 1) := by decide +kernel
theorem dX12_steps_0 : decode cX12_steps 0 = .ok (.aload_n 0, 1) := by decide +kernel
theorem dX12_steps_1 : decode cX12_steps 1 = .ok (.iconst 0, 1) := by decide +kernel
theorem dX12_steps_2 : decode cX12_steps 2 = .ok (.putfield 3, 3) := by decide +kernel
theorem dX12_steps_5 : decode cX12_steps 5 = .ok (.aload_n 0, 1) := by decide +kernel
theorem dX12_steps_6 : decode cX12_steps 6 = .ok (.aload_n 0, 1) := by decide +kernel
theorem dX12_steps_7 : decode cX12_steps 7 = .ok (.iload_n 1, 1) := by decide +kernel
theorem dX12_steps_8 : decode cX12_steps 8 = .ok (.invokevirtual 376, 3) := by decide +kernel
theorem dX12_steps_11 : decode cX12_steps 11 = .ok (.iconst 1, 1) := by decide +kernel
theorem dX12_steps_12 : decode cX12_steps 12 = .ok (.invokevirtual 302, 3) := by decide +kernel
theorem dX12_steps_15 : decode cX12_steps 15 = .ok (.ifCond .eq 7, 3) := by decide +kernel
theorem dX12_steps_18 : decode cX12_steps 18 = .ok (.iconst 0, 1) := by decide +kernel
theorem dX12_steps_19 : decode cX12_steps 19 = .ok (.goto 14, 3) := by decide +kernel
theorem dX12_steps_22 : decode cX12_steps 22 = .ok (.aload_n 0, 1) := by decide +kernel
theorem dX12_steps_23 : decode cX12_steps 23 = .ok (.getfield 29, 3) := by decide +kernel
theorem dX12_steps_26 : decode cX12_steps 26 = .ok (.iload_n 1, 1) := by decide +kernel
theorem dX12_steps_27 : decode cX12_steps 27 = .ok (.invokestatic 114, 3) := by decide +kernel
theorem dX12_steps_30 : decode cX12_steps 30 = .ok (.iconst 2, 1) := by decide +kernel
theorem dX12_steps_31 : decode cX12_steps 31 = .ok (.iadd, 1) := by decide +kernel
theorem dX12_steps_32 : decode cX12_steps 32 = .ok (.iaload, 1) := by decide +kernel
theorem dX12_steps_33 : decode cX12_steps 33 = .ok (.ireturn, 1) := by decide +kernel
theorem dX12_maker_0 : decode cX12_maker 0 = .ok (.aload_n 0, 1) := by decide +kernel
theorem dX12_maker_1 : decode cX12_maker 1 = .ok (.iconst 0, 1) := by decide +kernel
theorem dX12_maker_2 : decode cX12_maker 2 = .ok (.putfield 3, 3) := by decide +kernel
theorem dX12_maker_5 : decode cX12_maker 5 = .ok (.aload_n 0, 1) := by decide +kernel
theorem dX12_maker_6 : decode cX12_maker 6 = .ok (.aload_n 0, 1) := by decide +kernel
theorem dX12_maker_7 : decode cX12_maker 7 = .ok (.iload_n 1, 1) := by decide +kernel
theorem dX12_maker_8 : decode cX12_maker 8 = .ok (.invokevirtual 376, 3) := by decide +kernel
theorem dX12_maker_11 : decode cX12_maker 11 = .ok (.ifCond .ne 21, 3) := by decide +kernel
theorem dX12_maker_14 : decode cX12_maker 14 = .ok (.iload_n 2, 1) := by decide +kernel
theorem dX12_maker_15 : decode cX12_maker 15 = .ok (.iconst 0, 1) := by decide +kernel
theorem dX12_maker_16 : decode cX12_maker 16 = .ok (.aload_n 0, 1) := by decide +kernel
theorem dX12_maker_17 : decode cX12_maker 17 = .ok (.iload_n 1, 1) := by decide +kernel
theorem dX12_maker_18 : decode cX12_maker 18 = .ok (.invokevirtual 379, 3) := by decide +kernel
theorem dX12_maker_21 : decode cX12_maker 21 = .ok (.invokestatic 13, 3) := by decide +kernel
theorem dX12_maker_24 : decode cX12_maker 24 = .ok (.iconst 1, 1) := by decide +kernel
theorem dX12_maker_25 : decode cX12_maker 25 = .ok (.isub, 1) := by decide +kernel
theorem dX12_maker_26 : decode cX12_maker 26 = .ok (.invokestatic 125, 3) := by decide +kernel
theorem dX12_maker_29 : decode cX12_maker 29 = .ok (.ifCond .ne 7, 3) := by decide +kernel
theorem dX12_maker_32 : decode cX12_maker 32 = .ok (.iconst 1, 1) := by decide +kernel
theorem dX12_maker_33 : decode cX12_maker 33 = .ok (.goto 4, 3) := by decide +kernel
theorem dX12_maker_36 : decode cX12_maker 36 = .ok (.iconst 0, 1) := by decide +kernel
theorem dX12_maker_37 : decode cX12_maker 37 = .ok (.iconst 1, 1) := by decide +kernel
theorem dX12_maker_38 : decode cX12_maker 38 = .ok (.invokevirtual 302, 3) := by decide +kernel
theorem dX12_maker_41 : decode cX12_maker 41 = .ok (.ifCond .ne 25, 3) := by decide +kernel
theorem dX12_maker_44 : decode cX12_maker 44 = .ok (.aload_n 0, 1) := by decide +kernel
theorem dX12_maker_45 : decode cX12_maker 45 = .ok (.iload_n 3, 1) := by decide +kernel
theorem dX12_maker_46 : decode cX12_maker 46 = .ok (.iconst 0, 1) := by decide +kernel
theorem dX12_maker_47 : decode cX12_maker 47 = .ok (.iconst 1, 1) := by decide +kernel
theorem dX12_maker_48 : decode cX12_maker 48 = .ok (.invokestatic 125, 3) := by decide +kernel
theorem dX12_maker_51 : decode cX12_maker 51 = .ok (.ifCond .ne 7, 3) := by decide +kernel
theorem dX12_maker_54 : decode cX12_maker 54 = .ok (.iconst 1, 1) := by decide +kernel
theorem dX12_maker_55 : decode cX12_maker 55 = .ok (.goto 4, 3) := by decide +kernel
theorem dX12_maker_58 : decode cX12_maker 58 = .ok (.iconst 0, 1) := by decide +kernel
theorem dX12_maker_59 : decode cX12_maker 59 = .ok (.iconst 2, 1) := by decide +kernel
theorem dX12_maker_60 : decode cX12_maker 60 = .ok (.invokevirtual 302, 3) := by decide +kernel
theorem dX12_maker_63 : decode cX12_maker 63 = .ok (.ifCond .eq 5, 3) := by decide +kernel
theorem dX12_maker_66 : decode cX12_maker 66 = .ok (.iconst 0, 1) := by decide +kernel
theorem dX12_maker_67 : decode cX12_maker 67 = .ok (.ireturn, 1) := by decide +kernel
theorem dX12_maker_68 : decode cX12_maker 68 = .ok (.aload_n 0, 1) := by decide +kernel
theorem dX12_maker_69 : decode cX12_maker 69 = .ok (.getfield 29, 3) := by decide +kernel
theorem dX12_maker_72 : decode cX12_maker 72 = .ok (.iload_n 1, 1) := by decide +kernel
theorem dX12_maker_73 : decode cX12_maker 73 = .ok (.invokestatic 114, 3) := by decide +kernel
theorem dX12_maker_76 : decode cX12_maker 76 = .ok (.iconst 3, 1) := by decide +kernel
theorem dX12_maker_77 : decode cX12_maker 77 = .ok (.iadd, 1) := by decide +kernel
theorem dX12_maker_78 : decode cX12_maker 78 = .ok (.iconst 2, 1) := by decide +kernel
theorem dX12_maker_79 : decode cX12_maker 79 = .ok (.iload_n 2, 1) := by decide +kernel
theorem dX12_maker_80 : decode cX12_maker 80 = .ok (.imul, 1) := by decide +kernel
theorem dX12_maker_81 : decode cX12_maker 81 = .ok (.iadd, 1) := by decide +kernel
theorem dX12_maker_82 : decode cX12_maker 82 = .ok (.iload_n 3, 1) := by decide +kernel
theorem dX12_maker_83 : decode cX12_maker 83 = .ok (.iadd, 1) := by decide +kernel
theorem dX12_maker_84 : decode cX12_maker 84 = .ok (.iaload, 1) := by decide +kernel
theorem dX12_maker_85 : decode cX12_maker 85 = .ok (.ireturn, 1) := by decide +kernel
theorem dX12_fits_0 : decode cX12_fits 0 = .ok (.aload_n 0, 1) := by decide +kernel
theorem dX12_fits_1 : decode cX12_fits 1 = .ok (.iconst 0, 1) := by decide +kernel
theorem dX12_fits_2 : decode cX12_fits 2 = .ok (.putfield 3, 3) := by decide +kernel
theorem dX12_fits_5 : decode cX12_fits 5 = .ok (.aload_n 0, 1) := by decide +kernel
theorem dX12_fits_6 : decode cX12_fits 6 = .ok (.aload_n 0, 1) := by decide +kernel
theorem dX12_fits_7 : decode cX12_fits 7 = .ok (.iload_n 3, 1) := by decide +kernel
theorem dX12_fits_8 : decode cX12_fits 8 = .ok (.invokevirtual 373, 3) := by decide +kernel
theorem dX12_fits_11 : decode cX12_fits 11 = .ok (.iconst 1, 1) := by decide +kernel
theorem dX12_fits_12 : decode cX12_fits 12 = .ok (.invokevirtual 302, 3) := by decide +kernel
theorem dX12_fits_15 : decode cX12_fits 15 = .ok (.ifCond .ne 23, 3) := by decide +kernel
theorem dX12_fits_18 : decode cX12_fits 18 = .ok (.aload_n 0, 1) := by decide +kernel
theorem dX12_fits_19 : decode cX12_fits 19 = .ok (.lload_n 1, 1) := by decide +kernel
theorem dX12_fits_20 : decode cX12_fits 20 = .ok (.invokestatic 382, 3) := by decide +kernel
theorem dX12_fits_23 : decode cX12_fits 23 = .ok (.ifCond .ne 7, 3) := by decide +kernel
theorem dX12_fits_26 : decode cX12_fits 26 = .ok (.iconst 1, 1) := by decide +kernel
theorem dX12_fits_27 : decode cX12_fits 27 = .ok (.goto 4, 3) := by decide +kernel
theorem dX12_fits_30 : decode cX12_fits 30 = .ok (.iconst 0, 1) := by decide +kernel
theorem dX12_fits_31 : decode cX12_fits 31 = .ok (.iconst 2, 1) := by decide +kernel
theorem dX12_fits_32 : decode cX12_fits 32 = .ok (.invokevirtual 302, 3) := by decide +kernel
theorem dX12_fits_35 : decode cX12_fits 35 = .ok (.ifCond .eq 5, 3) := by decide +kernel
theorem dX12_fits_38 : decode cX12_fits 38 = .ok (.iconst 0, 1) := by decide +kernel
theorem dX12_fits_39 : decode cX12_fits 39 = .ok (.ireturn, 1) := by decide +kernel
theorem dX12_fits_40 : decode cX12_fits 40 = .ok (.aload_n 0, 1) := by decide +kernel
theorem dX12_fits_41 : decode cX12_fits 41 = .ok (.invokevirtual 386, 3) := by decide +kernel
theorem dX12_fits_44 : decode cX12_fits 44 = .ok (.aload_n 0, 1) := by decide +kernel
theorem dX12_fits_45 : decode cX12_fits 45 = .ok (.lload_n 1, 1) := by decide +kernel
theorem dX12_fits_46 : decode cX12_fits 46 = .ok (.iload_n 3, 1) := by decide +kernel
theorem dX12_fits_47 : decode cX12_fits 47 = .ok (.iload 4, 2) := by decide +kernel
theorem dX12_fits_49 : decode cX12_fits 49 = .ok (.invokevirtual 339, 3) := by decide +kernel
theorem dX12_fits_52 : decode cX12_fits 52 = .ok (.ireturn, 1) := by decide +kernel
theorem dX12_makes_0 : decode cX12_makes 0 = .ok (.aload_n 0, 1) := by decide +kernel
theorem dX12_makes_1 : decode cX12_makes 1 = .ok (.getfield 55, 3) := by decide +kernel
theorem dX12_makes_4 : decode cX12_makes 4 = .ok (.iconst 2, 1) := by decide +kernel
theorem dX12_makes_5 : decode cX12_makes 5 = .ok (.aload_n 0, 1) := by decide +kernel
theorem dX12_makes_6 : decode cX12_makes 6 = .ok (.getfield 389, 3) := by decide +kernel
theorem dX12_makes_9 : decode cX12_makes 9 = .ok (.imul, 1) := by decide +kernel
theorem dX12_makes_10 : decode cX12_makes 10 = .ok (.iload_n 1, 1) := by decide +kernel
theorem dX12_makes_11 : decode cX12_makes 11 = .ok (.iastore, 1) := by decide +kernel
theorem dX12_makes_12 : decode cX12_makes 12 = .ok (.aload_n 0, 1) := by decide +kernel
theorem dX12_makes_13 : decode cX12_makes 13 = .ok (.getfield 55, 3) := by decide +kernel
theorem dX12_makes_16 : decode cX12_makes 16 = .ok (.iconst 2, 1) := by decide +kernel
theorem dX12_makes_17 : decode cX12_makes 17 = .ok (.aload_n 0, 1) := by decide +kernel
theorem dX12_makes_18 : decode cX12_makes 18 = .ok (.getfield 389, 3) := by decide +kernel
theorem dX12_makes_21 : decode cX12_makes 21 = .ok (.imul, 1) := by decide +kernel
theorem dX12_makes_22 : decode cX12_makes 22 = .ok (.iconst 1, 1) := by decide +kernel
theorem dX12_makes_23 : decode cX12_makes 23 = .ok (.iadd, 1) := by decide +kernel
theorem dX12_makes_24 : decode cX12_makes 24 = .ok (.iload_n 2, 1) := by decide +kernel
theorem dX12_makes_25 : decode cX12_makes 25 = .ok (.iastore, 1) := by decide +kernel
theorem dX12_makes_26 : decode cX12_makes 26 = .ok (.aload_n 0, 1) := by decide +kernel
theorem dX12_makes_27 : decode cX12_makes 27 = .ok (.dup, 1) := by decide +kernel
theorem dX12_makes_28 : decode cX12_makes 28 = .ok (.getfield 389, 3) := by decide +kernel
theorem dX12_makes_31 : decode cX12_makes 31 = .ok (.iconst 1, 1) := by decide +kernel
theorem dX12_makes_32 : decode cX12_makes 32 = .ok (.iadd, 1) := by decide +kernel
theorem dX12_makes_33 : decode cX12_makes 33 = .ok (.putfield 389, 3) := by decide +kernel
theorem dX12_makes_36 : decode cX12_makes 36 = .ok (.return_, 1) := by decide +kernel
theorem dX12_keepsMakers_0 : decode cX12_keepsMakers 0 = .ok (.iload_n 2, 1) := by decide +kernel
theorem dX12_keepsMakers_1 : decode cX12_keepsMakers 1 = .ok (.istore 4, 2) := by decide +kernel
theorem dX12_keepsMakers_3 : decode cX12_keepsMakers 3 = .ok (.iload 4, 2) := by decide +kernel
theorem dX12_keepsMakers_5 : decode cX12_keepsMakers 5 = .ok (.iload_n 2, 1) := by decide +kernel
theorem dX12_keepsMakers_6 : decode cX12_keepsMakers 6 = .ok (.iload_n 3, 1) := by decide +kernel
theorem dX12_keepsMakers_7 : decode cX12_keepsMakers 7 = .ok (.iadd, 1) := by decide +kernel
theorem dX12_keepsMakers_8 : decode cX12_keepsMakers 8 = .ok (.if_icmp .ge 47, 3) := by decide +kernel
theorem dX12_keepsMakers_11 : decode cX12_keepsMakers 11 = .ok (.aload_n 0, 1) := by decide +kernel
theorem dX12_keepsMakers_12 : decode cX12_keepsMakers 12 = .ok (.aload_n 0, 1) := by decide +kernel
theorem dX12_keepsMakers_13 : decode cX12_keepsMakers 13 = .ok (.getfield 29, 3) := by decide +kernel
theorem dX12_keepsMakers_16 : decode cX12_keepsMakers 16 = .ok (.iload_n 1, 1) := by decide +kernel
theorem dX12_keepsMakers_17 : decode cX12_keepsMakers 17 = .ok (.invokestatic 114, 3) := by decide +kernel
theorem dX12_keepsMakers_20 : decode cX12_keepsMakers 20 = .ok (.iconst 3, 1) := by decide +kernel
theorem dX12_keepsMakers_21 : decode cX12_keepsMakers 21 = .ok (.iadd, 1) := by decide +kernel
theorem dX12_keepsMakers_22 : decode cX12_keepsMakers 22 = .ok (.iconst 2, 1) := by decide +kernel
theorem dX12_keepsMakers_23 : decode cX12_keepsMakers 23 = .ok (.iload 4, 2) := by decide +kernel
theorem dX12_keepsMakers_25 : decode cX12_keepsMakers 25 = .ok (.imul, 1) := by decide +kernel
theorem dX12_keepsMakers_26 : decode cX12_keepsMakers 26 = .ok (.iadd, 1) := by decide +kernel
theorem dX12_keepsMakers_27 : decode cX12_keepsMakers 27 = .ok (.iaload, 1) := by decide +kernel
theorem dX12_keepsMakers_28 : decode cX12_keepsMakers 28 = .ok (.aload_n 0, 1) := by decide +kernel
theorem dX12_keepsMakers_29 : decode cX12_keepsMakers 29 = .ok (.getfield 29, 3) := by decide +kernel
theorem dX12_keepsMakers_32 : decode cX12_keepsMakers 32 = .ok (.iload_n 1, 1) := by decide +kernel
theorem dX12_keepsMakers_33 : decode cX12_keepsMakers 33 = .ok (.invokestatic 114, 3) := by decide +kernel
theorem dX12_keepsMakers_36 : decode cX12_keepsMakers 36 = .ok (.iconst 3, 1) := by decide +kernel
theorem dX12_keepsMakers_37 : decode cX12_keepsMakers 37 = .ok (.iadd, 1) := by decide +kernel
theorem dX12_keepsMakers_38 : decode cX12_keepsMakers 38 = .ok (.iconst 2, 1) := by decide +kernel
theorem dX12_keepsMakers_39 : decode cX12_keepsMakers 39 = .ok (.iload 4, 2) := by decide +kernel
theorem dX12_keepsMakers_41 : decode cX12_keepsMakers 41 = .ok (.imul, 1) := by decide +kernel
theorem dX12_keepsMakers_42 : decode cX12_keepsMakers 42 = .ok (.iadd, 1) := by decide +kernel
theorem dX12_keepsMakers_43 : decode cX12_keepsMakers 43 = .ok (.iconst 1, 1) := by decide +kernel
theorem dX12_keepsMakers_44 : decode cX12_keepsMakers 44 = .ok (.iadd, 1) := by decide +kernel
theorem dX12_keepsMakers_45 : decode cX12_keepsMakers 45 = .ok (.iaload, 1) := by decide +kernel
theorem dX12_keepsMakers_46 : decode cX12_keepsMakers 46 = .ok (.invokevirtual 392, 3) := by decide +kernel
theorem dX12_keepsMakers_49 : decode cX12_keepsMakers 49 = .ok (.iinc 4 1, 3) := by decide +kernel
theorem dX12_keepsMakers_52 : decode cX12_keepsMakers 52 = .ok (.goto (-49), 3) := by decide +kernel
theorem dX12_keepsMakers_55 : decode cX12_keepsMakers 55 = .ok (.return_, 1) := by decide +kernel
theorem dX12_comes_0 : decode cX12_comes 0 = .ok (.aload_n 0, 1) := by decide +kernel
theorem dX12_comes_1 : decode cX12_comes 1 = .ok (.iload_n 1, 1) := by decide +kernel
theorem dX12_comes_2 : decode cX12_comes 2 = .ok (.invokestatic 114, 3) := by decide +kernel
theorem dX12_comes_5 : decode cX12_comes 5 = .ok (.lload_n 2, 1) := by decide +kernel
theorem dX12_comes_6 : decode cX12_comes 6 = .ok (.invokevirtual 132, 3) := by decide +kernel
theorem dX12_comes_9 : decode cX12_comes 9 = .ok (.aload_n 0, 1) := by decide +kernel
theorem dX12_comes_10 : decode cX12_comes 10 = .ok (.getfield 29, 3) := by decide +kernel
theorem dX12_comes_13 : decode cX12_comes 13 = .ok (.iload_n 1, 1) := by decide +kernel
theorem dX12_comes_14 : decode cX12_comes 14 = .ok (.invokestatic 114, 3) := by decide +kernel
theorem dX12_comes_17 : decode cX12_comes 17 = .ok (.iconst 2, 1) := by decide +kernel
theorem dX12_comes_18 : decode cX12_comes 18 = .ok (.iadd, 1) := by decide +kernel
theorem dX12_comes_19 : decode cX12_comes 19 = .ok (.dup2, 1) := by decide +kernel
theorem dX12_comes_20 : decode cX12_comes 20 = .ok (.iaload, 1) := by decide +kernel
theorem dX12_comes_21 : decode cX12_comes 21 = .ok (.iconst 1, 1) := by decide +kernel
theorem dX12_comes_22 : decode cX12_comes 22 = .ok (.iadd, 1) := by decide +kernel
theorem dX12_comes_23 : decode cX12_comes 23 = .ok (.iastore, 1) := by decide +kernel
theorem dX12_comes_24 : decode cX12_comes 24 = .ok (.iconst 0, 1) := by decide +kernel
theorem dX12_comes_25 : decode cX12_comes 25 = .ok (.istore 4, 2) := by decide +kernel
theorem dX12_comes_27 : decode cX12_comes 27 = .ok (.iload 4, 2) := by decide +kernel
theorem dX12_comes_29 : decode cX12_comes 29 = .ok (.bipush 40, 2) := by decide +kernel
theorem dX12_comes_31 : decode cX12_comes 31 = .ok (.if_icmp .ge 45, 3) := by decide +kernel
theorem dX12_comes_34 : decode cX12_comes 34 = .ok (.aload_n 0, 1) := by decide +kernel
theorem dX12_comes_35 : decode cX12_comes 35 = .ok (.getfield 29, 3) := by decide +kernel
theorem dX12_comes_38 : decode cX12_comes 38 = .ok (.iload_n 1, 1) := by decide +kernel
theorem dX12_comes_39 : decode cX12_comes 39 = .ok (.invokestatic 114, 3) := by decide +kernel
theorem dX12_comes_42 : decode cX12_comes 42 = .ok (.iconst 3, 1) := by decide +kernel
theorem dX12_comes_43 : decode cX12_comes 43 = .ok (.iadd, 1) := by decide +kernel
theorem dX12_comes_44 : decode cX12_comes 44 = .ok (.iload 4, 2) := by decide +kernel
theorem dX12_comes_46 : decode cX12_comes 46 = .ok (.iadd, 1) := by decide +kernel
theorem dX12_comes_47 : decode cX12_comes 47 = .ok (.iload 4, 2) := by decide +kernel
theorem dX12_comes_49 : decode cX12_comes 49 = .ok (.iconst 2, 1) := by decide +kernel
theorem dX12_comes_50 : decode cX12_comes 50 = .ok (.aload_n 0, 1) := by decide +kernel
theorem dX12_comes_51 : decode cX12_comes 51 = .ok (.getfield 389, 3) := by decide +kernel
theorem dX12_comes_54 : decode cX12_comes 54 = .ok (.imul, 1) := by decide +kernel
theorem dX12_comes_55 : decode cX12_comes 55 = .ok (.if_icmp .ge 13, 3) := by decide +kernel
theorem dX12_comes_58 : decode cX12_comes 58 = .ok (.aload_n 0, 1) := by decide +kernel
theorem dX12_comes_59 : decode cX12_comes 59 = .ok (.getfield 55, 3) := by decide +kernel
theorem dX12_comes_62 : decode cX12_comes 62 = .ok (.iload 4, 2) := by decide +kernel
theorem dX12_comes_64 : decode cX12_comes 64 = .ok (.iaload, 1) := by decide +kernel
theorem dX12_comes_65 : decode cX12_comes 65 = .ok (.goto 4, 3) := by decide +kernel
theorem dX12_comes_68 : decode cX12_comes 68 = .ok (.iconst (-1), 1) := by decide +kernel
theorem dX12_comes_69 : decode cX12_comes 69 = .ok (.iastore, 1) := by decide +kernel
theorem dX12_comes_70 : decode cX12_comes 70 = .ok (.iinc 4 1, 3) := by decide +kernel
theorem dX12_comes_73 : decode cX12_comes 73 = .ok (.goto (-46), 3) := by decide +kernel
theorem dX12_comes_76 : decode cX12_comes 76 = .ok (.return_, 1) := by decide +kernel
theorem dX12_goes_0 : decode cX12_goes 0 = .ok (.aload_n 0, 1) := by decide +kernel
theorem dX12_goes_1 : decode cX12_goes 1 = .ok (.iload_n 1, 1) := by decide +kernel
theorem dX12_goes_2 : decode cX12_goes 2 = .ok (.invokevirtual 379, 3) := by decide +kernel
theorem dX12_goes_5 : decode cX12_goes 5 = .ok (.lstore 4, 2) := by decide +kernel
theorem dX12_goes_7 : decode cX12_goes 7 = .ok (.aload_n 0, 1) := by decide +kernel
theorem dX12_goes_8 : decode cX12_goes 8 = .ok (.getfield 29, 3) := by decide +kernel
theorem dX12_goes_11 : decode cX12_goes 11 = .ok (.iload_n 1, 1) := by decide +kernel
theorem dX12_goes_12 : decode cX12_goes 12 = .ok (.invokestatic 114, 3) := by decide +kernel
theorem dX12_goes_15 : decode cX12_goes 15 = .ok (.iconst 2, 1) := by decide +kernel
theorem dX12_goes_16 : decode cX12_goes 16 = .ok (.iadd, 1) := by decide +kernel
theorem dX12_goes_17 : decode cX12_goes 17 = .ok (.iaload, 1) := by decide +kernel
theorem dX12_goes_18 : decode cX12_goes 18 = .ok (.iconst 1, 1) := by decide +kernel
theorem dX12_goes_19 : decode cX12_goes 19 = .ok (.iadd, 1) := by decide +kernel
theorem dX12_goes_20 : decode cX12_goes 20 = .ok (.istore 6, 2) := by decide +kernel
theorem dX12_goes_22 : decode cX12_goes 22 = .ok (.aload_n 0, 1) := by decide +kernel
theorem dX12_goes_23 : decode cX12_goes 23 = .ok (.iconst 0, 1) := by decide +kernel
theorem dX12_goes_24 : decode cX12_goes 24 = .ok (.putfield 389, 3) := by decide +kernel
theorem dX12_goes_27 : decode cX12_goes 27 = .ok (.aload_n 0, 1) := by decide +kernel
theorem dX12_goes_28 : decode cX12_goes 28 = .ok (.iload_n 1, 1) := by decide +kernel
theorem dX12_goes_29 : decode cX12_goes 29 = .ok (.iconst 0, 1) := by decide +kernel
theorem dX12_goes_30 : decode cX12_goes 30 = .ok (.iload_n 3, 1) := by decide +kernel
theorem dX12_goes_31 : decode cX12_goes 31 = .ok (.invokevirtual 395, 3) := by decide +kernel
theorem dX12_goes_34 : decode cX12_goes 34 = .ok (.iconst 0, 1) := by decide +kernel
theorem dX12_goes_35 : decode cX12_goes 35 = .ok (.istore 7, 2) := by decide +kernel
theorem dX12_goes_37 : decode cX12_goes 37 = .ok (.iload 7, 2) := by decide +kernel
theorem dX12_goes_39 : decode cX12_goes 39 = .ok (.aload_n 0, 1) := by decide +kernel
theorem dX12_goes_40 : decode cX12_goes 40 = .ok (.iload_n 2, 1) := by decide +kernel
theorem dX12_goes_41 : decode cX12_goes 41 = .ok (.invokevirtual 322, 3) := by decide +kernel
theorem dX12_goes_44 : decode cX12_goes 44 = .ok (.if_icmp .ge 16, 3) := by decide +kernel
theorem dX12_goes_47 : decode cX12_goes 47 = .ok (.aload_n 0, 1) := by decide +kernel
theorem dX12_goes_48 : decode cX12_goes 48 = .ok (.iload_n 2, 1) := by decide +kernel
theorem dX12_goes_49 : decode cX12_goes 49 = .ok (.iload 6, 2) := by decide +kernel
theorem dX12_goes_51 : decode cX12_goes 51 = .ok (.invokevirtual 392, 3) := by decide +kernel
theorem dX12_goes_54 : decode cX12_goes 54 = .ok (.iinc 7 1, 3) := by decide +kernel
theorem dX12_goes_57 : decode cX12_goes 57 = .ok (.goto (-20), 3) := by decide +kernel
theorem dX12_goes_60 : decode cX12_goes 60 = .ok (.aload_n 0, 1) := by decide +kernel
theorem dX12_goes_61 : decode cX12_goes 61 = .ok (.iload_n 1, 1) := by decide +kernel
theorem dX12_goes_62 : decode cX12_goes 62 = .ok (.iload_n 3, 1) := by decide +kernel
theorem dX12_goes_63 : decode cX12_goes 63 = .ok (.aload_n 0, 1) := by decide +kernel
theorem dX12_goes_64 : decode cX12_goes 64 = .ok (.iload_n 2, 1) := by decide +kernel
theorem dX12_goes_65 : decode cX12_goes 65 = .ok (.invokevirtual 311, 3) := by decide +kernel
theorem dX12_goes_68 : decode cX12_goes 68 = .ok (.iadd, 1) := by decide +kernel
theorem dX12_goes_69 : decode cX12_goes 69 = .ok (.lload 4, 2) := by decide +kernel
theorem dX12_goes_71 : decode cX12_goes 71 = .ok (.invokestatic 13, 3) := by decide +kernel
theorem dX12_goes_74 : decode cX12_goes 74 = .ok (.iload_n 3, 1) := by decide +kernel
theorem dX12_goes_75 : decode cX12_goes 75 = .ok (.isub, 1) := by decide +kernel
theorem dX12_goes_76 : decode cX12_goes 76 = .ok (.aload_n 0, 1) := by decide +kernel
theorem dX12_goes_77 : decode cX12_goes 77 = .ok (.iload_n 2, 1) := by decide +kernel
theorem dX12_goes_78 : decode cX12_goes 78 = .ok (.invokevirtual 311, 3) := by decide +kernel
theorem dX12_goes_81 : decode cX12_goes 81 = .ok (.isub, 1) := by decide +kernel
theorem dX12_goes_82 : decode cX12_goes 82 = .ok (.invokevirtual 395, 3) := by decide +kernel
theorem dX12_goes_85 : decode cX12_goes 85 = .ok (.aload_n 0, 1) := by decide +kernel
theorem dX12_goes_86 : decode cX12_goes 86 = .ok (.iload_n 1, 1) := by decide +kernel
theorem dX12_goes_87 : decode cX12_goes 87 = .ok (.aload_n 0, 1) := by decide +kernel
theorem dX12_goes_88 : decode cX12_goes 88 = .ok (.lload 4, 2) := by decide +kernel
theorem dX12_goes_90 : decode cX12_goes 90 = .ok (.iload_n 2, 1) := by decide +kernel
theorem dX12_goes_91 : decode cX12_goes 91 = .ok (.iload_n 3, 1) := by decide +kernel
theorem dX12_goes_92 : decode cX12_goes 92 = .ok (.invokevirtual 360, 3) := by decide +kernel
theorem dX12_goes_95 : decode cX12_goes 95 = .ok (.invokevirtual 399, 3) := by decide +kernel
theorem dX12_goes_98 : decode cX12_goes 98 = .ok (.return_, 1) := by decide +kernel
theorem dX12_goesAll_0 : decode cX12_goesAll 0 = .ok (.aload_n 0, 1) := by decide +kernel
theorem dX12_goesAll_1 : decode cX12_goesAll 1 = .ok (.iload_n 1, 1) := by decide +kernel
theorem dX12_goesAll_2 : decode cX12_goesAll 2 = .ok (.invokevirtual 379, 3) := by decide +kernel
theorem dX12_goesAll_5 : decode cX12_goesAll 5 = .ok (.lstore 4, 2) := by decide +kernel
theorem dX12_goesAll_7 : decode cX12_goesAll 7 = .ok (.aload_n 0, 1) := by decide +kernel
theorem dX12_goesAll_8 : decode cX12_goesAll 8 = .ok (.getfield 29, 3) := by decide +kernel
theorem dX12_goesAll_11 : decode cX12_goesAll 11 = .ok (.iload_n 1, 1) := by decide +kernel
theorem dX12_goesAll_12 : decode cX12_goesAll 12 = .ok (.invokestatic 114, 3) := by decide +kernel
theorem dX12_goesAll_15 : decode cX12_goesAll 15 = .ok (.iconst 2, 1) := by decide +kernel
theorem dX12_goesAll_16 : decode cX12_goesAll 16 = .ok (.iadd, 1) := by decide +kernel
theorem dX12_goesAll_17 : decode cX12_goesAll 17 = .ok (.iaload, 1) := by decide +kernel
theorem dX12_goesAll_18 : decode cX12_goesAll 18 = .ok (.iconst 1, 1) := by decide +kernel
theorem dX12_goesAll_19 : decode cX12_goesAll 19 = .ok (.iadd, 1) := by decide +kernel
theorem dX12_goesAll_20 : decode cX12_goesAll 20 = .ok (.istore 6, 2) := by decide +kernel
theorem dX12_goesAll_22 : decode cX12_goesAll 22 = .ok (.aload_n 0, 1) := by decide +kernel
theorem dX12_goesAll_23 : decode cX12_goesAll 23 = .ok (.iconst 0, 1) := by decide +kernel
theorem dX12_goesAll_24 : decode cX12_goesAll 24 = .ok (.putfield 389, 3) := by decide +kernel
theorem dX12_goesAll_27 : decode cX12_goesAll 27 = .ok (.iconst 0, 1) := by decide +kernel
theorem dX12_goesAll_28 : decode cX12_goesAll 28 = .ok (.istore 7, 2) := by decide +kernel
theorem dX12_goesAll_30 : decode cX12_goesAll 30 = .ok (.iload 7, 2) := by decide +kernel
theorem dX12_goesAll_32 : decode cX12_goesAll 32 = .ok (.lload 4, 2) := by decide +kernel
theorem dX12_goesAll_34 : decode cX12_goesAll 34 = .ok (.invokestatic 13, 3) := by decide +kernel
theorem dX12_goesAll_37 : decode cX12_goesAll 37 = .ok (.if_icmp .ge 82, 3) := by decide +kernel
theorem dX12_goesAll_40 : decode cX12_goesAll 40 = .ok (.aload_n 0, 1) := by decide +kernel
theorem dX12_goesAll_41 : decode cX12_goesAll 41 = .ok (.lload 4, 2) := by decide +kernel
theorem dX12_goesAll_43 : decode cX12_goesAll 43 = .ok (.iload 7, 2) := by decide +kernel
theorem dX12_goesAll_45 : decode cX12_goesAll 45 = .ok (.invokevirtual 349, 3) := by decide +kernel
theorem dX12_goesAll_48 : decode cX12_goesAll 48 = .ok (.istore 8, 2) := by decide +kernel
theorem dX12_goesAll_50 : decode cX12_goesAll 50 = .ok (.iload 8, 2) := by decide +kernel
theorem dX12_goesAll_52 : decode cX12_goesAll 52 = .ok (.ifCond .ge 11, 3) := by decide +kernel
theorem dX12_goesAll_55 : decode cX12_goesAll 55 = .ok (.aload_n 0, 1) := by decide +kernel
theorem dX12_goesAll_56 : decode cX12_goesAll 56 = .ok (.iload_n 1, 1) := by decide +kernel
theorem dX12_goesAll_57 : decode cX12_goesAll 57 = .ok (.iload 7, 2) := by decide +kernel
theorem dX12_goesAll_59 : decode cX12_goesAll 59 = .ok (.iconst 1, 1) := by decide +kernel
theorem dX12_goesAll_60 : decode cX12_goesAll 60 = .ok (.invokevirtual 395, 3) := by decide +kernel
theorem dX12_goesAll_63 : decode cX12_goesAll 63 = .ok (.iconst 0, 1) := by decide +kernel
theorem dX12_goesAll_64 : decode cX12_goesAll 64 = .ok (.istore 9, 2) := by decide +kernel
theorem dX12_goesAll_66 : decode cX12_goesAll 66 = .ok (.iload 8, 2) := by decide +kernel
theorem dX12_goesAll_68 : decode cX12_goesAll 68 = .ok (.ifCond .lt 28, 3) := by decide +kernel
theorem dX12_goesAll_71 : decode cX12_goesAll 71 = .ok (.iload 9, 2) := by decide +kernel
theorem dX12_goesAll_73 : decode cX12_goesAll 73 = .ok (.aload_n 0, 1) := by decide +kernel
theorem dX12_goesAll_74 : decode cX12_goesAll 74 = .ok (.iload 8, 2) := by decide +kernel
theorem dX12_goesAll_76 : decode cX12_goesAll 76 = .ok (.invokevirtual 322, 3) := by decide +kernel
theorem dX12_goesAll_79 : decode cX12_goesAll 79 = .ok (.if_icmp .ge 17, 3) := by decide +kernel
theorem dX12_goesAll_82 : decode cX12_goesAll 82 = .ok (.aload_n 0, 1) := by decide +kernel
theorem dX12_goesAll_83 : decode cX12_goesAll 83 = .ok (.iload 8, 2) := by decide +kernel
theorem dX12_goesAll_85 : decode cX12_goesAll 85 = .ok (.iload 6, 2) := by decide +kernel
theorem dX12_goesAll_87 : decode cX12_goesAll 87 = .ok (.invokevirtual 392, 3) := by decide +kernel
theorem dX12_goesAll_90 : decode cX12_goesAll 90 = .ok (.iinc 9 1, 3) := by decide +kernel
theorem dX12_goesAll_93 : decode cX12_goesAll 93 = .ok (.goto (-27), 3) := by decide +kernel
theorem dX12_goesAll_96 : decode cX12_goesAll 96 = .ok (.iload 7, 2) := by decide +kernel
theorem dX12_goesAll_98 : decode cX12_goesAll 98 = .ok (.iload 8, 2) := by decide +kernel
theorem dX12_goesAll_100 : decode cX12_goesAll 100 = .ok (.ifCond .ge 7, 3) := by decide +kernel
theorem dX12_goesAll_103 : decode cX12_goesAll 103 = .ok (.iconst 1, 1) := by decide +kernel
theorem dX12_goesAll_104 : decode cX12_goesAll 104 = .ok (.goto 9, 3) := by decide +kernel
theorem dX12_goesAll_107 : decode cX12_goesAll 107 = .ok (.aload_n 0, 1) := by decide +kernel
theorem dX12_goesAll_108 : decode cX12_goesAll 108 = .ok (.iload 8, 2) := by decide +kernel
theorem dX12_goesAll_110 : decode cX12_goesAll 110 = .ok (.invokevirtual 311, 3) := by decide +kernel
theorem dX12_goesAll_113 : decode cX12_goesAll 113 = .ok (.iadd, 1) := by decide +kernel
theorem dX12_goesAll_114 : decode cX12_goesAll 114 = .ok (.istore 7, 2) := by decide +kernel
theorem dX12_goesAll_116 : decode cX12_goesAll 116 = .ok (.goto (-86), 3) := by decide +kernel
theorem dX12_goesAll_119 : decode cX12_goesAll 119 = .ok (.aload_n 0, 1) := by decide +kernel
theorem dX12_goesAll_120 : decode cX12_goesAll 120 = .ok (.iload_n 1, 1) := by decide +kernel
theorem dX12_goesAll_121 : decode cX12_goesAll 121 = .ok (.lload_n 2, 1) := by decide +kernel
theorem dX12_goesAll_122 : decode cX12_goesAll 122 = .ok (.invokevirtual 399, 3) := by decide +kernel
theorem dX12_goesAll_125 : decode cX12_goesAll 125 = .ok (.return_, 1) := by decide +kernel
theorem dX12_stepsOn_0 : decode cX12_stepsOn 0 = .ok (.aload_n 0, 1) := by decide +kernel
theorem dX12_stepsOn_1 : decode cX12_stepsOn 1 = .ok (.aload_n 0, 1) := by decide +kernel
theorem dX12_stepsOn_2 : decode cX12_stepsOn 2 = .ok (.iload_n 1, 1) := by decide +kernel
theorem dX12_stepsOn_3 : decode cX12_stepsOn 3 = .ok (.invokevirtual 379, 3) := by decide +kernel
theorem dX12_stepsOn_6 : decode cX12_stepsOn 6 = .ok (.aload_n 0, 1) := by decide +kernel
theorem dX12_stepsOn_7 : decode cX12_stepsOn 7 = .ok (.getfield 29, 3) := by decide +kernel
theorem dX12_stepsOn_10 : decode cX12_stepsOn 10 = .ok (.iconst 5, 1) := by decide +kernel
theorem dX12_stepsOn_11 : decode cX12_stepsOn 11 = .ok (.iaload, 1) := by decide +kernel
theorem dX12_stepsOn_12 : decode cX12_stepsOn 12 = .ok (.invokevirtual 370, 3) := by decide +kernel
theorem dX12_stepsOn_15 : decode cX12_stepsOn 15 = .ok (.lstore_n 2, 1) := by decide +kernel
theorem dX12_stepsOn_16 : decode cX12_stepsOn 16 = .ok (.lload_n 2, 1) := by decide +kernel
theorem dX12_stepsOn_17 : decode cX12_stepsOn 17 = .ok (.lconst 0, 1) := by decide +kernel
theorem dX12_stepsOn_18 : decode cX12_stepsOn 18 = .ok (.lcmp, 1) := by decide +kernel
theorem dX12_stepsOn_19 : decode cX12_stepsOn 19 = .ok (.ifCond .ge 5, 3) := by decide +kernel
theorem dX12_stepsOn_22 : decode cX12_stepsOn 22 = .ok (.iconst 0, 1) := by decide +kernel
theorem dX12_stepsOn_23 : decode cX12_stepsOn 23 = .ok (.ireturn, 1) := by decide +kernel
theorem dX12_stepsOn_24 : decode cX12_stepsOn 24 = .ok (.aload_n 0, 1) := by decide +kernel
theorem dX12_stepsOn_25 : decode cX12_stepsOn 25 = .ok (.getfield 29, 3) := by decide +kernel
theorem dX12_stepsOn_28 : decode cX12_stepsOn 28 = .ok (.iconst 5, 1) := by decide +kernel
theorem dX12_stepsOn_29 : decode cX12_stepsOn 29 = .ok (.iaload, 1) := by decide +kernel
theorem dX12_stepsOn_30 : decode cX12_stepsOn 30 = .ok (.iconst 3, 1) := by decide +kernel
theorem dX12_stepsOn_31 : decode cX12_stepsOn 31 = .ok (.if_icmp .ne 12, 3) := by decide +kernel
theorem dX12_stepsOn_34 : decode cX12_stepsOn 34 = .ok (.aload_n 0, 1) := by decide +kernel
theorem dX12_stepsOn_35 : decode cX12_stepsOn 35 = .ok (.iload_n 1, 1) := by decide +kernel
theorem dX12_stepsOn_36 : decode cX12_stepsOn 36 = .ok (.lload_n 2, 1) := by decide +kernel
theorem dX12_stepsOn_37 : decode cX12_stepsOn 37 = .ok (.invokevirtual 402, 3) := by decide +kernel
theorem dX12_stepsOn_40 : decode cX12_stepsOn 40 = .ok (.goto 16, 3) := by decide +kernel
theorem dX12_stepsOn_43 : decode cX12_stepsOn 43 = .ok (.aload_n 0, 1) := by decide +kernel
theorem dX12_stepsOn_44 : decode cX12_stepsOn 44 = .ok (.iload_n 1, 1) := by decide +kernel
theorem dX12_stepsOn_45 : decode cX12_stepsOn 45 = .ok (.aload_n 0, 1) := by decide +kernel
theorem dX12_stepsOn_46 : decode cX12_stepsOn 46 = .ok (.getfield 343, 3) := by decide +kernel
theorem dX12_stepsOn_49 : decode cX12_stepsOn 49 = .ok (.aload_n 0, 1) := by decide +kernel
theorem dX12_stepsOn_50 : decode cX12_stepsOn 50 = .ok (.getfield 346, 3) := by decide +kernel
theorem dX12_stepsOn_53 : decode cX12_stepsOn 53 = .ok (.invokevirtual 405, 3) := by decide +kernel
theorem dX12_stepsOn_56 : decode cX12_stepsOn 56 = .ok (.iconst 1, 1) := by decide +kernel
theorem dX12_stepsOn_57 : decode cX12_stepsOn 57 = .ok (.ireturn, 1) := by decide +kernel
theorem dX12_use_0 : decode cX12_use 0 = .ok (.aload_n 0, 1) := by decide +kernel
theorem dX12_use_1 : decode cX12_use 1 = .ok (.iconst 0, 1) := by decide +kernel
theorem dX12_use_2 : decode cX12_use 2 = .ok (.putfield 3, 3) := by decide +kernel
theorem dX12_use_5 : decode cX12_use 5 = .ok (.aload_n 0, 1) := by decide +kernel
theorem dX12_use_6 : decode cX12_use 6 = .ok (.aload_n 0, 1) := by decide +kernel
theorem dX12_use_7 : decode cX12_use 7 = .ok (.iload_n 1, 1) := by decide +kernel
theorem dX12_use_8 : decode cX12_use 8 = .ok (.invokevirtual 376, 3) := by decide +kernel
theorem dX12_use_11 : decode cX12_use 11 = .ok (.ifCond .ne 11, 3) := by decide +kernel
theorem dX12_use_14 : decode cX12_use 14 = .ok (.aload_n 0, 1) := by decide +kernel
theorem dX12_use_15 : decode cX12_use 15 = .ok (.iload_n 2, 1) := by decide +kernel
theorem dX12_use_16 : decode cX12_use 16 = .ok (.invokevirtual 373, 3) := by decide +kernel
theorem dX12_use_19 : decode cX12_use 19 = .ok (.ifCond .eq 7, 3) := by decide +kernel
theorem dX12_use_22 : decode cX12_use 22 = .ok (.iconst 1, 1) := by decide +kernel
theorem dX12_use_23 : decode cX12_use 23 = .ok (.goto 4, 3) := by decide +kernel
theorem dX12_use_26 : decode cX12_use 26 = .ok (.iconst 0, 1) := by decide +kernel
theorem dX12_use_27 : decode cX12_use 27 = .ok (.iconst 1, 1) := by decide +kernel
theorem dX12_use_28 : decode cX12_use 28 = .ok (.invokevirtual 302, 3) := by decide +kernel
theorem dX12_use_31 : decode cX12_use 31 = .ok (.ifCond .eq 5, 3) := by decide +kernel
theorem dX12_use_34 : decode cX12_use 34 = .ok (.lconst 0, 1) := by decide +kernel
theorem dX12_use_35 : decode cX12_use 35 = .ok (.lreturn, 1) := by decide +kernel
theorem dX12_use_36 : decode cX12_use 36 = .ok (.aload_n 0, 1) := by decide +kernel
theorem dX12_use_37 : decode cX12_use 37 = .ok (.invokevirtual 386, 3) := by decide +kernel
theorem dX12_use_40 : decode cX12_use 40 = .ok (.aload_n 0, 1) := by decide +kernel
theorem dX12_use_41 : decode cX12_use 41 = .ok (.aload_n 0, 1) := by decide +kernel
theorem dX12_use_42 : decode cX12_use 42 = .ok (.aload_n 0, 1) := by decide +kernel
theorem dX12_use_43 : decode cX12_use 43 = .ok (.iload_n 1, 1) := by decide +kernel
theorem dX12_use_44 : decode cX12_use 44 = .ok (.invokevirtual 379, 3) := by decide +kernel
theorem dX12_use_47 : decode cX12_use 47 = .ok (.iload_n 2, 1) := by decide +kernel
theorem dX12_use_48 : decode cX12_use 48 = .ok (.iload_n 3, 1) := by decide +kernel
theorem dX12_use_49 : decode cX12_use 49 = .ok (.invokevirtual 339, 3) := by decide +kernel
theorem dX12_use_52 : decode cX12_use 52 = .ok (.ifCond .ne 7, 3) := by decide +kernel
theorem dX12_use_55 : decode cX12_use 55 = .ok (.iconst 1, 1) := by decide +kernel
theorem dX12_use_56 : decode cX12_use 56 = .ok (.goto 4, 3) := by decide +kernel
theorem dX12_use_59 : decode cX12_use 59 = .ok (.iconst 0, 1) := by decide +kernel
theorem dX12_use_60 : decode cX12_use 60 = .ok (.iconst 2, 1) := by decide +kernel
theorem dX12_use_61 : decode cX12_use 61 = .ok (.invokevirtual 302, 3) := by decide +kernel
theorem dX12_use_64 : decode cX12_use 64 = .ok (.ifCond .eq 5, 3) := by decide +kernel
theorem dX12_use_67 : decode cX12_use 67 = .ok (.lconst 0, 1) := by decide +kernel
theorem dX12_use_68 : decode cX12_use 68 = .ok (.lreturn, 1) := by decide +kernel
theorem dX12_use_69 : decode cX12_use 69 = .ok (.aload_n 0, 1) := by decide +kernel
theorem dX12_use_70 : decode cX12_use 70 = .ok (.invokevirtual 408, 3) := by decide +kernel
theorem dX12_use_73 : decode cX12_use 73 = .ok (.aload_n 0, 1) := by decide +kernel
theorem dX12_use_74 : decode cX12_use 74 = .ok (.iload_n 1, 1) := by decide +kernel
theorem dX12_use_75 : decode cX12_use 75 = .ok (.iload_n 2, 1) := by decide +kernel
theorem dX12_use_76 : decode cX12_use 76 = .ok (.iload_n 3, 1) := by decide +kernel
theorem dX12_use_77 : decode cX12_use 77 = .ok (.invokevirtual 405, 3) := by decide +kernel
theorem dX12_use_80 : decode cX12_use 80 = .ok (.aload_n 0, 1) := by decide +kernel
theorem dX12_use_81 : decode cX12_use 81 = .ok (.iload_n 1, 1) := by decide +kernel
theorem dX12_use_82 : decode cX12_use 82 = .ok (.invokevirtual 379, 3) := by decide +kernel
theorem dX12_use_85 : decode cX12_use 85 = .ok (.lreturn, 1) := by decide +kernel
theorem dX12_run_0 : decode cX12_run 0 = .ok (.aload_n 0, 1) := by decide +kernel
theorem dX12_run_1 : decode cX12_run 1 = .ok (.iconst 0, 1) := by decide +kernel
theorem dX12_run_2 : decode cX12_run 2 = .ok (.putfield 3, 3) := by decide +kernel
theorem dX12_run_5 : decode cX12_run 5 = .ok (.aload_n 0, 1) := by decide +kernel
theorem dX12_run_6 : decode cX12_run 6 = .ok (.aload_n 0, 1) := by decide +kernel
theorem dX12_run_7 : decode cX12_run 7 = .ok (.iload_n 1, 1) := by decide +kernel
theorem dX12_run_8 : decode cX12_run 8 = .ok (.invokevirtual 376, 3) := by decide +kernel
theorem dX12_run_11 : decode cX12_run 11 = .ok (.iconst 1, 1) := by decide +kernel
theorem dX12_run_12 : decode cX12_run 12 = .ok (.invokevirtual 302, 3) := by decide +kernel
theorem dX12_run_15 : decode cX12_run 15 = .ok (.ifCond .ne 27, 3) := by decide +kernel
theorem dX12_run_18 : decode cX12_run 18 = .ok (.aload_n 0, 1) := by decide +kernel
theorem dX12_run_19 : decode cX12_run 19 = .ok (.iload_n 2, 1) := by decide +kernel
theorem dX12_run_20 : decode cX12_run 20 = .ok (.iconst 1, 1) := by decide +kernel
theorem dX12_run_21 : decode cX12_run 21 = .ok (.sipush 200, 3) := by decide +kernel
theorem dX12_run_24 : decode cX12_run 24 = .ok (.invokestatic 125, 3) := by decide +kernel
theorem dX12_run_27 : decode cX12_run 27 = .ok (.ifCond .ne 7, 3) := by decide +kernel
theorem dX12_run_30 : decode cX12_run 30 = .ok (.iconst 1, 1) := by decide +kernel
theorem dX12_run_31 : decode cX12_run 31 = .ok (.goto 4, 3) := by decide +kernel
theorem dX12_run_34 : decode cX12_run 34 = .ok (.iconst 0, 1) := by decide +kernel
theorem dX12_run_35 : decode cX12_run 35 = .ok (.iconst 2, 1) := by decide +kernel
theorem dX12_run_36 : decode cX12_run 36 = .ok (.invokevirtual 302, 3) := by decide +kernel
theorem dX12_run_39 : decode cX12_run 39 = .ok (.ifCond .eq 5, 3) := by decide +kernel
theorem dX12_run_42 : decode cX12_run 42 = .ok (.iconst 0, 1) := by decide +kernel
theorem dX12_run_43 : decode cX12_run 43 = .ok (.ireturn, 1) := by decide +kernel
theorem dX12_run_44 : decode cX12_run 44 = .ok (.aload_n 0, 1) := by decide +kernel
theorem dX12_run_45 : decode cX12_run 45 = .ok (.invokevirtual 408, 3) := by decide +kernel
theorem dX12_run_48 : decode cX12_run 48 = .ok (.aload_n 0, 1) := by decide +kernel
theorem dX12_run_49 : decode cX12_run 49 = .ok (.invokevirtual 386, 3) := by decide +kernel
theorem dX12_run_52 : decode cX12_run 52 = .ok (.iconst 0, 1) := by decide +kernel
theorem dX12_run_53 : decode cX12_run 53 = .ok (.istore_n 3, 1) := by decide +kernel
theorem dX12_run_54 : decode cX12_run 54 = .ok (.iload_n 3, 1) := by decide +kernel
theorem dX12_run_55 : decode cX12_run 55 = .ok (.iload_n 2, 1) := by decide +kernel
theorem dX12_run_56 : decode cX12_run 56 = .ok (.if_icmp .ge 17, 3) := by decide +kernel
theorem dX12_run_59 : decode cX12_run 59 = .ok (.aload_n 0, 1) := by decide +kernel
theorem dX12_run_60 : decode cX12_run 60 = .ok (.iload_n 1, 1) := by decide +kernel
theorem dX12_run_61 : decode cX12_run 61 = .ok (.invokevirtual 411, 3) := by decide +kernel
theorem dX12_run_64 : decode cX12_run 64 = .ok (.ifCond .eq 9, 3) := by decide +kernel
theorem dX12_run_67 : decode cX12_run 67 = .ok (.iinc 3 1, 3) := by decide +kernel
theorem dX12_run_70 : decode cX12_run 70 = .ok (.goto (-16), 3) := by decide +kernel
theorem dX12_run_73 : decode cX12_run 73 = .ok (.iload_n 3, 1) := by decide +kernel
theorem dX12_run_74 : decode cX12_run 74 = .ok (.ireturn, 1) := by decide +kernel
theorem dX12_put_0 : decode cX12_put 0 = .ok (.aload_n 0, 1) := by decide +kernel
theorem dX12_put_1 : decode cX12_put 1 = .ok (.iconst 0, 1) := by decide +kernel
theorem dX12_put_2 : decode cX12_put 2 = .ok (.putfield 3, 3) := by decide +kernel
theorem dX12_put_5 : decode cX12_put 5 = .ok (.aload_n 0, 1) := by decide +kernel
theorem dX12_put_6 : decode cX12_put 6 = .ok (.aload_n 0, 1) := by decide +kernel
theorem dX12_put_7 : decode cX12_put 7 = .ok (.iload_n 1, 1) := by decide +kernel
theorem dX12_put_8 : decode cX12_put 8 = .ok (.invokevirtual 376, 3) := by decide +kernel
theorem dX12_put_11 : decode cX12_put 11 = .ok (.iconst 1, 1) := by decide +kernel
theorem dX12_put_12 : decode cX12_put 12 = .ok (.invokevirtual 302, 3) := by decide +kernel
theorem dX12_put_15 : decode cX12_put 15 = .ok (.ifCond .ne 23, 3) := by decide +kernel
theorem dX12_put_18 : decode cX12_put 18 = .ok (.aload_n 0, 1) := by decide +kernel
theorem dX12_put_19 : decode cX12_put 19 = .ok (.lload_n 2, 1) := by decide +kernel
theorem dX12_put_20 : decode cX12_put 20 = .ok (.invokestatic 382, 3) := by decide +kernel
theorem dX12_put_23 : decode cX12_put 23 = .ok (.ifCond .ne 7, 3) := by decide +kernel
theorem dX12_put_26 : decode cX12_put 26 = .ok (.iconst 1, 1) := by decide +kernel
theorem dX12_put_27 : decode cX12_put 27 = .ok (.goto 4, 3) := by decide +kernel
theorem dX12_put_30 : decode cX12_put 30 = .ok (.iconst 0, 1) := by decide +kernel
theorem dX12_put_31 : decode cX12_put 31 = .ok (.iconst 2, 1) := by decide +kernel
theorem dX12_put_32 : decode cX12_put 32 = .ok (.invokevirtual 302, 3) := by decide +kernel
theorem dX12_put_35 : decode cX12_put 35 = .ok (.ifCond .eq 5, 3) := by decide +kernel
theorem dX12_put_38 : decode cX12_put 38 = .ok (.lconst 0, 1) := by decide +kernel
theorem dX12_put_39 : decode cX12_put 39 = .ok (.lreturn, 1) := by decide +kernel
theorem dX12_put_40 : decode cX12_put 40 = .ok (.aload_n 0, 1) := by decide +kernel
theorem dX12_put_41 : decode cX12_put 41 = .ok (.invokevirtual 408, 3) := by decide +kernel
theorem dX12_put_44 : decode cX12_put 44 = .ok (.aload_n 0, 1) := by decide +kernel
theorem dX12_put_45 : decode cX12_put 45 = .ok (.iload_n 1, 1) := by decide +kernel
theorem dX12_put_46 : decode cX12_put 46 = .ok (.invokevirtual 379, 3) := by decide +kernel
theorem dX12_put_49 : decode cX12_put 49 = .ok (.lstore 4, 2) := by decide +kernel
theorem dX12_put_51 : decode cX12_put 51 = .ok (.aload_n 0, 1) := by decide +kernel
theorem dX12_put_52 : decode cX12_put 52 = .ok (.iload_n 1, 1) := by decide +kernel
theorem dX12_put_53 : decode cX12_put 53 = .ok (.lload_n 2, 1) := by decide +kernel
theorem dX12_put_54 : decode cX12_put 54 = .ok (.invokevirtual 186, 3) := by decide +kernel
theorem dX12_put_57 : decode cX12_put 57 = .ok (.lload 4, 2) := by decide +kernel
theorem dX12_put_59 : decode cX12_put 59 = .ok (.lreturn, 1) := by decide +kernel
theorem dX12_add_0 : decode cX12_add 0 = .ok (.aload_n 0, 1) := by decide +kernel
theorem dX12_add_1 : decode cX12_add 1 = .ok (.iconst 0, 1) := by decide +kernel
theorem dX12_add_2 : decode cX12_add 2 = .ok (.putfield 3, 3) := by decide +kernel
theorem dX12_add_5 : decode cX12_add 5 = .ok (.lload_n 1, 1) := by decide +kernel
theorem dX12_add_6 : decode cX12_add 6 = .ok (.invokestatic 382, 3) := by decide +kernel
theorem dX12_add_9 : decode cX12_add 9 = .ok (.ifCond .eq 34, 3) := by decide +kernel
theorem dX12_add_12 : decode cX12_add 12 = .ok (.lload_n 3, 1) := by decide +kernel
theorem dX12_add_13 : decode cX12_add 13 = .ok (.invokestatic 382, 3) := by decide +kernel
theorem dX12_add_16 : decode cX12_add 16 = .ok (.ifCond .eq 27, 3) := by decide +kernel
theorem dX12_add_19 : decode cX12_add 19 = .ok (.lload_n 1, 1) := by decide +kernel
theorem dX12_add_20 : decode cX12_add 20 = .ok (.invokestatic 13, 3) := by decide +kernel
theorem dX12_add_23 : decode cX12_add 23 = .ok (.iconst 1, 1) := by decide +kernel
theorem dX12_add_24 : decode cX12_add 24 = .ok (.iconst 4, 1) := by decide +kernel
theorem dX12_add_25 : decode cX12_add 25 = .ok (.invokestatic 125, 3) := by decide +kernel
theorem dX12_add_28 : decode cX12_add 28 = .ok (.ifCond .eq 15, 3) := by decide +kernel
theorem dX12_add_31 : decode cX12_add 31 = .ok (.lload_n 3, 1) := by decide +kernel
theorem dX12_add_32 : decode cX12_add 32 = .ok (.invokestatic 13, 3) := by decide +kernel
theorem dX12_add_35 : decode cX12_add 35 = .ok (.iconst 5, 1) := by decide +kernel
theorem dX12_add_36 : decode cX12_add 36 = .ok (.if_icmp .gt 7, 3) := by decide +kernel
theorem dX12_add_39 : decode cX12_add 39 = .ok (.iconst 1, 1) := by decide +kernel
theorem dX12_add_40 : decode cX12_add 40 = .ok (.goto 4, 3) := by decide +kernel
theorem dX12_add_43 : decode cX12_add 43 = .ok (.iconst 0, 1) := by decide +kernel
theorem dX12_add_44 : decode cX12_add 44 = .ok (.istore 5, 2) := by decide +kernel
theorem dX12_add_46 : decode cX12_add 46 = .ok (.aload_n 0, 1) := by decide +kernel
theorem dX12_add_47 : decode cX12_add 47 = .ok (.iload 5, 2) := by decide +kernel
theorem dX12_add_49 : decode cX12_add 49 = .ok (.ifCond .ne 7, 3) := by decide +kernel
theorem dX12_add_52 : decode cX12_add 52 = .ok (.iconst 1, 1) := by decide +kernel
theorem dX12_add_53 : decode cX12_add 53 = .ok (.goto 4, 3) := by decide +kernel
theorem dX12_add_56 : decode cX12_add 56 = .ok (.iconst 0, 1) := by decide +kernel
theorem dX12_add_57 : decode cX12_add 57 = .ok (.iconst 1, 1) := by decide +kernel
theorem dX12_add_58 : decode cX12_add 58 = .ok (.invokevirtual 302, 3) := by decide +kernel
theorem dX12_add_61 : decode cX12_add 61 = .ok (.ifCond .ne 25, 3) := by decide +kernel
theorem dX12_add_64 : decode cX12_add 64 = .ok (.aload_n 0, 1) := by decide +kernel
theorem dX12_add_65 : decode cX12_add 65 = .ok (.aload_n 0, 1) := by decide +kernel
theorem dX12_add_66 : decode cX12_add 66 = .ok (.invokevirtual 121, 3) := by decide +kernel
theorem dX12_add_69 : decode cX12_add 69 = .ok (.bipush 12, 2) := by decide +kernel
theorem dX12_add_71 : decode cX12_add 71 = .ok (.if_icmp .ne 7, 3) := by decide +kernel
theorem dX12_add_74 : decode cX12_add 74 = .ok (.iconst 1, 1) := by decide +kernel
theorem dX12_add_75 : decode cX12_add 75 = .ok (.goto 4, 3) := by decide +kernel
theorem dX12_add_78 : decode cX12_add 78 = .ok (.iconst 0, 1) := by decide +kernel
theorem dX12_add_79 : decode cX12_add 79 = .ok (.iconst 2, 1) := by decide +kernel
theorem dX12_add_80 : decode cX12_add 80 = .ok (.invokevirtual 302, 3) := by decide +kernel
theorem dX12_add_83 : decode cX12_add 83 = .ok (.ifCond .eq 5, 3) := by decide +kernel
theorem dX12_add_86 : decode cX12_add 86 = .ok (.iconst 0, 1) := by decide +kernel
theorem dX12_add_87 : decode cX12_add 87 = .ok (.ireturn, 1) := by decide +kernel
theorem dX12_add_88 : decode cX12_add 88 = .ok (.aload_n 0, 1) := by decide +kernel
theorem dX12_add_89 : decode cX12_add 89 = .ok (.invokevirtual 408, 3) := by decide +kernel
theorem dX12_add_92 : decode cX12_add 92 = .ok (.aload_n 0, 1) := by decide +kernel
theorem dX12_add_93 : decode cX12_add 93 = .ok (.lload_n 1, 1) := by decide +kernel
theorem dX12_add_94 : decode cX12_add 94 = .ok (.lload_n 3, 1) := by decide +kernel
theorem dX12_add_95 : decode cX12_add 95 = .ok (.invokevirtual 182, 3) := by decide +kernel
theorem dX12_add_98 : decode cX12_add 98 = .ok (.aload_n 0, 1) := by decide +kernel
theorem dX12_add_99 : decode cX12_add 99 = .ok (.invokevirtual 121, 3) := by decide +kernel
theorem dX12_add_102 : decode cX12_add 102 = .ok (.iconst 1, 1) := by decide +kernel
theorem dX12_add_103 : decode cX12_add 103 = .ok (.isub, 1) := by decide +kernel
theorem dX12_add_104 : decode cX12_add 104 = .ok (.ireturn, 1) := by decide +kernel
theorem dX12_drop_0 : decode cX12_drop 0 = .ok (.aload_n 0, 1) := by decide +kernel
theorem dX12_drop_1 : decode cX12_drop 1 = .ok (.iconst 0, 1) := by decide +kernel
theorem dX12_drop_2 : decode cX12_drop 2 = .ok (.putfield 3, 3) := by decide +kernel
theorem dX12_drop_5 : decode cX12_drop 5 = .ok (.aload_n 0, 1) := by decide +kernel
theorem dX12_drop_6 : decode cX12_drop 6 = .ok (.aload_n 0, 1) := by decide +kernel
theorem dX12_drop_7 : decode cX12_drop 7 = .ok (.iload_n 1, 1) := by decide +kernel
theorem dX12_drop_8 : decode cX12_drop 8 = .ok (.invokevirtual 373, 3) := by decide +kernel
theorem dX12_drop_11 : decode cX12_drop 11 = .ok (.iconst 1, 1) := by decide +kernel
theorem dX12_drop_12 : decode cX12_drop 12 = .ok (.invokevirtual 302, 3) := by decide +kernel
theorem dX12_drop_15 : decode cX12_drop 15 = .ok (.ifCond .eq 5, 3) := by decide +kernel
theorem dX12_drop_18 : decode cX12_drop 18 = .ok (.iconst 0, 1) := by decide +kernel
theorem dX12_drop_19 : decode cX12_drop 19 = .ok (.ireturn, 1) := by decide +kernel
theorem dX12_drop_20 : decode cX12_drop 20 = .ok (.aload_n 0, 1) := by decide +kernel
theorem dX12_drop_21 : decode cX12_drop 21 = .ok (.invokevirtual 408, 3) := by decide +kernel
theorem dX12_drop_24 : decode cX12_drop 24 = .ok (.aload_n 0, 1) := by decide +kernel
theorem dX12_drop_25 : decode cX12_drop 25 = .ok (.iload_n 1, 1) := by decide +kernel
theorem dX12_drop_26 : decode cX12_drop 26 = .ok (.invokevirtual 231, 3) := by decide +kernel
theorem dX12_drop_29 : decode cX12_drop 29 = .ok (.aload_n 0, 1) := by decide +kernel
theorem dX12_drop_30 : decode cX12_drop 30 = .ok (.invokevirtual 121, 3) := by decide +kernel
theorem dX12_drop_33 : decode cX12_drop 33 = .ok (.ireturn, 1) := by decide +kernel
theorem dX12_draw_0 : decode cX12_draw 0 = .ok (.aload_n 0, 1) := by decide +kernel
theorem dX12_draw_1 : decode cX12_draw 1 = .ok (.getfield 29, 3) := by decide +kernel
theorem dX12_draw_4 : decode cX12_draw 4 = .ok (.bipush 8, 2) := by decide +kernel
theorem dX12_draw_6 : decode cX12_draw 6 = .ok (.ldc_w 414, 3) := by decide +kernel
theorem dX12_draw_9 : decode cX12_draw 9 = .ok (.aload_n 0, 1) := by decide +kernel
theorem dX12_draw_10 : decode cX12_draw 10 = .ok (.getfield 29, 3) := by decide +kernel
theorem dX12_draw_13 : decode cX12_draw 13 = .ok (.bipush 8, 2) := by decide +kernel
theorem dX12_draw_15 : decode cX12_draw 15 = .ok (.iaload, 1) := by decide +kernel
theorem dX12_draw_16 : decode cX12_draw 16 = .ok (.imul, 1) := by decide +kernel
theorem dX12_draw_17 : decode cX12_draw 17 = .ok (.sipush 12345, 3) := by decide +kernel
theorem dX12_draw_20 : decode cX12_draw 20 = .ok (.iadd, 1) := by decide +kernel
theorem dX12_draw_21 : decode cX12_draw 21 = .ok (.iastore, 1) := by decide +kernel
theorem dX12_draw_22 : decode cX12_draw 22 = .ok (.aload_n 0, 1) := by decide +kernel
theorem dX12_draw_23 : decode cX12_draw 23 = .ok (.getfield 29, 3) := by decide +kernel
theorem dX12_draw_26 : decode cX12_draw 26 = .ok (.bipush 8, 2) := by decide +kernel
theorem dX12_draw_28 : decode cX12_draw 28 = .ok (.iaload, 1) := by decide +kernel
theorem dX12_draw_29 : decode cX12_draw 29 = .ok (.bipush 16, 2) := by decide +kernel
theorem dX12_draw_31 : decode cX12_draw 31 = .ok (.ishr, 1) := by decide +kernel
theorem dX12_draw_32 : decode cX12_draw 32 = .ok (.sipush 32767, 3) := by decide +kernel
theorem dX12_draw_35 : decode cX12_draw 35 = .ok (.iand, 1) := by decide +kernel
theorem dX12_draw_36 : decode cX12_draw 36 = .ok (.iload_n 1, 1) := by decide +kernel
theorem dX12_draw_37 : decode cX12_draw 37 = .ok (.irem, 1) := by decide +kernel
theorem dX12_draw_38 : decode cX12_draw 38 = .ok (.ireturn, 1) := by decide +kernel
theorem dX12_choices_0 : decode cX12_choices 0 = .ok (.iconst 0, 1) := by decide +kernel
theorem dX12_choices_1 : decode cX12_choices 1 = .ok (.istore 4, 2) := by decide +kernel
theorem dX12_choices_3 : decode cX12_choices 3 = .ok (.iconst 0, 1) := by decide +kernel
theorem dX12_choices_4 : decode cX12_choices 4 = .ok (.istore 5, 2) := by decide +kernel
theorem dX12_choices_6 : decode cX12_choices 6 = .ok (.iload 5, 2) := by decide +kernel
theorem dX12_choices_8 : decode cX12_choices 8 = .ok (.lload_n 1, 1) := by decide +kernel
theorem dX12_choices_9 : decode cX12_choices 9 = .ok (.invokestatic 13, 3) := by decide +kernel
theorem dX12_choices_12 : decode cX12_choices 12 = .ok (.if_icmp .ge 83, 3) := by decide +kernel
theorem dX12_choices_15 : decode cX12_choices 15 = .ok (.iconst 0, 1) := by decide +kernel
theorem dX12_choices_16 : decode cX12_choices 16 = .ok (.istore 6, 2) := by decide +kernel
theorem dX12_choices_18 : decode cX12_choices 18 = .ok (.iload 6, 2) := by decide +kernel
theorem dX12_choices_20 : decode cX12_choices 20 = .ok (.aload_n 0, 1) := by decide +kernel
theorem dX12_choices_21 : decode cX12_choices 21 = .ok (.invokevirtual 121, 3) := by decide +kernel
theorem dX12_choices_24 : decode cX12_choices 24 = .ok (.if_icmp .ge 65, 3) := by decide +kernel
theorem dX12_choices_27 : decode cX12_choices 27 = .ok (.aload_n 0, 1) := by decide +kernel
theorem dX12_choices_28 : decode cX12_choices 28 = .ok (.lload_n 1, 1) := by decide +kernel
theorem dX12_choices_29 : decode cX12_choices 29 = .ok (.iload 6, 2) := by decide +kernel
theorem dX12_choices_31 : decode cX12_choices 31 = .ok (.iload 5, 2) := by decide +kernel
theorem dX12_choices_33 : decode cX12_choices 33 = .ok (.invokevirtual 339, 3) := by decide +kernel
theorem dX12_choices_36 : decode cX12_choices 36 = .ok (.ifCond .ne 6, 3) := by decide +kernel
theorem dX12_choices_39 : decode cX12_choices 39 = .ok (.goto 44, 3) := by decide +kernel
theorem dX12_choices_42 : decode cX12_choices 42 = .ok (.aload_n 0, 1) := by decide +kernel
theorem dX12_choices_43 : decode cX12_choices 43 = .ok (.iload 4, 2) := by decide +kernel
theorem dX12_choices_45 : decode cX12_choices 45 = .ok (.iload_n 3, 1) := by decide +kernel
theorem dX12_choices_46 : decode cX12_choices 46 = .ok (.if_icmp .ne 8, 3) := by decide +kernel
theorem dX12_choices_49 : decode cX12_choices 49 = .ok (.iload 6, 2) := by decide +kernel
theorem dX12_choices_51 : decode cX12_choices 51 = .ok (.goto 7, 3) := by decide +kernel
theorem dX12_choices_54 : decode cX12_choices 54 = .ok (.aload_n 0, 1) := by decide +kernel
theorem dX12_choices_55 : decode cX12_choices 55 = .ok (.getfield 343, 3) := by decide +kernel
theorem dX12_choices_58 : decode cX12_choices 58 = .ok (.putfield 343, 3) := by decide +kernel
theorem dX12_choices_61 : decode cX12_choices 61 = .ok (.aload_n 0, 1) := by decide +kernel
theorem dX12_choices_62 : decode cX12_choices 62 = .ok (.iload 4, 2) := by decide +kernel
theorem dX12_choices_64 : decode cX12_choices 64 = .ok (.iload_n 3, 1) := by decide +kernel
theorem dX12_choices_65 : decode cX12_choices 65 = .ok (.if_icmp .ne 8, 3) := by decide +kernel
theorem dX12_choices_68 : decode cX12_choices 68 = .ok (.iload 5, 2) := by decide +kernel
theorem dX12_choices_70 : decode cX12_choices 70 = .ok (.goto 7, 3) := by decide +kernel
theorem dX12_choices_73 : decode cX12_choices 73 = .ok (.aload_n 0, 1) := by decide +kernel
theorem dX12_choices_74 : decode cX12_choices 74 = .ok (.getfield 346, 3) := by decide +kernel
theorem dX12_choices_77 : decode cX12_choices 77 = .ok (.putfield 346, 3) := by decide +kernel
theorem dX12_choices_80 : decode cX12_choices 80 = .ok (.iinc 4 1, 3) := by decide +kernel
theorem dX12_choices_83 : decode cX12_choices 83 = .ok (.iinc 6 1, 3) := by decide +kernel
theorem dX12_choices_86 : decode cX12_choices 86 = .ok (.goto (-68), 3) := by decide +kernel
theorem dX12_choices_89 : decode cX12_choices 89 = .ok (.iinc 5 1, 3) := by decide +kernel
theorem dX12_choices_92 : decode cX12_choices 92 = .ok (.goto (-86), 3) := by decide +kernel
theorem dX12_choices_95 : decode cX12_choices 95 = .ok (.iload 4, 2) := by decide +kernel
theorem dX12_choices_97 : decode cX12_choices 97 = .ok (.ireturn, 1) := by decide +kernel
theorem dX12_year_0 : decode cX12_year 0 = .ok (.aload_n 0, 1) := by decide +kernel
theorem dX12_year_1 : decode cX12_year 1 = .ok (.bipush 100, 2) := by decide +kernel
theorem dX12_year_3 : decode cX12_year 3 = .ok (.invokevirtual 415, 3) := by decide +kernel
theorem dX12_year_6 : decode cX12_year 6 = .ok (.aload_n 0, 1) := by decide +kernel
theorem dX12_year_7 : decode cX12_year 7 = .ok (.getfield 29, 3) := by decide +kernel
theorem dX12_year_10 : decode cX12_year 10 = .ok (.bipush 6, 2) := by decide +kernel
theorem dX12_year_12 : decode cX12_year 12 = .ok (.iaload, 1) := by decide +kernel
theorem dX12_year_13 : decode cX12_year 13 = .ok (.if_icmp .ge 7, 3) := by decide +kernel
theorem dX12_year_16 : decode cX12_year 16 = .ok (.iconst 1, 1) := by decide +kernel
theorem dX12_year_17 : decode cX12_year 17 = .ok (.goto 4, 3) := by decide +kernel
theorem dX12_year_20 : decode cX12_year 20 = .ok (.iconst 0, 1) := by decide +kernel
theorem dX12_year_21 : decode cX12_year 21 = .ok (.istore_n 2, 1) := by decide +kernel
theorem dX12_year_22 : decode cX12_year 22 = .ok (.iload_n 2, 1) := by decide +kernel
theorem dX12_year_23 : decode cX12_year 23 = .ok (.ifCond .eq 7, 3) := by decide +kernel
theorem dX12_year_26 : decode cX12_year 26 = .ok (.iconst 0, 1) := by decide +kernel
theorem dX12_year_27 : decode cX12_year 27 = .ok (.goto 13, 3) := by decide +kernel
theorem dX12_year_30 : decode cX12_year 30 = .ok (.aload_n 0, 1) := by decide +kernel
theorem dX12_year_31 : decode cX12_year 31 = .ok (.aload_n 0, 1) := by decide +kernel
theorem dX12_year_32 : decode cX12_year 32 = .ok (.iload_n 1, 1) := by decide +kernel
theorem dX12_year_33 : decode cX12_year 33 = .ok (.invokevirtual 379, 3) := by decide +kernel
theorem dX12_year_36 : decode cX12_year 36 = .ok (.iconst (-1), 1) := by decide +kernel
theorem dX12_year_37 : decode cX12_year 37 = .ok (.invokevirtual 418, 3) := by decide +kernel
theorem dX12_year_40 : decode cX12_year 40 = .ok (.istore_n 3, 1) := by decide +kernel
theorem dX12_year_41 : decode cX12_year 41 = .ok (.iload_n 3, 1) := by decide +kernel
theorem dX12_year_42 : decode cX12_year 42 = .ok (.ifCond .le 31, 3) := by decide +kernel
theorem dX12_year_45 : decode cX12_year 45 = .ok (.aload_n 0, 1) := by decide +kernel
theorem dX12_year_46 : decode cX12_year 46 = .ok (.aload_n 0, 1) := by decide +kernel
theorem dX12_year_47 : decode cX12_year 47 = .ok (.iload_n 1, 1) := by decide +kernel
theorem dX12_year_48 : decode cX12_year 48 = .ok (.invokevirtual 379, 3) := by decide +kernel
theorem dX12_year_51 : decode cX12_year 51 = .ok (.aload_n 0, 1) := by decide +kernel
theorem dX12_year_52 : decode cX12_year 52 = .ok (.iload_n 3, 1) := by decide +kernel
theorem dX12_year_53 : decode cX12_year 53 = .ok (.invokevirtual 415, 3) := by decide +kernel
theorem dX12_year_56 : decode cX12_year 56 = .ok (.invokevirtual 418, 3) := by decide +kernel
theorem dX12_year_59 : decode cX12_year 59 = .ok (.pop, 1) := by decide +kernel
theorem dX12_year_60 : decode cX12_year 60 = .ok (.aload_n 0, 1) := by decide +kernel
theorem dX12_year_61 : decode cX12_year 61 = .ok (.iload_n 1, 1) := by decide +kernel
theorem dX12_year_62 : decode cX12_year 62 = .ok (.aload_n 0, 1) := by decide +kernel
theorem dX12_year_63 : decode cX12_year 63 = .ok (.getfield 343, 3) := by decide +kernel
theorem dX12_year_66 : decode cX12_year 66 = .ok (.aload_n 0, 1) := by decide +kernel
theorem dX12_year_67 : decode cX12_year 67 = .ok (.getfield 346, 3) := by decide +kernel
theorem dX12_year_70 : decode cX12_year 70 = .ok (.invokevirtual 405, 3) := by decide +kernel
theorem dX12_year_73 : decode cX12_year 73 = .ok (.aload_n 0, 1) := by decide +kernel
theorem dX12_year_74 : decode cX12_year 74 = .ok (.getfield 29, 3) := by decide +kernel
theorem dX12_year_77 : decode cX12_year 77 = .ok (.bipush 7, 2) := by decide +kernel
theorem dX12_year_79 : decode cX12_year 79 = .ok (.dup2, 1) := by decide +kernel
theorem dX12_year_80 : decode cX12_year 80 = .ok (.iaload, 1) := by decide +kernel
theorem dX12_year_81 : decode cX12_year 81 = .ok (.iconst 1, 1) := by decide +kernel
theorem dX12_year_82 : decode cX12_year 82 = .ok (.iadd, 1) := by decide +kernel
theorem dX12_year_83 : decode cX12_year 83 = .ok (.iastore, 1) := by decide +kernel
theorem dX12_year_84 : decode cX12_year 84 = .ok (.iload_n 3, 1) := by decide +kernel
theorem dX12_year_85 : decode cX12_year 85 = .ok (.ifCond .le 7, 3) := by decide +kernel
theorem dX12_year_88 : decode cX12_year 88 = .ok (.iconst 1, 1) := by decide +kernel
theorem dX12_year_89 : decode cX12_year 89 = .ok (.goto 4, 3) := by decide +kernel
theorem dX12_year_92 : decode cX12_year 92 = .ok (.iconst 0, 1) := by decide +kernel
theorem dX12_year_93 : decode cX12_year 93 = .ok (.ireturn, 1) := by decide +kernel
theorem dX12_years_0 : decode cX12_years 0 = .ok (.aload_n 0, 1) := by decide +kernel
theorem dX12_years_1 : decode cX12_years 1 = .ok (.iconst 0, 1) := by decide +kernel
theorem dX12_years_2 : decode cX12_years 2 = .ok (.putfield 3, 3) := by decide +kernel
theorem dX12_years_5 : decode cX12_years 5 = .ok (.aload_n 0, 1) := by decide +kernel
theorem dX12_years_6 : decode cX12_years 6 = .ok (.aload_n 0, 1) := by decide +kernel
theorem dX12_years_7 : decode cX12_years 7 = .ok (.iload_n 1, 1) := by decide +kernel
theorem dX12_years_8 : decode cX12_years 8 = .ok (.invokevirtual 376, 3) := by decide +kernel
theorem dX12_years_11 : decode cX12_years 11 = .ok (.iconst 1, 1) := by decide +kernel
theorem dX12_years_12 : decode cX12_years 12 = .ok (.invokevirtual 302, 3) := by decide +kernel
theorem dX12_years_15 : decode cX12_years 15 = .ok (.ifCond .ne 27, 3) := by decide +kernel
theorem dX12_years_18 : decode cX12_years 18 = .ok (.aload_n 0, 1) := by decide +kernel
theorem dX12_years_19 : decode cX12_years 19 = .ok (.iload_n 2, 1) := by decide +kernel
theorem dX12_years_20 : decode cX12_years 20 = .ok (.iconst 1, 1) := by decide +kernel
theorem dX12_years_21 : decode cX12_years 21 = .ok (.sipush 200, 3) := by decide +kernel
theorem dX12_years_24 : decode cX12_years 24 = .ok (.invokestatic 125, 3) := by decide +kernel
theorem dX12_years_27 : decode cX12_years 27 = .ok (.ifCond .ne 7, 3) := by decide +kernel
theorem dX12_years_30 : decode cX12_years 30 = .ok (.iconst 1, 1) := by decide +kernel
theorem dX12_years_31 : decode cX12_years 31 = .ok (.goto 4, 3) := by decide +kernel
theorem dX12_years_34 : decode cX12_years 34 = .ok (.iconst 0, 1) := by decide +kernel
theorem dX12_years_35 : decode cX12_years 35 = .ok (.iconst 2, 1) := by decide +kernel
theorem dX12_years_36 : decode cX12_years 36 = .ok (.invokevirtual 302, 3) := by decide +kernel
theorem dX12_years_39 : decode cX12_years 39 = .ok (.ifCond .eq 5, 3) := by decide +kernel
theorem dX12_years_42 : decode cX12_years 42 = .ok (.iconst 0, 1) := by decide +kernel
theorem dX12_years_43 : decode cX12_years 43 = .ok (.ireturn, 1) := by decide +kernel
theorem dX12_years_44 : decode cX12_years 44 = .ok (.aload_n 0, 1) := by decide +kernel
theorem dX12_years_45 : decode cX12_years 45 = .ok (.invokevirtual 408, 3) := by decide +kernel
theorem dX12_years_48 : decode cX12_years 48 = .ok (.aload_n 0, 1) := by decide +kernel
theorem dX12_years_49 : decode cX12_years 49 = .ok (.invokevirtual 386, 3) := by decide +kernel
theorem dX12_years_52 : decode cX12_years 52 = .ok (.iconst 0, 1) := by decide +kernel
theorem dX12_years_53 : decode cX12_years 53 = .ok (.istore_n 3, 1) := by decide +kernel
theorem dX12_years_54 : decode cX12_years 54 = .ok (.iconst 0, 1) := by decide +kernel
theorem dX12_years_55 : decode cX12_years 55 = .ok (.istore 4, 2) := by decide +kernel
theorem dX12_years_57 : decode cX12_years 57 = .ok (.iload 4, 2) := by decide +kernel
theorem dX12_years_59 : decode cX12_years 59 = .ok (.iload_n 2, 1) := by decide +kernel
theorem dX12_years_60 : decode cX12_years 60 = .ok (.if_icmp .ge 25, 3) := by decide +kernel
theorem dX12_years_63 : decode cX12_years 63 = .ok (.iload_n 3, 1) := by decide +kernel
theorem dX12_years_64 : decode cX12_years 64 = .ok (.aload_n 0, 1) := by decide +kernel
theorem dX12_years_65 : decode cX12_years 65 = .ok (.iload_n 1, 1) := by decide +kernel
theorem dX12_years_66 : decode cX12_years 66 = .ok (.invokevirtual 421, 3) := by decide +kernel
theorem dX12_years_69 : decode cX12_years 69 = .ok (.ifCond .eq 7, 3) := by decide +kernel
theorem dX12_years_72 : decode cX12_years 72 = .ok (.iconst 1, 1) := by decide +kernel
theorem dX12_years_73 : decode cX12_years 73 = .ok (.goto 4, 3) := by decide +kernel
theorem dX12_years_76 : decode cX12_years 76 = .ok (.iconst 0, 1) := by decide +kernel
theorem dX12_years_77 : decode cX12_years 77 = .ok (.iadd, 1) := by decide +kernel
theorem dX12_years_78 : decode cX12_years 78 = .ok (.istore_n 3, 1) := by decide +kernel
theorem dX12_years_79 : decode cX12_years 79 = .ok (.iinc 4 1, 3) := by decide +kernel
theorem dX12_years_82 : decode cX12_years 82 = .ok (.goto (-25), 3) := by decide +kernel
theorem dX12_years_85 : decode cX12_years 85 = .ok (.iload_n 3, 1) := by decide +kernel
theorem dX12_years_86 : decode cX12_years 86 = .ok (.ireturn, 1) := by decide +kernel
theorem dX12_settles_0 : decode cX12_settles 0 = .ok (.aload_n 0, 1) := by decide +kernel
theorem dX12_settles_1 : decode cX12_settles 1 = .ok (.iconst 0, 1) := by decide +kernel
theorem dX12_settles_2 : decode cX12_settles 2 = .ok (.putfield 3, 3) := by decide +kernel
theorem dX12_settles_5 : decode cX12_settles 5 = .ok (.aload_n 0, 1) := by decide +kernel
theorem dX12_settles_6 : decode cX12_settles 6 = .ok (.lload_n 1, 1) := by decide +kernel
theorem dX12_settles_7 : decode cX12_settles 7 = .ok (.invokestatic 382, 3) := by decide +kernel
theorem dX12_settles_10 : decode cX12_settles 10 = .ok (.ifCond .eq 14, 3) := by decide +kernel
theorem dX12_settles_13 : decode cX12_settles 13 = .ok (.iload_n 3, 1) := by decide +kernel
theorem dX12_settles_14 : decode cX12_settles 14 = .ok (.iconst 0, 1) := by decide +kernel
theorem dX12_settles_15 : decode cX12_settles 15 = .ok (.sipush 500, 3) := by decide +kernel
theorem dX12_settles_18 : decode cX12_settles 18 = .ok (.invokestatic 125, 3) := by decide +kernel
theorem dX12_settles_21 : decode cX12_settles 21 = .ok (.ifCond .ne 7, 3) := by decide +kernel
theorem dX12_settles_24 : decode cX12_settles 24 = .ok (.iconst 1, 1) := by decide +kernel
theorem dX12_settles_25 : decode cX12_settles 25 = .ok (.goto 4, 3) := by decide +kernel
theorem dX12_settles_28 : decode cX12_settles 28 = .ok (.iconst 0, 1) := by decide +kernel
theorem dX12_settles_29 : decode cX12_settles 29 = .ok (.iconst 1, 1) := by decide +kernel
theorem dX12_settles_30 : decode cX12_settles 30 = .ok (.invokevirtual 302, 3) := by decide +kernel
theorem dX12_settles_33 : decode cX12_settles 33 = .ok (.ifCond .eq 5, 3) := by decide +kernel
theorem dX12_settles_36 : decode cX12_settles 36 = .ok (.lconst 0, 1) := by decide +kernel
theorem dX12_settles_37 : decode cX12_settles 37 = .ok (.lreturn, 1) := by decide +kernel
theorem dX12_settles_38 : decode cX12_settles 38 = .ok (.aload_n 0, 1) := by decide +kernel
theorem dX12_settles_39 : decode cX12_settles 39 = .ok (.invokevirtual 386, 3) := by decide +kernel
theorem dX12_settles_42 : decode cX12_settles 42 = .ok (.aload_n 0, 1) := by decide +kernel
theorem dX12_settles_43 : decode cX12_settles 43 = .ok (.lload_n 1, 1) := by decide +kernel
theorem dX12_settles_44 : decode cX12_settles 44 = .ok (.iload_n 3, 1) := by decide +kernel
theorem dX12_settles_45 : decode cX12_settles 45 = .ok (.aload_n 0, 1) := by decide +kernel
theorem dX12_settles_46 : decode cX12_settles 46 = .ok (.getfield 29, 3) := by decide +kernel
theorem dX12_settles_49 : decode cX12_settles 49 = .ok (.iconst 5, 1) := by decide +kernel
theorem dX12_settles_50 : decode cX12_settles 50 = .ok (.iaload, 1) := by decide +kernel
theorem dX12_settles_51 : decode cX12_settles 51 = .ok (.invokevirtual 423, 3) := by decide +kernel
theorem dX12_settles_54 : decode cX12_settles 54 = .ok (.ifCond .ne 7, 3) := by decide +kernel
theorem dX12_settles_57 : decode cX12_settles 57 = .ok (.ldc2_w 171, 3) := by decide +kernel
theorem dX12_settles_60 : decode cX12_settles 60 = .ok (.lreturn, 1) := by decide +kernel
theorem dX12_settles_61 : decode cX12_settles 61 = .ok (.iload 4, 2) := by decide +kernel
theorem dX12_settles_63 : decode cX12_settles 63 = .ok (.ifCond .eq 10, 3) := by decide +kernel
theorem dX12_settles_66 : decode cX12_settles 66 = .ok (.aload_n 0, 1) := by decide +kernel
theorem dX12_settles_67 : decode cX12_settles 67 = .ok (.getfield 363, 3) := by decide +kernel
theorem dX12_settles_70 : decode cX12_settles 70 = .ok (.goto 8, 3) := by decide +kernel
theorem dX12_settles_73 : decode cX12_settles 73 = .ok (.aload_n 0, 1) := by decide +kernel
theorem dX12_settles_74 : decode cX12_settles 74 = .ok (.getfield 367, 3) := by decide +kernel
theorem dX12_settles_77 : decode cX12_settles 77 = .ok (.i2l, 1) := by decide +kernel
theorem dX12_settles_78 : decode cX12_settles 78 = .ok (.lreturn, 1) := by decide +kernel
theorem dX12_again_0 : decode cX12_again 0 = .ok (.aload_n 0, 1) := by decide +kernel
theorem dX12_again_1 : decode cX12_again 1 = .ok (.iconst 0, 1) := by decide +kernel
theorem dX12_again_2 : decode cX12_again 2 = .ok (.putfield 3, 3) := by decide +kernel
theorem dX12_again_5 : decode cX12_again 5 = .ok (.aload_n 0, 1) := by decide +kernel
theorem dX12_again_6 : decode cX12_again 6 = .ok (.lload_n 1, 1) := by decide +kernel
theorem dX12_again_7 : decode cX12_again 7 = .ok (.invokestatic 382, 3) := by decide +kernel
theorem dX12_again_10 : decode cX12_again 10 = .ok (.ifCond .ne 7, 3) := by decide +kernel
theorem dX12_again_13 : decode cX12_again 13 = .ok (.iconst 1, 1) := by decide +kernel
theorem dX12_again_14 : decode cX12_again 14 = .ok (.goto 4, 3) := by decide +kernel
theorem dX12_again_17 : decode cX12_again 17 = .ok (.iconst 0, 1) := by decide +kernel
theorem dX12_again_18 : decode cX12_again 18 = .ok (.iconst 1, 1) := by decide +kernel
theorem dX12_again_19 : decode cX12_again 19 = .ok (.invokevirtual 302, 3) := by decide +kernel
theorem dX12_again_22 : decode cX12_again 22 = .ok (.ifCond .eq 5, 3) := by decide +kernel
theorem dX12_again_25 : decode cX12_again 25 = .ok (.iconst 0, 1) := by decide +kernel
theorem dX12_again_26 : decode cX12_again 26 = .ok (.ireturn, 1) := by decide +kernel
theorem dX12_again_27 : decode cX12_again 27 = .ok (.aload_n 0, 1) := by decide +kernel
theorem dX12_again_28 : decode cX12_again 28 = .ok (.invokevirtual 386, 3) := by decide +kernel
theorem dX12_again_31 : decode cX12_again 31 = .ok (.aload_n 0, 1) := by decide +kernel
theorem dX12_again_32 : decode cX12_again 32 = .ok (.getfield 58, 3) := by decide +kernel
theorem dX12_again_35 : decode cX12_again 35 = .ok (.iconst 0, 1) := by decide +kernel
theorem dX12_again_36 : decode cX12_again 36 = .ok (.lload_n 1, 1) := by decide +kernel
theorem dX12_again_37 : decode cX12_again 37 = .ok (.lastore, 1) := by decide +kernel
theorem dX12_again_38 : decode cX12_again 38 = .ok (.iconst 1, 1) := by decide +kernel
theorem dX12_again_39 : decode cX12_again 39 = .ok (.istore 4, 2) := by decide +kernel
theorem dX12_again_41 : decode cX12_again 41 = .ok (.iload 4, 2) := by decide +kernel
theorem dX12_again_43 : decode cX12_again 43 = .ok (.sipush 500, 3) := by decide +kernel
theorem dX12_again_46 : decode cX12_again 46 = .ok (.if_icmp .gt 95, 3) := by decide +kernel
theorem dX12_again_49 : decode cX12_again 49 = .ok (.aload_n 0, 1) := by decide +kernel
theorem dX12_again_50 : decode cX12_again 50 = .ok (.getfield 58, 3) := by decide +kernel
theorem dX12_again_53 : decode cX12_again 53 = .ok (.iload 4, 2) := by decide +kernel
theorem dX12_again_55 : decode cX12_again 55 = .ok (.aload_n 0, 1) := by decide +kernel
theorem dX12_again_56 : decode cX12_again 56 = .ok (.aload_n 0, 1) := by decide +kernel
theorem dX12_again_57 : decode cX12_again 57 = .ok (.getfield 58, 3) := by decide +kernel
theorem dX12_again_60 : decode cX12_again 60 = .ok (.iload 4, 2) := by decide +kernel
theorem dX12_again_62 : decode cX12_again 62 = .ok (.iconst 1, 1) := by decide +kernel
theorem dX12_again_63 : decode cX12_again 63 = .ok (.isub, 1) := by decide +kernel
theorem dX12_again_64 : decode cX12_again 64 = .ok (.laload, 1) := by decide +kernel
theorem dX12_again_65 : decode cX12_again 65 = .ok (.aload_n 0, 1) := by decide +kernel
theorem dX12_again_66 : decode cX12_again 66 = .ok (.getfield 29, 3) := by decide +kernel
theorem dX12_again_69 : decode cX12_again 69 = .ok (.iconst 5, 1) := by decide +kernel
theorem dX12_again_70 : decode cX12_again 70 = .ok (.iaload, 1) := by decide +kernel
theorem dX12_again_71 : decode cX12_again 71 = .ok (.invokevirtual 370, 3) := by decide +kernel
theorem dX12_again_74 : decode cX12_again 74 = .ok (.lastore, 1) := by decide +kernel
theorem dX12_again_75 : decode cX12_again 75 = .ok (.aload_n 0, 1) := by decide +kernel
theorem dX12_again_76 : decode cX12_again 76 = .ok (.getfield 58, 3) := by decide +kernel
theorem dX12_again_79 : decode cX12_again 79 = .ok (.iload 4, 2) := by decide +kernel
theorem dX12_again_81 : decode cX12_again 81 = .ok (.laload, 1) := by decide +kernel
theorem dX12_again_82 : decode cX12_again 82 = .ok (.lconst 0, 1) := by decide +kernel
theorem dX12_again_83 : decode cX12_again 83 = .ok (.lcmp, 1) := by decide +kernel
theorem dX12_again_84 : decode cX12_again 84 = .ok (.ifCond .ge 5, 3) := by decide +kernel
theorem dX12_again_87 : decode cX12_again 87 = .ok (.iconst (-1), 1) := by decide +kernel
theorem dX12_again_88 : decode cX12_again 88 = .ok (.ireturn, 1) := by decide +kernel
theorem dX12_again_89 : decode cX12_again 89 = .ok (.iconst 0, 1) := by decide +kernel
theorem dX12_again_90 : decode cX12_again 90 = .ok (.istore 5, 2) := by decide +kernel
theorem dX12_again_92 : decode cX12_again 92 = .ok (.iload 5, 2) := by decide +kernel
theorem dX12_again_94 : decode cX12_again 94 = .ok (.iload 4, 2) := by decide +kernel
theorem dX12_again_96 : decode cX12_again 96 = .ok (.if_icmp .ge 39, 3) := by decide +kernel
theorem dX12_again_99 : decode cX12_again 99 = .ok (.aload_n 0, 1) := by decide +kernel
theorem dX12_again_100 : decode cX12_again 100 = .ok (.getfield 58, 3) := by decide +kernel
theorem dX12_again_103 : decode cX12_again 103 = .ok (.iload 5, 2) := by decide +kernel
theorem dX12_again_105 : decode cX12_again 105 = .ok (.laload, 1) := by decide +kernel
theorem dX12_again_106 : decode cX12_again 106 = .ok (.aload_n 0, 1) := by decide +kernel
theorem dX12_again_107 : decode cX12_again 107 = .ok (.getfield 58, 3) := by decide +kernel
theorem dX12_again_110 : decode cX12_again 110 = .ok (.iload 4, 2) := by decide +kernel
theorem dX12_again_112 : decode cX12_again 112 = .ok (.laload, 1) := by decide +kernel
theorem dX12_again_113 : decode cX12_again 113 = .ok (.lcmp, 1) := by decide +kernel
theorem dX12_again_114 : decode cX12_again 114 = .ok (.ifCond .ne 15, 3) := by decide +kernel
theorem dX12_again_117 : decode cX12_again 117 = .ok (.iload_n 3, 1) := by decide +kernel
theorem dX12_again_118 : decode cX12_again 118 = .ok (.ifCond .eq 8, 3) := by decide +kernel
theorem dX12_again_121 : decode cX12_again 121 = .ok (.iload 5, 2) := by decide +kernel
theorem dX12_again_123 : decode cX12_again 123 = .ok (.goto 5, 3) := by decide +kernel
theorem dX12_again_126 : decode cX12_again 126 = .ok (.iload 4, 2) := by decide +kernel
theorem dX12_again_128 : decode cX12_again 128 = .ok (.ireturn, 1) := by decide +kernel
theorem dX12_again_129 : decode cX12_again 129 = .ok (.iinc 5 1, 3) := by decide +kernel
theorem dX12_again_132 : decode cX12_again 132 = .ok (.goto (-40), 3) := by decide +kernel
theorem dX12_again_135 : decode cX12_again 135 = .ok (.iinc 4 1, 3) := by decide +kernel
theorem dX12_again_138 : decode cX12_again 138 = .ok (.goto (-97), 3) := by decide +kernel
theorem dX12_again_141 : decode cX12_again 141 = .ok (.iconst (-1), 1) := by decide +kernel
theorem dX12_again_142 : decode cX12_again 142 = .ok (.ireturn, 1) := by decide +kernel
theorem dX12_alike_0 : decode cX12_alike 0 = .ok (.aload_n 0, 1) := by decide +kernel
theorem dX12_alike_1 : decode cX12_alike 1 = .ok (.iconst 0, 1) := by decide +kernel
theorem dX12_alike_2 : decode cX12_alike 2 = .ok (.putfield 3, 3) := by decide +kernel
theorem dX12_alike_5 : decode cX12_alike 5 = .ok (.aload_n 0, 1) := by decide +kernel
theorem dX12_alike_6 : decode cX12_alike 6 = .ok (.lload_n 1, 1) := by decide +kernel
theorem dX12_alike_7 : decode cX12_alike 7 = .ok (.invokestatic 382, 3) := by decide +kernel
theorem dX12_alike_10 : decode cX12_alike 10 = .ok (.ifCond .eq 10, 3) := by decide +kernel
theorem dX12_alike_13 : decode cX12_alike 13 = .ok (.lload_n 3, 1) := by decide +kernel
theorem dX12_alike_14 : decode cX12_alike 14 = .ok (.invokestatic 382, 3) := by decide +kernel
theorem dX12_alike_17 : decode cX12_alike 17 = .ok (.ifCond .ne 7, 3) := by decide +kernel
theorem dX12_alike_20 : decode cX12_alike 20 = .ok (.iconst 1, 1) := by decide +kernel
theorem dX12_alike_21 : decode cX12_alike 21 = .ok (.goto 4, 3) := by decide +kernel
theorem dX12_alike_24 : decode cX12_alike 24 = .ok (.iconst 0, 1) := by decide +kernel
theorem dX12_alike_25 : decode cX12_alike 25 = .ok (.iconst 1, 1) := by decide +kernel
theorem dX12_alike_26 : decode cX12_alike 26 = .ok (.invokevirtual 302, 3) := by decide +kernel
theorem dX12_alike_29 : decode cX12_alike 29 = .ok (.ifCond .eq 5, 3) := by decide +kernel
theorem dX12_alike_32 : decode cX12_alike 32 = .ok (.iconst 0, 1) := by decide +kernel
theorem dX12_alike_33 : decode cX12_alike 33 = .ok (.ireturn, 1) := by decide +kernel
theorem dX12_alike_34 : decode cX12_alike 34 = .ok (.aload_n 0, 1) := by decide +kernel
theorem dX12_alike_35 : decode cX12_alike 35 = .ok (.invokevirtual 386, 3) := by decide +kernel
theorem dX12_alike_38 : decode cX12_alike 38 = .ok (.aload_n 0, 1) := by decide +kernel
theorem dX12_alike_39 : decode cX12_alike 39 = .ok (.lload_n 1, 1) := by decide +kernel
theorem dX12_alike_40 : decode cX12_alike 40 = .ok (.sipush 200, 3) := by decide +kernel
theorem dX12_alike_43 : decode cX12_alike 43 = .ok (.aload_n 0, 1) := by decide +kernel
theorem dX12_alike_44 : decode cX12_alike 44 = .ok (.getfield 29, 3) := by decide +kernel
theorem dX12_alike_47 : decode cX12_alike 47 = .ok (.iconst 5, 1) := by decide +kernel
theorem dX12_alike_48 : decode cX12_alike 48 = .ok (.iaload, 1) := by decide +kernel
theorem dX12_alike_49 : decode cX12_alike 49 = .ok (.invokevirtual 423, 3) := by decide +kernel
theorem dX12_alike_52 : decode cX12_alike 52 = .ok (.ifCond .ne 5, 3) := by decide +kernel
theorem dX12_alike_55 : decode cX12_alike 55 = .ok (.iconst 0, 1) := by decide +kernel
theorem dX12_alike_56 : decode cX12_alike 56 = .ok (.ireturn, 1) := by decide +kernel
theorem dX12_alike_57 : decode cX12_alike 57 = .ok (.aload_n 0, 1) := by decide +kernel
theorem dX12_alike_58 : decode cX12_alike 58 = .ok (.getfield 363, 3) := by decide +kernel
theorem dX12_alike_61 : decode cX12_alike 61 = .ok (.lstore 5, 2) := by decide +kernel
theorem dX12_alike_63 : decode cX12_alike 63 = .ok (.aload_n 0, 1) := by decide +kernel
theorem dX12_alike_64 : decode cX12_alike 64 = .ok (.lload_n 3, 1) := by decide +kernel
theorem dX12_alike_65 : decode cX12_alike 65 = .ok (.sipush 200, 3) := by decide +kernel
theorem dX12_alike_68 : decode cX12_alike 68 = .ok (.aload_n 0, 1) := by decide +kernel
theorem dX12_alike_69 : decode cX12_alike 69 = .ok (.getfield 29, 3) := by decide +kernel
theorem dX12_alike_72 : decode cX12_alike 72 = .ok (.iconst 5, 1) := by decide +kernel
theorem dX12_alike_73 : decode cX12_alike 73 = .ok (.iaload, 1) := by decide +kernel
theorem dX12_alike_74 : decode cX12_alike 74 = .ok (.invokevirtual 423, 3) := by decide +kernel
theorem dX12_alike_77 : decode cX12_alike 77 = .ok (.ifCond .eq 17, 3) := by decide +kernel
theorem dX12_alike_80 : decode cX12_alike 80 = .ok (.aload_n 0, 1) := by decide +kernel
theorem dX12_alike_81 : decode cX12_alike 81 = .ok (.getfield 363, 3) := by decide +kernel
theorem dX12_alike_84 : decode cX12_alike 84 = .ok (.lload 5, 2) := by decide +kernel
theorem dX12_alike_86 : decode cX12_alike 86 = .ok (.lcmp, 1) := by decide +kernel
theorem dX12_alike_87 : decode cX12_alike 87 = .ok (.ifCond .ne 7, 3) := by decide +kernel
theorem dX12_alike_90 : decode cX12_alike 90 = .ok (.iconst 1, 1) := by decide +kernel
theorem dX12_alike_91 : decode cX12_alike 91 = .ok (.goto 4, 3) := by decide +kernel
theorem dX12_alike_94 : decode cX12_alike 94 = .ok (.iconst 0, 1) := by decide +kernel
theorem dX12_alike_95 : decode cX12_alike 95 = .ok (.ireturn, 1) := by decide +kernel
theorem dX12_slotOf_0 : decode cX12_slotOf 0 = .ok (.lload_n 1, 1) := by decide +kernel
theorem dX12_slotOf_1 : decode cX12_slotOf 1 = .ok (.ldc2_w 426, 3) := by decide +kernel
theorem dX12_slotOf_4 : decode cX12_slotOf 4 = .ok (.lmul, 1) := by decide +kernel
theorem dX12_slotOf_5 : decode cX12_slotOf 5 = .ok (.bipush 20, 2) := by decide +kernel
theorem dX12_slotOf_7 : decode cX12_slotOf 7 = .ok (.lushr, 1) := by decide +kernel
theorem dX12_slotOf_8 : decode cX12_slotOf 8 = .ok (.l2i, 1) := by decide +kernel
theorem dX12_slotOf_9 : decode cX12_slotOf 9 = .ok (.sipush 4095, 3) := by decide +kernel
theorem dX12_slotOf_12 : decode cX12_slotOf 12 = .ok (.iand, 1) := by decide +kernel
theorem dX12_slotOf_13 : decode cX12_slotOf 13 = .ok (.istore_n 3, 1) := by decide +kernel
theorem dX12_slotOf_14 : decode cX12_slotOf 14 = .ok (.aload_n 0, 1) := by decide +kernel
theorem dX12_slotOf_15 : decode cX12_slotOf 15 = .ok (.getfield 68, 3) := by decide +kernel
theorem dX12_slotOf_18 : decode cX12_slotOf 18 = .ok (.iload_n 3, 1) := by decide +kernel
theorem dX12_slotOf_19 : decode cX12_slotOf 19 = .ok (.iaload, 1) := by decide +kernel
theorem dX12_slotOf_20 : decode cX12_slotOf 20 = .ok (.ifCond .eq 32, 3) := by decide +kernel
theorem dX12_slotOf_23 : decode cX12_slotOf 23 = .ok (.aload_n 0, 1) := by decide +kernel
theorem dX12_slotOf_24 : decode cX12_slotOf 24 = .ok (.getfield 62, 3) := by decide +kernel
theorem dX12_slotOf_27 : decode cX12_slotOf 27 = .ok (.aload_n 0, 1) := by decide +kernel
theorem dX12_slotOf_28 : decode cX12_slotOf 28 = .ok (.getfield 68, 3) := by decide +kernel
theorem dX12_slotOf_31 : decode cX12_slotOf 31 = .ok (.iload_n 3, 1) := by decide +kernel
theorem dX12_slotOf_32 : decode cX12_slotOf 32 = .ok (.iaload, 1) := by decide +kernel
theorem dX12_slotOf_33 : decode cX12_slotOf 33 = .ok (.iconst 1, 1) := by decide +kernel
theorem dX12_slotOf_34 : decode cX12_slotOf 34 = .ok (.isub, 1) := by decide +kernel
theorem dX12_slotOf_35 : decode cX12_slotOf 35 = .ok (.laload, 1) := by decide +kernel
theorem dX12_slotOf_36 : decode cX12_slotOf 36 = .ok (.lload_n 1, 1) := by decide +kernel
theorem dX12_slotOf_37 : decode cX12_slotOf 37 = .ok (.lcmp, 1) := by decide +kernel
theorem dX12_slotOf_38 : decode cX12_slotOf 38 = .ok (.ifCond .eq 14, 3) := by decide +kernel
theorem dX12_slotOf_41 : decode cX12_slotOf 41 = .ok (.iload_n 3, 1) := by decide +kernel
theorem dX12_slotOf_42 : decode cX12_slotOf 42 = .ok (.iconst 1, 1) := by decide +kernel
theorem dX12_slotOf_43 : decode cX12_slotOf 43 = .ok (.iadd, 1) := by decide +kernel
theorem dX12_slotOf_44 : decode cX12_slotOf 44 = .ok (.sipush 4095, 3) := by decide +kernel
theorem dX12_slotOf_47 : decode cX12_slotOf 47 = .ok (.iand, 1) := by decide +kernel
theorem dX12_slotOf_48 : decode cX12_slotOf 48 = .ok (.istore_n 3, 1) := by decide +kernel
theorem dX12_slotOf_49 : decode cX12_slotOf 49 = .ok (.goto (-35), 3) := by decide +kernel
theorem dX12_slotOf_52 : decode cX12_slotOf 52 = .ok (.iload_n 3, 1) := by decide +kernel
theorem dX12_slotOf_53 : decode cX12_slotOf 53 = .ok (.ireturn, 1) := by decide +kernel
theorem dX12_indexOf_0 : decode cX12_indexOf 0 = .ok (.aload_n 0, 1) := by decide +kernel
theorem dX12_indexOf_1 : decode cX12_indexOf 1 = .ok (.getfield 68, 3) := by decide +kernel
theorem dX12_indexOf_4 : decode cX12_indexOf 4 = .ok (.aload_n 0, 1) := by decide +kernel
theorem dX12_indexOf_5 : decode cX12_indexOf 5 = .ok (.lload_n 1, 1) := by decide +kernel
theorem dX12_indexOf_6 : decode cX12_indexOf 6 = .ok (.invokevirtual 428, 3) := by decide +kernel
theorem dX12_indexOf_9 : decode cX12_indexOf 9 = .ok (.iaload, 1) := by decide +kernel
theorem dX12_indexOf_10 : decode cX12_indexOf 10 = .ok (.iconst 1, 1) := by decide +kernel
theorem dX12_indexOf_11 : decode cX12_indexOf 11 = .ok (.isub, 1) := by decide +kernel
theorem dX12_indexOf_12 : decode cX12_indexOf 12 = .ok (.ireturn, 1) := by decide +kernel
theorem dX12_isMet_0 : decode cX12_isMet 0 = .ok (.aload_n 0, 1) := by decide +kernel
theorem dX12_isMet_1 : decode cX12_isMet 1 = .ok (.lload_n 1, 1) := by decide +kernel
theorem dX12_isMet_2 : decode cX12_isMet 2 = .ok (.invokevirtual 428, 3) := by decide +kernel
theorem dX12_isMet_5 : decode cX12_isMet 5 = .ok (.istore 4, 2) := by decide +kernel
theorem dX12_isMet_7 : decode cX12_isMet 7 = .ok (.aload_n 0, 1) := by decide +kernel
theorem dX12_isMet_8 : decode cX12_isMet 8 = .ok (.getfield 68, 3) := by decide +kernel
theorem dX12_isMet_11 : decode cX12_isMet 11 = .ok (.iload 4, 2) := by decide +kernel
theorem dX12_isMet_13 : decode cX12_isMet 13 = .ok (.iaload, 1) := by decide +kernel
theorem dX12_isMet_14 : decode cX12_isMet 14 = .ok (.ifCond .eq 5, 3) := by decide +kernel
theorem dX12_isMet_17 : decode cX12_isMet 17 = .ok (.iconst 1, 1) := by decide +kernel
theorem dX12_isMet_18 : decode cX12_isMet 18 = .ok (.ireturn, 1) := by decide +kernel
theorem dX12_isMet_19 : decode cX12_isMet 19 = .ok (.aload_n 0, 1) := by decide +kernel
theorem dX12_isMet_20 : decode cX12_isMet 20 = .ok (.getfield 431, 3) := by decide +kernel
theorem dX12_isMet_23 : decode cX12_isMet 23 = .ok (.sipush 1500, 3) := by decide +kernel
theorem dX12_isMet_26 : decode cX12_isMet 26 = .ok (.if_icmp .ne 5, 3) := by decide +kernel
theorem dX12_isMet_29 : decode cX12_isMet 29 = .ok (.iconst 0, 1) := by decide +kernel
theorem dX12_isMet_30 : decode cX12_isMet 30 = .ok (.ireturn, 1) := by decide +kernel
theorem dX12_isMet_31 : decode cX12_isMet 31 = .ok (.aload_n 0, 1) := by decide +kernel
theorem dX12_isMet_32 : decode cX12_isMet 32 = .ok (.getfield 62, 3) := by decide +kernel
theorem dX12_isMet_35 : decode cX12_isMet 35 = .ok (.aload_n 0, 1) := by decide +kernel
theorem dX12_isMet_36 : decode cX12_isMet 36 = .ok (.getfield 431, 3) := by decide +kernel
theorem dX12_isMet_39 : decode cX12_isMet 39 = .ok (.lload_n 1, 1) := by decide +kernel
theorem dX12_isMet_40 : decode cX12_isMet 40 = .ok (.lastore, 1) := by decide +kernel
theorem dX12_isMet_41 : decode cX12_isMet 41 = .ok (.aload_n 0, 1) := by decide +kernel
theorem dX12_isMet_42 : decode cX12_isMet 42 = .ok (.getfield 65, 3) := by decide +kernel
theorem dX12_isMet_45 : decode cX12_isMet 45 = .ok (.aload_n 0, 1) := by decide +kernel
theorem dX12_isMet_46 : decode cX12_isMet 46 = .ok (.getfield 431, 3) := by decide +kernel
theorem dX12_isMet_49 : decode cX12_isMet 49 = .ok (.iload_n 3, 1) := by decide +kernel
theorem dX12_isMet_50 : decode cX12_isMet 50 = .ok (.iastore, 1) := by decide +kernel
theorem dX12_isMet_51 : decode cX12_isMet 51 = .ok (.aload_n 0, 1) := by decide +kernel
theorem dX12_isMet_52 : decode cX12_isMet 52 = .ok (.dup, 1) := by decide +kernel
theorem dX12_isMet_53 : decode cX12_isMet 53 = .ok (.getfield 431, 3) := by decide +kernel
theorem dX12_isMet_56 : decode cX12_isMet 56 = .ok (.iconst 1, 1) := by decide +kernel
theorem dX12_isMet_57 : decode cX12_isMet 57 = .ok (.iadd, 1) := by decide +kernel
theorem dX12_isMet_58 : decode cX12_isMet 58 = .ok (.putfield 431, 3) := by decide +kernel
theorem dX12_isMet_61 : decode cX12_isMet 61 = .ok (.aload_n 0, 1) := by decide +kernel
theorem dX12_isMet_62 : decode cX12_isMet 62 = .ok (.getfield 68, 3) := by decide +kernel
theorem dX12_isMet_65 : decode cX12_isMet 65 = .ok (.iload 4, 2) := by decide +kernel
theorem dX12_isMet_67 : decode cX12_isMet 67 = .ok (.aload_n 0, 1) := by decide +kernel
theorem dX12_isMet_68 : decode cX12_isMet 68 = .ok (.getfield 431, 3) := by decide +kernel
theorem dX12_isMet_71 : decode cX12_isMet 71 = .ok (.iastore, 1) := by decide +kernel
theorem dX12_isMet_72 : decode cX12_isMet 72 = .ok (.iconst 1, 1) := by decide +kernel
theorem dX12_isMet_73 : decode cX12_isMet 73 = .ok (.ireturn, 1) := by decide +kernel
theorem dX12_spreads_0 : decode cX12_spreads 0 = .ok (.aload_n 0, 1) := by decide +kernel
theorem dX12_spreads_1 : decode cX12_spreads 1 = .ok (.getfield 62, 3) := by decide +kernel
theorem dX12_spreads_4 : decode cX12_spreads 4 = .ok (.iload_n 1, 1) := by decide +kernel
theorem dX12_spreads_5 : decode cX12_spreads 5 = .ok (.laload, 1) := by decide +kernel
theorem dX12_spreads_6 : decode cX12_spreads 6 = .ok (.lstore_n 2, 1) := by decide +kernel
theorem dX12_spreads_7 : decode cX12_spreads 7 = .ok (.iconst 0, 1) := by decide +kernel
theorem dX12_spreads_8 : decode cX12_spreads 8 = .ok (.istore 4, 2) := by decide +kernel
theorem dX12_spreads_10 : decode cX12_spreads 10 = .ok (.iload 4, 2) := by decide +kernel
theorem dX12_spreads_12 : decode cX12_spreads 12 = .ok (.lload_n 2, 1) := by decide +kernel
theorem dX12_spreads_13 : decode cX12_spreads 13 = .ok (.invokestatic 13, 3) := by decide +kernel
theorem dX12_spreads_16 : decode cX12_spreads 16 = .ok (.if_icmp .ge 65, 3) := by decide +kernel
theorem dX12_spreads_19 : decode cX12_spreads 19 = .ok (.iconst 0, 1) := by decide +kernel
theorem dX12_spreads_20 : decode cX12_spreads 20 = .ok (.istore 5, 2) := by decide +kernel
theorem dX12_spreads_22 : decode cX12_spreads 22 = .ok (.iload 5, 2) := by decide +kernel
theorem dX12_spreads_24 : decode cX12_spreads 24 = .ok (.aload_n 0, 1) := by decide +kernel
theorem dX12_spreads_25 : decode cX12_spreads 25 = .ok (.invokevirtual 121, 3) := by decide +kernel
theorem dX12_spreads_28 : decode cX12_spreads 28 = .ok (.if_icmp .ge 47, 3) := by decide +kernel
theorem dX12_spreads_31 : decode cX12_spreads 31 = .ok (.aload_n 0, 1) := by decide +kernel
theorem dX12_spreads_32 : decode cX12_spreads 32 = .ok (.lload_n 2, 1) := by decide +kernel
theorem dX12_spreads_33 : decode cX12_spreads 33 = .ok (.iload 5, 2) := by decide +kernel
theorem dX12_spreads_35 : decode cX12_spreads 35 = .ok (.iload 4, 2) := by decide +kernel
theorem dX12_spreads_37 : decode cX12_spreads 37 = .ok (.invokevirtual 339, 3) := by decide +kernel
theorem dX12_spreads_40 : decode cX12_spreads 40 = .ok (.ifCond .eq 29, 3) := by decide +kernel
theorem dX12_spreads_43 : decode cX12_spreads 43 = .ok (.aload_n 0, 1) := by decide +kernel
theorem dX12_spreads_44 : decode cX12_spreads 44 = .ok (.aload_n 0, 1) := by decide +kernel
theorem dX12_spreads_45 : decode cX12_spreads 45 = .ok (.lload_n 2, 1) := by decide +kernel
theorem dX12_spreads_46 : decode cX12_spreads 46 = .ok (.iload 5, 2) := by decide +kernel
theorem dX12_spreads_48 : decode cX12_spreads 48 = .ok (.iload 4, 2) := by decide +kernel
theorem dX12_spreads_50 : decode cX12_spreads 50 = .ok (.invokevirtual 360, 3) := by decide +kernel
theorem dX12_spreads_53 : decode cX12_spreads 53 = .ok (.aload_n 0, 1) := by decide +kernel
theorem dX12_spreads_54 : decode cX12_spreads 54 = .ok (.getfield 65, 3) := by decide +kernel
theorem dX12_spreads_57 : decode cX12_spreads 57 = .ok (.iload_n 1, 1) := by decide +kernel
theorem dX12_spreads_58 : decode cX12_spreads 58 = .ok (.iaload, 1) := by decide +kernel
theorem dX12_spreads_59 : decode cX12_spreads 59 = .ok (.iconst 1, 1) := by decide +kernel
theorem dX12_spreads_60 : decode cX12_spreads 60 = .ok (.iadd, 1) := by decide +kernel
theorem dX12_spreads_61 : decode cX12_spreads 61 = .ok (.invokevirtual 434, 3) := by decide +kernel
theorem dX12_spreads_64 : decode cX12_spreads 64 = .ok (.ifCond .ne 5, 3) := by decide +kernel
theorem dX12_spreads_67 : decode cX12_spreads 67 = .ok (.iconst 0, 1) := by decide +kernel
theorem dX12_spreads_68 : decode cX12_spreads 68 = .ok (.ireturn, 1) := by decide +kernel
theorem dX12_spreads_69 : decode cX12_spreads 69 = .ok (.iinc 5 1, 3) := by decide +kernel
theorem dX12_spreads_72 : decode cX12_spreads 72 = .ok (.goto (-50), 3) := by decide +kernel
theorem dX12_spreads_75 : decode cX12_spreads 75 = .ok (.iinc 4 1, 3) := by decide +kernel
theorem dX12_spreads_78 : decode cX12_spreads 78 = .ok (.goto (-68), 3) := by decide +kernel
theorem dX12_spreads_81 : decode cX12_spreads 81 = .ok (.iconst 1, 1) := by decide +kernel
theorem dX12_spreads_82 : decode cX12_spreads 82 = .ok (.ireturn, 1) := by decide +kernel
theorem dX12_beginsAt_0 : decode cX12_beginsAt 0 = .ok (.iconst 0, 1) := by decide +kernel
theorem dX12_beginsAt_1 : decode cX12_beginsAt 1 = .ok (.istore_n 3, 1) := by decide +kernel
theorem dX12_beginsAt_2 : decode cX12_beginsAt 2 = .ok (.iload_n 3, 1) := by decide +kernel
theorem dX12_beginsAt_3 : decode cX12_beginsAt 3 = .ok (.sipush 4096, 3) := by decide +kernel
theorem dX12_beginsAt_6 : decode cX12_beginsAt 6 = .ok (.if_icmp .ge 16, 3) := by decide +kernel
theorem dX12_beginsAt_9 : decode cX12_beginsAt 9 = .ok (.aload_n 0, 1) := by decide +kernel
theorem dX12_beginsAt_10 : decode cX12_beginsAt 10 = .ok (.getfield 68, 3) := by decide +kernel
theorem dX12_beginsAt_13 : decode cX12_beginsAt 13 = .ok (.iload_n 3, 1) := by decide +kernel
theorem dX12_beginsAt_14 : decode cX12_beginsAt 14 = .ok (.iconst 0, 1) := by decide +kernel
theorem dX12_beginsAt_15 : decode cX12_beginsAt 15 = .ok (.iastore, 1) := by decide +kernel
theorem dX12_beginsAt_16 : decode cX12_beginsAt 16 = .ok (.iinc 3 1, 3) := by decide +kernel
theorem dX12_beginsAt_19 : decode cX12_beginsAt 19 = .ok (.goto (-17), 3) := by decide +kernel
theorem dX12_beginsAt_22 : decode cX12_beginsAt 22 = .ok (.aload_n 0, 1) := by decide +kernel
theorem dX12_beginsAt_23 : decode cX12_beginsAt 23 = .ok (.iconst 0, 1) := by decide +kernel
theorem dX12_beginsAt_24 : decode cX12_beginsAt 24 = .ok (.putfield 431, 3) := by decide +kernel
theorem dX12_beginsAt_27 : decode cX12_beginsAt 27 = .ok (.aload_n 0, 1) := by decide +kernel
theorem dX12_beginsAt_28 : decode cX12_beginsAt 28 = .ok (.lload_n 1, 1) := by decide +kernel
theorem dX12_beginsAt_29 : decode cX12_beginsAt 29 = .ok (.iconst 0, 1) := by decide +kernel
theorem dX12_beginsAt_30 : decode cX12_beginsAt 30 = .ok (.invokevirtual 434, 3) := by decide +kernel
theorem dX12_beginsAt_33 : decode cX12_beginsAt 33 = .ok (.pop, 1) := by decide +kernel
theorem dX12_beginsAt_34 : decode cX12_beginsAt 34 = .ok (.return_, 1) := by decide +kernel
theorem dX12_searches_0 : decode cX12_searches 0 = .ok (.aload_n 0, 1) := by decide +kernel
theorem dX12_searches_1 : decode cX12_searches 1 = .ok (.invokevirtual 386, 3) := by decide +kernel
theorem dX12_searches_4 : decode cX12_searches 4 = .ok (.aload_n 0, 1) := by decide +kernel
theorem dX12_searches_5 : decode cX12_searches 5 = .ok (.lload_n 1, 1) := by decide +kernel
theorem dX12_searches_6 : decode cX12_searches 6 = .ok (.invokevirtual 437, 3) := by decide +kernel
theorem dX12_searches_9 : decode cX12_searches 9 = .ok (.iconst 0, 1) := by decide +kernel
theorem dX12_searches_10 : decode cX12_searches 10 = .ok (.istore 4, 2) := by decide +kernel
theorem dX12_searches_12 : decode cX12_searches 12 = .ok (.iload 4, 2) := by decide +kernel
theorem dX12_searches_14 : decode cX12_searches 14 = .ok (.aload_n 0, 1) := by decide +kernel
theorem dX12_searches_15 : decode cX12_searches 15 = .ok (.getfield 431, 3) := by decide +kernel
theorem dX12_searches_18 : decode cX12_searches 18 = .ok (.if_icmp .ge 31, 3) := by decide +kernel
theorem dX12_searches_21 : decode cX12_searches 21 = .ok (.aload_n 0, 1) := by decide +kernel
theorem dX12_searches_22 : decode cX12_searches 22 = .ok (.getfield 65, 3) := by decide +kernel
theorem dX12_searches_25 : decode cX12_searches 25 = .ok (.iload 4, 2) := by decide +kernel
theorem dX12_searches_27 : decode cX12_searches 27 = .ok (.iaload, 1) := by decide +kernel
theorem dX12_searches_28 : decode cX12_searches 28 = .ok (.iload_n 3, 1) := by decide +kernel
theorem dX12_searches_29 : decode cX12_searches 29 = .ok (.if_icmp .ge 20, 3) := by decide +kernel
theorem dX12_searches_32 : decode cX12_searches 32 = .ok (.aload_n 0, 1) := by decide +kernel
theorem dX12_searches_33 : decode cX12_searches 33 = .ok (.iload 4, 2) := by decide +kernel
theorem dX12_searches_35 : decode cX12_searches 35 = .ok (.invokevirtual 441, 3) := by decide +kernel
theorem dX12_searches_38 : decode cX12_searches 38 = .ok (.ifCond .ne 5, 3) := by decide +kernel
theorem dX12_searches_41 : decode cX12_searches 41 = .ok (.iconst 0, 1) := by decide +kernel
theorem dX12_searches_42 : decode cX12_searches 42 = .ok (.ireturn, 1) := by decide +kernel
theorem dX12_searches_43 : decode cX12_searches 43 = .ok (.iinc 4 1, 3) := by decide +kernel
theorem dX12_searches_46 : decode cX12_searches 46 = .ok (.goto (-34), 3) := by decide +kernel
theorem dX12_searches_49 : decode cX12_searches 49 = .ok (.iconst 1, 1) := by decide +kernel
theorem dX12_searches_50 : decode cX12_searches 50 = .ok (.ireturn, 1) := by decide +kernel
theorem dX12_isSettled_0 : decode cX12_isSettled 0 = .ok (.aload_n 0, 1) := by decide +kernel
theorem dX12_isSettled_1 : decode cX12_isSettled 1 = .ok (.lload_n 1, 1) := by decide +kernel
theorem dX12_isSettled_2 : decode cX12_isSettled 2 = .ok (.aload_n 0, 1) := by decide +kernel
theorem dX12_isSettled_3 : decode cX12_isSettled 3 = .ok (.getfield 29, 3) := by decide +kernel
theorem dX12_isSettled_6 : decode cX12_isSettled 6 = .ok (.iconst 5, 1) := by decide +kernel
theorem dX12_isSettled_7 : decode cX12_isSettled 7 = .ok (.iaload, 1) := by decide +kernel
theorem dX12_isSettled_8 : decode cX12_isSettled 8 = .ok (.invokevirtual 370, 3) := by decide +kernel
theorem dX12_isSettled_11 : decode cX12_isSettled 11 = .ok (.lconst 0, 1) := by decide +kernel
theorem dX12_isSettled_12 : decode cX12_isSettled 12 = .ok (.lcmp, 1) := by decide +kernel
theorem dX12_isSettled_13 : decode cX12_isSettled 13 = .ok (.ifCond .ge 7, 3) := by decide +kernel
theorem dX12_isSettled_16 : decode cX12_isSettled 16 = .ok (.iconst 1, 1) := by decide +kernel
theorem dX12_isSettled_17 : decode cX12_isSettled 17 = .ok (.goto 4, 3) := by decide +kernel
theorem dX12_isSettled_20 : decode cX12_isSettled 20 = .ok (.iconst 0, 1) := by decide +kernel
theorem dX12_isSettled_21 : decode cX12_isSettled 21 = .ok (.ireturn, 1) := by decide +kernel
theorem dX12_becomes_0 : decode cX12_becomes 0 = .ok (.aload_n 0, 1) := by decide +kernel
theorem dX12_becomes_1 : decode cX12_becomes 1 = .ok (.iconst 0, 1) := by decide +kernel
theorem dX12_becomes_2 : decode cX12_becomes 2 = .ok (.putfield 3, 3) := by decide +kernel
theorem dX12_becomes_5 : decode cX12_becomes 5 = .ok (.aload_n 0, 1) := by decide +kernel
theorem dX12_becomes_6 : decode cX12_becomes 6 = .ok (.lload_n 1, 1) := by decide +kernel
theorem dX12_becomes_7 : decode cX12_becomes 7 = .ok (.invokestatic 382, 3) := by decide +kernel
theorem dX12_becomes_10 : decode cX12_becomes 10 = .ok (.ifCond .eq 13, 3) := by decide +kernel
theorem dX12_becomes_13 : decode cX12_becomes 13 = .ok (.iload_n 3, 1) := by decide +kernel
theorem dX12_becomes_14 : decode cX12_becomes 14 = .ok (.iconst 0, 1) := by decide +kernel
theorem dX12_becomes_15 : decode cX12_becomes 15 = .ok (.bipush 40, 2) := by decide +kernel
theorem dX12_becomes_17 : decode cX12_becomes 17 = .ok (.invokestatic 125, 3) := by decide +kernel
theorem dX12_becomes_20 : decode cX12_becomes 20 = .ok (.ifCond .ne 7, 3) := by decide +kernel
theorem dX12_becomes_23 : decode cX12_becomes 23 = .ok (.iconst 1, 1) := by decide +kernel
theorem dX12_becomes_24 : decode cX12_becomes 24 = .ok (.goto 4, 3) := by decide +kernel
theorem dX12_becomes_27 : decode cX12_becomes 27 = .ok (.iconst 0, 1) := by decide +kernel
theorem dX12_becomes_28 : decode cX12_becomes 28 = .ok (.iconst 1, 1) := by decide +kernel
theorem dX12_becomes_29 : decode cX12_becomes 29 = .ok (.invokevirtual 302, 3) := by decide +kernel
theorem dX12_becomes_32 : decode cX12_becomes 32 = .ok (.ifCond .ne 26, 3) := by decide +kernel
theorem dX12_becomes_35 : decode cX12_becomes 35 = .ok (.aload_n 0, 1) := by decide +kernel
theorem dX12_becomes_36 : decode cX12_becomes 36 = .ok (.iload 4, 2) := by decide +kernel
theorem dX12_becomes_38 : decode cX12_becomes 38 = .ok (.iconst 0, 1) := by decide +kernel
theorem dX12_becomes_39 : decode cX12_becomes 39 = .ok (.iconst 3, 1) := by decide +kernel
theorem dX12_becomes_40 : decode cX12_becomes 40 = .ok (.invokestatic 125, 3) := by decide +kernel
theorem dX12_becomes_43 : decode cX12_becomes 43 = .ok (.ifCond .ne 7, 3) := by decide +kernel
theorem dX12_becomes_46 : decode cX12_becomes 46 = .ok (.iconst 1, 1) := by decide +kernel
theorem dX12_becomes_47 : decode cX12_becomes 47 = .ok (.goto 4, 3) := by decide +kernel
theorem dX12_becomes_50 : decode cX12_becomes 50 = .ok (.iconst 0, 1) := by decide +kernel
theorem dX12_becomes_51 : decode cX12_becomes 51 = .ok (.iconst 2, 1) := by decide +kernel
theorem dX12_becomes_52 : decode cX12_becomes 52 = .ok (.invokevirtual 302, 3) := by decide +kernel
theorem dX12_becomes_55 : decode cX12_becomes 55 = .ok (.ifCond .eq 5, 3) := by decide +kernel
theorem dX12_becomes_58 : decode cX12_becomes 58 = .ok (.lconst 0, 1) := by decide +kernel
theorem dX12_becomes_59 : decode cX12_becomes 59 = .ok (.lreturn, 1) := by decide +kernel
theorem dX12_becomes_60 : decode cX12_becomes 60 = .ok (.aload_n 0, 1) := by decide +kernel
theorem dX12_becomes_61 : decode cX12_becomes 61 = .ok (.lload_n 1, 1) := by decide +kernel
theorem dX12_becomes_62 : decode cX12_becomes 62 = .ok (.iload_n 3, 1) := by decide +kernel
theorem dX12_becomes_63 : decode cX12_becomes 63 = .ok (.invokevirtual 444, 3) := by decide +kernel
theorem dX12_becomes_66 : decode cX12_becomes 66 = .ok (.ifCond .ne 7, 3) := by decide +kernel
theorem dX12_becomes_69 : decode cX12_becomes 69 = .ok (.ldc2_w 447, 3) := by decide +kernel
theorem dX12_becomes_72 : decode cX12_becomes 72 = .ok (.lreturn, 1) := by decide +kernel
theorem dX12_becomes_73 : decode cX12_becomes 73 = .ok (.iconst 0, 1) := by decide +kernel
theorem dX12_becomes_74 : decode cX12_becomes 74 = .ok (.istore 5, 2) := by decide +kernel
theorem dX12_becomes_76 : decode cX12_becomes 76 = .ok (.iconst 0, 1) := by decide +kernel
theorem dX12_becomes_77 : decode cX12_becomes 77 = .ok (.istore 6, 2) := by decide +kernel
theorem dX12_becomes_79 : decode cX12_becomes 79 = .ok (.ldc2_w 171, 3) := by decide +kernel
theorem dX12_becomes_82 : decode cX12_becomes 82 = .ok (.lstore 7, 2) := by decide +kernel
theorem dX12_becomes_84 : decode cX12_becomes 84 = .ok (.iconst 0, 1) := by decide +kernel
theorem dX12_becomes_85 : decode cX12_becomes 85 = .ok (.istore 9, 2) := by decide +kernel
theorem dX12_becomes_87 : decode cX12_becomes 87 = .ok (.iload 9, 2) := by decide +kernel
theorem dX12_becomes_89 : decode cX12_becomes 89 = .ok (.aload_n 0, 1) := by decide +kernel
theorem dX12_becomes_90 : decode cX12_becomes 90 = .ok (.getfield 431, 3) := by decide +kernel
theorem dX12_becomes_93 : decode cX12_becomes 93 = .ok (.if_icmp .ge 83, 3) := by decide +kernel
theorem dX12_becomes_96 : decode cX12_becomes 96 = .ok (.iload 5, 2) := by decide +kernel
theorem dX12_becomes_98 : decode cX12_becomes 98 = .ok (.aload_n 0, 1) := by decide +kernel
theorem dX12_becomes_99 : decode cX12_becomes 99 = .ok (.getfield 62, 3) := by decide +kernel
theorem dX12_becomes_102 : decode cX12_becomes 102 = .ok (.iload 9, 2) := by decide +kernel
theorem dX12_becomes_104 : decode cX12_becomes 104 = .ok (.laload, 1) := by decide +kernel
theorem dX12_becomes_105 : decode cX12_becomes 105 = .ok (.invokestatic 13, 3) := by decide +kernel
theorem dX12_becomes_108 : decode cX12_becomes 108 = .ok (.invokestatic 449, 3) := by decide +kernel
theorem dX12_becomes_111 : decode cX12_becomes 111 = .ok (.istore 5, 2) := by decide +kernel
theorem dX12_becomes_113 : decode cX12_becomes 113 = .ok (.iload 4, 2) := by decide +kernel
theorem dX12_becomes_115 : decode cX12_becomes 115 = .ok (.iconst 2, 1) := by decide +kernel
theorem dX12_becomes_116 : decode cX12_becomes 116 = .ok (.if_icmp .lt 54, 3) := by decide +kernel
theorem dX12_becomes_119 : decode cX12_becomes 119 = .ok (.aload_n 0, 1) := by decide +kernel
theorem dX12_becomes_120 : decode cX12_becomes 120 = .ok (.aload_n 0, 1) := by decide +kernel
theorem dX12_becomes_121 : decode cX12_becomes 121 = .ok (.getfield 62, 3) := by decide +kernel
theorem dX12_becomes_124 : decode cX12_becomes 124 = .ok (.iload 9, 2) := by decide +kernel
theorem dX12_becomes_126 : decode cX12_becomes 126 = .ok (.laload, 1) := by decide +kernel
theorem dX12_becomes_127 : decode cX12_becomes 127 = .ok (.invokevirtual 454, 3) := by decide +kernel
theorem dX12_becomes_130 : decode cX12_becomes 130 = .ok (.ifCond .ne 6, 3) := by decide +kernel
theorem dX12_becomes_133 : decode cX12_becomes 133 = .ok (.goto 37, 3) := by decide +kernel
theorem dX12_becomes_136 : decode cX12_becomes 136 = .ok (.iinc 6 1, 3) := by decide +kernel
theorem dX12_becomes_139 : decode cX12_becomes 139 = .ok (.lload 7, 2) := by decide +kernel
theorem dX12_becomes_141 : decode cX12_becomes 141 = .ok (.lconst 0, 1) := by decide +kernel
theorem dX12_becomes_142 : decode cX12_becomes 142 = .ok (.lcmp, 1) := by decide +kernel
theorem dX12_becomes_143 : decode cX12_becomes 143 = .ok (.ifCond .ge 13, 3) := by decide +kernel
theorem dX12_becomes_146 : decode cX12_becomes 146 = .ok (.aload_n 0, 1) := by decide +kernel
theorem dX12_becomes_147 : decode cX12_becomes 147 = .ok (.getfield 62, 3) := by decide +kernel
theorem dX12_becomes_150 : decode cX12_becomes 150 = .ok (.iload 9, 2) := by decide +kernel
theorem dX12_becomes_152 : decode cX12_becomes 152 = .ok (.laload, 1) := by decide +kernel
theorem dX12_becomes_153 : decode cX12_becomes 153 = .ok (.goto 15, 3) := by decide +kernel
theorem dX12_becomes_156 : decode cX12_becomes 156 = .ok (.lload 7, 2) := by decide +kernel
theorem dX12_becomes_158 : decode cX12_becomes 158 = .ok (.aload_n 0, 1) := by decide +kernel
theorem dX12_becomes_159 : decode cX12_becomes 159 = .ok (.getfield 62, 3) := by decide +kernel
theorem dX12_becomes_162 : decode cX12_becomes 162 = .ok (.iload 9, 2) := by decide +kernel
theorem dX12_becomes_164 : decode cX12_becomes 164 = .ok (.laload, 1) := by decide +kernel
theorem dX12_becomes_165 : decode cX12_becomes 165 = .ok (.invokestatic 457, 3) := by decide +kernel
theorem dX12_becomes_168 : decode cX12_becomes 168 = .ok (.lstore 7, 2) := by decide +kernel
theorem dX12_becomes_170 : decode cX12_becomes 170 = .ok (.iinc 9 1, 3) := by decide +kernel
theorem dX12_becomes_173 : decode cX12_becomes 173 = .ok (.goto (-86), 3) := by decide +kernel
theorem dX12_becomes_176 : decode cX12_becomes 176 = .ok (.iload 4, 2) := by decide +kernel
theorem dX12_becomes_178 : decode cX12_becomes 178 = .ok (.ifCond .ne 11, 3) := by decide +kernel
theorem dX12_becomes_181 : decode cX12_becomes 181 = .ok (.aload_n 0, 1) := by decide +kernel
theorem dX12_becomes_182 : decode cX12_becomes 182 = .ok (.getfield 431, 3) := by decide +kernel
theorem dX12_becomes_185 : decode cX12_becomes 185 = .ok (.i2l, 1) := by decide +kernel
theorem dX12_becomes_186 : decode cX12_becomes 186 = .ok (.goto 29, 3) := by decide +kernel
theorem dX12_becomes_189 : decode cX12_becomes 189 = .ok (.iload 4, 2) := by decide +kernel
theorem dX12_becomes_191 : decode cX12_becomes 191 = .ok (.iconst 1, 1) := by decide +kernel
theorem dX12_becomes_192 : decode cX12_becomes 192 = .ok (.if_icmp .ne 9, 3) := by decide +kernel
theorem dX12_becomes_195 : decode cX12_becomes 195 = .ok (.iload 5, 2) := by decide +kernel
theorem dX12_becomes_197 : decode cX12_becomes 197 = .ok (.i2l, 1) := by decide +kernel
theorem dX12_becomes_198 : decode cX12_becomes 198 = .ok (.goto 17, 3) := by decide +kernel
theorem dX12_becomes_201 : decode cX12_becomes 201 = .ok (.iload 4, 2) := by decide +kernel
theorem dX12_becomes_203 : decode cX12_becomes 203 = .ok (.iconst 2, 1) := by decide +kernel
theorem dX12_becomes_204 : decode cX12_becomes 204 = .ok (.if_icmp .ne 9, 3) := by decide +kernel
theorem dX12_becomes_207 : decode cX12_becomes 207 = .ok (.iload 6, 2) := by decide +kernel
theorem dX12_becomes_209 : decode cX12_becomes 209 = .ok (.i2l, 1) := by decide +kernel
theorem dX12_becomes_210 : decode cX12_becomes 210 = .ok (.goto 5, 3) := by decide +kernel
theorem dX12_becomes_213 : decode cX12_becomes 213 = .ok (.lload 7, 2) := by decide +kernel
theorem dX12_becomes_215 : decode cX12_becomes 215 = .ok (.lreturn, 1) := by decide +kernel
theorem dX12_fewest_0 : decode cX12_fewest 0 = .ok (.aload_n 0, 1) := by decide +kernel
theorem dX12_fewest_1 : decode cX12_fewest 1 = .ok (.iconst 0, 1) := by decide +kernel
theorem dX12_fewest_2 : decode cX12_fewest 2 = .ok (.putfield 3, 3) := by decide +kernel
theorem dX12_fewest_5 : decode cX12_fewest 5 = .ok (.aload_n 0, 1) := by decide +kernel
theorem dX12_fewest_6 : decode cX12_fewest 6 = .ok (.lload_n 1, 1) := by decide +kernel
theorem dX12_fewest_7 : decode cX12_fewest 7 = .ok (.invokestatic 382, 3) := by decide +kernel
theorem dX12_fewest_10 : decode cX12_fewest 10 = .ok (.ifCond .eq 10, 3) := by decide +kernel
theorem dX12_fewest_13 : decode cX12_fewest 13 = .ok (.lload_n 3, 1) := by decide +kernel
theorem dX12_fewest_14 : decode cX12_fewest 14 = .ok (.invokestatic 382, 3) := by decide +kernel
theorem dX12_fewest_17 : decode cX12_fewest 17 = .ok (.ifCond .ne 7, 3) := by decide +kernel
theorem dX12_fewest_20 : decode cX12_fewest 20 = .ok (.iconst 1, 1) := by decide +kernel
theorem dX12_fewest_21 : decode cX12_fewest 21 = .ok (.goto 4, 3) := by decide +kernel
theorem dX12_fewest_24 : decode cX12_fewest 24 = .ok (.iconst 0, 1) := by decide +kernel
theorem dX12_fewest_25 : decode cX12_fewest 25 = .ok (.iconst 1, 1) := by decide +kernel
theorem dX12_fewest_26 : decode cX12_fewest 26 = .ok (.invokevirtual 302, 3) := by decide +kernel
theorem dX12_fewest_29 : decode cX12_fewest 29 = .ok (.ifCond .eq 5, 3) := by decide +kernel
theorem dX12_fewest_32 : decode cX12_fewest 32 = .ok (.iconst 0, 1) := by decide +kernel
theorem dX12_fewest_33 : decode cX12_fewest 33 = .ok (.ireturn, 1) := by decide +kernel
theorem dX12_fewest_34 : decode cX12_fewest 34 = .ok (.aload_n 0, 1) := by decide +kernel
theorem dX12_fewest_35 : decode cX12_fewest 35 = .ok (.invokevirtual 386, 3) := by decide +kernel
theorem dX12_fewest_38 : decode cX12_fewest 38 = .ok (.aload_n 0, 1) := by decide +kernel
theorem dX12_fewest_39 : decode cX12_fewest 39 = .ok (.lload_n 1, 1) := by decide +kernel
theorem dX12_fewest_40 : decode cX12_fewest 40 = .ok (.invokevirtual 437, 3) := by decide +kernel
theorem dX12_fewest_43 : decode cX12_fewest 43 = .ok (.iconst 0, 1) := by decide +kernel
theorem dX12_fewest_44 : decode cX12_fewest 44 = .ok (.istore 5, 2) := by decide +kernel
theorem dX12_fewest_46 : decode cX12_fewest 46 = .ok (.iconst 0, 1) := by decide +kernel
theorem dX12_fewest_47 : decode cX12_fewest 47 = .ok (.istore 6, 2) := by decide +kernel
theorem dX12_fewest_49 : decode cX12_fewest 49 = .ok (.aload_n 0, 1) := by decide +kernel
theorem dX12_fewest_50 : decode cX12_fewest 50 = .ok (.lload_n 3, 1) := by decide +kernel
theorem dX12_fewest_51 : decode cX12_fewest 51 = .ok (.invokevirtual 460, 3) := by decide +kernel
theorem dX12_fewest_54 : decode cX12_fewest 54 = .ok (.ifCond .ge 59, 3) := by decide +kernel
theorem dX12_fewest_57 : decode cX12_fewest 57 = .ok (.iload 5, 2) := by decide +kernel
theorem dX12_fewest_59 : decode cX12_fewest 59 = .ok (.aload_n 0, 1) := by decide +kernel
theorem dX12_fewest_60 : decode cX12_fewest 60 = .ok (.getfield 431, 3) := by decide +kernel
theorem dX12_fewest_63 : decode cX12_fewest 63 = .ok (.if_icmp .ne 5, 3) := by decide +kernel
theorem dX12_fewest_66 : decode cX12_fewest 66 = .ok (.iconst (-1), 1) := by decide +kernel
theorem dX12_fewest_67 : decode cX12_fewest 67 = .ok (.ireturn, 1) := by decide +kernel
theorem dX12_fewest_68 : decode cX12_fewest 68 = .ok (.iload 5, 2) := by decide +kernel
theorem dX12_fewest_70 : decode cX12_fewest 70 = .ok (.aload_n 0, 1) := by decide +kernel
theorem dX12_fewest_71 : decode cX12_fewest 71 = .ok (.getfield 431, 3) := by decide +kernel
theorem dX12_fewest_74 : decode cX12_fewest 74 = .ok (.if_icmp .ge 33, 3) := by decide +kernel
theorem dX12_fewest_77 : decode cX12_fewest 77 = .ok (.aload_n 0, 1) := by decide +kernel
theorem dX12_fewest_78 : decode cX12_fewest 78 = .ok (.getfield 65, 3) := by decide +kernel
theorem dX12_fewest_81 : decode cX12_fewest 81 = .ok (.iload 5, 2) := by decide +kernel
theorem dX12_fewest_83 : decode cX12_fewest 83 = .ok (.iaload, 1) := by decide +kernel
theorem dX12_fewest_84 : decode cX12_fewest 84 = .ok (.iload 6, 2) := by decide +kernel
theorem dX12_fewest_86 : decode cX12_fewest 86 = .ok (.if_icmp .ne 21, 3) := by decide +kernel
theorem dX12_fewest_89 : decode cX12_fewest 89 = .ok (.aload_n 0, 1) := by decide +kernel
theorem dX12_fewest_90 : decode cX12_fewest 90 = .ok (.iload 5, 2) := by decide +kernel
theorem dX12_fewest_92 : decode cX12_fewest 92 = .ok (.invokevirtual 441, 3) := by decide +kernel
theorem dX12_fewest_95 : decode cX12_fewest 95 = .ok (.ifCond .ne 6, 3) := by decide +kernel
theorem dX12_fewest_98 : decode cX12_fewest 98 = .ok (.bipush (-3), 2) := by decide +kernel
theorem dX12_fewest_100 : decode cX12_fewest 100 = .ok (.ireturn, 1) := by decide +kernel
theorem dX12_fewest_101 : decode cX12_fewest 101 = .ok (.iinc 5 1, 3) := by decide +kernel
theorem dX12_fewest_104 : decode cX12_fewest 104 = .ok (.goto (-36), 3) := by decide +kernel
theorem dX12_fewest_107 : decode cX12_fewest 107 = .ok (.iinc 6 1, 3) := by decide +kernel
theorem dX12_fewest_110 : decode cX12_fewest 110 = .ok (.goto (-61), 3) := by decide +kernel
theorem dX12_fewest_113 : decode cX12_fewest 113 = .ok (.aload_n 0, 1) := by decide +kernel
theorem dX12_fewest_114 : decode cX12_fewest 114 = .ok (.getfield 65, 3) := by decide +kernel
theorem dX12_fewest_117 : decode cX12_fewest 117 = .ok (.aload_n 0, 1) := by decide +kernel
theorem dX12_fewest_118 : decode cX12_fewest 118 = .ok (.lload_n 3, 1) := by decide +kernel
theorem dX12_fewest_119 : decode cX12_fewest 119 = .ok (.invokevirtual 460, 3) := by decide +kernel
theorem dX12_fewest_122 : decode cX12_fewest 122 = .ok (.iaload, 1) := by decide +kernel
theorem dX12_fewest_123 : decode cX12_fewest 123 = .ok (.ireturn, 1) := by decide +kernel
theorem dX12_meets_0 : decode cX12_meets 0 = .ok (.aload_n 0, 1) := by decide +kernel
theorem dX12_meets_1 : decode cX12_meets 1 = .ok (.iconst 0, 1) := by decide +kernel
theorem dX12_meets_2 : decode cX12_meets 2 = .ok (.putfield 3, 3) := by decide +kernel
theorem dX12_meets_5 : decode cX12_meets 5 = .ok (.aload_n 0, 1) := by decide +kernel
theorem dX12_meets_6 : decode cX12_meets 6 = .ok (.lload_n 1, 1) := by decide +kernel
theorem dX12_meets_7 : decode cX12_meets 7 = .ok (.invokestatic 382, 3) := by decide +kernel
theorem dX12_meets_10 : decode cX12_meets 10 = .ok (.ifCond .eq 21, 3) := by decide +kernel
theorem dX12_meets_13 : decode cX12_meets 13 = .ok (.lload_n 3, 1) := by decide +kernel
theorem dX12_meets_14 : decode cX12_meets 14 = .ok (.invokestatic 382, 3) := by decide +kernel
theorem dX12_meets_17 : decode cX12_meets 17 = .ok (.ifCond .eq 14, 3) := by decide +kernel
theorem dX12_meets_20 : decode cX12_meets 20 = .ok (.iload 5, 2) := by decide +kernel
theorem dX12_meets_22 : decode cX12_meets 22 = .ok (.iconst 0, 1) := by decide +kernel
theorem dX12_meets_23 : decode cX12_meets 23 = .ok (.bipush 12, 2) := by decide +kernel
theorem dX12_meets_25 : decode cX12_meets 25 = .ok (.invokestatic 125, 3) := by decide +kernel
theorem dX12_meets_28 : decode cX12_meets 28 = .ok (.ifCond .ne 7, 3) := by decide +kernel
theorem dX12_meets_31 : decode cX12_meets 31 = .ok (.iconst 1, 1) := by decide +kernel
theorem dX12_meets_32 : decode cX12_meets 32 = .ok (.goto 4, 3) := by decide +kernel
theorem dX12_meets_35 : decode cX12_meets 35 = .ok (.iconst 0, 1) := by decide +kernel
theorem dX12_meets_36 : decode cX12_meets 36 = .ok (.iconst 1, 1) := by decide +kernel
theorem dX12_meets_37 : decode cX12_meets 37 = .ok (.invokevirtual 302, 3) := by decide +kernel
theorem dX12_meets_40 : decode cX12_meets 40 = .ok (.ifCond .eq 5, 3) := by decide +kernel
theorem dX12_meets_43 : decode cX12_meets 43 = .ok (.lconst 0, 1) := by decide +kernel
theorem dX12_meets_44 : decode cX12_meets 44 = .ok (.lreturn, 1) := by decide +kernel
theorem dX12_meets_45 : decode cX12_meets 45 = .ok (.aload_n 0, 1) := by decide +kernel
theorem dX12_meets_46 : decode cX12_meets 46 = .ok (.lload_n 1, 1) := by decide +kernel
theorem dX12_meets_47 : decode cX12_meets 47 = .ok (.iload 5, 2) := by decide +kernel
theorem dX12_meets_49 : decode cX12_meets 49 = .ok (.invokevirtual 444, 3) := by decide +kernel
theorem dX12_meets_52 : decode cX12_meets 52 = .ok (.ifCond .ne 7, 3) := by decide +kernel
theorem dX12_meets_55 : decode cX12_meets 55 = .ok (.ldc2_w 447, 3) := by decide +kernel
theorem dX12_meets_58 : decode cX12_meets 58 = .ok (.lreturn, 1) := by decide +kernel
theorem dX12_meets_59 : decode cX12_meets 59 = .ok (.aload_n 0, 1) := by decide +kernel
theorem dX12_meets_60 : decode cX12_meets 60 = .ok (.getfield 431, 3) := by decide +kernel
theorem dX12_meets_63 : decode cX12_meets 63 = .ok (.istore 7, 2) := by decide +kernel
theorem dX12_meets_65 : decode cX12_meets 65 = .ok (.iconst 0, 1) := by decide +kernel
theorem dX12_meets_66 : decode cX12_meets 66 = .ok (.istore 8, 2) := by decide +kernel
theorem dX12_meets_68 : decode cX12_meets 68 = .ok (.iload 8, 2) := by decide +kernel
theorem dX12_meets_70 : decode cX12_meets 70 = .ok (.iload 7, 2) := by decide +kernel
theorem dX12_meets_72 : decode cX12_meets 72 = .ok (.if_icmp .ge 37, 3) := by decide +kernel
theorem dX12_meets_75 : decode cX12_meets 75 = .ok (.aload_n 0, 1) := by decide +kernel
theorem dX12_meets_76 : decode cX12_meets 76 = .ok (.getfield 71, 3) := by decide +kernel
theorem dX12_meets_79 : decode cX12_meets 79 = .ok (.iload 8, 2) := by decide +kernel
theorem dX12_meets_81 : decode cX12_meets 81 = .ok (.aload_n 0, 1) := by decide +kernel
theorem dX12_meets_82 : decode cX12_meets 82 = .ok (.getfield 62, 3) := by decide +kernel
theorem dX12_meets_85 : decode cX12_meets 85 = .ok (.iload 8, 2) := by decide +kernel
theorem dX12_meets_87 : decode cX12_meets 87 = .ok (.laload, 1) := by decide +kernel
theorem dX12_meets_88 : decode cX12_meets 88 = .ok (.lastore, 1) := by decide +kernel
theorem dX12_meets_89 : decode cX12_meets 89 = .ok (.aload_n 0, 1) := by decide +kernel
theorem dX12_meets_90 : decode cX12_meets 90 = .ok (.getfield 74, 3) := by decide +kernel
theorem dX12_meets_93 : decode cX12_meets 93 = .ok (.iload 8, 2) := by decide +kernel
theorem dX12_meets_95 : decode cX12_meets 95 = .ok (.aload_n 0, 1) := by decide +kernel
theorem dX12_meets_96 : decode cX12_meets 96 = .ok (.getfield 65, 3) := by decide +kernel
theorem dX12_meets_99 : decode cX12_meets 99 = .ok (.iload 8, 2) := by decide +kernel
theorem dX12_meets_101 : decode cX12_meets 101 = .ok (.iaload, 1) := by decide +kernel
theorem dX12_meets_102 : decode cX12_meets 102 = .ok (.iastore, 1) := by decide +kernel
theorem dX12_meets_103 : decode cX12_meets 103 = .ok (.iinc 8 1, 3) := by decide +kernel
theorem dX12_meets_106 : decode cX12_meets 106 = .ok (.goto (-38), 3) := by decide +kernel
theorem dX12_meets_109 : decode cX12_meets 109 = .ok (.aload_n 0, 1) := by decide +kernel
theorem dX12_meets_110 : decode cX12_meets 110 = .ok (.lload_n 3, 1) := by decide +kernel
theorem dX12_meets_111 : decode cX12_meets 111 = .ok (.iload 5, 2) := by decide +kernel
theorem dX12_meets_113 : decode cX12_meets 113 = .ok (.invokevirtual 444, 3) := by decide +kernel
theorem dX12_meets_116 : decode cX12_meets 116 = .ok (.ifCond .ne 7, 3) := by decide +kernel
theorem dX12_meets_119 : decode cX12_meets 119 = .ok (.ldc2_w 447, 3) := by decide +kernel
theorem dX12_meets_122 : decode cX12_meets 122 = .ok (.lreturn, 1) := by decide +kernel
theorem dX12_meets_123 : decode cX12_meets 123 = .ok (.ldc2_w 171, 3) := by decide +kernel
theorem dX12_meets_126 : decode cX12_meets 126 = .ok (.lstore 8, 2) := by decide +kernel
theorem dX12_meets_128 : decode cX12_meets 128 = .ok (.iconst 0, 1) := by decide +kernel
theorem dX12_meets_129 : decode cX12_meets 129 = .ok (.istore 10, 2) := by decide +kernel
theorem dX12_meets_131 : decode cX12_meets 131 = .ok (.iconst 0, 1) := by decide +kernel
theorem dX12_meets_132 : decode cX12_meets 132 = .ok (.istore 11, 2) := by decide +kernel
theorem dX12_meets_134 : decode cX12_meets 134 = .ok (.iload 11, 2) := by decide +kernel
theorem dX12_meets_136 : decode cX12_meets 136 = .ok (.iload 7, 2) := by decide +kernel
theorem dX12_meets_138 : decode cX12_meets 138 = .ok (.if_icmp .ge 97, 3) := by decide +kernel
theorem dX12_meets_141 : decode cX12_meets 141 = .ok (.aload_n 0, 1) := by decide +kernel
theorem dX12_meets_142 : decode cX12_meets 142 = .ok (.aload_n 0, 1) := by decide +kernel
theorem dX12_meets_143 : decode cX12_meets 143 = .ok (.getfield 71, 3) := by decide +kernel
theorem dX12_meets_146 : decode cX12_meets 146 = .ok (.iload 11, 2) := by decide +kernel
theorem dX12_meets_148 : decode cX12_meets 148 = .ok (.laload, 1) := by decide +kernel
theorem dX12_meets_149 : decode cX12_meets 149 = .ok (.invokevirtual 460, 3) := by decide +kernel
theorem dX12_meets_152 : decode cX12_meets 152 = .ok (.istore 12, 2) := by decide +kernel
theorem dX12_meets_154 : decode cX12_meets 154 = .ok (.iload 12, 2) := by decide +kernel
theorem dX12_meets_156 : decode cX12_meets 156 = .ok (.ifCond .ge 6, 3) := by decide +kernel
theorem dX12_meets_159 : decode cX12_meets 159 = .ok (.goto 70, 3) := by decide +kernel
theorem dX12_meets_162 : decode cX12_meets 162 = .ok (.aload_n 0, 1) := by decide +kernel
theorem dX12_meets_163 : decode cX12_meets 163 = .ok (.getfield 74, 3) := by decide +kernel
theorem dX12_meets_166 : decode cX12_meets 166 = .ok (.iload 11, 2) := by decide +kernel
theorem dX12_meets_168 : decode cX12_meets 168 = .ok (.iaload, 1) := by decide +kernel
theorem dX12_meets_169 : decode cX12_meets 169 = .ok (.aload_n 0, 1) := by decide +kernel
theorem dX12_meets_170 : decode cX12_meets 170 = .ok (.getfield 65, 3) := by decide +kernel
theorem dX12_meets_173 : decode cX12_meets 173 = .ok (.iload 12, 2) := by decide +kernel
theorem dX12_meets_175 : decode cX12_meets 175 = .ok (.iaload, 1) := by decide +kernel
theorem dX12_meets_176 : decode cX12_meets 176 = .ok (.iadd, 1) := by decide +kernel
theorem dX12_meets_177 : decode cX12_meets 177 = .ok (.istore 13, 2) := by decide +kernel
theorem dX12_meets_179 : decode cX12_meets 179 = .ok (.lload 8, 2) := by decide +kernel
theorem dX12_meets_181 : decode cX12_meets 181 = .ok (.lconst 0, 1) := by decide +kernel
theorem dX12_meets_182 : decode cX12_meets 182 = .ok (.lcmp, 1) := by decide +kernel
theorem dX12_meets_183 : decode cX12_meets 183 = .ok (.ifCond .lt 33, 3) := by decide +kernel
theorem dX12_meets_186 : decode cX12_meets 186 = .ok (.iload 13, 2) := by decide +kernel
theorem dX12_meets_188 : decode cX12_meets 188 = .ok (.iload 10, 2) := by decide +kernel
theorem dX12_meets_190 : decode cX12_meets 190 = .ok (.if_icmp .gt 39, 3) := by decide +kernel
theorem dX12_meets_193 : decode cX12_meets 193 = .ok (.iload 13, 2) := by decide +kernel
theorem dX12_meets_195 : decode cX12_meets 195 = .ok (.iload 10, 2) := by decide +kernel
theorem dX12_meets_197 : decode cX12_meets 197 = .ok (.if_icmp .ne 19, 3) := by decide +kernel
theorem dX12_meets_200 : decode cX12_meets 200 = .ok (.aload_n 0, 1) := by decide +kernel
theorem dX12_meets_201 : decode cX12_meets 201 = .ok (.getfield 71, 3) := by decide +kernel
theorem dX12_meets_204 : decode cX12_meets 204 = .ok (.iload 11, 2) := by decide +kernel
theorem dX12_meets_206 : decode cX12_meets 206 = .ok (.laload, 1) := by decide +kernel
theorem dX12_meets_207 : decode cX12_meets 207 = .ok (.lload 8, 2) := by decide +kernel
theorem dX12_meets_209 : decode cX12_meets 209 = .ok (.lcmp, 1) := by decide +kernel
theorem dX12_meets_210 : decode cX12_meets 210 = .ok (.ifCond .le 6, 3) := by decide +kernel
theorem dX12_meets_213 : decode cX12_meets 213 = .ok (.goto 16, 3) := by decide +kernel
theorem dX12_meets_216 : decode cX12_meets 216 = .ok (.aload_n 0, 1) := by decide +kernel
theorem dX12_meets_217 : decode cX12_meets 217 = .ok (.getfield 71, 3) := by decide +kernel
theorem dX12_meets_220 : decode cX12_meets 220 = .ok (.iload 11, 2) := by decide +kernel
theorem dX12_meets_222 : decode cX12_meets 222 = .ok (.laload, 1) := by decide +kernel
theorem dX12_meets_223 : decode cX12_meets 223 = .ok (.lstore 8, 2) := by decide +kernel
theorem dX12_meets_225 : decode cX12_meets 225 = .ok (.iload 13, 2) := by decide +kernel
theorem dX12_meets_227 : decode cX12_meets 227 = .ok (.istore 10, 2) := by decide +kernel
theorem dX12_meets_229 : decode cX12_meets 229 = .ok (.iinc 11 1, 3) := by decide +kernel
theorem dX12_meets_232 : decode cX12_meets 232 = .ok (.goto (-98), 3) := by decide +kernel
theorem dX12_meets_235 : decode cX12_meets 235 = .ok (.lload 8, 2) := by decide +kernel
theorem dX12_meets_237 : decode cX12_meets 237 = .ok (.lconst 0, 1) := by decide +kernel
theorem dX12_meets_238 : decode cX12_meets 238 = .ok (.lcmp, 1) := by decide +kernel
theorem dX12_meets_239 : decode cX12_meets 239 = .ok (.ifCond .lt 8, 3) := by decide +kernel
theorem dX12_meets_242 : decode cX12_meets 242 = .ok (.iload 6, 2) := by decide +kernel
theorem dX12_meets_244 : decode cX12_meets 244 = .ok (.ifCond .eq 8, 3) := by decide +kernel
theorem dX12_meets_247 : decode cX12_meets 247 = .ok (.lload 8, 2) := by decide +kernel
theorem dX12_meets_249 : decode cX12_meets 249 = .ok (.goto 6, 3) := by decide +kernel
theorem dX12_meets_252 : decode cX12_meets 252 = .ok (.iload 10, 2) := by decide +kernel
theorem dX12_meets_254 : decode cX12_meets 254 = .ok (.i2l, 1) := by decide +kernel
theorem dX12_meets_255 : decode cX12_meets 255 = .ok (.lreturn, 1) := by decide +kernel
theorem dX12_settleAlike_0 : decode cX12_settleAlike 0 = .ok (.aload_n 0, 1) := by decide +kernel
theorem dX12_settleAlike_1 : decode cX12_settleAlike 1 = .ok (.aload_n 0, 1) := by decide +kernel
theorem dX12_settleAlike_2 : decode cX12_settleAlike 2 = .ok (.getfield 463, 3) := by decide +kernel
theorem dX12_settleAlike_5 : decode cX12_settleAlike 5 = .ok (.bipush 100, 2) := by decide +kernel
theorem dX12_settleAlike_7 : decode cX12_settleAlike 7 = .ok (.iconst 0, 1) := by decide +kernel
theorem dX12_settleAlike_8 : decode cX12_settleAlike 8 = .ok (.invokevirtual 423, 3) := by decide +kernel
theorem dX12_settleAlike_11 : decode cX12_settleAlike 11 = .ok (.istore_n 1, 1) := by decide +kernel
theorem dX12_settleAlike_12 : decode cX12_settleAlike 12 = .ok (.aload_n 0, 1) := by decide +kernel
theorem dX12_settleAlike_13 : decode cX12_settleAlike 13 = .ok (.getfield 363, 3) := by decide +kernel
theorem dX12_settleAlike_16 : decode cX12_settleAlike 16 = .ok (.lstore_n 2, 1) := by decide +kernel
theorem dX12_settleAlike_17 : decode cX12_settleAlike 17 = .ok (.aload_n 0, 1) := by decide +kernel
theorem dX12_settleAlike_18 : decode cX12_settleAlike 18 = .ok (.aload_n 0, 1) := by decide +kernel
theorem dX12_settleAlike_19 : decode cX12_settleAlike 19 = .ok (.getfield 466, 3) := by decide +kernel
theorem dX12_settleAlike_22 : decode cX12_settleAlike 22 = .ok (.bipush 100, 2) := by decide +kernel
theorem dX12_settleAlike_24 : decode cX12_settleAlike 24 = .ok (.iconst 0, 1) := by decide +kernel
theorem dX12_settleAlike_25 : decode cX12_settleAlike 25 = .ok (.invokevirtual 423, 3) := by decide +kernel
theorem dX12_settleAlike_28 : decode cX12_settleAlike 28 = .ok (.istore 4, 2) := by decide +kernel
theorem dX12_settleAlike_30 : decode cX12_settleAlike 30 = .ok (.iload_n 1, 1) := by decide +kernel
theorem dX12_settleAlike_31 : decode cX12_settleAlike 31 = .ok (.ifCond .eq 21, 3) := by decide +kernel
theorem dX12_settleAlike_34 : decode cX12_settleAlike 34 = .ok (.iload 4, 2) := by decide +kernel
theorem dX12_settleAlike_36 : decode cX12_settleAlike 36 = .ok (.ifCond .eq 16, 3) := by decide +kernel
theorem dX12_settleAlike_39 : decode cX12_settleAlike 39 = .ok (.aload_n 0, 1) := by decide +kernel
theorem dX12_settleAlike_40 : decode cX12_settleAlike 40 = .ok (.getfield 363, 3) := by decide +kernel
theorem dX12_settleAlike_43 : decode cX12_settleAlike 43 = .ok (.lload_n 2, 1) := by decide +kernel
theorem dX12_settleAlike_44 : decode cX12_settleAlike 44 = .ok (.lcmp, 1) := by decide +kernel
theorem dX12_settleAlike_45 : decode cX12_settleAlike 45 = .ok (.ifCond .ne 7, 3) := by decide +kernel
theorem dX12_settleAlike_48 : decode cX12_settleAlike 48 = .ok (.iconst 1, 1) := by decide +kernel
theorem dX12_settleAlike_49 : decode cX12_settleAlike 49 = .ok (.goto 4, 3) := by decide +kernel
theorem dX12_settleAlike_52 : decode cX12_settleAlike 52 = .ok (.iconst 0, 1) := by decide +kernel
theorem dX12_settleAlike_53 : decode cX12_settleAlike 53 = .ok (.istore 5, 2) := by decide +kernel
theorem dX12_settleAlike_55 : decode cX12_settleAlike 55 = .ok (.iload_n 1, 1) := by decide +kernel
theorem dX12_settleAlike_56 : decode cX12_settleAlike 56 = .ok (.ifCond .eq 38, 3) := by decide +kernel
theorem dX12_settleAlike_59 : decode cX12_settleAlike 59 = .ok (.iload 4, 2) := by decide +kernel
theorem dX12_settleAlike_61 : decode cX12_settleAlike 61 = .ok (.ifCond .eq 33, 3) := by decide +kernel
theorem dX12_settleAlike_64 : decode cX12_settleAlike 64 = .ok (.iload 5, 2) := by decide +kernel
theorem dX12_settleAlike_66 : decode cX12_settleAlike 66 = .ok (.ifCond .ne 28, 3) := by decide +kernel
theorem dX12_settleAlike_69 : decode cX12_settleAlike 69 = .ok (.aload_n 0, 1) := by decide +kernel
theorem dX12_settleAlike_70 : decode cX12_settleAlike 70 = .ok (.getfield 469, 3) := by decide +kernel
theorem dX12_settleAlike_73 : decode cX12_settleAlike 73 = .ok (.ifCond .ne 21, 3) := by decide +kernel
theorem dX12_settleAlike_76 : decode cX12_settleAlike 76 = .ok (.aload_n 0, 1) := by decide +kernel
theorem dX12_settleAlike_77 : decode cX12_settleAlike 77 = .ok (.iconst 1, 1) := by decide +kernel
theorem dX12_settleAlike_78 : decode cX12_settleAlike 78 = .ok (.putfield 469, 3) := by decide +kernel
theorem dX12_settleAlike_81 : decode cX12_settleAlike 81 = .ok (.aload_n 0, 1) := by decide +kernel
theorem dX12_settleAlike_82 : decode cX12_settleAlike 82 = .ok (.lload_n 2, 1) := by decide +kernel
theorem dX12_settleAlike_83 : decode cX12_settleAlike 83 = .ok (.putfield 472, 3) := by decide +kernel
theorem dX12_settleAlike_86 : decode cX12_settleAlike 86 = .ok (.aload_n 0, 1) := by decide +kernel
theorem dX12_settleAlike_87 : decode cX12_settleAlike 87 = .ok (.aload_n 0, 1) := by decide +kernel
theorem dX12_settleAlike_88 : decode cX12_settleAlike 88 = .ok (.getfield 363, 3) := by decide +kernel
theorem dX12_settleAlike_91 : decode cX12_settleAlike 91 = .ok (.putfield 475, 3) := by decide +kernel
theorem dX12_settleAlike_94 : decode cX12_settleAlike 94 = .ok (.iload 5, 2) := by decide +kernel
theorem dX12_settleAlike_96 : decode cX12_settleAlike 96 = .ok (.ireturn, 1) := by decide +kernel
theorem dX12_counts_0 : decode cX12_counts 0 = .ok (.aload_n 0, 1) := by decide +kernel
theorem dX12_counts_1 : decode cX12_counts 1 = .ok (.dup, 1) := by decide +kernel
theorem dX12_counts_2 : decode cX12_counts 2 = .ok (.getfield 478, 3) := by decide +kernel
theorem dX12_counts_5 : decode cX12_counts 5 = .ok (.iconst 1, 1) := by decide +kernel
theorem dX12_counts_6 : decode cX12_counts 6 = .ok (.iadd, 1) := by decide +kernel
theorem dX12_counts_7 : decode cX12_counts 7 = .ok (.putfield 478, 3) := by decide +kernel
theorem dX12_counts_10 : decode cX12_counts 10 = .ok (.aload_n 0, 1) := by decide +kernel
theorem dX12_counts_11 : decode cX12_counts 11 = .ok (.invokevirtual 481, 3) := by decide +kernel
theorem dX12_counts_14 : decode cX12_counts 14 = .ok (.ifCond .eq 4, 3) := by decide +kernel
theorem dX12_counts_17 : decode cX12_counts 17 = .ok (.return_, 1) := by decide +kernel
theorem dX12_counts_18 : decode cX12_counts 18 = .ok (.aload_n 0, 1) := by decide +kernel
theorem dX12_counts_19 : decode cX12_counts 19 = .ok (.aload_n 0, 1) := by decide +kernel
theorem dX12_counts_20 : decode cX12_counts 20 = .ok (.getfield 484, 3) := by decide +kernel
theorem dX12_counts_23 : decode cX12_counts 23 = .ok (.ifCond .ne 10, 3) := by decide +kernel
theorem dX12_counts_26 : decode cX12_counts 26 = .ok (.aload_n 0, 1) := by decide +kernel
theorem dX12_counts_27 : decode cX12_counts 27 = .ok (.getfield 487, 3) := by decide +kernel
theorem dX12_counts_30 : decode cX12_counts 30 = .ok (.goto 7, 3) := by decide +kernel
theorem dX12_counts_33 : decode cX12_counts 33 = .ok (.aload_n 0, 1) := by decide +kernel
theorem dX12_counts_34 : decode cX12_counts 34 = .ok (.getfield 490, 3) := by decide +kernel
theorem dX12_counts_37 : decode cX12_counts 37 = .ok (.putfield 490, 3) := by decide +kernel
theorem dX12_counts_40 : decode cX12_counts 40 = .ok (.aload_n 0, 1) := by decide +kernel
theorem dX12_counts_41 : decode cX12_counts 41 = .ok (.dup, 1) := by decide +kernel
theorem dX12_counts_42 : decode cX12_counts 42 = .ok (.getfield 484, 3) := by decide +kernel
theorem dX12_counts_45 : decode cX12_counts 45 = .ok (.iconst 1, 1) := by decide +kernel
theorem dX12_counts_46 : decode cX12_counts 46 = .ok (.iadd, 1) := by decide +kernel
theorem dX12_counts_47 : decode cX12_counts 47 = .ok (.putfield 484, 3) := by decide +kernel
theorem dX12_counts_50 : decode cX12_counts 50 = .ok (.return_, 1) := by decide +kernel
theorem dX12_overlap_0 : decode cX12_overlap 0 = .ok (.aload_n 0, 1) := by decide +kernel
theorem dX12_overlap_1 : decode cX12_overlap 1 = .ok (.iload_n 1, 1) := by decide +kernel
theorem dX12_overlap_2 : decode cX12_overlap 2 = .ok (.invokevirtual 107, 3) := by decide +kernel
theorem dX12_overlap_5 : decode cX12_overlap 5 = .ok (.aload_n 0, 1) := by decide +kernel
theorem dX12_overlap_6 : decode cX12_overlap 6 = .ok (.iload_n 1, 1) := by decide +kernel
theorem dX12_overlap_7 : decode cX12_overlap 7 = .ok (.invokevirtual 311, 3) := by decide +kernel
theorem dX12_overlap_10 : decode cX12_overlap 10 = .ok (.iload_n 3, 1) := by decide +kernel
theorem dX12_overlap_11 : decode cX12_overlap 11 = .ok (.isub, 1) := by decide +kernel
theorem dX12_overlap_12 : decode cX12_overlap 12 = .ok (.iload_n 3, 1) := by decide +kernel
theorem dX12_overlap_13 : decode cX12_overlap 13 = .ok (.invokestatic 328, 3) := by decide +kernel
theorem dX12_overlap_16 : decode cX12_overlap 16 = .ok (.aload_n 0, 1) := by decide +kernel
theorem dX12_overlap_17 : decode cX12_overlap 17 = .ok (.iload_n 2, 1) := by decide +kernel
theorem dX12_overlap_18 : decode cX12_overlap 18 = .ok (.invokevirtual 107, 3) := by decide +kernel
theorem dX12_overlap_21 : decode cX12_overlap 21 = .ok (.iconst 0, 1) := by decide +kernel
theorem dX12_overlap_22 : decode cX12_overlap 22 = .ok (.iload_n 3, 1) := by decide +kernel
theorem dX12_overlap_23 : decode cX12_overlap 23 = .ok (.invokestatic 328, 3) := by decide +kernel
theorem dX12_overlap_26 : decode cX12_overlap 26 = .ok (.lcmp, 1) := by decide +kernel
theorem dX12_overlap_27 : decode cX12_overlap 27 = .ok (.ifCond .eq 4, 3) := by decide +kernel
theorem dX12_overlap_30 : decode cX12_overlap 30 = .ok (.return_, 1) := by decide +kernel
theorem dX12_overlap_31 : decode cX12_overlap 31 = .ok (.aload_n 0, 1) := by decide +kernel
theorem dX12_overlap_32 : decode cX12_overlap 32 = .ok (.aload_n 0, 1) := by decide +kernel
theorem dX12_overlap_33 : decode cX12_overlap 33 = .ok (.iload_n 1, 1) := by decide +kernel
theorem dX12_overlap_34 : decode cX12_overlap 34 = .ok (.invokevirtual 107, 3) := by decide +kernel
theorem dX12_overlap_37 : decode cX12_overlap 37 = .ok (.aload_n 0, 1) := by decide +kernel
theorem dX12_overlap_38 : decode cX12_overlap 38 = .ok (.iload_n 2, 1) := by decide +kernel
theorem dX12_overlap_39 : decode cX12_overlap 39 = .ok (.invokevirtual 107, 3) := by decide +kernel
theorem dX12_overlap_42 : decode cX12_overlap 42 = .ok (.iload_n 3, 1) := by decide +kernel
theorem dX12_overlap_43 : decode cX12_overlap 43 = .ok (.invokestatic 16, 3) := by decide +kernel
theorem dX12_overlap_46 : decode cX12_overlap 46 = .ok (.invokestatic 335, 3) := by decide +kernel
theorem dX12_overlap_49 : decode cX12_overlap 49 = .ok (.putfield 487, 3) := by decide +kernel
theorem dX12_overlap_52 : decode cX12_overlap 52 = .ok (.aload_n 0, 1) := by decide +kernel
theorem dX12_overlap_53 : decode cX12_overlap 53 = .ok (.aload_n 0, 1) := by decide +kernel
theorem dX12_overlap_54 : decode cX12_overlap 54 = .ok (.iload_n 1, 1) := by decide +kernel
theorem dX12_overlap_55 : decode cX12_overlap 55 = .ok (.invokevirtual 111, 3) := by decide +kernel
theorem dX12_overlap_58 : decode cX12_overlap 58 = .ok (.aload_n 0, 1) := by decide +kernel
theorem dX12_overlap_59 : decode cX12_overlap 59 = .ok (.iload_n 2, 1) := by decide +kernel
theorem dX12_overlap_60 : decode cX12_overlap 60 = .ok (.invokevirtual 107, 3) := by decide +kernel
theorem dX12_overlap_63 : decode cX12_overlap 63 = .ok (.iload_n 3, 1) := by decide +kernel
theorem dX12_overlap_64 : decode cX12_overlap 64 = .ok (.invokestatic 16, 3) := by decide +kernel
theorem dX12_overlap_67 : decode cX12_overlap 67 = .ok (.invokestatic 335, 3) := by decide +kernel
theorem dX12_overlap_70 : decode cX12_overlap 70 = .ok (.putfield 463, 3) := by decide +kernel
theorem dX12_overlap_73 : decode cX12_overlap 73 = .ok (.aload_n 0, 1) := by decide +kernel
theorem dX12_overlap_74 : decode cX12_overlap 74 = .ok (.aload_n 0, 1) := by decide +kernel
theorem dX12_overlap_75 : decode cX12_overlap 75 = .ok (.iload_n 1, 1) := by decide +kernel
theorem dX12_overlap_76 : decode cX12_overlap 76 = .ok (.invokevirtual 107, 3) := by decide +kernel
theorem dX12_overlap_79 : decode cX12_overlap 79 = .ok (.aload_n 0, 1) := by decide +kernel
theorem dX12_overlap_80 : decode cX12_overlap 80 = .ok (.iload_n 1, 1) := by decide +kernel
theorem dX12_overlap_81 : decode cX12_overlap 81 = .ok (.invokevirtual 311, 3) := by decide +kernel
theorem dX12_overlap_84 : decode cX12_overlap 84 = .ok (.iload_n 3, 1) := by decide +kernel
theorem dX12_overlap_85 : decode cX12_overlap 85 = .ok (.isub, 1) := by decide +kernel
theorem dX12_overlap_86 : decode cX12_overlap 86 = .ok (.invokestatic 20, 3) := by decide +kernel
theorem dX12_overlap_89 : decode cX12_overlap 89 = .ok (.aload_n 0, 1) := by decide +kernel
theorem dX12_overlap_90 : decode cX12_overlap 90 = .ok (.iload_n 2, 1) := by decide +kernel
theorem dX12_overlap_91 : decode cX12_overlap 91 = .ok (.invokevirtual 111, 3) := by decide +kernel
theorem dX12_overlap_94 : decode cX12_overlap 94 = .ok (.invokestatic 335, 3) := by decide +kernel
theorem dX12_overlap_97 : decode cX12_overlap 97 = .ok (.putfield 466, 3) := by decide +kernel
theorem dX12_overlap_100 : decode cX12_overlap 100 = .ok (.aload_n 0, 1) := by decide +kernel
theorem dX12_overlap_101 : decode cX12_overlap 101 = .ok (.invokevirtual 493, 3) := by decide +kernel
theorem dX12_overlap_104 : decode cX12_overlap 104 = .ok (.return_, 1) := by decide +kernel
theorem dX12_within_0 : decode cX12_within 0 = .ok (.aload_n 0, 1) := by decide +kernel
theorem dX12_within_1 : decode cX12_within 1 = .ok (.iload_n 1, 1) := by decide +kernel
theorem dX12_within_2 : decode cX12_within 2 = .ok (.invokevirtual 107, 3) := by decide +kernel
theorem dX12_within_5 : decode cX12_within 5 = .ok (.iload_n 3, 1) := by decide +kernel
theorem dX12_within_6 : decode cX12_within 6 = .ok (.aload_n 0, 1) := by decide +kernel
theorem dX12_within_7 : decode cX12_within 7 = .ok (.iload_n 2, 1) := by decide +kernel
theorem dX12_within_8 : decode cX12_within 8 = .ok (.invokevirtual 311, 3) := by decide +kernel
theorem dX12_within_11 : decode cX12_within 11 = .ok (.invokestatic 328, 3) := by decide +kernel
theorem dX12_within_14 : decode cX12_within 14 = .ok (.aload_n 0, 1) := by decide +kernel
theorem dX12_within_15 : decode cX12_within 15 = .ok (.iload_n 2, 1) := by decide +kernel
theorem dX12_within_16 : decode cX12_within 16 = .ok (.invokevirtual 107, 3) := by decide +kernel
theorem dX12_within_19 : decode cX12_within 19 = .ok (.lcmp, 1) := by decide +kernel
theorem dX12_within_20 : decode cX12_within 20 = .ok (.ifCond .eq 4, 3) := by decide +kernel
theorem dX12_within_23 : decode cX12_within 23 = .ok (.return_, 1) := by decide +kernel
theorem dX12_within_24 : decode cX12_within 24 = .ok (.aload_n 0, 1) := by decide +kernel
theorem dX12_within_25 : decode cX12_within 25 = .ok (.aload_n 0, 1) := by decide +kernel
theorem dX12_within_26 : decode cX12_within 26 = .ok (.iload_n 1, 1) := by decide +kernel
theorem dX12_within_27 : decode cX12_within 27 = .ok (.invokevirtual 107, 3) := by decide +kernel
theorem dX12_within_30 : decode cX12_within 30 = .ok (.putfield 487, 3) := by decide +kernel
theorem dX12_within_33 : decode cX12_within 33 = .ok (.aload_n 0, 1) := by decide +kernel
theorem dX12_within_34 : decode cX12_within 34 = .ok (.aload_n 0, 1) := by decide +kernel
theorem dX12_within_35 : decode cX12_within 35 = .ok (.iload_n 1, 1) := by decide +kernel
theorem dX12_within_36 : decode cX12_within 36 = .ok (.invokevirtual 111, 3) := by decide +kernel
theorem dX12_within_39 : decode cX12_within 39 = .ok (.putfield 463, 3) := by decide +kernel
theorem dX12_within_42 : decode cX12_within 42 = .ok (.aload_n 0, 1) := by decide +kernel
theorem dX12_within_43 : decode cX12_within 43 = .ok (.aload_n 0, 1) := by decide +kernel
theorem dX12_within_44 : decode cX12_within 44 = .ok (.aload_n 0, 1) := by decide +kernel
theorem dX12_within_45 : decode cX12_within 45 = .ok (.iload_n 1, 1) := by decide +kernel
theorem dX12_within_46 : decode cX12_within 46 = .ok (.invokevirtual 107, 3) := by decide +kernel
theorem dX12_within_49 : decode cX12_within 49 = .ok (.iload_n 2, 1) := by decide +kernel
theorem dX12_within_50 : decode cX12_within 50 = .ok (.iload_n 3, 1) := by decide +kernel
theorem dX12_within_51 : decode cX12_within 51 = .ok (.invokevirtual 360, 3) := by decide +kernel
theorem dX12_within_54 : decode cX12_within 54 = .ok (.putfield 466, 3) := by decide +kernel
theorem dX12_within_57 : decode cX12_within 57 = .ok (.aload_n 0, 1) := by decide +kernel
theorem dX12_within_58 : decode cX12_within 58 = .ok (.invokevirtual 493, 3) := by decide +kernel
theorem dX12_within_61 : decode cX12_within 61 = .ok (.return_, 1) := by decide +kernel
theorem dX12_looksOver_0 : decode cX12_looksOver 0 = .ok (.aload_n 0, 1) := by decide +kernel
theorem dX12_looksOver_1 : decode cX12_looksOver 1 = .ok (.invokevirtual 386, 3) := by decide +kernel
theorem dX12_looksOver_4 : decode cX12_looksOver 4 = .ok (.aload_n 0, 1) := by decide +kernel
theorem dX12_looksOver_5 : decode cX12_looksOver 5 = .ok (.iconst 0, 1) := by decide +kernel
theorem dX12_looksOver_6 : decode cX12_looksOver 6 = .ok (.putfield 308, 3) := by decide +kernel
theorem dX12_looksOver_9 : decode cX12_looksOver 9 = .ok (.aload_n 0, 1) := by decide +kernel
theorem dX12_looksOver_10 : decode cX12_looksOver 10 = .ok (.iconst 0, 1) := by decide +kernel
theorem dX12_looksOver_11 : decode cX12_looksOver 11 = .ok (.putfield 478, 3) := by decide +kernel
theorem dX12_looksOver_14 : decode cX12_looksOver 14 = .ok (.aload_n 0, 1) := by decide +kernel
theorem dX12_looksOver_15 : decode cX12_looksOver 15 = .ok (.iconst 0, 1) := by decide +kernel
theorem dX12_looksOver_16 : decode cX12_looksOver 16 = .ok (.putfield 484, 3) := by decide +kernel
theorem dX12_looksOver_19 : decode cX12_looksOver 19 = .ok (.aload_n 0, 1) := by decide +kernel
theorem dX12_looksOver_20 : decode cX12_looksOver 20 = .ok (.ldc2_w 171, 3) := by decide +kernel
theorem dX12_looksOver_23 : decode cX12_looksOver 23 = .ok (.putfield 490, 3) := by decide +kernel
theorem dX12_looksOver_26 : decode cX12_looksOver 26 = .ok (.aload_n 0, 1) := by decide +kernel
theorem dX12_looksOver_27 : decode cX12_looksOver 27 = .ok (.iconst 0, 1) := by decide +kernel
theorem dX12_looksOver_28 : decode cX12_looksOver 28 = .ok (.putfield 469, 3) := by decide +kernel
theorem dX12_looksOver_31 : decode cX12_looksOver 31 = .ok (.iconst 0, 1) := by decide +kernel
theorem dX12_looksOver_32 : decode cX12_looksOver 32 = .ok (.istore_n 1, 1) := by decide +kernel
theorem dX12_looksOver_33 : decode cX12_looksOver 33 = .ok (.iload_n 1, 1) := by decide +kernel
theorem dX12_looksOver_34 : decode cX12_looksOver 34 = .ok (.aload_n 0, 1) := by decide +kernel
theorem dX12_looksOver_35 : decode cX12_looksOver 35 = .ok (.invokevirtual 121, 3) := by decide +kernel
theorem dX12_looksOver_38 : decode cX12_looksOver 38 = .ok (.if_icmp .ge 57, 3) := by decide +kernel
theorem dX12_looksOver_41 : decode cX12_looksOver 41 = .ok (.iconst 0, 1) := by decide +kernel
theorem dX12_looksOver_42 : decode cX12_looksOver 42 = .ok (.istore_n 2, 1) := by decide +kernel
theorem dX12_looksOver_43 : decode cX12_looksOver 43 = .ok (.iload_n 2, 1) := by decide +kernel
theorem dX12_looksOver_44 : decode cX12_looksOver 44 = .ok (.aload_n 0, 1) := by decide +kernel
theorem dX12_looksOver_45 : decode cX12_looksOver 45 = .ok (.invokevirtual 121, 3) := by decide +kernel
theorem dX12_looksOver_48 : decode cX12_looksOver 48 = .ok (.if_icmp .ge 41, 3) := by decide +kernel
theorem dX12_looksOver_51 : decode cX12_looksOver 51 = .ok (.iconst 1, 1) := by decide +kernel
theorem dX12_looksOver_52 : decode cX12_looksOver 52 = .ok (.istore_n 3, 1) := by decide +kernel
theorem dX12_looksOver_53 : decode cX12_looksOver 53 = .ok (.iload_n 3, 1) := by decide +kernel
theorem dX12_looksOver_54 : decode cX12_looksOver 54 = .ok (.aload_n 0, 1) := by decide +kernel
theorem dX12_looksOver_55 : decode cX12_looksOver 55 = .ok (.iload_n 1, 1) := by decide +kernel
theorem dX12_looksOver_56 : decode cX12_looksOver 56 = .ok (.invokevirtual 311, 3) := by decide +kernel
theorem dX12_looksOver_59 : decode cX12_looksOver 59 = .ok (.aload_n 0, 1) := by decide +kernel
theorem dX12_looksOver_60 : decode cX12_looksOver 60 = .ok (.iload_n 2, 1) := by decide +kernel
theorem dX12_looksOver_61 : decode cX12_looksOver 61 = .ok (.invokevirtual 311, 3) := by decide +kernel
theorem dX12_looksOver_64 : decode cX12_looksOver 64 = .ok (.invokestatic 496, 3) := by decide +kernel
theorem dX12_looksOver_67 : decode cX12_looksOver 67 = .ok (.if_icmp .ge 16, 3) := by decide +kernel
theorem dX12_looksOver_70 : decode cX12_looksOver 70 = .ok (.aload_n 0, 1) := by decide +kernel
theorem dX12_looksOver_71 : decode cX12_looksOver 71 = .ok (.iload_n 1, 1) := by decide +kernel
theorem dX12_looksOver_72 : decode cX12_looksOver 72 = .ok (.iload_n 2, 1) := by decide +kernel
theorem dX12_looksOver_73 : decode cX12_looksOver 73 = .ok (.iload_n 3, 1) := by decide +kernel
theorem dX12_looksOver_74 : decode cX12_looksOver 74 = .ok (.invokevirtual 498, 3) := by decide +kernel
theorem dX12_looksOver_77 : decode cX12_looksOver 77 = .ok (.iinc 3 1, 3) := by decide +kernel
theorem dX12_looksOver_80 : decode cX12_looksOver 80 = .ok (.goto (-27), 3) := by decide +kernel
theorem dX12_looksOver_83 : decode cX12_looksOver 83 = .ok (.iinc 2 1, 3) := by decide +kernel
theorem dX12_looksOver_86 : decode cX12_looksOver 86 = .ok (.goto (-43), 3) := by decide +kernel
theorem dX12_looksOver_89 : decode cX12_looksOver 89 = .ok (.iinc 1 1, 3) := by decide +kernel
theorem dX12_looksOver_92 : decode cX12_looksOver 92 = .ok (.goto (-59), 3) := by decide +kernel
theorem dX12_looksOver_95 : decode cX12_looksOver 95 = .ok (.iconst 0, 1) := by decide +kernel
theorem dX12_looksOver_96 : decode cX12_looksOver 96 = .ok (.istore_n 1, 1) := by decide +kernel
theorem dX12_looksOver_97 : decode cX12_looksOver 97 = .ok (.iload_n 1, 1) := by decide +kernel
theorem dX12_looksOver_98 : decode cX12_looksOver 98 = .ok (.aload_n 0, 1) := by decide +kernel
theorem dX12_looksOver_99 : decode cX12_looksOver 99 = .ok (.invokevirtual 121, 3) := by decide +kernel
theorem dX12_looksOver_102 : decode cX12_looksOver 102 = .ok (.if_icmp .ge 60, 3) := by decide +kernel
theorem dX12_looksOver_105 : decode cX12_looksOver 105 = .ok (.iconst 0, 1) := by decide +kernel
theorem dX12_looksOver_106 : decode cX12_looksOver 106 = .ok (.istore_n 2, 1) := by decide +kernel
theorem dX12_looksOver_107 : decode cX12_looksOver 107 = .ok (.iload_n 2, 1) := by decide +kernel
theorem dX12_looksOver_108 : decode cX12_looksOver 108 = .ok (.aload_n 0, 1) := by decide +kernel
theorem dX12_looksOver_109 : decode cX12_looksOver 109 = .ok (.invokevirtual 121, 3) := by decide +kernel
theorem dX12_looksOver_112 : decode cX12_looksOver 112 = .ok (.if_icmp .ge 44, 3) := by decide +kernel
theorem dX12_looksOver_115 : decode cX12_looksOver 115 = .ok (.iconst 0, 1) := by decide +kernel
theorem dX12_looksOver_116 : decode cX12_looksOver 116 = .ok (.istore_n 3, 1) := by decide +kernel
theorem dX12_looksOver_117 : decode cX12_looksOver 117 = .ok (.iload_n 1, 1) := by decide +kernel
theorem dX12_looksOver_118 : decode cX12_looksOver 118 = .ok (.iload_n 2, 1) := by decide +kernel
theorem dX12_looksOver_119 : decode cX12_looksOver 119 = .ok (.if_icmp .eq 31, 3) := by decide +kernel
theorem dX12_looksOver_122 : decode cX12_looksOver 122 = .ok (.iload_n 3, 1) := by decide +kernel
theorem dX12_looksOver_123 : decode cX12_looksOver 123 = .ok (.aload_n 0, 1) := by decide +kernel
theorem dX12_looksOver_124 : decode cX12_looksOver 124 = .ok (.iload_n 2, 1) := by decide +kernel
theorem dX12_looksOver_125 : decode cX12_looksOver 125 = .ok (.invokevirtual 311, 3) := by decide +kernel
theorem dX12_looksOver_128 : decode cX12_looksOver 128 = .ok (.iadd, 1) := by decide +kernel
theorem dX12_looksOver_129 : decode cX12_looksOver 129 = .ok (.aload_n 0, 1) := by decide +kernel
theorem dX12_looksOver_130 : decode cX12_looksOver 130 = .ok (.iload_n 1, 1) := by decide +kernel
theorem dX12_looksOver_131 : decode cX12_looksOver 131 = .ok (.invokevirtual 311, 3) := by decide +kernel
theorem dX12_looksOver_134 : decode cX12_looksOver 134 = .ok (.if_icmp .gt 16, 3) := by decide +kernel
theorem dX12_looksOver_137 : decode cX12_looksOver 137 = .ok (.aload_n 0, 1) := by decide +kernel
theorem dX12_looksOver_138 : decode cX12_looksOver 138 = .ok (.iload_n 1, 1) := by decide +kernel
theorem dX12_looksOver_139 : decode cX12_looksOver 139 = .ok (.iload_n 2, 1) := by decide +kernel
theorem dX12_looksOver_140 : decode cX12_looksOver 140 = .ok (.iload_n 3, 1) := by decide +kernel
theorem dX12_looksOver_141 : decode cX12_looksOver 141 = .ok (.invokevirtual 501, 3) := by decide +kernel
theorem dX12_looksOver_144 : decode cX12_looksOver 144 = .ok (.iinc 3 1, 3) := by decide +kernel
theorem dX12_looksOver_147 : decode cX12_looksOver 147 = .ok (.goto (-30), 3) := by decide +kernel
theorem dX12_looksOver_150 : decode cX12_looksOver 150 = .ok (.iinc 2 1, 3) := by decide +kernel
theorem dX12_looksOver_153 : decode cX12_looksOver 153 = .ok (.goto (-46), 3) := by decide +kernel
theorem dX12_looksOver_156 : decode cX12_looksOver 156 = .ok (.iinc 1 1, 3) := by decide +kernel
theorem dX12_looksOver_159 : decode cX12_looksOver 159 = .ok (.goto (-62), 3) := by decide +kernel
theorem dX12_looksOver_162 : decode cX12_looksOver 162 = .ok (.aload_n 0, 1) := by decide +kernel
theorem dX12_looksOver_163 : decode cX12_looksOver 163 = .ok (.iconst 1, 1) := by decide +kernel
theorem dX12_looksOver_164 : decode cX12_looksOver 164 = .ok (.putfield 308, 3) := by decide +kernel
theorem dX12_looksOver_167 : decode cX12_looksOver 167 = .ok (.return_, 1) := by decide +kernel
theorem dX12_overlaps_0 : decode cX12_overlaps 0 = .ok (.aload_n 0, 1) := by decide +kernel
theorem dX12_overlaps_1 : decode cX12_overlaps 1 = .ok (.iconst 0, 1) := by decide +kernel
theorem dX12_overlaps_2 : decode cX12_overlaps 2 = .ok (.putfield 3, 3) := by decide +kernel
theorem dX12_overlaps_5 : decode cX12_overlaps 5 = .ok (.aload_n 0, 1) := by decide +kernel
theorem dX12_overlaps_6 : decode cX12_overlaps 6 = .ok (.iload_n 1, 1) := by decide +kernel
theorem dX12_overlaps_7 : decode cX12_overlaps 7 = .ok (.iconst 0, 1) := by decide +kernel
theorem dX12_overlaps_8 : decode cX12_overlaps 8 = .ok (.iconst 2, 1) := by decide +kernel
theorem dX12_overlaps_9 : decode cX12_overlaps 9 = .ok (.invokestatic 125, 3) := by decide +kernel
theorem dX12_overlaps_12 : decode cX12_overlaps 12 = .ok (.ifCond .ne 7, 3) := by decide +kernel
theorem dX12_overlaps_15 : decode cX12_overlaps 15 = .ok (.iconst 1, 1) := by decide +kernel
theorem dX12_overlaps_16 : decode cX12_overlaps 16 = .ok (.goto 4, 3) := by decide +kernel
theorem dX12_overlaps_19 : decode cX12_overlaps 19 = .ok (.iconst 0, 1) := by decide +kernel
theorem dX12_overlaps_20 : decode cX12_overlaps 20 = .ok (.iconst 1, 1) := by decide +kernel
theorem dX12_overlaps_21 : decode cX12_overlaps 21 = .ok (.invokevirtual 302, 3) := by decide +kernel
theorem dX12_overlaps_24 : decode cX12_overlaps 24 = .ok (.ifCond .eq 5, 3) := by decide +kernel
theorem dX12_overlaps_27 : decode cX12_overlaps 27 = .ok (.lconst 0, 1) := by decide +kernel
theorem dX12_overlaps_28 : decode cX12_overlaps 28 = .ok (.lreturn, 1) := by decide +kernel
theorem dX12_overlaps_29 : decode cX12_overlaps 29 = .ok (.aload_n 0, 1) := by decide +kernel
theorem dX12_overlaps_30 : decode cX12_overlaps 30 = .ok (.invokevirtual 504, 3) := by decide +kernel
theorem dX12_overlaps_33 : decode cX12_overlaps 33 = .ok (.iload_n 1, 1) := by decide +kernel
theorem dX12_overlaps_34 : decode cX12_overlaps 34 = .ok (.ifCond .ne 11, 3) := by decide +kernel
theorem dX12_overlaps_37 : decode cX12_overlaps 37 = .ok (.aload_n 0, 1) := by decide +kernel
theorem dX12_overlaps_38 : decode cX12_overlaps 38 = .ok (.getfield 478, 3) := by decide +kernel
theorem dX12_overlaps_41 : decode cX12_overlaps 41 = .ok (.i2l, 1) := by decide +kernel
theorem dX12_overlaps_42 : decode cX12_overlaps 42 = .ok (.goto 20, 3) := by decide +kernel
theorem dX12_overlaps_45 : decode cX12_overlaps 45 = .ok (.iload_n 1, 1) := by decide +kernel
theorem dX12_overlaps_46 : decode cX12_overlaps 46 = .ok (.iconst 1, 1) := by decide +kernel
theorem dX12_overlaps_47 : decode cX12_overlaps 47 = .ok (.if_icmp .ne 11, 3) := by decide +kernel
theorem dX12_overlaps_50 : decode cX12_overlaps 50 = .ok (.aload_n 0, 1) := by decide +kernel
theorem dX12_overlaps_51 : decode cX12_overlaps 51 = .ok (.getfield 484, 3) := by decide +kernel
theorem dX12_overlaps_54 : decode cX12_overlaps 54 = .ok (.i2l, 1) := by decide +kernel
theorem dX12_overlaps_55 : decode cX12_overlaps 55 = .ok (.goto 7, 3) := by decide +kernel
theorem dX12_overlaps_58 : decode cX12_overlaps 58 = .ok (.aload_n 0, 1) := by decide +kernel
theorem dX12_overlaps_59 : decode cX12_overlaps 59 = .ok (.getfield 490, 3) := by decide +kernel
theorem dX12_overlaps_62 : decode cX12_overlaps 62 = .ok (.lreturn, 1) := by decide +kernel
theorem dX12_complete_0 : decode cX12_complete 0 = .ok (.aload_n 0, 1) := by decide +kernel
theorem dX12_complete_1 : decode cX12_complete 1 = .ok (.iconst 0, 1) := by decide +kernel
theorem dX12_complete_2 : decode cX12_complete 2 = .ok (.putfield 3, 3) := by decide +kernel
theorem dX12_complete_5 : decode cX12_complete 5 = .ok (.aload_n 0, 1) := by decide +kernel
theorem dX12_complete_6 : decode cX12_complete 6 = .ok (.invokevirtual 504, 3) := by decide +kernel
theorem dX12_complete_9 : decode cX12_complete 9 = .ok (.aload_n 0, 1) := by decide +kernel
theorem dX12_complete_10 : decode cX12_complete 10 = .ok (.getfield 472, 3) := by decide +kernel
theorem dX12_complete_13 : decode cX12_complete 13 = .ok (.aload_n 0, 1) := by decide +kernel
theorem dX12_complete_14 : decode cX12_complete 14 = .ok (.getfield 475, 3) := by decide +kernel
theorem dX12_complete_17 : decode cX12_complete 17 = .ok (.invokestatic 507, 3) := by decide +kernel
theorem dX12_complete_20 : decode cX12_complete 20 = .ok (.lstore_n 1, 1) := by decide +kernel
theorem dX12_complete_21 : decode cX12_complete 21 = .ok (.aload_n 0, 1) := by decide +kernel
theorem dX12_complete_22 : decode cX12_complete 22 = .ok (.getfield 472, 3) := by decide +kernel
theorem dX12_complete_25 : decode cX12_complete 25 = .ok (.aload_n 0, 1) := by decide +kernel
theorem dX12_complete_26 : decode cX12_complete 26 = .ok (.getfield 475, 3) := by decide +kernel
theorem dX12_complete_29 : decode cX12_complete 29 = .ok (.invokestatic 457, 3) := by decide +kernel
theorem dX12_complete_32 : decode cX12_complete 32 = .ok (.lstore_n 3, 1) := by decide +kernel
theorem dX12_complete_33 : decode cX12_complete 33 = .ok (.aload_n 0, 1) := by decide +kernel
theorem dX12_complete_34 : decode cX12_complete 34 = .ok (.getfield 469, 3) := by decide +kernel
theorem dX12_complete_37 : decode cX12_complete 37 = .ok (.ifCond .eq 23, 3) := by decide +kernel
theorem dX12_complete_40 : decode cX12_complete 40 = .ok (.lload_n 1, 1) := by decide +kernel
theorem dX12_complete_41 : decode cX12_complete 41 = .ok (.invokestatic 13, 3) := by decide +kernel
theorem dX12_complete_44 : decode cX12_complete 44 = .ok (.iconst 1, 1) := by decide +kernel
theorem dX12_complete_45 : decode cX12_complete 45 = .ok (.iconst 4, 1) := by decide +kernel
theorem dX12_complete_46 : decode cX12_complete 46 = .ok (.invokestatic 125, 3) := by decide +kernel
theorem dX12_complete_49 : decode cX12_complete 49 = .ok (.ifCond .eq 11, 3) := by decide +kernel
theorem dX12_complete_52 : decode cX12_complete 52 = .ok (.lload_n 3, 1) := by decide +kernel
theorem dX12_complete_53 : decode cX12_complete 53 = .ok (.invokestatic 13, 3) := by decide +kernel
theorem dX12_complete_56 : decode cX12_complete 56 = .ok (.iconst 5, 1) := by decide +kernel
theorem dX12_complete_57 : decode cX12_complete 57 = .ok (.if_icmp .le 5, 3) := by decide +kernel
theorem dX12_complete_60 : decode cX12_complete 60 = .ok (.iconst (-1), 1) := by decide +kernel
theorem dX12_complete_61 : decode cX12_complete 61 = .ok (.ireturn, 1) := by decide +kernel
theorem dX12_complete_62 : decode cX12_complete 62 = .ok (.aload_n 0, 1) := by decide +kernel
theorem dX12_complete_63 : decode cX12_complete 63 = .ok (.aload_n 0, 1) := by decide +kernel
theorem dX12_complete_64 : decode cX12_complete 64 = .ok (.invokevirtual 121, 3) := by decide +kernel
theorem dX12_complete_67 : decode cX12_complete 67 = .ok (.bipush 12, 2) := by decide +kernel
theorem dX12_complete_69 : decode cX12_complete 69 = .ok (.if_icmp .ne 7, 3) := by decide +kernel
theorem dX12_complete_72 : decode cX12_complete 72 = .ok (.iconst 1, 1) := by decide +kernel
theorem dX12_complete_73 : decode cX12_complete 73 = .ok (.goto 4, 3) := by decide +kernel
theorem dX12_complete_76 : decode cX12_complete 76 = .ok (.iconst 0, 1) := by decide +kernel
theorem dX12_complete_77 : decode cX12_complete 77 = .ok (.iconst 1, 1) := by decide +kernel
theorem dX12_complete_78 : decode cX12_complete 78 = .ok (.invokevirtual 302, 3) := by decide +kernel
theorem dX12_complete_81 : decode cX12_complete 81 = .ok (.ifCond .eq 5, 3) := by decide +kernel
theorem dX12_complete_84 : decode cX12_complete 84 = .ok (.iconst 0, 1) := by decide +kernel
theorem dX12_complete_85 : decode cX12_complete 85 = .ok (.ireturn, 1) := by decide +kernel
theorem dX12_complete_86 : decode cX12_complete 86 = .ok (.aload_n 0, 1) := by decide +kernel
theorem dX12_complete_87 : decode cX12_complete 87 = .ok (.invokevirtual 408, 3) := by decide +kernel
theorem dX12_complete_90 : decode cX12_complete 90 = .ok (.aload_n 0, 1) := by decide +kernel
theorem dX12_complete_91 : decode cX12_complete 91 = .ok (.lload_n 1, 1) := by decide +kernel
theorem dX12_complete_92 : decode cX12_complete 92 = .ok (.lload_n 3, 1) := by decide +kernel
theorem dX12_complete_93 : decode cX12_complete 93 = .ok (.invokevirtual 182, 3) := by decide +kernel
theorem dX12_complete_96 : decode cX12_complete 96 = .ok (.aload_n 0, 1) := by decide +kernel
theorem dX12_complete_97 : decode cX12_complete 97 = .ok (.invokevirtual 121, 3) := by decide +kernel
theorem dX12_complete_100 : decode cX12_complete 100 = .ok (.iconst 1, 1) := by decide +kernel
theorem dX12_complete_101 : decode cX12_complete 101 = .ok (.isub, 1) := by decide +kernel
theorem dX12_complete_102 : decode cX12_complete 102 = .ok (.ireturn, 1) := by decide +kernel
theorem dX12_beastsOf_0 : decode cX12_beastsOf 0 = .ok (.iconst 0, 1) := by decide +kernel
theorem dX12_beastsOf_1 : decode cX12_beastsOf 1 = .ok (.istore_n 2, 1) := by decide +kernel
theorem dX12_beastsOf_2 : decode cX12_beastsOf 2 = .ok (.iconst 0, 1) := by decide +kernel
theorem dX12_beastsOf_3 : decode cX12_beastsOf 3 = .ok (.istore_n 3, 1) := by decide +kernel
theorem dX12_beastsOf_4 : decode cX12_beastsOf 4 = .ok (.iload_n 3, 1) := by decide +kernel
theorem dX12_beastsOf_5 : decode cX12_beastsOf 5 = .ok (.lload_n 0, 1) := by decide +kernel
theorem dX12_beastsOf_6 : decode cX12_beastsOf 6 = .ok (.invokestatic 13, 3) := by decide +kernel
theorem dX12_beastsOf_9 : decode cX12_beastsOf 9 = .ok (.if_icmp .ge 19, 3) := by decide +kernel
theorem dX12_beastsOf_12 : decode cX12_beastsOf 12 = .ok (.iload_n 2, 1) := by decide +kernel
theorem dX12_beastsOf_13 : decode cX12_beastsOf 13 = .ok (.iconst 1, 1) := by decide +kernel
theorem dX12_beastsOf_14 : decode cX12_beastsOf 14 = .ok (.lload_n 0, 1) := by decide +kernel
theorem dX12_beastsOf_15 : decode cX12_beastsOf 15 = .ok (.iload_n 3, 1) := by decide +kernel
theorem dX12_beastsOf_16 : decode cX12_beastsOf 16 = .ok (.invokestatic 199, 3) := by decide +kernel
theorem dX12_beastsOf_19 : decode cX12_beastsOf 19 = .ok (.ishl, 1) := by decide +kernel
theorem dX12_beastsOf_20 : decode cX12_beastsOf 20 = .ok (.ior, 1) := by decide +kernel
theorem dX12_beastsOf_21 : decode cX12_beastsOf 21 = .ok (.istore_n 2, 1) := by decide +kernel
theorem dX12_beastsOf_22 : decode cX12_beastsOf 22 = .ok (.iinc 3 1, 3) := by decide +kernel
theorem dX12_beastsOf_25 : decode cX12_beastsOf 25 = .ok (.goto (-21), 3) := by decide +kernel
theorem dX12_beastsOf_28 : decode cX12_beastsOf 28 = .ok (.iload_n 2, 1) := by decide +kernel
theorem dX12_beastsOf_29 : decode cX12_beastsOf 29 = .ok (.ireturn, 1) := by decide +kernel
theorem dX12_inRules_0 : decode cX12_inRules 0 = .ok (.iconst 0, 1) := by decide +kernel
theorem dX12_inRules_1 : decode cX12_inRules 1 = .ok (.istore_n 3, 1) := by decide +kernel
theorem dX12_inRules_2 : decode cX12_inRules 2 = .ok (.iconst 0, 1) := by decide +kernel
theorem dX12_inRules_3 : decode cX12_inRules 3 = .ok (.istore 4, 2) := by decide +kernel
theorem dX12_inRules_5 : decode cX12_inRules 5 = .ok (.iload 4, 2) := by decide +kernel
theorem dX12_inRules_7 : decode cX12_inRules 7 = .ok (.aload_n 0, 1) := by decide +kernel
theorem dX12_inRules_8 : decode cX12_inRules 8 = .ok (.invokevirtual 121, 3) := by decide +kernel
theorem dX12_inRules_11 : decode cX12_inRules 11 = .ok (.if_icmp .ge 47, 3) := by decide +kernel
theorem dX12_inRules_14 : decode cX12_inRules 14 = .ok (.iload_n 3, 1) := by decide +kernel
theorem dX12_inRules_15 : decode cX12_inRules 15 = .ok (.iload_n 1, 1) := by decide +kernel
theorem dX12_inRules_16 : decode cX12_inRules 16 = .ok (.ifCond .eq 15, 3) := by decide +kernel
theorem dX12_inRules_19 : decode cX12_inRules 19 = .ok (.aload_n 0, 1) := by decide +kernel
theorem dX12_inRules_20 : decode cX12_inRules 20 = .ok (.iload 4, 2) := by decide +kernel
theorem dX12_inRules_22 : decode cX12_inRules 22 = .ok (.invokevirtual 107, 3) := by decide +kernel
theorem dX12_inRules_25 : decode cX12_inRules 25 = .ok (.invokestatic 509, 3) := by decide +kernel
theorem dX12_inRules_28 : decode cX12_inRules 28 = .ok (.goto 4, 3) := by decide +kernel
theorem dX12_inRules_31 : decode cX12_inRules 31 = .ok (.iconst 0, 1) := by decide +kernel
theorem dX12_inRules_32 : decode cX12_inRules 32 = .ok (.iload_n 2, 1) := by decide +kernel
theorem dX12_inRules_33 : decode cX12_inRules 33 = .ok (.ifCond .eq 15, 3) := by decide +kernel
theorem dX12_inRules_36 : decode cX12_inRules 36 = .ok (.aload_n 0, 1) := by decide +kernel
theorem dX12_inRules_37 : decode cX12_inRules 37 = .ok (.iload 4, 2) := by decide +kernel
theorem dX12_inRules_39 : decode cX12_inRules 39 = .ok (.invokevirtual 111, 3) := by decide +kernel
theorem dX12_inRules_42 : decode cX12_inRules 42 = .ok (.invokestatic 509, 3) := by decide +kernel
theorem dX12_inRules_45 : decode cX12_inRules 45 = .ok (.goto 4, 3) := by decide +kernel
theorem dX12_inRules_48 : decode cX12_inRules 48 = .ok (.iconst 0, 1) := by decide +kernel
theorem dX12_inRules_49 : decode cX12_inRules 49 = .ok (.ior, 1) := by decide +kernel
theorem dX12_inRules_50 : decode cX12_inRules 50 = .ok (.ior, 1) := by decide +kernel
theorem dX12_inRules_51 : decode cX12_inRules 51 = .ok (.istore_n 3, 1) := by decide +kernel
theorem dX12_inRules_52 : decode cX12_inRules 52 = .ok (.iinc 4 1, 3) := by decide +kernel
theorem dX12_inRules_55 : decode cX12_inRules 55 = .ok (.goto (-50), 3) := by decide +kernel
theorem dX12_inRules_58 : decode cX12_inRules 58 = .ok (.iload_n 3, 1) := by decide +kernel
theorem dX12_inRules_59 : decode cX12_inRules 59 = .ok (.ireturn, 1) := by decide +kernel
theorem dX12_weighs_0 : decode cX12_weighs 0 = .ok (.aload_n 0, 1) := by decide +kernel
theorem dX12_weighs_1 : decode cX12_weighs 1 = .ok (.iconst 0, 1) := by decide +kernel
theorem dX12_weighs_2 : decode cX12_weighs 2 = .ok (.putfield 512, 3) := by decide +kernel
theorem dX12_weighs_5 : decode cX12_weighs 5 = .ok (.iconst 0, 1) := by decide +kernel
theorem dX12_weighs_6 : decode cX12_weighs 6 = .ok (.istore_n 3, 1) := by decide +kernel
theorem dX12_weighs_7 : decode cX12_weighs 7 = .ok (.iload_n 3, 1) := by decide +kernel
theorem dX12_weighs_8 : decode cX12_weighs 8 = .ok (.bipush 8, 2) := by decide +kernel
theorem dX12_weighs_10 : decode cX12_weighs 10 = .ok (.if_icmp .ge 59, 3) := by decide +kernel
theorem dX12_weighs_13 : decode cX12_weighs 13 = .ok (.aload_n 0, 1) := by decide +kernel
theorem dX12_weighs_14 : decode cX12_weighs 14 = .ok (.getfield 80, 3) := by decide +kernel
theorem dX12_weighs_17 : decode cX12_weighs 17 = .ok (.iload_n 3, 1) := by decide +kernel
theorem dX12_weighs_18 : decode cX12_weighs 18 = .ok (.iload_n 1, 1) := by decide +kernel
theorem dX12_weighs_19 : decode cX12_weighs 19 = .ok (.iload_n 3, 1) := by decide +kernel
theorem dX12_weighs_20 : decode cX12_weighs 20 = .ok (.invokestatic 325, 3) := by decide +kernel
theorem dX12_weighs_23 : decode cX12_weighs 23 = .ok (.ifCond .eq 7, 3) := by decide +kernel
theorem dX12_weighs_26 : decode cX12_weighs 26 = .ok (.iload_n 2, 1) := by decide +kernel
theorem dX12_weighs_27 : decode cX12_weighs 27 = .ok (.goto 4, 3) := by decide +kernel
theorem dX12_weighs_30 : decode cX12_weighs 30 = .ok (.iconst 0, 1) := by decide +kernel
theorem dX12_weighs_31 : decode cX12_weighs 31 = .ok (.iastore, 1) := by decide +kernel
theorem dX12_weighs_32 : decode cX12_weighs 32 = .ok (.iload_n 1, 1) := by decide +kernel
theorem dX12_weighs_33 : decode cX12_weighs 33 = .ok (.iload_n 3, 1) := by decide +kernel
theorem dX12_weighs_34 : decode cX12_weighs 34 = .ok (.invokestatic 325, 3) := by decide +kernel
theorem dX12_weighs_37 : decode cX12_weighs 37 = .ok (.ifCond .ne 6, 3) := by decide +kernel
theorem dX12_weighs_40 : decode cX12_weighs 40 = .ok (.goto 23, 3) := by decide +kernel
theorem dX12_weighs_43 : decode cX12_weighs 43 = .ok (.aload_n 0, 1) := by decide +kernel
theorem dX12_weighs_44 : decode cX12_weighs 44 = .ok (.getfield 77, 3) := by decide +kernel
theorem dX12_weighs_47 : decode cX12_weighs 47 = .ok (.aload_n 0, 1) := by decide +kernel
theorem dX12_weighs_48 : decode cX12_weighs 48 = .ok (.getfield 512, 3) := by decide +kernel
theorem dX12_weighs_51 : decode cX12_weighs 51 = .ok (.iload_n 3, 1) := by decide +kernel
theorem dX12_weighs_52 : decode cX12_weighs 52 = .ok (.iastore, 1) := by decide +kernel
theorem dX12_weighs_53 : decode cX12_weighs 53 = .ok (.aload_n 0, 1) := by decide +kernel
theorem dX12_weighs_54 : decode cX12_weighs 54 = .ok (.dup, 1) := by decide +kernel
theorem dX12_weighs_55 : decode cX12_weighs 55 = .ok (.getfield 512, 3) := by decide +kernel
theorem dX12_weighs_58 : decode cX12_weighs 58 = .ok (.iconst 1, 1) := by decide +kernel
theorem dX12_weighs_59 : decode cX12_weighs 59 = .ok (.iadd, 1) := by decide +kernel
theorem dX12_weighs_60 : decode cX12_weighs 60 = .ok (.putfield 512, 3) := by decide +kernel
theorem dX12_weighs_63 : decode cX12_weighs 63 = .ok (.iinc 3 1, 3) := by decide +kernel
theorem dX12_weighs_66 : decode cX12_weighs 66 = .ok (.goto (-59), 3) := by decide +kernel
theorem dX12_weighs_69 : decode cX12_weighs 69 = .ok (.return_, 1) := by decide +kernel
theorem dX12_nextWeights_0 : decode cX12_nextWeights 0 = .ok (.aload_n 0, 1) := by decide +kernel
theorem dX12_nextWeights_1 : decode cX12_nextWeights 1 = .ok (.getfield 512, 3) := by decide +kernel
theorem dX12_nextWeights_4 : decode cX12_nextWeights 4 = .ok (.iconst 1, 1) := by decide +kernel
theorem dX12_nextWeights_5 : decode cX12_nextWeights 5 = .ok (.isub, 1) := by decide +kernel
theorem dX12_nextWeights_6 : decode cX12_nextWeights 6 = .ok (.istore_n 3, 1) := by decide +kernel
theorem dX12_nextWeights_7 : decode cX12_nextWeights 7 = .ok (.iload_n 3, 1) := by decide +kernel
theorem dX12_nextWeights_8 : decode cX12_nextWeights 8 = .ok (.ifCond .lt 36, 3) := by decide +kernel
theorem dX12_nextWeights_11 : decode cX12_nextWeights 11 = .ok (.aload_n 0, 1) := by decide +kernel
theorem dX12_nextWeights_12 : decode cX12_nextWeights 12 = .ok (.getfield 80, 3) := by decide +kernel
theorem dX12_nextWeights_15 : decode cX12_nextWeights 15 = .ok (.aload_n 0, 1) := by decide +kernel
theorem dX12_nextWeights_16 : decode cX12_nextWeights 16 = .ok (.getfield 77, 3) := by decide +kernel
theorem dX12_nextWeights_19 : decode cX12_nextWeights 19 = .ok (.iload_n 3, 1) := by decide +kernel
theorem dX12_nextWeights_20 : decode cX12_nextWeights 20 = .ok (.iaload, 1) := by decide +kernel
theorem dX12_nextWeights_21 : decode cX12_nextWeights 21 = .ok (.iaload, 1) := by decide +kernel
theorem dX12_nextWeights_22 : decode cX12_nextWeights 22 = .ok (.iload_n 2, 1) := by decide +kernel
theorem dX12_nextWeights_23 : decode cX12_nextWeights 23 = .ok (.if_icmp .ne 21, 3) := by decide +kernel
theorem dX12_nextWeights_26 : decode cX12_nextWeights 26 = .ok (.aload_n 0, 1) := by decide +kernel
theorem dX12_nextWeights_27 : decode cX12_nextWeights 27 = .ok (.getfield 80, 3) := by decide +kernel
theorem dX12_nextWeights_30 : decode cX12_nextWeights 30 = .ok (.aload_n 0, 1) := by decide +kernel
theorem dX12_nextWeights_31 : decode cX12_nextWeights 31 = .ok (.getfield 77, 3) := by decide +kernel
theorem dX12_nextWeights_34 : decode cX12_nextWeights 34 = .ok (.iload_n 3, 1) := by decide +kernel
theorem dX12_nextWeights_35 : decode cX12_nextWeights 35 = .ok (.iaload, 1) := by decide +kernel
theorem dX12_nextWeights_36 : decode cX12_nextWeights 36 = .ok (.iload_n 1, 1) := by decide +kernel
theorem dX12_nextWeights_37 : decode cX12_nextWeights 37 = .ok (.iastore, 1) := by decide +kernel
theorem dX12_nextWeights_38 : decode cX12_nextWeights 38 = .ok (.iinc 3 (-1), 3) := by decide +kernel
theorem dX12_nextWeights_41 : decode cX12_nextWeights 41 = .ok (.goto (-34), 3) := by decide +kernel
theorem dX12_nextWeights_44 : decode cX12_nextWeights 44 = .ok (.iload_n 3, 1) := by decide +kernel
theorem dX12_nextWeights_45 : decode cX12_nextWeights 45 = .ok (.ifCond .lt 18, 3) := by decide +kernel
theorem dX12_nextWeights_48 : decode cX12_nextWeights 48 = .ok (.aload_n 0, 1) := by decide +kernel
theorem dX12_nextWeights_49 : decode cX12_nextWeights 49 = .ok (.getfield 80, 3) := by decide +kernel
theorem dX12_nextWeights_52 : decode cX12_nextWeights 52 = .ok (.aload_n 0, 1) := by decide +kernel
theorem dX12_nextWeights_53 : decode cX12_nextWeights 53 = .ok (.getfield 77, 3) := by decide +kernel
theorem dX12_nextWeights_56 : decode cX12_nextWeights 56 = .ok (.iload_n 3, 1) := by decide +kernel
theorem dX12_nextWeights_57 : decode cX12_nextWeights 57 = .ok (.iaload, 1) := by decide +kernel
theorem dX12_nextWeights_58 : decode cX12_nextWeights 58 = .ok (.dup2, 1) := by decide +kernel
theorem dX12_nextWeights_59 : decode cX12_nextWeights 59 = .ok (.iaload, 1) := by decide +kernel
theorem dX12_nextWeights_60 : decode cX12_nextWeights 60 = .ok (.iconst 1, 1) := by decide +kernel
theorem dX12_nextWeights_61 : decode cX12_nextWeights 61 = .ok (.iadd, 1) := by decide +kernel
theorem dX12_nextWeights_62 : decode cX12_nextWeights 62 = .ok (.iastore, 1) := by decide +kernel
theorem dX12_nextWeights_63 : decode cX12_nextWeights 63 = .ok (.iload_n 3, 1) := by decide +kernel
theorem dX12_nextWeights_64 : decode cX12_nextWeights 64 = .ok (.ifCond .lt 7, 3) := by decide +kernel
theorem dX12_nextWeights_67 : decode cX12_nextWeights 67 = .ok (.iconst 1, 1) := by decide +kernel
theorem dX12_nextWeights_68 : decode cX12_nextWeights 68 = .ok (.goto 4, 3) := by decide +kernel
theorem dX12_nextWeights_71 : decode cX12_nextWeights 71 = .ok (.iconst 0, 1) := by decide +kernel
theorem dX12_nextWeights_72 : decode cX12_nextWeights 72 = .ok (.ireturn, 1) := by decide +kernel
theorem dX12_weightOf_0 : decode cX12_weightOf 0 = .ok (.iconst 0, 1) := by decide +kernel
theorem dX12_weightOf_1 : decode cX12_weightOf 1 = .ok (.istore_n 3, 1) := by decide +kernel
theorem dX12_weightOf_2 : decode cX12_weightOf 2 = .ok (.iconst 0, 1) := by decide +kernel
theorem dX12_weightOf_3 : decode cX12_weightOf 3 = .ok (.istore 4, 2) := by decide +kernel
theorem dX12_weightOf_5 : decode cX12_weightOf 5 = .ok (.iload 4, 2) := by decide +kernel
theorem dX12_weightOf_7 : decode cX12_weightOf 7 = .ok (.lload_n 1, 1) := by decide +kernel
theorem dX12_weightOf_8 : decode cX12_weightOf 8 = .ok (.invokestatic 13, 3) := by decide +kernel
theorem dX12_weightOf_11 : decode cX12_weightOf 11 = .ok (.if_icmp .ge 23, 3) := by decide +kernel
theorem dX12_weightOf_14 : decode cX12_weightOf 14 = .ok (.iload_n 3, 1) := by decide +kernel
theorem dX12_weightOf_15 : decode cX12_weightOf 15 = .ok (.aload_n 0, 1) := by decide +kernel
theorem dX12_weightOf_16 : decode cX12_weightOf 16 = .ok (.getfield 80, 3) := by decide +kernel
theorem dX12_weightOf_19 : decode cX12_weightOf 19 = .ok (.lload_n 1, 1) := by decide +kernel
theorem dX12_weightOf_20 : decode cX12_weightOf 20 = .ok (.iload 4, 2) := by decide +kernel
theorem dX12_weightOf_22 : decode cX12_weightOf 22 = .ok (.invokestatic 199, 3) := by decide +kernel
theorem dX12_weightOf_25 : decode cX12_weightOf 25 = .ok (.iaload, 1) := by decide +kernel
theorem dX12_weightOf_26 : decode cX12_weightOf 26 = .ok (.iadd, 1) := by decide +kernel
theorem dX12_weightOf_27 : decode cX12_weightOf 27 = .ok (.istore_n 3, 1) := by decide +kernel
theorem dX12_weightOf_28 : decode cX12_weightOf 28 = .ok (.iinc 4 1, 3) := by decide +kernel
theorem dX12_weightOf_31 : decode cX12_weightOf 31 = .ok (.goto (-26), 3) := by decide +kernel
theorem dX12_weightOf_34 : decode cX12_weightOf 34 = .ok (.iload_n 3, 1) := by decide +kernel
theorem dX12_weightOf_35 : decode cX12_weightOf 35 = .ok (.ireturn, 1) := by decide +kernel
theorem dX12_isNever_0 : decode cX12_isNever 0 = .ok (.aload_n 0, 1) := by decide +kernel
theorem dX12_isNever_1 : decode cX12_isNever 1 = .ok (.lload_n 1, 1) := by decide +kernel
theorem dX12_isNever_2 : decode cX12_isNever 2 = .ok (.invokevirtual 515, 3) := by decide +kernel
theorem dX12_isNever_5 : decode cX12_isNever 5 = .ok (.aload_n 0, 1) := by decide +kernel
theorem dX12_isNever_6 : decode cX12_isNever 6 = .ok (.lload_n 3, 1) := by decide +kernel
theorem dX12_isNever_7 : decode cX12_isNever 7 = .ok (.invokevirtual 515, 3) := by decide +kernel
theorem dX12_isNever_10 : decode cX12_isNever 10 = .ok (.isub, 1) := by decide +kernel
theorem dX12_isNever_11 : decode cX12_isNever 11 = .ok (.iload 5, 2) := by decide +kernel
theorem dX12_isNever_13 : decode cX12_isNever 13 = .ok (.irem, 1) := by decide +kernel
theorem dX12_isNever_14 : decode cX12_isNever 14 = .ok (.ifCond .eq 7, 3) := by decide +kernel
theorem dX12_isNever_17 : decode cX12_isNever 17 = .ok (.iconst 1, 1) := by decide +kernel
theorem dX12_isNever_18 : decode cX12_isNever 18 = .ok (.goto 4, 3) := by decide +kernel
theorem dX12_isNever_21 : decode cX12_isNever 21 = .ok (.iconst 0, 1) := by decide +kernel
theorem dX12_isNever_22 : decode cX12_isNever 22 = .ok (.istore 6, 2) := by decide +kernel
theorem dX12_isNever_24 : decode cX12_isNever 24 = .ok (.iconst 0, 1) := by decide +kernel
theorem dX12_isNever_25 : decode cX12_isNever 25 = .ok (.istore 7, 2) := by decide +kernel
theorem dX12_isNever_27 : decode cX12_isNever 27 = .ok (.iload 7, 2) := by decide +kernel
theorem dX12_isNever_29 : decode cX12_isNever 29 = .ok (.aload_n 0, 1) := by decide +kernel
theorem dX12_isNever_30 : decode cX12_isNever 30 = .ok (.invokevirtual 121, 3) := by decide +kernel
theorem dX12_isNever_33 : decode cX12_isNever 33 = .ok (.if_icmp .ge 48, 3) := by decide +kernel
theorem dX12_isNever_36 : decode cX12_isNever 36 = .ok (.iload 6, 2) := by decide +kernel
theorem dX12_isNever_38 : decode cX12_isNever 38 = .ok (.ifCond .eq 43, 3) := by decide +kernel
theorem dX12_isNever_41 : decode cX12_isNever 41 = .ok (.aload_n 0, 1) := by decide +kernel
theorem dX12_isNever_42 : decode cX12_isNever 42 = .ok (.aload_n 0, 1) := by decide +kernel
theorem dX12_isNever_43 : decode cX12_isNever 43 = .ok (.iload 7, 2) := by decide +kernel
theorem dX12_isNever_45 : decode cX12_isNever 45 = .ok (.invokevirtual 107, 3) := by decide +kernel
theorem dX12_isNever_48 : decode cX12_isNever 48 = .ok (.invokevirtual 515, 3) := by decide +kernel
theorem dX12_isNever_51 : decode cX12_isNever 51 = .ok (.aload_n 0, 1) := by decide +kernel
theorem dX12_isNever_52 : decode cX12_isNever 52 = .ok (.aload_n 0, 1) := by decide +kernel
theorem dX12_isNever_53 : decode cX12_isNever 53 = .ok (.iload 7, 2) := by decide +kernel
theorem dX12_isNever_55 : decode cX12_isNever 55 = .ok (.invokevirtual 111, 3) := by decide +kernel
theorem dX12_isNever_58 : decode cX12_isNever 58 = .ok (.invokevirtual 515, 3) := by decide +kernel
theorem dX12_isNever_61 : decode cX12_isNever 61 = .ok (.isub, 1) := by decide +kernel
theorem dX12_isNever_62 : decode cX12_isNever 62 = .ok (.iload 5, 2) := by decide +kernel
theorem dX12_isNever_64 : decode cX12_isNever 64 = .ok (.irem, 1) := by decide +kernel
theorem dX12_isNever_65 : decode cX12_isNever 65 = .ok (.ifCond .ne 7, 3) := by decide +kernel
theorem dX12_isNever_68 : decode cX12_isNever 68 = .ok (.iconst 1, 1) := by decide +kernel
theorem dX12_isNever_69 : decode cX12_isNever 69 = .ok (.goto 4, 3) := by decide +kernel
theorem dX12_isNever_72 : decode cX12_isNever 72 = .ok (.iconst 0, 1) := by decide +kernel
theorem dX12_isNever_73 : decode cX12_isNever 73 = .ok (.istore 6, 2) := by decide +kernel
theorem dX12_isNever_75 : decode cX12_isNever 75 = .ok (.iinc 7 1, 3) := by decide +kernel
theorem dX12_isNever_78 : decode cX12_isNever 78 = .ok (.goto (-51), 3) := by decide +kernel
theorem dX12_isNever_81 : decode cX12_isNever 81 = .ok (.iload 6, 2) := by decide +kernel
theorem dX12_isNever_83 : decode cX12_isNever 83 = .ok (.ireturn, 1) := by decide +kernel
theorem dX12_neverBy_0 : decode cX12_neverBy 0 = .ok (.iconst 2, 1) := by decide +kernel
theorem dX12_neverBy_1 : decode cX12_neverBy 1 = .ok (.istore 6, 2) := by decide +kernel
theorem dX12_neverBy_3 : decode cX12_neverBy 3 = .ok (.iload 6, 2) := by decide +kernel
theorem dX12_neverBy_5 : decode cX12_neverBy 5 = .ok (.iconst 5, 1) := by decide +kernel
theorem dX12_neverBy_6 : decode cX12_neverBy 6 = .ok (.if_icmp .gt 42, 3) := by decide +kernel
theorem dX12_neverBy_9 : decode cX12_neverBy 9 = .ok (.aload_n 0, 1) := by decide +kernel
theorem dX12_neverBy_10 : decode cX12_neverBy 10 = .ok (.iload 5, 2) := by decide +kernel
theorem dX12_neverBy_12 : decode cX12_neverBy 12 = .ok (.iconst 0, 1) := by decide +kernel
theorem dX12_neverBy_13 : decode cX12_neverBy 13 = .ok (.invokevirtual 518, 3) := by decide +kernel
theorem dX12_neverBy_16 : decode cX12_neverBy 16 = .ok (.aload_n 0, 1) := by decide +kernel
theorem dX12_neverBy_17 : decode cX12_neverBy 17 = .ok (.lload_n 1, 1) := by decide +kernel
theorem dX12_neverBy_18 : decode cX12_neverBy 18 = .ok (.lload_n 3, 1) := by decide +kernel
theorem dX12_neverBy_19 : decode cX12_neverBy 19 = .ok (.iload 6, 2) := by decide +kernel
theorem dX12_neverBy_21 : decode cX12_neverBy 21 = .ok (.invokevirtual 521, 3) := by decide +kernel
theorem dX12_neverBy_24 : decode cX12_neverBy 24 = .ok (.ifCond .eq 6, 3) := by decide +kernel
theorem dX12_neverBy_27 : decode cX12_neverBy 27 = .ok (.iload 6, 2) := by decide +kernel
theorem dX12_neverBy_29 : decode cX12_neverBy 29 = .ok (.ireturn, 1) := by decide +kernel
theorem dX12_neverBy_30 : decode cX12_neverBy 30 = .ok (.aload_n 0, 1) := by decide +kernel
theorem dX12_neverBy_31 : decode cX12_neverBy 31 = .ok (.iconst 0, 1) := by decide +kernel
theorem dX12_neverBy_32 : decode cX12_neverBy 32 = .ok (.iload 6, 2) := by decide +kernel
theorem dX12_neverBy_34 : decode cX12_neverBy 34 = .ok (.iconst 1, 1) := by decide +kernel
theorem dX12_neverBy_35 : decode cX12_neverBy 35 = .ok (.isub, 1) := by decide +kernel
theorem dX12_neverBy_36 : decode cX12_neverBy 36 = .ok (.invokevirtual 525, 3) := by decide +kernel
theorem dX12_neverBy_39 : decode cX12_neverBy 39 = .ok (.ifCond .ne (-23), 3) := by decide +kernel
theorem dX12_neverBy_42 : decode cX12_neverBy 42 = .ok (.iinc 6 1, 3) := by decide +kernel
theorem dX12_neverBy_45 : decode cX12_neverBy 45 = .ok (.goto (-42), 3) := by decide +kernel
theorem dX12_neverBy_48 : decode cX12_neverBy 48 = .ok (.iconst (-1), 1) := by decide +kernel
theorem dX12_neverBy_49 : decode cX12_neverBy 49 = .ok (.ireturn, 1) := by decide +kernel
theorem dX12_never_0 : decode cX12_never 0 = .ok (.aload_n 0, 1) := by decide +kernel
theorem dX12_never_1 : decode cX12_never 1 = .ok (.iconst 0, 1) := by decide +kernel
theorem dX12_never_2 : decode cX12_never 2 = .ok (.putfield 3, 3) := by decide +kernel
theorem dX12_never_5 : decode cX12_never 5 = .ok (.aload_n 0, 1) := by decide +kernel
theorem dX12_never_6 : decode cX12_never 6 = .ok (.lload_n 1, 1) := by decide +kernel
theorem dX12_never_7 : decode cX12_never 7 = .ok (.invokestatic 382, 3) := by decide +kernel
theorem dX12_never_10 : decode cX12_never 10 = .ok (.ifCond .eq 10, 3) := by decide +kernel
theorem dX12_never_13 : decode cX12_never 13 = .ok (.lload_n 3, 1) := by decide +kernel
theorem dX12_never_14 : decode cX12_never 14 = .ok (.invokestatic 382, 3) := by decide +kernel
theorem dX12_never_17 : decode cX12_never 17 = .ok (.ifCond .ne 7, 3) := by decide +kernel
theorem dX12_never_20 : decode cX12_never 20 = .ok (.iconst 1, 1) := by decide +kernel
theorem dX12_never_21 : decode cX12_never 21 = .ok (.goto 4, 3) := by decide +kernel
theorem dX12_never_24 : decode cX12_never 24 = .ok (.iconst 0, 1) := by decide +kernel
theorem dX12_never_25 : decode cX12_never 25 = .ok (.iconst 1, 1) := by decide +kernel
theorem dX12_never_26 : decode cX12_never 26 = .ok (.invokevirtual 302, 3) := by decide +kernel
theorem dX12_never_29 : decode cX12_never 29 = .ok (.ifCond .ne 27, 3) := by decide +kernel
theorem dX12_never_32 : decode cX12_never 32 = .ok (.aload_n 0, 1) := by decide +kernel
theorem dX12_never_33 : decode cX12_never 33 = .ok (.iload 5, 2) := by decide +kernel
theorem dX12_never_35 : decode cX12_never 35 = .ok (.iconst (-1), 1) := by decide +kernel
theorem dX12_never_36 : decode cX12_never 36 = .ok (.bipush 7, 2) := by decide +kernel
theorem dX12_never_38 : decode cX12_never 38 = .ok (.invokestatic 125, 3) := by decide +kernel
theorem dX12_never_41 : decode cX12_never 41 = .ok (.ifCond .ne 7, 3) := by decide +kernel
theorem dX12_never_44 : decode cX12_never 44 = .ok (.iconst 1, 1) := by decide +kernel
theorem dX12_never_45 : decode cX12_never 45 = .ok (.goto 4, 3) := by decide +kernel
theorem dX12_never_48 : decode cX12_never 48 = .ok (.iconst 0, 1) := by decide +kernel
theorem dX12_never_49 : decode cX12_never 49 = .ok (.iconst 2, 1) := by decide +kernel
theorem dX12_never_50 : decode cX12_never 50 = .ok (.invokevirtual 302, 3) := by decide +kernel
theorem dX12_never_53 : decode cX12_never 53 = .ok (.ifCond .eq 5, 3) := by decide +kernel
theorem dX12_never_56 : decode cX12_never 56 = .ok (.iconst 0, 1) := by decide +kernel
theorem dX12_never_57 : decode cX12_never 57 = .ok (.ireturn, 1) := by decide +kernel
theorem dX12_never_58 : decode cX12_never 58 = .ok (.aload_n 0, 1) := by decide +kernel
theorem dX12_never_59 : decode cX12_never 59 = .ok (.iconst 1, 1) := by decide +kernel
theorem dX12_never_60 : decode cX12_never 60 = .ok (.iconst 1, 1) := by decide +kernel
theorem dX12_never_61 : decode cX12_never 61 = .ok (.invokevirtual 528, 3) := by decide +kernel
theorem dX12_never_64 : decode cX12_never 64 = .ok (.lload_n 1, 1) := by decide +kernel
theorem dX12_never_65 : decode cX12_never 65 = .ok (.invokestatic 509, 3) := by decide +kernel
theorem dX12_never_68 : decode cX12_never 68 = .ok (.ior, 1) := by decide +kernel
theorem dX12_never_69 : decode cX12_never 69 = .ok (.lload_n 3, 1) := by decide +kernel
theorem dX12_never_70 : decode cX12_never 70 = .ok (.invokestatic 509, 3) := by decide +kernel
theorem dX12_never_73 : decode cX12_never 73 = .ok (.ior, 1) := by decide +kernel
theorem dX12_never_74 : decode cX12_never 74 = .ok (.istore 6, 2) := by decide +kernel
theorem dX12_never_76 : decode cX12_never 76 = .ok (.iload 6, 2) := by decide +kernel
theorem dX12_never_78 : decode cX12_never 78 = .ok (.invokestatic 532, 3) := by decide +kernel
theorem dX12_never_81 : decode cX12_never 81 = .ok (.bipush 6, 2) := by decide +kernel
theorem dX12_never_83 : decode cX12_never 83 = .ok (.if_icmp .le 6, 3) := by decide +kernel
theorem dX12_never_86 : decode cX12_never 86 = .ok (.bipush (-3), 2) := by decide +kernel
theorem dX12_never_88 : decode cX12_never 88 = .ok (.ireturn, 1) := by decide +kernel
theorem dX12_never_89 : decode cX12_never 89 = .ok (.aload_n 0, 1) := by decide +kernel
theorem dX12_never_90 : decode cX12_never 90 = .ok (.lload_n 1, 1) := by decide +kernel
theorem dX12_never_91 : decode cX12_never 91 = .ok (.lload_n 3, 1) := by decide +kernel
theorem dX12_never_92 : decode cX12_never 92 = .ok (.iload 6, 2) := by decide +kernel
theorem dX12_never_94 : decode cX12_never 94 = .ok (.invokevirtual 537, 3) := by decide +kernel
theorem dX12_never_97 : decode cX12_never 97 = .ok (.istore 7, 2) := by decide +kernel
theorem dX12_never_99 : decode cX12_never 99 = .ok (.iload 7, 2) := by decide +kernel
theorem dX12_never_101 : decode cX12_never 101 = .ok (.ifCond .lt 9, 3) := by decide +kernel
theorem dX12_never_104 : decode cX12_never 104 = .ok (.iload 5, 2) := by decide +kernel
theorem dX12_never_106 : decode cX12_never 106 = .ok (.iconst (-1), 1) := by decide +kernel
theorem dX12_never_107 : decode cX12_never 107 = .ok (.if_icmp .ne 8, 3) := by decide +kernel
theorem dX12_never_110 : decode cX12_never 110 = .ok (.iload 7, 2) := by decide +kernel
theorem dX12_never_112 : decode cX12_never 112 = .ok (.goto 10, 3) := by decide +kernel
theorem dX12_never_115 : decode cX12_never 115 = .ok (.aload_n 0, 1) := by decide +kernel
theorem dX12_never_116 : decode cX12_never 116 = .ok (.getfield 80, 3) := by decide +kernel
theorem dX12_never_119 : decode cX12_never 119 = .ok (.iload 5, 2) := by decide +kernel
theorem dX12_never_121 : decode cX12_never 121 = .ok (.iaload, 1) := by decide +kernel
theorem dX12_never_122 : decode cX12_never 122 = .ok (.ireturn, 1) := by decide +kernel
theorem dX12_allFall_0 : decode cX12_allFall 0 = .ok (.iconst 1, 1) := by decide +kernel
theorem dX12_allFall_1 : decode cX12_allFall 1 = .ok (.istore_n 1, 1) := by decide +kernel
theorem dX12_allFall_2 : decode cX12_allFall 2 = .ok (.iconst 0, 1) := by decide +kernel
theorem dX12_allFall_3 : decode cX12_allFall 3 = .ok (.istore_n 2, 1) := by decide +kernel
theorem dX12_allFall_4 : decode cX12_allFall 4 = .ok (.iload_n 2, 1) := by decide +kernel
theorem dX12_allFall_5 : decode cX12_allFall 5 = .ok (.aload_n 0, 1) := by decide +kernel
theorem dX12_allFall_6 : decode cX12_allFall 6 = .ok (.invokevirtual 121, 3) := by decide +kernel
theorem dX12_allFall_9 : decode cX12_allFall 9 = .ok (.if_icmp .ge 40, 3) := by decide +kernel
theorem dX12_allFall_12 : decode cX12_allFall 12 = .ok (.iload_n 1, 1) := by decide +kernel
theorem dX12_allFall_13 : decode cX12_allFall 13 = .ok (.ifCond .eq 36, 3) := by decide +kernel
theorem dX12_allFall_16 : decode cX12_allFall 16 = .ok (.aload_n 0, 1) := by decide +kernel
theorem dX12_allFall_17 : decode cX12_allFall 17 = .ok (.aload_n 0, 1) := by decide +kernel
theorem dX12_allFall_18 : decode cX12_allFall 18 = .ok (.iload_n 2, 1) := by decide +kernel
theorem dX12_allFall_19 : decode cX12_allFall 19 = .ok (.invokevirtual 107, 3) := by decide +kernel
theorem dX12_allFall_22 : decode cX12_allFall 22 = .ok (.invokevirtual 515, 3) := by decide +kernel
theorem dX12_allFall_25 : decode cX12_allFall 25 = .ok (.aload_n 0, 1) := by decide +kernel
theorem dX12_allFall_26 : decode cX12_allFall 26 = .ok (.aload_n 0, 1) := by decide +kernel
theorem dX12_allFall_27 : decode cX12_allFall 27 = .ok (.iload_n 2, 1) := by decide +kernel
theorem dX12_allFall_28 : decode cX12_allFall 28 = .ok (.invokevirtual 111, 3) := by decide +kernel
theorem dX12_allFall_31 : decode cX12_allFall 31 = .ok (.invokevirtual 515, 3) := by decide +kernel
theorem dX12_allFall_34 : decode cX12_allFall 34 = .ok (.if_icmp .le 7, 3) := by decide +kernel
theorem dX12_allFall_37 : decode cX12_allFall 37 = .ok (.iconst 1, 1) := by decide +kernel
theorem dX12_allFall_38 : decode cX12_allFall 38 = .ok (.goto 4, 3) := by decide +kernel
theorem dX12_allFall_41 : decode cX12_allFall 41 = .ok (.iconst 0, 1) := by decide +kernel
theorem dX12_allFall_42 : decode cX12_allFall 42 = .ok (.istore_n 1, 1) := by decide +kernel
theorem dX12_allFall_43 : decode cX12_allFall 43 = .ok (.iinc 2 1, 3) := by decide +kernel
theorem dX12_allFall_46 : decode cX12_allFall 46 = .ok (.goto (-42), 3) := by decide +kernel
theorem dX12_allFall_49 : decode cX12_allFall 49 = .ok (.iload_n 1, 1) := by decide +kernel
theorem dX12_allFall_50 : decode cX12_allFall 50 = .ok (.ireturn, 1) := by decide +kernel
theorem dX12_falls_0 : decode cX12_falls 0 = .ok (.aload_n 0, 1) := by decide +kernel
theorem dX12_falls_1 : decode cX12_falls 1 = .ok (.iconst 0, 1) := by decide +kernel
theorem dX12_falls_2 : decode cX12_falls 2 = .ok (.putfield 3, 3) := by decide +kernel
theorem dX12_falls_5 : decode cX12_falls 5 = .ok (.aload_n 0, 1) := by decide +kernel
theorem dX12_falls_6 : decode cX12_falls 6 = .ok (.iload_n 1, 1) := by decide +kernel
theorem dX12_falls_7 : decode cX12_falls 7 = .ok (.iconst 1, 1) := by decide +kernel
theorem dX12_falls_8 : decode cX12_falls 8 = .ok (.iconst 5, 1) := by decide +kernel
theorem dX12_falls_9 : decode cX12_falls 9 = .ok (.invokestatic 125, 3) := by decide +kernel
theorem dX12_falls_12 : decode cX12_falls 12 = .ok (.ifCond .ne 7, 3) := by decide +kernel
theorem dX12_falls_15 : decode cX12_falls 15 = .ok (.iconst 1, 1) := by decide +kernel
theorem dX12_falls_16 : decode cX12_falls 16 = .ok (.goto 4, 3) := by decide +kernel
theorem dX12_falls_19 : decode cX12_falls 19 = .ok (.iconst 0, 1) := by decide +kernel
theorem dX12_falls_20 : decode cX12_falls 20 = .ok (.iconst 1, 1) := by decide +kernel
theorem dX12_falls_21 : decode cX12_falls 21 = .ok (.invokevirtual 302, 3) := by decide +kernel
theorem dX12_falls_24 : decode cX12_falls 24 = .ok (.ifCond .ne 26, 3) := by decide +kernel
theorem dX12_falls_27 : decode cX12_falls 27 = .ok (.aload_n 0, 1) := by decide +kernel
theorem dX12_falls_28 : decode cX12_falls 28 = .ok (.iload_n 2, 1) := by decide +kernel
theorem dX12_falls_29 : decode cX12_falls 29 = .ok (.iconst (-1), 1) := by decide +kernel
theorem dX12_falls_30 : decode cX12_falls 30 = .ok (.bipush 7, 2) := by decide +kernel
theorem dX12_falls_32 : decode cX12_falls 32 = .ok (.invokestatic 125, 3) := by decide +kernel
theorem dX12_falls_35 : decode cX12_falls 35 = .ok (.ifCond .ne 7, 3) := by decide +kernel
theorem dX12_falls_38 : decode cX12_falls 38 = .ok (.iconst 1, 1) := by decide +kernel
theorem dX12_falls_39 : decode cX12_falls 39 = .ok (.goto 4, 3) := by decide +kernel
theorem dX12_falls_42 : decode cX12_falls 42 = .ok (.iconst 0, 1) := by decide +kernel
theorem dX12_falls_43 : decode cX12_falls 43 = .ok (.iconst 2, 1) := by decide +kernel
theorem dX12_falls_44 : decode cX12_falls 44 = .ok (.invokevirtual 302, 3) := by decide +kernel
theorem dX12_falls_47 : decode cX12_falls 47 = .ok (.ifCond .eq 5, 3) := by decide +kernel
theorem dX12_falls_50 : decode cX12_falls 50 = .ok (.iconst 0, 1) := by decide +kernel
theorem dX12_falls_51 : decode cX12_falls 51 = .ok (.ireturn, 1) := by decide +kernel
theorem dX12_falls_52 : decode cX12_falls 52 = .ok (.aload_n 0, 1) := by decide +kernel
theorem dX12_falls_53 : decode cX12_falls 53 = .ok (.iconst 1, 1) := by decide +kernel
theorem dX12_falls_54 : decode cX12_falls 54 = .ok (.iconst 1, 1) := by decide +kernel
theorem dX12_falls_55 : decode cX12_falls 55 = .ok (.invokevirtual 528, 3) := by decide +kernel
theorem dX12_falls_58 : decode cX12_falls 58 = .ok (.istore_n 3, 1) := by decide +kernel
theorem dX12_falls_59 : decode cX12_falls 59 = .ok (.iload_n 3, 1) := by decide +kernel
theorem dX12_falls_60 : decode cX12_falls 60 = .ok (.invokestatic 532, 3) := by decide +kernel
theorem dX12_falls_63 : decode cX12_falls 63 = .ok (.bipush 6, 2) := by decide +kernel
theorem dX12_falls_65 : decode cX12_falls 65 = .ok (.if_icmp .le 6, 3) := by decide +kernel
theorem dX12_falls_68 : decode cX12_falls 68 = .ok (.bipush (-3), 2) := by decide +kernel
theorem dX12_falls_70 : decode cX12_falls 70 = .ok (.ireturn, 1) := by decide +kernel
theorem dX12_falls_71 : decode cX12_falls 71 = .ok (.aload_n 0, 1) := by decide +kernel
theorem dX12_falls_72 : decode cX12_falls 72 = .ok (.iload_n 3, 1) := by decide +kernel
theorem dX12_falls_73 : decode cX12_falls 73 = .ok (.iconst 1, 1) := by decide +kernel
theorem dX12_falls_74 : decode cX12_falls 74 = .ok (.invokevirtual 518, 3) := by decide +kernel
theorem dX12_falls_77 : decode cX12_falls 77 = .ok (.aload_n 0, 1) := by decide +kernel
theorem dX12_falls_78 : decode cX12_falls 78 = .ok (.invokevirtual 541, 3) := by decide +kernel
theorem dX12_falls_81 : decode cX12_falls 81 = .ok (.istore 4, 2) := by decide +kernel
theorem dX12_falls_83 : decode cX12_falls 83 = .ok (.iload 4, 2) := by decide +kernel
theorem dX12_falls_85 : decode cX12_falls 85 = .ok (.ifCond .ne 21, 3) := by decide +kernel
theorem dX12_falls_88 : decode cX12_falls 88 = .ok (.aload_n 0, 1) := by decide +kernel
theorem dX12_falls_89 : decode cX12_falls 89 = .ok (.iconst 1, 1) := by decide +kernel
theorem dX12_falls_90 : decode cX12_falls 90 = .ok (.iload_n 1, 1) := by decide +kernel
theorem dX12_falls_91 : decode cX12_falls 91 = .ok (.invokevirtual 525, 3) := by decide +kernel
theorem dX12_falls_94 : decode cX12_falls 94 = .ok (.ifCond .eq 12, 3) := by decide +kernel
theorem dX12_falls_97 : decode cX12_falls 97 = .ok (.aload_n 0, 1) := by decide +kernel
theorem dX12_falls_98 : decode cX12_falls 98 = .ok (.invokevirtual 541, 3) := by decide +kernel
theorem dX12_falls_101 : decode cX12_falls 101 = .ok (.istore 4, 2) := by decide +kernel
theorem dX12_falls_103 : decode cX12_falls 103 = .ok (.goto (-20), 3) := by decide +kernel
theorem dX12_falls_106 : decode cX12_falls 106 = .ok (.iload_n 2, 1) := by decide +kernel
theorem dX12_falls_107 : decode cX12_falls 107 = .ok (.iconst (-1), 1) := by decide +kernel
theorem dX12_falls_108 : decode cX12_falls 108 = .ok (.if_icmp .ne 16, 3) := by decide +kernel
theorem dX12_falls_111 : decode cX12_falls 111 = .ok (.iload 4, 2) := by decide +kernel
theorem dX12_falls_113 : decode cX12_falls 113 = .ok (.ifCond .eq 7, 3) := by decide +kernel
theorem dX12_falls_116 : decode cX12_falls 116 = .ok (.iconst 1, 1) := by decide +kernel
theorem dX12_falls_117 : decode cX12_falls 117 = .ok (.goto 22, 3) := by decide +kernel
theorem dX12_falls_120 : decode cX12_falls 120 = .ok (.iconst 0, 1) := by decide +kernel
theorem dX12_falls_121 : decode cX12_falls 121 = .ok (.goto 18, 3) := by decide +kernel
theorem dX12_falls_124 : decode cX12_falls 124 = .ok (.iload 4, 2) := by decide +kernel
theorem dX12_falls_126 : decode cX12_falls 126 = .ok (.ifCond .eq 12, 3) := by decide +kernel
theorem dX12_falls_129 : decode cX12_falls 129 = .ok (.aload_n 0, 1) := by decide +kernel
theorem dX12_falls_130 : decode cX12_falls 130 = .ok (.getfield 80, 3) := by decide +kernel
theorem dX12_falls_133 : decode cX12_falls 133 = .ok (.iload_n 2, 1) := by decide +kernel
theorem dX12_falls_134 : decode cX12_falls 134 = .ok (.iaload, 1) := by decide +kernel
theorem dX12_falls_135 : decode cX12_falls 135 = .ok (.goto 4, 3) := by decide +kernel
theorem dX12_falls_138 : decode cX12_falls 138 = .ok (.iconst (-1), 1) := by decide +kernel
theorem dX12_falls_139 : decode cX12_falls 139 = .ok (.ireturn, 1) := by decide +kernel
theorem dX12_lightOf_0 : decode cX12_lightOf 0 = .ok (.iconst 0, 1) := by decide +kernel
theorem dX12_lightOf_1 : decode cX12_lightOf 1 = .ok (.istore_n 3, 1) := by decide +kernel
theorem dX12_lightOf_2 : decode cX12_lightOf 2 = .ok (.iconst 0, 1) := by decide +kernel
theorem dX12_lightOf_3 : decode cX12_lightOf 3 = .ok (.istore 4, 2) := by decide +kernel
theorem dX12_lightOf_5 : decode cX12_lightOf 5 = .ok (.iload 4, 2) := by decide +kernel
theorem dX12_lightOf_7 : decode cX12_lightOf 7 = .ok (.lload_n 1, 1) := by decide +kernel
theorem dX12_lightOf_8 : decode cX12_lightOf 8 = .ok (.invokestatic 13, 3) := by decide +kernel
theorem dX12_lightOf_11 : decode cX12_lightOf 11 = .ok (.if_icmp .ge 26, 3) := by decide +kernel
theorem dX12_lightOf_14 : decode cX12_lightOf 14 = .ok (.iload_n 3, 1) := by decide +kernel
theorem dX12_lightOf_15 : decode cX12_lightOf 15 = .ok (.aload_n 0, 1) := by decide +kernel
theorem dX12_lightOf_16 : decode cX12_lightOf 16 = .ok (.getfield 29, 3) := by decide +kernel
theorem dX12_lightOf_19 : decode cX12_lightOf 19 = .ok (.bipush 9, 2) := by decide +kernel
theorem dX12_lightOf_21 : decode cX12_lightOf 21 = .ok (.lload_n 1, 1) := by decide +kernel
theorem dX12_lightOf_22 : decode cX12_lightOf 22 = .ok (.iload 4, 2) := by decide +kernel
theorem dX12_lightOf_24 : decode cX12_lightOf 24 = .ok (.invokestatic 199, 3) := by decide +kernel
theorem dX12_lightOf_27 : decode cX12_lightOf 27 = .ok (.iadd, 1) := by decide +kernel
theorem dX12_lightOf_28 : decode cX12_lightOf 28 = .ok (.iaload, 1) := by decide +kernel
theorem dX12_lightOf_29 : decode cX12_lightOf 29 = .ok (.iadd, 1) := by decide +kernel
theorem dX12_lightOf_30 : decode cX12_lightOf 30 = .ok (.istore_n 3, 1) := by decide +kernel
theorem dX12_lightOf_31 : decode cX12_lightOf 31 = .ok (.iinc 4 1, 3) := by decide +kernel
theorem dX12_lightOf_34 : decode cX12_lightOf 34 = .ok (.goto (-29), 3) := by decide +kernel
theorem dX12_lightOf_37 : decode cX12_lightOf 37 = .ok (.iload_n 3, 1) := by decide +kernel
theorem dX12_lightOf_38 : decode cX12_lightOf 38 = .ok (.ireturn, 1) := by decide +kernel
theorem dX12_light_0 : decode cX12_light 0 = .ok (.aload_n 0, 1) := by decide +kernel
theorem dX12_light_1 : decode cX12_light 1 = .ok (.iconst 0, 1) := by decide +kernel
theorem dX12_light_2 : decode cX12_light 2 = .ok (.putfield 3, 3) := by decide +kernel
theorem dX12_light_5 : decode cX12_light 5 = .ok (.aload_n 0, 1) := by decide +kernel
theorem dX12_light_6 : decode cX12_light 6 = .ok (.lload_n 1, 1) := by decide +kernel
theorem dX12_light_7 : decode cX12_light 7 = .ok (.invokestatic 382, 3) := by decide +kernel
theorem dX12_light_10 : decode cX12_light 10 = .ok (.ifCond .ne 7, 3) := by decide +kernel
theorem dX12_light_13 : decode cX12_light 13 = .ok (.iconst 1, 1) := by decide +kernel
theorem dX12_light_14 : decode cX12_light 14 = .ok (.goto 4, 3) := by decide +kernel
theorem dX12_light_17 : decode cX12_light 17 = .ok (.iconst 0, 1) := by decide +kernel
theorem dX12_light_18 : decode cX12_light 18 = .ok (.iconst 1, 1) := by decide +kernel
theorem dX12_light_19 : decode cX12_light 19 = .ok (.invokevirtual 302, 3) := by decide +kernel
theorem dX12_light_22 : decode cX12_light 22 = .ok (.ifCond .eq 7, 3) := by decide +kernel
theorem dX12_light_25 : decode cX12_light 25 = .ok (.iconst 0, 1) := by decide +kernel
theorem dX12_light_26 : decode cX12_light 26 = .ok (.goto 8, 3) := by decide +kernel
theorem dX12_light_29 : decode cX12_light 29 = .ok (.aload_n 0, 1) := by decide +kernel
theorem dX12_light_30 : decode cX12_light 30 = .ok (.lload_n 1, 1) := by decide +kernel
theorem dX12_light_31 : decode cX12_light 31 = .ok (.invokevirtual 544, 3) := by decide +kernel
theorem dX12_light_34 : decode cX12_light 34 = .ok (.ireturn, 1) := by decide +kernel
theorem dX12_loss_0 : decode cX12_loss 0 = .ok (.aload_n 0, 1) := by decide +kernel
theorem dX12_loss_1 : decode cX12_loss 1 = .ok (.iconst 0, 1) := by decide +kernel
theorem dX12_loss_2 : decode cX12_loss 2 = .ok (.putfield 3, 3) := by decide +kernel
theorem dX12_loss_5 : decode cX12_loss 5 = .ok (.aload_n 0, 1) := by decide +kernel
theorem dX12_loss_6 : decode cX12_loss 6 = .ok (.aload_n 0, 1) := by decide +kernel
theorem dX12_loss_7 : decode cX12_loss 7 = .ok (.iload_n 1, 1) := by decide +kernel
theorem dX12_loss_8 : decode cX12_loss 8 = .ok (.invokevirtual 373, 3) := by decide +kernel
theorem dX12_loss_11 : decode cX12_loss 11 = .ok (.iconst 1, 1) := by decide +kernel
theorem dX12_loss_12 : decode cX12_loss 12 = .ok (.invokevirtual 302, 3) := by decide +kernel
theorem dX12_loss_15 : decode cX12_loss 15 = .ok (.ifCond .eq 7, 3) := by decide +kernel
theorem dX12_loss_18 : decode cX12_loss 18 = .ok (.iconst 0, 1) := by decide +kernel
theorem dX12_loss_19 : decode cX12_loss 19 = .ok (.goto 22, 3) := by decide +kernel
theorem dX12_loss_22 : decode cX12_loss 22 = .ok (.aload_n 0, 1) := by decide +kernel
theorem dX12_loss_23 : decode cX12_loss 23 = .ok (.aload_n 0, 1) := by decide +kernel
theorem dX12_loss_24 : decode cX12_loss 24 = .ok (.iload_n 1, 1) := by decide +kernel
theorem dX12_loss_25 : decode cX12_loss 25 = .ok (.invokevirtual 107, 3) := by decide +kernel
theorem dX12_loss_28 : decode cX12_loss 28 = .ok (.invokevirtual 544, 3) := by decide +kernel
theorem dX12_loss_31 : decode cX12_loss 31 = .ok (.aload_n 0, 1) := by decide +kernel
theorem dX12_loss_32 : decode cX12_loss 32 = .ok (.aload_n 0, 1) := by decide +kernel
theorem dX12_loss_33 : decode cX12_loss 33 = .ok (.iload_n 1, 1) := by decide +kernel
theorem dX12_loss_34 : decode cX12_loss 34 = .ok (.invokevirtual 111, 3) := by decide +kernel
theorem dX12_loss_37 : decode cX12_loss 37 = .ok (.invokevirtual 544, 3) := by decide +kernel
theorem dX12_loss_40 : decode cX12_loss 40 = .ok (.isub, 1) := by decide +kernel
theorem dX12_loss_41 : decode cX12_loss 41 = .ok (.ireturn, 1) := by decide +kernel
theorem dX12_endless_0 : decode cX12_endless 0 = .ok (.aload_n 0, 1) := by decide +kernel
theorem dX12_endless_1 : decode cX12_endless 1 = .ok (.iconst 0, 1) := by decide +kernel
theorem dX12_endless_2 : decode cX12_endless 2 = .ok (.putfield 3, 3) := by decide +kernel
theorem dX12_endless_5 : decode cX12_endless 5 = .ok (.aload_n 0, 1) := by decide +kernel
theorem dX12_endless_6 : decode cX12_endless 6 = .ok (.invokevirtual 386, 3) := by decide +kernel
theorem dX12_endless_9 : decode cX12_endless 9 = .ok (.aload_n 0, 1) := by decide +kernel
theorem dX12_endless_10 : decode cX12_endless 10 = .ok (.iconst 1, 1) := by decide +kernel
theorem dX12_endless_11 : decode cX12_endless 11 = .ok (.iconst 0, 1) := by decide +kernel
theorem dX12_endless_12 : decode cX12_endless 12 = .ok (.invokevirtual 528, 3) := by decide +kernel
theorem dX12_endless_15 : decode cX12_endless 15 = .ok (.istore_n 1, 1) := by decide +kernel
theorem dX12_endless_16 : decode cX12_endless 16 = .ok (.iconst 1, 1) := by decide +kernel
theorem dX12_endless_17 : decode cX12_endless 17 = .ok (.istore_n 2, 1) := by decide +kernel
theorem dX12_endless_18 : decode cX12_endless 18 = .ok (.iload_n 2, 1) := by decide +kernel
theorem dX12_endless_19 : decode cX12_endless 19 = .ok (.iconst 4, 1) := by decide +kernel
theorem dX12_endless_20 : decode cX12_endless 20 = .ok (.if_icmp .ge 69, 3) := by decide +kernel
theorem dX12_endless_23 : decode cX12_endless 23 = .ok (.lconst 0, 1) := by decide +kernel
theorem dX12_endless_24 : decode cX12_endless 24 = .ok (.lstore_n 3, 1) := by decide +kernel
theorem dX12_endless_25 : decode cX12_endless 25 = .ok (.lload_n 3, 1) := by decide +kernel
theorem dX12_endless_26 : decode cX12_endless 26 = .ok (.lconst 1, 1) := by decide +kernel
theorem dX12_endless_27 : decode cX12_endless 27 = .ok (.iconst 3, 1) := by decide +kernel
theorem dX12_endless_28 : decode cX12_endless 28 = .ok (.iload_n 2, 1) := by decide +kernel
theorem dX12_endless_29 : decode cX12_endless 29 = .ok (.imul, 1) := by decide +kernel
theorem dX12_endless_30 : decode cX12_endless 30 = .ok (.lshl, 1) := by decide +kernel
theorem dX12_endless_31 : decode cX12_endless 31 = .ok (.lcmp, 1) := by decide +kernel
theorem dX12_endless_32 : decode cX12_endless 32 = .ok (.ifCond .ge 51, 3) := by decide +kernel
theorem dX12_endless_35 : decode cX12_endless 35 = .ok (.lconst 1, 1) := by decide +kernel
theorem dX12_endless_36 : decode cX12_endless 36 = .ok (.iconst 3, 1) := by decide +kernel
theorem dX12_endless_37 : decode cX12_endless 37 = .ok (.iload_n 2, 1) := by decide +kernel
theorem dX12_endless_38 : decode cX12_endless 38 = .ok (.imul, 1) := by decide +kernel
theorem dX12_endless_39 : decode cX12_endless 39 = .ok (.lshl, 1) := by decide +kernel
theorem dX12_endless_40 : decode cX12_endless 40 = .ok (.lload_n 3, 1) := by decide +kernel
theorem dX12_endless_41 : decode cX12_endless 41 = .ok (.lor, 1) := by decide +kernel
theorem dX12_endless_42 : decode cX12_endless 42 = .ok (.lstore 5, 2) := by decide +kernel
theorem dX12_endless_44 : decode cX12_endless 44 = .ok (.lload 5, 2) := by decide +kernel
theorem dX12_endless_46 : decode cX12_endless 46 = .ok (.invokestatic 509, 3) := by decide +kernel
theorem dX12_endless_49 : decode cX12_endless 49 = .ok (.iload_n 1, 1) := by decide +kernel
theorem dX12_endless_50 : decode cX12_endless 50 = .ok (.iconst (-1), 1) := by decide +kernel
theorem dX12_endless_51 : decode cX12_endless 51 = .ok (.ixor, 1) := by decide +kernel
theorem dX12_endless_52 : decode cX12_endless 52 = .ok (.iand, 1) := by decide +kernel
theorem dX12_endless_53 : decode cX12_endless 53 = .ok (.ifCond .ne 23, 3) := by decide +kernel
theorem dX12_endless_56 : decode cX12_endless 56 = .ok (.aload_n 0, 1) := by decide +kernel
theorem dX12_endless_57 : decode cX12_endless 57 = .ok (.lload 5, 2) := by decide +kernel
theorem dX12_endless_59 : decode cX12_endless 59 = .ok (.bipush 100, 2) := by decide +kernel
theorem dX12_endless_61 : decode cX12_endless 61 = .ok (.aload_n 0, 1) := by decide +kernel
theorem dX12_endless_62 : decode cX12_endless 62 = .ok (.getfield 29, 3) := by decide +kernel
theorem dX12_endless_65 : decode cX12_endless 65 = .ok (.iconst 5, 1) := by decide +kernel
theorem dX12_endless_66 : decode cX12_endless 66 = .ok (.iaload, 1) := by decide +kernel
theorem dX12_endless_67 : decode cX12_endless 67 = .ok (.invokevirtual 423, 3) := by decide +kernel
theorem dX12_endless_70 : decode cX12_endless 70 = .ok (.ifCond .ne 6, 3) := by decide +kernel
theorem dX12_endless_73 : decode cX12_endless 73 = .ok (.lload 5, 2) := by decide +kernel
theorem dX12_endless_75 : decode cX12_endless 75 = .ok (.lreturn, 1) := by decide +kernel
theorem dX12_endless_76 : decode cX12_endless 76 = .ok (.lload_n 3, 1) := by decide +kernel
theorem dX12_endless_77 : decode cX12_endless 77 = .ok (.lconst 1, 1) := by decide +kernel
theorem dX12_endless_78 : decode cX12_endless 78 = .ok (.ladd, 1) := by decide +kernel
theorem dX12_endless_79 : decode cX12_endless 79 = .ok (.lstore_n 3, 1) := by decide +kernel
theorem dX12_endless_80 : decode cX12_endless 80 = .ok (.goto (-55), 3) := by decide +kernel
theorem dX12_endless_83 : decode cX12_endless 83 = .ok (.iinc 2 1, 3) := by decide +kernel
theorem dX12_endless_86 : decode cX12_endless 86 = .ok (.goto (-68), 3) := by decide +kernel
theorem dX12_endless_89 : decode cX12_endless 89 = .ok (.ldc2_w 171, 3) := by decide +kernel
theorem dX12_endless_92 : decode cX12_endless 92 = .ok (.lreturn, 1) := by decide +kernel
theorem dX12_becomesJust_0 : decode cX12_becomesJust 0 = .ok (.aload_n 0, 1) := by decide +kernel
theorem dX12_becomesJust_1 : decode cX12_becomesJust 1 = .ok (.lload_n 1, 1) := by decide +kernel
theorem dX12_becomesJust_2 : decode cX12_becomesJust 2 = .ok (.sipush 200, 3) := by decide +kernel
theorem dX12_becomesJust_5 : decode cX12_becomesJust 5 = .ok (.aload_n 0, 1) := by decide +kernel
theorem dX12_becomesJust_6 : decode cX12_becomesJust 6 = .ok (.getfield 29, 3) := by decide +kernel
theorem dX12_becomesJust_9 : decode cX12_becomesJust 9 = .ok (.iconst 5, 1) := by decide +kernel
theorem dX12_becomesJust_10 : decode cX12_becomesJust 10 = .ok (.iaload, 1) := by decide +kernel
theorem dX12_becomesJust_11 : decode cX12_becomesJust 11 = .ok (.invokevirtual 423, 3) := by decide +kernel
theorem dX12_becomesJust_14 : decode cX12_becomesJust 14 = .ok (.ifCond .eq 16, 3) := by decide +kernel
theorem dX12_becomesJust_17 : decode cX12_becomesJust 17 = .ok (.aload_n 0, 1) := by decide +kernel
theorem dX12_becomesJust_18 : decode cX12_becomesJust 18 = .ok (.getfield 363, 3) := by decide +kernel
theorem dX12_becomesJust_21 : decode cX12_becomesJust 21 = .ok (.lload_n 3, 1) := by decide +kernel
theorem dX12_becomesJust_22 : decode cX12_becomesJust 22 = .ok (.lcmp, 1) := by decide +kernel
theorem dX12_becomesJust_23 : decode cX12_becomesJust 23 = .ok (.ifCond .ne 7, 3) := by decide +kernel
theorem dX12_becomesJust_26 : decode cX12_becomesJust 26 = .ok (.iconst 1, 1) := by decide +kernel
theorem dX12_becomesJust_27 : decode cX12_becomesJust 27 = .ok (.goto 4, 3) := by decide +kernel
theorem dX12_becomesJust_30 : decode cX12_becomesJust 30 = .ok (.iconst 0, 1) := by decide +kernel
theorem dX12_becomesJust_31 : decode cX12_becomesJust 31 = .ok (.ireturn, 1) := by decide +kernel
theorem dX12_sums_0 : decode cX12_sums 0 = .ok (.iconst 0, 1) := by decide +kernel
theorem dX12_sums_1 : decode cX12_sums 1 = .ok (.istore_n 2, 1) := by decide +kernel
theorem dX12_sums_2 : decode cX12_sums 2 = .ok (.iload_n 2, 1) := by decide +kernel
theorem dX12_sums_3 : decode cX12_sums 3 = .ok (.iload_n 1, 1) := by decide +kernel
theorem dX12_sums_4 : decode cX12_sums 4 = .ok (.if_icmp .gt 64, 3) := by decide +kernel
theorem dX12_sums_7 : decode cX12_sums 7 = .ok (.iconst 0, 1) := by decide +kernel
theorem dX12_sums_8 : decode cX12_sums 8 = .ok (.istore_n 3, 1) := by decide +kernel
theorem dX12_sums_9 : decode cX12_sums 9 = .ok (.iload_n 3, 1) := by decide +kernel
theorem dX12_sums_10 : decode cX12_sums 10 = .ok (.iload_n 1, 1) := by decide +kernel
theorem dX12_sums_11 : decode cX12_sums 11 = .ok (.if_icmp .gt 51, 3) := by decide +kernel
theorem dX12_sums_14 : decode cX12_sums 14 = .ok (.iconst 0, 1) := by decide +kernel
theorem dX12_sums_15 : decode cX12_sums 15 = .ok (.iload_n 2, 1) := by decide +kernel
theorem dX12_sums_16 : decode cX12_sums 16 = .ok (.invokestatic 547, 3) := by decide +kernel
theorem dX12_sums_19 : decode cX12_sums 19 = .ok (.iconst 1, 1) := by decide +kernel
theorem dX12_sums_20 : decode cX12_sums 20 = .ok (.iconst 1, 1) := by decide +kernel
theorem dX12_sums_21 : decode cX12_sums 21 = .ok (.invokestatic 547, 3) := by decide +kernel
theorem dX12_sums_24 : decode cX12_sums 24 = .ok (.invokestatic 335, 3) := by decide +kernel
theorem dX12_sums_27 : decode cX12_sums 27 = .ok (.iconst 0, 1) := by decide +kernel
theorem dX12_sums_28 : decode cX12_sums 28 = .ok (.iload_n 3, 1) := by decide +kernel
theorem dX12_sums_29 : decode cX12_sums 29 = .ok (.invokestatic 547, 3) := by decide +kernel
theorem dX12_sums_32 : decode cX12_sums 32 = .ok (.invokestatic 335, 3) := by decide +kernel
theorem dX12_sums_35 : decode cX12_sums 35 = .ok (.lstore 4, 2) := by decide +kernel
theorem dX12_sums_37 : decode cX12_sums 37 = .ok (.aload_n 0, 1) := by decide +kernel
theorem dX12_sums_38 : decode cX12_sums 38 = .ok (.lload 4, 2) := by decide +kernel
theorem dX12_sums_40 : decode cX12_sums 40 = .ok (.iconst 0, 1) := by decide +kernel
theorem dX12_sums_41 : decode cX12_sums 41 = .ok (.iload_n 2, 1) := by decide +kernel
theorem dX12_sums_42 : decode cX12_sums 42 = .ok (.iload_n 3, 1) := by decide +kernel
theorem dX12_sums_43 : decode cX12_sums 43 = .ok (.iadd, 1) := by decide +kernel
theorem dX12_sums_44 : decode cX12_sums 44 = .ok (.invokestatic 547, 3) := by decide +kernel
theorem dX12_sums_47 : decode cX12_sums 47 = .ok (.invokevirtual 550, 3) := by decide +kernel
theorem dX12_sums_50 : decode cX12_sums 50 = .ok (.ifCond .ne 6, 3) := by decide +kernel
theorem dX12_sums_53 : decode cX12_sums 53 = .ok (.lload 4, 2) := by decide +kernel
theorem dX12_sums_55 : decode cX12_sums 55 = .ok (.lreturn, 1) := by decide +kernel
theorem dX12_sums_56 : decode cX12_sums 56 = .ok (.iinc 3 1, 3) := by decide +kernel
theorem dX12_sums_59 : decode cX12_sums 59 = .ok (.goto (-50), 3) := by decide +kernel
theorem dX12_sums_62 : decode cX12_sums 62 = .ok (.iinc 2 1, 3) := by decide +kernel
theorem dX12_sums_65 : decode cX12_sums 65 = .ok (.goto (-63), 3) := by decide +kernel
theorem dX12_sums_68 : decode cX12_sums 68 = .ok (.ldc2_w 171, 3) := by decide +kernel
theorem dX12_sums_71 : decode cX12_sums 71 = .ok (.lreturn, 1) := by decide +kernel
theorem dX12_sortings_0 : decode cX12_sortings 0 = .ok (.iconst 0, 1) := by decide +kernel
theorem dX12_sortings_1 : decode cX12_sortings 1 = .ok (.istore_n 2, 1) := by decide +kernel
theorem dX12_sortings_2 : decode cX12_sortings 2 = .ok (.iload_n 2, 1) := by decide +kernel
theorem dX12_sortings_3 : decode cX12_sortings 3 = .ok (.iconst 1, 1) := by decide +kernel
theorem dX12_sortings_4 : decode cX12_sortings 4 = .ok (.iload_n 1, 1) := by decide +kernel
theorem dX12_sortings_5 : decode cX12_sortings 5 = .ok (.ishl, 1) := by decide +kernel
theorem dX12_sortings_6 : decode cX12_sortings 6 = .ok (.if_icmp .ge 72, 3) := by decide +kernel
theorem dX12_sortings_9 : decode cX12_sortings 9 = .ok (.lconst 1, 1) := by decide +kernel
theorem dX12_sortings_10 : decode cX12_sortings 10 = .ok (.lstore_n 3, 1) := by decide +kernel
theorem dX12_sortings_11 : decode cX12_sortings 11 = .ok (.iload_n 1, 1) := by decide +kernel
theorem dX12_sortings_12 : decode cX12_sortings 12 = .ok (.iconst 1, 1) := by decide +kernel
theorem dX12_sortings_13 : decode cX12_sortings 13 = .ok (.isub, 1) := by decide +kernel
theorem dX12_sortings_14 : decode cX12_sortings 14 = .ok (.istore 5, 2) := by decide +kernel
theorem dX12_sortings_16 : decode cX12_sortings 16 = .ok (.iload 5, 2) := by decide +kernel
theorem dX12_sortings_18 : decode cX12_sortings 18 = .ok (.ifCond .lt 21, 3) := by decide +kernel
theorem dX12_sortings_21 : decode cX12_sortings 21 = .ok (.lload_n 3, 1) := by decide +kernel
theorem dX12_sortings_22 : decode cX12_sortings 22 = .ok (.iconst 3, 1) := by decide +kernel
theorem dX12_sortings_23 : decode cX12_sortings 23 = .ok (.lshl, 1) := by decide +kernel
theorem dX12_sortings_24 : decode cX12_sortings 24 = .ok (.iload_n 2, 1) := by decide +kernel
theorem dX12_sortings_25 : decode cX12_sortings 25 = .ok (.iload 5, 2) := by decide +kernel
theorem dX12_sortings_27 : decode cX12_sortings 27 = .ok (.ishr, 1) := by decide +kernel
theorem dX12_sortings_28 : decode cX12_sortings 28 = .ok (.iconst 1, 1) := by decide +kernel
theorem dX12_sortings_29 : decode cX12_sortings 29 = .ok (.iand, 1) := by decide +kernel
theorem dX12_sortings_30 : decode cX12_sortings 30 = .ok (.i2l, 1) := by decide +kernel
theorem dX12_sortings_31 : decode cX12_sortings 31 = .ok (.lor, 1) := by decide +kernel
theorem dX12_sortings_32 : decode cX12_sortings 32 = .ok (.lstore_n 3, 1) := by decide +kernel
theorem dX12_sortings_33 : decode cX12_sortings 33 = .ok (.iinc 5 (-1), 3) := by decide +kernel
theorem dX12_sortings_36 : decode cX12_sortings 36 = .ok (.goto (-20), 3) := by decide +kernel
theorem dX12_sortings_39 : decode cX12_sortings 39 = .ok (.iload_n 2, 1) := by decide +kernel
theorem dX12_sortings_40 : decode cX12_sortings 40 = .ok (.invokestatic 532, 3) := by decide +kernel
theorem dX12_sortings_43 : decode cX12_sortings 43 = .ok (.istore 5, 2) := by decide +kernel
theorem dX12_sortings_45 : decode cX12_sortings 45 = .ok (.aload_n 0, 1) := by decide +kernel
theorem dX12_sortings_46 : decode cX12_sortings 46 = .ok (.lload_n 3, 1) := by decide +kernel
theorem dX12_sortings_47 : decode cX12_sortings 47 = .ok (.iconst 0, 1) := by decide +kernel
theorem dX12_sortings_48 : decode cX12_sortings 48 = .ok (.iload_n 1, 1) := by decide +kernel
theorem dX12_sortings_49 : decode cX12_sortings 49 = .ok (.iload 5, 2) := by decide +kernel
theorem dX12_sortings_51 : decode cX12_sortings 51 = .ok (.isub, 1) := by decide +kernel
theorem dX12_sortings_52 : decode cX12_sortings 52 = .ok (.invokestatic 547, 3) := by decide +kernel
theorem dX12_sortings_55 : decode cX12_sortings 55 = .ok (.iconst 1, 1) := by decide +kernel
theorem dX12_sortings_56 : decode cX12_sortings 56 = .ok (.iload 5, 2) := by decide +kernel
theorem dX12_sortings_58 : decode cX12_sortings 58 = .ok (.invokestatic 547, 3) := by decide +kernel
theorem dX12_sortings_61 : decode cX12_sortings 61 = .ok (.invokestatic 335, 3) := by decide +kernel
theorem dX12_sortings_64 : decode cX12_sortings 64 = .ok (.invokevirtual 550, 3) := by decide +kernel
theorem dX12_sortings_67 : decode cX12_sortings 67 = .ok (.ifCond .ne 5, 3) := by decide +kernel
theorem dX12_sortings_70 : decode cX12_sortings 70 = .ok (.lload_n 3, 1) := by decide +kernel
theorem dX12_sortings_71 : decode cX12_sortings 71 = .ok (.lreturn, 1) := by decide +kernel
theorem dX12_sortings_72 : decode cX12_sortings 72 = .ok (.iinc 2 1, 3) := by decide +kernel
theorem dX12_sortings_75 : decode cX12_sortings 75 = .ok (.goto (-73), 3) := by decide +kernel
theorem dX12_sortings_78 : decode cX12_sortings 78 = .ok (.ldc2_w 171, 3) := by decide +kernel
theorem dX12_sortings_81 : decode cX12_sortings 81 = .ok (.lreturn, 1) := by decide +kernel
theorem dX12_copies_0 : decode cX12_copies 0 = .ok (.iconst 0, 1) := by decide +kernel
theorem dX12_copies_1 : decode cX12_copies 1 = .ok (.istore_n 2, 1) := by decide +kernel
theorem dX12_copies_2 : decode cX12_copies 2 = .ok (.iload_n 2, 1) := by decide +kernel
theorem dX12_copies_3 : decode cX12_copies 3 = .ok (.iload_n 1, 1) := by decide +kernel
theorem dX12_copies_4 : decode cX12_copies 4 = .ok (.if_icmp .gt 42, 3) := by decide +kernel
theorem dX12_copies_7 : decode cX12_copies 7 = .ok (.iconst 0, 1) := by decide +kernel
theorem dX12_copies_8 : decode cX12_copies 8 = .ok (.iload_n 2, 1) := by decide +kernel
theorem dX12_copies_9 : decode cX12_copies 9 = .ok (.invokestatic 547, 3) := by decide +kernel
theorem dX12_copies_12 : decode cX12_copies 12 = .ok (.iconst 2, 1) := by decide +kernel
theorem dX12_copies_13 : decode cX12_copies 13 = .ok (.iconst 1, 1) := by decide +kernel
theorem dX12_copies_14 : decode cX12_copies 14 = .ok (.invokestatic 547, 3) := by decide +kernel
theorem dX12_copies_17 : decode cX12_copies 17 = .ok (.invokestatic 335, 3) := by decide +kernel
theorem dX12_copies_20 : decode cX12_copies 20 = .ok (.lstore_n 3, 1) := by decide +kernel
theorem dX12_copies_21 : decode cX12_copies 21 = .ok (.aload_n 0, 1) := by decide +kernel
theorem dX12_copies_22 : decode cX12_copies 22 = .ok (.lload_n 3, 1) := by decide +kernel
theorem dX12_copies_23 : decode cX12_copies 23 = .ok (.lload_n 3, 1) := by decide +kernel
theorem dX12_copies_24 : decode cX12_copies 24 = .ok (.iconst 0, 1) := by decide +kernel
theorem dX12_copies_25 : decode cX12_copies 25 = .ok (.iload_n 2, 1) := by decide +kernel
theorem dX12_copies_26 : decode cX12_copies 26 = .ok (.invokestatic 547, 3) := by decide +kernel
theorem dX12_copies_29 : decode cX12_copies 29 = .ok (.invokestatic 335, 3) := by decide +kernel
theorem dX12_copies_32 : decode cX12_copies 32 = .ok (.invokevirtual 550, 3) := by decide +kernel
theorem dX12_copies_35 : decode cX12_copies 35 = .ok (.ifCond .ne 5, 3) := by decide +kernel
theorem dX12_copies_38 : decode cX12_copies 38 = .ok (.lload_n 3, 1) := by decide +kernel
theorem dX12_copies_39 : decode cX12_copies 39 = .ok (.lreturn, 1) := by decide +kernel
theorem dX12_copies_40 : decode cX12_copies 40 = .ok (.iinc 2 1, 3) := by decide +kernel
theorem dX12_copies_43 : decode cX12_copies 43 = .ok (.goto (-41), 3) := by decide +kernel
theorem dX12_copies_46 : decode cX12_copies 46 = .ok (.ldc2_w 171, 3) := by decide +kernel
theorem dX12_copies_49 : decode cX12_copies 49 = .ok (.lreturn, 1) := by decide +kernel
theorem dX12_halves_0 : decode cX12_halves 0 = .ok (.iconst 0, 1) := by decide +kernel
theorem dX12_halves_1 : decode cX12_halves 1 = .ok (.istore_n 2, 1) := by decide +kernel
theorem dX12_halves_2 : decode cX12_halves 2 = .ok (.iload_n 2, 1) := by decide +kernel
theorem dX12_halves_3 : decode cX12_halves 3 = .ok (.iload_n 1, 1) := by decide +kernel
theorem dX12_halves_4 : decode cX12_halves 4 = .ok (.if_icmp .gt 40, 3) := by decide +kernel
theorem dX12_halves_7 : decode cX12_halves 7 = .ok (.iconst 0, 1) := by decide +kernel
theorem dX12_halves_8 : decode cX12_halves 8 = .ok (.iconst 2, 1) := by decide +kernel
theorem dX12_halves_9 : decode cX12_halves 9 = .ok (.iload_n 2, 1) := by decide +kernel
theorem dX12_halves_10 : decode cX12_halves 10 = .ok (.imul, 1) := by decide +kernel
theorem dX12_halves_11 : decode cX12_halves 11 = .ok (.invokestatic 547, 3) := by decide +kernel
theorem dX12_halves_14 : decode cX12_halves 14 = .ok (.iconst 3, 1) := by decide +kernel
theorem dX12_halves_15 : decode cX12_halves 15 = .ok (.iconst 1, 1) := by decide +kernel
theorem dX12_halves_16 : decode cX12_halves 16 = .ok (.invokestatic 547, 3) := by decide +kernel
theorem dX12_halves_19 : decode cX12_halves 19 = .ok (.invokestatic 335, 3) := by decide +kernel
theorem dX12_halves_22 : decode cX12_halves 22 = .ok (.lstore_n 3, 1) := by decide +kernel
theorem dX12_halves_23 : decode cX12_halves 23 = .ok (.aload_n 0, 1) := by decide +kernel
theorem dX12_halves_24 : decode cX12_halves 24 = .ok (.lload_n 3, 1) := by decide +kernel
theorem dX12_halves_25 : decode cX12_halves 25 = .ok (.iconst 0, 1) := by decide +kernel
theorem dX12_halves_26 : decode cX12_halves 26 = .ok (.iload_n 2, 1) := by decide +kernel
theorem dX12_halves_27 : decode cX12_halves 27 = .ok (.invokestatic 547, 3) := by decide +kernel
theorem dX12_halves_30 : decode cX12_halves 30 = .ok (.invokevirtual 550, 3) := by decide +kernel
theorem dX12_halves_33 : decode cX12_halves 33 = .ok (.ifCond .ne 5, 3) := by decide +kernel
theorem dX12_halves_36 : decode cX12_halves 36 = .ok (.lload_n 3, 1) := by decide +kernel
theorem dX12_halves_37 : decode cX12_halves 37 = .ok (.lreturn, 1) := by decide +kernel
theorem dX12_halves_38 : decode cX12_halves 38 = .ok (.iinc 2 1, 3) := by decide +kernel
theorem dX12_halves_41 : decode cX12_halves 41 = .ok (.goto (-39), 3) := by decide +kernel
theorem dX12_halves_44 : decode cX12_halves 44 = .ok (.ldc2_w 171, 3) := by decide +kernel
theorem dX12_halves_47 : decode cX12_halves 47 = .ok (.lreturn, 1) := by decide +kernel
theorem dX12_reckons_0 : decode cX12_reckons 0 = .ok (.aload_n 0, 1) := by decide +kernel
theorem dX12_reckons_1 : decode cX12_reckons 1 = .ok (.iconst 0, 1) := by decide +kernel
theorem dX12_reckons_2 : decode cX12_reckons 2 = .ok (.putfield 3, 3) := by decide +kernel
theorem dX12_reckons_5 : decode cX12_reckons 5 = .ok (.aload_n 0, 1) := by decide +kernel
theorem dX12_reckons_6 : decode cX12_reckons 6 = .ok (.iload_n 1, 1) := by decide +kernel
theorem dX12_reckons_7 : decode cX12_reckons 7 = .ok (.iconst 0, 1) := by decide +kernel
theorem dX12_reckons_8 : decode cX12_reckons 8 = .ok (.iconst 3, 1) := by decide +kernel
theorem dX12_reckons_9 : decode cX12_reckons 9 = .ok (.invokestatic 125, 3) := by decide +kernel
theorem dX12_reckons_12 : decode cX12_reckons 12 = .ok (.ifCond .eq 12, 3) := by decide +kernel
theorem dX12_reckons_15 : decode cX12_reckons 15 = .ok (.iload_n 2, 1) := by decide +kernel
theorem dX12_reckons_16 : decode cX12_reckons 16 = .ok (.iconst 0, 1) := by decide +kernel
theorem dX12_reckons_17 : decode cX12_reckons 17 = .ok (.iconst 4, 1) := by decide +kernel
theorem dX12_reckons_18 : decode cX12_reckons 18 = .ok (.invokestatic 125, 3) := by decide +kernel
theorem dX12_reckons_21 : decode cX12_reckons 21 = .ok (.ifCond .ne 7, 3) := by decide +kernel
theorem dX12_reckons_24 : decode cX12_reckons 24 = .ok (.iconst 1, 1) := by decide +kernel
theorem dX12_reckons_25 : decode cX12_reckons 25 = .ok (.goto 4, 3) := by decide +kernel
theorem dX12_reckons_28 : decode cX12_reckons 28 = .ok (.iconst 0, 1) := by decide +kernel
theorem dX12_reckons_29 : decode cX12_reckons 29 = .ok (.iconst 1, 1) := by decide +kernel
theorem dX12_reckons_30 : decode cX12_reckons 30 = .ok (.invokevirtual 302, 3) := by decide +kernel
theorem dX12_reckons_33 : decode cX12_reckons 33 = .ok (.ifCond .eq 5, 3) := by decide +kernel
theorem dX12_reckons_36 : decode cX12_reckons 36 = .ok (.lconst 0, 1) := by decide +kernel
theorem dX12_reckons_37 : decode cX12_reckons 37 = .ok (.lreturn, 1) := by decide +kernel
theorem dX12_reckons_38 : decode cX12_reckons 38 = .ok (.aload_n 0, 1) := by decide +kernel
theorem dX12_reckons_39 : decode cX12_reckons 39 = .ok (.invokevirtual 386, 3) := by decide +kernel
theorem dX12_reckons_42 : decode cX12_reckons 42 = .ok (.iload_n 1, 1) := by decide +kernel
theorem dX12_reckons_43 : decode cX12_reckons 43 = .ok (.ifCond .ne 11, 3) := by decide +kernel
theorem dX12_reckons_46 : decode cX12_reckons 46 = .ok (.aload_n 0, 1) := by decide +kernel
theorem dX12_reckons_47 : decode cX12_reckons 47 = .ok (.iload_n 2, 1) := by decide +kernel
theorem dX12_reckons_48 : decode cX12_reckons 48 = .ok (.invokevirtual 554, 3) := by decide +kernel
theorem dX12_reckons_51 : decode cX12_reckons 51 = .ok (.goto 34, 3) := by decide +kernel
theorem dX12_reckons_54 : decode cX12_reckons 54 = .ok (.iload_n 1, 1) := by decide +kernel
theorem dX12_reckons_55 : decode cX12_reckons 55 = .ok (.iconst 1, 1) := by decide +kernel
theorem dX12_reckons_56 : decode cX12_reckons 56 = .ok (.if_icmp .ne 11, 3) := by decide +kernel
theorem dX12_reckons_59 : decode cX12_reckons 59 = .ok (.aload_n 0, 1) := by decide +kernel
theorem dX12_reckons_60 : decode cX12_reckons 60 = .ok (.iload_n 2, 1) := by decide +kernel
theorem dX12_reckons_61 : decode cX12_reckons 61 = .ok (.invokevirtual 557, 3) := by decide +kernel
theorem dX12_reckons_64 : decode cX12_reckons 64 = .ok (.goto 21, 3) := by decide +kernel
theorem dX12_reckons_67 : decode cX12_reckons 67 = .ok (.iload_n 1, 1) := by decide +kernel
theorem dX12_reckons_68 : decode cX12_reckons 68 = .ok (.iconst 2, 1) := by decide +kernel
theorem dX12_reckons_69 : decode cX12_reckons 69 = .ok (.if_icmp .ne 11, 3) := by decide +kernel
theorem dX12_reckons_72 : decode cX12_reckons 72 = .ok (.aload_n 0, 1) := by decide +kernel
theorem dX12_reckons_73 : decode cX12_reckons 73 = .ok (.iload_n 2, 1) := by decide +kernel
theorem dX12_reckons_74 : decode cX12_reckons 74 = .ok (.invokevirtual 560, 3) := by decide +kernel
theorem dX12_reckons_77 : decode cX12_reckons 77 = .ok (.goto 8, 3) := by decide +kernel
theorem dX12_reckons_80 : decode cX12_reckons 80 = .ok (.aload_n 0, 1) := by decide +kernel
theorem dX12_reckons_81 : decode cX12_reckons 81 = .ok (.iload_n 2, 1) := by decide +kernel
theorem dX12_reckons_82 : decode cX12_reckons 82 = .ok (.invokevirtual 563, 3) := by decide +kernel
theorem dX12_reckons_85 : decode cX12_reckons 85 = .ok (.lreturn, 1) := by decide +kernel
theorem dX12_allSettle_0 : decode cX12_allSettle 0 = .ok (.iconst 1, 1) := by decide +kernel
theorem dX12_allSettle_1 : decode cX12_allSettle 1 = .ok (.istore_n 2, 1) := by decide +kernel
theorem dX12_allSettle_2 : decode cX12_allSettle 2 = .ok (.iconst 0, 1) := by decide +kernel
theorem dX12_allSettle_3 : decode cX12_allSettle 3 = .ok (.istore_n 3, 1) := by decide +kernel
theorem dX12_allSettle_4 : decode cX12_allSettle 4 = .ok (.iload_n 3, 1) := by decide +kernel
theorem dX12_allSettle_5 : decode cX12_allSettle 5 = .ok (.aload_n 0, 1) := by decide +kernel
theorem dX12_allSettle_6 : decode cX12_allSettle 6 = .ok (.invokevirtual 129, 3) := by decide +kernel
theorem dX12_allSettle_9 : decode cX12_allSettle 9 = .ok (.if_icmp .ge 47, 3) := by decide +kernel
theorem dX12_allSettle_12 : decode cX12_allSettle 12 = .ok (.iload_n 2, 1) := by decide +kernel
theorem dX12_allSettle_13 : decode cX12_allSettle 13 = .ok (.ifCond .eq 43, 3) := by decide +kernel
theorem dX12_allSettle_16 : decode cX12_allSettle 16 = .ok (.iload_n 1, 1) := by decide +kernel
theorem dX12_allSettle_17 : decode cX12_allSettle 17 = .ok (.iload_n 3, 1) := by decide +kernel
theorem dX12_allSettle_18 : decode cX12_allSettle 18 = .ok (.invokestatic 325, 3) := by decide +kernel
theorem dX12_allSettle_21 : decode cX12_allSettle 21 = .ok (.ifCond .eq 23, 3) := by decide +kernel
theorem dX12_allSettle_24 : decode cX12_allSettle 24 = .ok (.aload_n 0, 1) := by decide +kernel
theorem dX12_allSettle_25 : decode cX12_allSettle 25 = .ok (.aload_n 0, 1) := by decide +kernel
theorem dX12_allSettle_26 : decode cX12_allSettle 26 = .ok (.iload_n 3, 1) := by decide +kernel
theorem dX12_allSettle_27 : decode cX12_allSettle 27 = .ok (.invokevirtual 379, 3) := by decide +kernel
theorem dX12_allSettle_30 : decode cX12_allSettle 30 = .ok (.bipush 100, 2) := by decide +kernel
theorem dX12_allSettle_32 : decode cX12_allSettle 32 = .ok (.aload_n 0, 1) := by decide +kernel
theorem dX12_allSettle_33 : decode cX12_allSettle 33 = .ok (.getfield 29, 3) := by decide +kernel
theorem dX12_allSettle_36 : decode cX12_allSettle 36 = .ok (.iconst 5, 1) := by decide +kernel
theorem dX12_allSettle_37 : decode cX12_allSettle 37 = .ok (.iaload, 1) := by decide +kernel
theorem dX12_allSettle_38 : decode cX12_allSettle 38 = .ok (.invokevirtual 423, 3) := by decide +kernel
theorem dX12_allSettle_41 : decode cX12_allSettle 41 = .ok (.ifCond .eq 7, 3) := by decide +kernel
theorem dX12_allSettle_44 : decode cX12_allSettle 44 = .ok (.iconst 1, 1) := by decide +kernel
theorem dX12_allSettle_45 : decode cX12_allSettle 45 = .ok (.goto 4, 3) := by decide +kernel
theorem dX12_allSettle_48 : decode cX12_allSettle 48 = .ok (.iconst 0, 1) := by decide +kernel
theorem dX12_allSettle_49 : decode cX12_allSettle 49 = .ok (.istore_n 2, 1) := by decide +kernel
theorem dX12_allSettle_50 : decode cX12_allSettle 50 = .ok (.iinc 3 1, 3) := by decide +kernel
theorem dX12_allSettle_53 : decode cX12_allSettle 53 = .ok (.goto (-49), 3) := by decide +kernel
theorem dX12_allSettle_56 : decode cX12_allSettle 56 = .ok (.iload_n 2, 1) := by decide +kernel
theorem dX12_allSettle_57 : decode cX12_allSettle 57 = .ok (.ireturn, 1) := by decide +kernel
theorem dX12_dropped_0 : decode cX12_dropped 0 = .ok (.aload_n 0, 1) := by decide +kernel
theorem dX12_dropped_1 : decode cX12_dropped 1 = .ok (.iconst 0, 1) := by decide +kernel
theorem dX12_dropped_2 : decode cX12_dropped 2 = .ok (.putfield 3, 3) := by decide +kernel
theorem dX12_dropped_5 : decode cX12_dropped 5 = .ok (.aload_n 0, 1) := by decide +kernel
theorem dX12_dropped_6 : decode cX12_dropped 6 = .ok (.invokevirtual 386, 3) := by decide +kernel
theorem dX12_dropped_9 : decode cX12_dropped 9 = .ok (.aload_n 0, 1) := by decide +kernel
theorem dX12_dropped_10 : decode cX12_dropped 10 = .ok (.getfield 305, 3) := by decide +kernel
theorem dX12_dropped_13 : decode cX12_dropped 13 = .ok (.istore_n 2, 1) := by decide +kernel
theorem dX12_dropped_14 : decode cX12_dropped 14 = .ok (.iconst (-1), 1) := by decide +kernel
theorem dX12_dropped_15 : decode cX12_dropped 15 = .ok (.istore_n 3, 1) := by decide +kernel
theorem dX12_dropped_16 : decode cX12_dropped 16 = .ok (.iconst 0, 1) := by decide +kernel
theorem dX12_dropped_17 : decode cX12_dropped 17 = .ok (.istore 4, 2) := by decide +kernel
theorem dX12_dropped_19 : decode cX12_dropped 19 = .ok (.iload 4, 2) := by decide +kernel
theorem dX12_dropped_21 : decode cX12_dropped 21 = .ok (.iconst 1, 1) := by decide +kernel
theorem dX12_dropped_22 : decode cX12_dropped 22 = .ok (.bipush 8, 2) := by decide +kernel
theorem dX12_dropped_24 : decode cX12_dropped 24 = .ok (.aload_n 0, 1) := by decide +kernel
theorem dX12_dropped_25 : decode cX12_dropped 25 = .ok (.invokevirtual 121, 3) := by decide +kernel
theorem dX12_dropped_28 : decode cX12_dropped 28 = .ok (.invokestatic 496, 3) := by decide +kernel
theorem dX12_dropped_31 : decode cX12_dropped 31 = .ok (.ishl, 1) := by decide +kernel
theorem dX12_dropped_32 : decode cX12_dropped 32 = .ok (.if_icmp .ge 53, 3) := by decide +kernel
theorem dX12_dropped_35 : decode cX12_dropped 35 = .ok (.iload_n 3, 1) := by decide +kernel
theorem dX12_dropped_36 : decode cX12_dropped 36 = .ok (.ifCond .lt 18, 3) := by decide +kernel
theorem dX12_dropped_39 : decode cX12_dropped 39 = .ok (.iload 4, 2) := by decide +kernel
theorem dX12_dropped_41 : decode cX12_dropped 41 = .ok (.invokestatic 532, 3) := by decide +kernel
theorem dX12_dropped_44 : decode cX12_dropped 44 = .ok (.iload_n 3, 1) := by decide +kernel
theorem dX12_dropped_45 : decode cX12_dropped 45 = .ok (.invokestatic 532, 3) := by decide +kernel
theorem dX12_dropped_48 : decode cX12_dropped 48 = .ok (.if_icmp .lt 6, 3) := by decide +kernel
theorem dX12_dropped_51 : decode cX12_dropped 51 = .ok (.goto 28, 3) := by decide +kernel
theorem dX12_dropped_54 : decode cX12_dropped 54 = .ok (.aload_n 0, 1) := by decide +kernel
theorem dX12_dropped_55 : decode cX12_dropped 55 = .ok (.iload_n 2, 1) := by decide +kernel
theorem dX12_dropped_56 : decode cX12_dropped 56 = .ok (.iload 4, 2) := by decide +kernel
theorem dX12_dropped_58 : decode cX12_dropped 58 = .ok (.iconst (-1), 1) := by decide +kernel
theorem dX12_dropped_59 : decode cX12_dropped 59 = .ok (.ixor, 1) := by decide +kernel
theorem dX12_dropped_60 : decode cX12_dropped 60 = .ok (.iand, 1) := by decide +kernel
theorem dX12_dropped_61 : decode cX12_dropped 61 = .ok (.putfield 305, 3) := by decide +kernel
theorem dX12_dropped_64 : decode cX12_dropped 64 = .ok (.aload_n 0, 1) := by decide +kernel
theorem dX12_dropped_65 : decode cX12_dropped 65 = .ok (.iload_n 1, 1) := by decide +kernel
theorem dX12_dropped_66 : decode cX12_dropped 66 = .ok (.invokevirtual 566, 3) := by decide +kernel
theorem dX12_dropped_69 : decode cX12_dropped 69 = .ok (.ifCond .eq 8, 3) := by decide +kernel
theorem dX12_dropped_72 : decode cX12_dropped 72 = .ok (.iload 4, 2) := by decide +kernel
theorem dX12_dropped_74 : decode cX12_dropped 74 = .ok (.goto 4, 3) := by decide +kernel
theorem dX12_dropped_77 : decode cX12_dropped 77 = .ok (.iload_n 3, 1) := by decide +kernel
theorem dX12_dropped_78 : decode cX12_dropped 78 = .ok (.istore_n 3, 1) := by decide +kernel
theorem dX12_dropped_79 : decode cX12_dropped 79 = .ok (.iinc 4 1, 3) := by decide +kernel
theorem dX12_dropped_82 : decode cX12_dropped 82 = .ok (.goto (-63), 3) := by decide +kernel
theorem dX12_dropped_85 : decode cX12_dropped 85 = .ok (.aload_n 0, 1) := by decide +kernel
theorem dX12_dropped_86 : decode cX12_dropped 86 = .ok (.iload_n 2, 1) := by decide +kernel
theorem dX12_dropped_87 : decode cX12_dropped 87 = .ok (.putfield 305, 3) := by decide +kernel
theorem dX12_dropped_90 : decode cX12_dropped 90 = .ok (.iload_n 3, 1) := by decide +kernel
theorem dX12_dropped_91 : decode cX12_dropped 91 = .ok (.ireturn, 1) := by decide +kernel
theorem dX12_explains_0 : decode cX12_explains 0 = .ok (.lload_n 0, 1) := by decide +kernel
theorem dX12_explains_1 : decode cX12_explains 1 = .ok (.invokestatic 13, 3) := by decide +kernel
theorem dX12_explains_4 : decode cX12_explains 4 = .ok (.istore 8, 2) := by decide +kernel
theorem dX12_explains_6 : decode cX12_explains 6 = .ok (.iconst 0, 1) := by decide +kernel
theorem dX12_explains_7 : decode cX12_explains 7 = .ok (.istore 9, 2) := by decide +kernel
theorem dX12_explains_9 : decode cX12_explains 9 = .ok (.iconst 0, 1) := by decide +kernel
theorem dX12_explains_10 : decode cX12_explains 10 = .ok (.istore 10, 2) := by decide +kernel
theorem dX12_explains_12 : decode cX12_explains 12 = .ok (.iload 10, 2) := by decide +kernel
theorem dX12_explains_14 : decode cX12_explains 14 = .ok (.iload 8, 2) := by decide +kernel
theorem dX12_explains_16 : decode cX12_explains 16 = .ok (.iadd, 1) := by decide +kernel
theorem dX12_explains_17 : decode cX12_explains 17 = .ok (.lload 4, 2) := by decide +kernel
theorem dX12_explains_19 : decode cX12_explains 19 = .ok (.invokestatic 13, 3) := by decide +kernel
theorem dX12_explains_22 : decode cX12_explains 22 = .ok (.if_icmp .gt 65, 3) := by decide +kernel
theorem dX12_explains_25 : decode cX12_explains 25 = .ok (.iload 9, 2) := by decide +kernel
theorem dX12_explains_27 : decode cX12_explains 27 = .ok (.ifCond .ne 60, 3) := by decide +kernel
theorem dX12_explains_30 : decode cX12_explains 30 = .ok (.lload 4, 2) := by decide +kernel
theorem dX12_explains_32 : decode cX12_explains 32 = .ok (.iload 10, 2) := by decide +kernel
theorem dX12_explains_34 : decode cX12_explains 34 = .ok (.iload 8, 2) := by decide +kernel
theorem dX12_explains_36 : decode cX12_explains 36 = .ok (.invokestatic 328, 3) := by decide +kernel
theorem dX12_explains_39 : decode cX12_explains 39 = .ok (.lload_n 0, 1) := by decide +kernel
theorem dX12_explains_40 : decode cX12_explains 40 = .ok (.lcmp, 1) := by decide +kernel
theorem dX12_explains_41 : decode cX12_explains 41 = .ok (.ifCond .ne 37, 3) := by decide +kernel
theorem dX12_explains_44 : decode cX12_explains 44 = .ok (.lload 4, 2) := by decide +kernel
theorem dX12_explains_46 : decode cX12_explains 46 = .ok (.iload 10, 2) := by decide +kernel
theorem dX12_explains_48 : decode cX12_explains 48 = .ok (.invokestatic 20, 3) := by decide +kernel
theorem dX12_explains_51 : decode cX12_explains 51 = .ok (.lload_n 2, 1) := by decide +kernel
theorem dX12_explains_52 : decode cX12_explains 52 = .ok (.invokestatic 335, 3) := by decide +kernel
theorem dX12_explains_55 : decode cX12_explains 55 = .ok (.lload 4, 2) := by decide +kernel
theorem dX12_explains_57 : decode cX12_explains 57 = .ok (.iload 10, 2) := by decide +kernel
theorem dX12_explains_59 : decode cX12_explains 59 = .ok (.iload 8, 2) := by decide +kernel
theorem dX12_explains_61 : decode cX12_explains 61 = .ok (.iadd, 1) := by decide +kernel
theorem dX12_explains_62 : decode cX12_explains 62 = .ok (.invokestatic 16, 3) := by decide +kernel
theorem dX12_explains_65 : decode cX12_explains 65 = .ok (.invokestatic 335, 3) := by decide +kernel
theorem dX12_explains_68 : decode cX12_explains 68 = .ok (.lload 6, 2) := by decide +kernel
theorem dX12_explains_70 : decode cX12_explains 70 = .ok (.lcmp, 1) := by decide +kernel
theorem dX12_explains_71 : decode cX12_explains 71 = .ok (.ifCond .ne 7, 3) := by decide +kernel
theorem dX12_explains_74 : decode cX12_explains 74 = .ok (.iconst 1, 1) := by decide +kernel
theorem dX12_explains_75 : decode cX12_explains 75 = .ok (.goto 4, 3) := by decide +kernel
theorem dX12_explains_78 : decode cX12_explains 78 = .ok (.iconst 0, 1) := by decide +kernel
theorem dX12_explains_79 : decode cX12_explains 79 = .ok (.istore 9, 2) := by decide +kernel
theorem dX12_explains_81 : decode cX12_explains 81 = .ok (.iinc 10 1, 3) := by decide +kernel
theorem dX12_explains_84 : decode cX12_explains 84 = .ok (.goto (-72), 3) := by decide +kernel
theorem dX12_explains_87 : decode cX12_explains 87 = .ok (.iload 9, 2) := by decide +kernel
theorem dX12_explains_89 : decode cX12_explains 89 = .ok (.ifCond .eq 25, 3) := by decide +kernel
theorem dX12_explains_92 : decode cX12_explains 92 = .ok (.lload 4, 2) := by decide +kernel
theorem dX12_explains_94 : decode cX12_explains 94 = .ok (.invokestatic 13, 3) := by decide +kernel
theorem dX12_explains_97 : decode cX12_explains 97 = .ok (.iload 8, 2) := by decide +kernel
theorem dX12_explains_99 : decode cX12_explains 99 = .ok (.isub, 1) := by decide +kernel
theorem dX12_explains_100 : decode cX12_explains 100 = .ok (.lload_n 2, 1) := by decide +kernel
theorem dX12_explains_101 : decode cX12_explains 101 = .ok (.invokestatic 13, 3) := by decide +kernel
theorem dX12_explains_104 : decode cX12_explains 104 = .ok (.iadd, 1) := by decide +kernel
theorem dX12_explains_105 : decode cX12_explains 105 = .ok (.bipush 20, 2) := by decide +kernel
theorem dX12_explains_107 : decode cX12_explains 107 = .ok (.if_icmp .gt 7, 3) := by decide +kernel
theorem dX12_explains_110 : decode cX12_explains 110 = .ok (.iconst 1, 1) := by decide +kernel
theorem dX12_explains_111 : decode cX12_explains 111 = .ok (.goto 4, 3) := by decide +kernel
theorem dX12_explains_114 : decode cX12_explains 114 = .ok (.iconst 0, 1) := by decide +kernel
theorem dX12_explains_115 : decode cX12_explains 115 = .ok (.ireturn, 1) := by decide +kernel
theorem dX12_explainsAt_0 : decode cX12_explainsAt 0 = .ok (.lload_n 1, 1) := by decide +kernel
theorem dX12_explainsAt_1 : decode cX12_explainsAt 1 = .ok (.lload_n 3, 1) := by decide +kernel
theorem dX12_explainsAt_2 : decode cX12_explainsAt 2 = .ok (.aload_n 0, 1) := by decide +kernel
theorem dX12_explainsAt_3 : decode cX12_explainsAt 3 = .ok (.sipush 299, 3) := by decide +kernel
theorem dX12_explainsAt_6 : decode cX12_explainsAt 6 = .ok (.iconst 4, 1) := by decide +kernel
theorem dX12_explainsAt_7 : decode cX12_explainsAt 7 = .ok (.iload 5, 2) := by decide +kernel
theorem dX12_explainsAt_9 : decode cX12_explainsAt 9 = .ok (.imul, 1) := by decide +kernel
theorem dX12_explainsAt_10 : decode cX12_explainsAt 10 = .ok (.iadd, 1) := by decide +kernel
theorem dX12_explainsAt_11 : decode cX12_explainsAt 11 = .ok (.invokevirtual 118, 3) := by decide +kernel
theorem dX12_explainsAt_14 : decode cX12_explainsAt 14 = .ok (.aload_n 0, 1) := by decide +kernel
theorem dX12_explainsAt_15 : decode cX12_explainsAt 15 = .ok (.sipush 299, 3) := by decide +kernel
theorem dX12_explainsAt_18 : decode cX12_explainsAt 18 = .ok (.iconst 4, 1) := by decide +kernel
theorem dX12_explainsAt_19 : decode cX12_explainsAt 19 = .ok (.iload 5, 2) := by decide +kernel
theorem dX12_explainsAt_21 : decode cX12_explainsAt 21 = .ok (.imul, 1) := by decide +kernel
theorem dX12_explainsAt_22 : decode cX12_explainsAt 22 = .ok (.iadd, 1) := by decide +kernel
theorem dX12_explainsAt_23 : decode cX12_explainsAt 23 = .ok (.iconst 2, 1) := by decide +kernel
theorem dX12_explainsAt_24 : decode cX12_explainsAt 24 = .ok (.iadd, 1) := by decide +kernel
theorem dX12_explainsAt_25 : decode cX12_explainsAt 25 = .ok (.invokevirtual 118, 3) := by decide +kernel
theorem dX12_explainsAt_28 : decode cX12_explainsAt 28 = .ok (.invokestatic 569, 3) := by decide +kernel
theorem dX12_explainsAt_31 : decode cX12_explainsAt 31 = .ok (.ireturn, 1) := by decide +kernel
theorem dX12_explainedBy_0 : decode cX12_explainedBy 0 = .ok (.iconst 0, 1) := by decide +kernel
theorem dX12_explainedBy_1 : decode cX12_explainedBy 1 = .ok (.istore_n 2, 1) := by decide +kernel
theorem dX12_explainedBy_2 : decode cX12_explainedBy 2 = .ok (.iconst 0, 1) := by decide +kernel
theorem dX12_explainedBy_3 : decode cX12_explainedBy 3 = .ok (.istore_n 3, 1) := by decide +kernel
theorem dX12_explainedBy_4 : decode cX12_explainedBy 4 = .ok (.iload_n 3, 1) := by decide +kernel
theorem dX12_explainedBy_5 : decode cX12_explainedBy 5 = .ok (.aload_n 0, 1) := by decide +kernel
theorem dX12_explainedBy_6 : decode cX12_explainedBy 6 = .ok (.invokevirtual 121, 3) := by decide +kernel
theorem dX12_explainedBy_9 : decode cX12_explainedBy 9 = .ok (.if_icmp .ge 37, 3) := by decide +kernel
theorem dX12_explainedBy_12 : decode cX12_explainedBy 12 = .ok (.iload_n 2, 1) := by decide +kernel
theorem dX12_explainedBy_13 : decode cX12_explainedBy 13 = .ok (.aload_n 0, 1) := by decide +kernel
theorem dX12_explainedBy_14 : decode cX12_explainedBy 14 = .ok (.aload_n 0, 1) := by decide +kernel
theorem dX12_explainedBy_15 : decode cX12_explainedBy 15 = .ok (.iload_n 3, 1) := by decide +kernel
theorem dX12_explainedBy_16 : decode cX12_explainedBy 16 = .ok (.invokevirtual 107, 3) := by decide +kernel
theorem dX12_explainedBy_19 : decode cX12_explainedBy 19 = .ok (.aload_n 0, 1) := by decide +kernel
theorem dX12_explainedBy_20 : decode cX12_explainedBy 20 = .ok (.iload_n 3, 1) := by decide +kernel
theorem dX12_explainedBy_21 : decode cX12_explainedBy 21 = .ok (.invokevirtual 111, 3) := by decide +kernel
theorem dX12_explainedBy_24 : decode cX12_explainedBy 24 = .ok (.iload_n 1, 1) := by decide +kernel
theorem dX12_explainedBy_25 : decode cX12_explainedBy 25 = .ok (.invokevirtual 573, 3) := by decide +kernel
theorem dX12_explainedBy_28 : decode cX12_explainedBy 28 = .ok (.ifCond .eq 9, 3) := by decide +kernel
theorem dX12_explainedBy_31 : decode cX12_explainedBy 31 = .ok (.iconst 1, 1) := by decide +kernel
theorem dX12_explainedBy_32 : decode cX12_explainedBy 32 = .ok (.iload_n 3, 1) := by decide +kernel
theorem dX12_explainedBy_33 : decode cX12_explainedBy 33 = .ok (.ishl, 1) := by decide +kernel
theorem dX12_explainedBy_34 : decode cX12_explainedBy 34 = .ok (.goto 4, 3) := by decide +kernel
theorem dX12_explainedBy_37 : decode cX12_explainedBy 37 = .ok (.iconst 0, 1) := by decide +kernel
theorem dX12_explainedBy_38 : decode cX12_explainedBy 38 = .ok (.ior, 1) := by decide +kernel
theorem dX12_explainedBy_39 : decode cX12_explainedBy 39 = .ok (.istore_n 2, 1) := by decide +kernel
theorem dX12_explainedBy_40 : decode cX12_explainedBy 40 = .ok (.iinc 3 1, 3) := by decide +kernel
theorem dX12_explainedBy_43 : decode cX12_explainedBy 43 = .ok (.goto (-39), 3) := by decide +kernel
theorem dX12_explainedBy_46 : decode cX12_explainedBy 46 = .ok (.iload_n 2, 1) := by decide +kernel
theorem dX12_explainedBy_47 : decode cX12_explainedBy 47 = .ok (.ireturn, 1) := by decide +kernel
theorem dX12_explained_0 : decode cX12_explained 0 = .ok (.aload_n 0, 1) := by decide +kernel
theorem dX12_explained_1 : decode cX12_explained 1 = .ok (.iconst 0, 1) := by decide +kernel
theorem dX12_explained_2 : decode cX12_explained 2 = .ok (.putfield 3, 3) := by decide +kernel
theorem dX12_explained_5 : decode cX12_explained 5 = .ok (.aload_n 0, 1) := by decide +kernel
theorem dX12_explained_6 : decode cX12_explained 6 = .ok (.iload_n 1, 1) := by decide +kernel
theorem dX12_explained_7 : decode cX12_explained 7 = .ok (.iconst 0, 1) := by decide +kernel
theorem dX12_explained_8 : decode cX12_explained 8 = .ok (.aload_n 0, 1) := by decide +kernel
theorem dX12_explained_9 : decode cX12_explained 9 = .ok (.getfield 29, 3) := by decide +kernel
theorem dX12_explained_12 : decode cX12_explained 12 = .ok (.iconst 2, 1) := by decide +kernel
theorem dX12_explained_13 : decode cX12_explained 13 = .ok (.iaload, 1) := by decide +kernel
theorem dX12_explained_14 : decode cX12_explained 14 = .ok (.iconst 1, 1) := by decide +kernel
theorem dX12_explained_15 : decode cX12_explained 15 = .ok (.isub, 1) := by decide +kernel
theorem dX12_explained_16 : decode cX12_explained 16 = .ok (.invokestatic 125, 3) := by decide +kernel
theorem dX12_explained_19 : decode cX12_explained 19 = .ok (.ifCond .ne 7, 3) := by decide +kernel
theorem dX12_explained_22 : decode cX12_explained 22 = .ok (.iconst 1, 1) := by decide +kernel
theorem dX12_explained_23 : decode cX12_explained 23 = .ok (.goto 4, 3) := by decide +kernel
theorem dX12_explained_26 : decode cX12_explained 26 = .ok (.iconst 0, 1) := by decide +kernel
theorem dX12_explained_27 : decode cX12_explained 27 = .ok (.iconst 1, 1) := by decide +kernel
theorem dX12_explained_28 : decode cX12_explained 28 = .ok (.invokevirtual 302, 3) := by decide +kernel
theorem dX12_explained_31 : decode cX12_explained 31 = .ok (.ifCond .eq 7, 3) := by decide +kernel
theorem dX12_explained_34 : decode cX12_explained 34 = .ok (.iconst 0, 1) := by decide +kernel
theorem dX12_explained_35 : decode cX12_explained 35 = .ok (.goto 8, 3) := by decide +kernel
theorem dX12_explained_38 : decode cX12_explained 38 = .ok (.aload_n 0, 1) := by decide +kernel
theorem dX12_explained_39 : decode cX12_explained 39 = .ok (.iload_n 1, 1) := by decide +kernel
theorem dX12_explained_40 : decode cX12_explained 40 = .ok (.invokevirtual 576, 3) := by decide +kernel
theorem dX12_explained_43 : decode cX12_explained 43 = .ok (.ireturn, 1) := by decide +kernel
theorem dX12_telling_0 : decode cX12_telling 0 = .ok (.aload_n 0, 1) := by decide +kernel
theorem dX12_telling_1 : decode cX12_telling 1 = .ok (.iconst 0, 1) := by decide +kernel
theorem dX12_telling_2 : decode cX12_telling 2 = .ok (.putfield 3, 3) := by decide +kernel
theorem dX12_telling_5 : decode cX12_telling 5 = .ok (.iconst 0, 1) := by decide +kernel
theorem dX12_telling_6 : decode cX12_telling 6 = .ok (.istore_n 1, 1) := by decide +kernel
theorem dX12_telling_7 : decode cX12_telling 7 = .ok (.iload_n 1, 1) := by decide +kernel
theorem dX12_telling_8 : decode cX12_telling 8 = .ok (.aload_n 0, 1) := by decide +kernel
theorem dX12_telling_9 : decode cX12_telling 9 = .ok (.getfield 29, 3) := by decide +kernel
theorem dX12_telling_12 : decode cX12_telling 12 = .ok (.iconst 2, 1) := by decide +kernel
theorem dX12_telling_13 : decode cX12_telling 13 = .ok (.iaload, 1) := by decide +kernel
theorem dX12_telling_14 : decode cX12_telling 14 = .ok (.if_icmp .ge 20, 3) := by decide +kernel
theorem dX12_telling_17 : decode cX12_telling 17 = .ok (.aload_n 0, 1) := by decide +kernel
theorem dX12_telling_18 : decode cX12_telling 18 = .ok (.getfield 83, 3) := by decide +kernel
theorem dX12_telling_21 : decode cX12_telling 21 = .ok (.iload_n 1, 1) := by decide +kernel
theorem dX12_telling_22 : decode cX12_telling 22 = .ok (.aload_n 0, 1) := by decide +kernel
theorem dX12_telling_23 : decode cX12_telling 23 = .ok (.iload_n 1, 1) := by decide +kernel
theorem dX12_telling_24 : decode cX12_telling 24 = .ok (.invokevirtual 576, 3) := by decide +kernel
theorem dX12_telling_27 : decode cX12_telling 27 = .ok (.iastore, 1) := by decide +kernel
theorem dX12_telling_28 : decode cX12_telling 28 = .ok (.iinc 1 1, 3) := by decide +kernel
theorem dX12_telling_31 : decode cX12_telling 31 = .ok (.goto (-24), 3) := by decide +kernel
theorem dX12_telling_34 : decode cX12_telling 34 = .ok (.iconst (-1), 1) := by decide +kernel
theorem dX12_telling_35 : decode cX12_telling 35 = .ok (.istore_n 1, 1) := by decide +kernel
theorem dX12_telling_36 : decode cX12_telling 36 = .ok (.iconst 0, 1) := by decide +kernel
theorem dX12_telling_37 : decode cX12_telling 37 = .ok (.istore_n 2, 1) := by decide +kernel
theorem dX12_telling_38 : decode cX12_telling 38 = .ok (.iload_n 2, 1) := by decide +kernel
theorem dX12_telling_39 : decode cX12_telling 39 = .ok (.iconst 1, 1) := by decide +kernel
theorem dX12_telling_40 : decode cX12_telling 40 = .ok (.aload_n 0, 1) := by decide +kernel
theorem dX12_telling_41 : decode cX12_telling 41 = .ok (.invokevirtual 121, 3) := by decide +kernel
theorem dX12_telling_44 : decode cX12_telling 44 = .ok (.ishl, 1) := by decide +kernel
theorem dX12_telling_45 : decode cX12_telling 45 = .ok (.if_icmp .ge 82, 3) := by decide +kernel
theorem dX12_telling_48 : decode cX12_telling 48 = .ok (.iload_n 1, 1) := by decide +kernel
theorem dX12_telling_49 : decode cX12_telling 49 = .ok (.ifCond .lt 14, 3) := by decide +kernel
theorem dX12_telling_52 : decode cX12_telling 52 = .ok (.iload_n 2, 1) := by decide +kernel
theorem dX12_telling_53 : decode cX12_telling 53 = .ok (.invokestatic 532, 3) := by decide +kernel
theorem dX12_telling_56 : decode cX12_telling 56 = .ok (.iload_n 1, 1) := by decide +kernel
theorem dX12_telling_57 : decode cX12_telling 57 = .ok (.invokestatic 532, 3) := by decide +kernel
theorem dX12_telling_60 : decode cX12_telling 60 = .ok (.if_icmp .ge 7, 3) := by decide +kernel
theorem dX12_telling_63 : decode cX12_telling 63 = .ok (.iconst 1, 1) := by decide +kernel
theorem dX12_telling_64 : decode cX12_telling 64 = .ok (.goto 4, 3) := by decide +kernel
theorem dX12_telling_67 : decode cX12_telling 67 = .ok (.iconst 0, 1) := by decide +kernel
theorem dX12_telling_68 : decode cX12_telling 68 = .ok (.istore_n 3, 1) := by decide +kernel
theorem dX12_telling_69 : decode cX12_telling 69 = .ok (.iconst 0, 1) := by decide +kernel
theorem dX12_telling_70 : decode cX12_telling 70 = .ok (.istore 4, 2) := by decide +kernel
theorem dX12_telling_72 : decode cX12_telling 72 = .ok (.iload 4, 2) := by decide +kernel
theorem dX12_telling_74 : decode cX12_telling 74 = .ok (.aload_n 0, 1) := by decide +kernel
theorem dX12_telling_75 : decode cX12_telling 75 = .ok (.getfield 29, 3) := by decide +kernel
theorem dX12_telling_78 : decode cX12_telling 78 = .ok (.iconst 2, 1) := by decide +kernel
theorem dX12_telling_79 : decode cX12_telling 79 = .ok (.iaload, 1) := by decide +kernel
theorem dX12_telling_80 : decode cX12_telling 80 = .ok (.if_icmp .ge 31, 3) := by decide +kernel
theorem dX12_telling_83 : decode cX12_telling 83 = .ok (.iload_n 3, 1) := by decide +kernel
theorem dX12_telling_84 : decode cX12_telling 84 = .ok (.ifCond .eq 19, 3) := by decide +kernel
theorem dX12_telling_87 : decode cX12_telling 87 = .ok (.aload_n 0, 1) := by decide +kernel
theorem dX12_telling_88 : decode cX12_telling 88 = .ok (.getfield 83, 3) := by decide +kernel
theorem dX12_telling_91 : decode cX12_telling 91 = .ok (.iload 4, 2) := by decide +kernel
theorem dX12_telling_93 : decode cX12_telling 93 = .ok (.iaload, 1) := by decide +kernel
theorem dX12_telling_94 : decode cX12_telling 94 = .ok (.iload_n 2, 1) := by decide +kernel
theorem dX12_telling_95 : decode cX12_telling 95 = .ok (.iand, 1) := by decide +kernel
theorem dX12_telling_96 : decode cX12_telling 96 = .ok (.ifCond .eq 7, 3) := by decide +kernel
theorem dX12_telling_99 : decode cX12_telling 99 = .ok (.iconst 1, 1) := by decide +kernel
theorem dX12_telling_100 : decode cX12_telling 100 = .ok (.goto 4, 3) := by decide +kernel
theorem dX12_telling_103 : decode cX12_telling 103 = .ok (.iconst 0, 1) := by decide +kernel
theorem dX12_telling_104 : decode cX12_telling 104 = .ok (.istore_n 3, 1) := by decide +kernel
theorem dX12_telling_105 : decode cX12_telling 105 = .ok (.iinc 4 1, 3) := by decide +kernel
theorem dX12_telling_108 : decode cX12_telling 108 = .ok (.goto (-36), 3) := by decide +kernel
theorem dX12_telling_111 : decode cX12_telling 111 = .ok (.iload_n 3, 1) := by decide +kernel
theorem dX12_telling_112 : decode cX12_telling 112 = .ok (.ifCond .eq 7, 3) := by decide +kernel
theorem dX12_telling_115 : decode cX12_telling 115 = .ok (.iload_n 2, 1) := by decide +kernel
theorem dX12_telling_116 : decode cX12_telling 116 = .ok (.goto 4, 3) := by decide +kernel
theorem dX12_telling_119 : decode cX12_telling 119 = .ok (.iload_n 1, 1) := by decide +kernel
theorem dX12_telling_120 : decode cX12_telling 120 = .ok (.istore_n 1, 1) := by decide +kernel
theorem dX12_telling_121 : decode cX12_telling 121 = .ok (.iinc 2 1, 3) := by decide +kernel
theorem dX12_telling_124 : decode cX12_telling 124 = .ok (.goto (-86), 3) := by decide +kernel
theorem dX12_telling_127 : decode cX12_telling 127 = .ok (.iload_n 1, 1) := by decide +kernel
theorem dX12_telling_128 : decode cX12_telling 128 = .ok (.ireturn, 1) := by decide +kernel
theorem dX12_guess_0 : decode cX12_guess 0 = .ok (.lload_n 1, 1) := by decide +kernel
theorem dX12_guess_1 : decode cX12_guess 1 = .ok (.lload_n 3, 1) := by decide +kernel
theorem dX12_guess_2 : decode cX12_guess 2 = .ok (.lcmp, 1) := by decide +kernel
theorem dX12_guess_3 : decode cX12_guess 3 = .ok (.ifCond .eq 7, 3) := by decide +kernel
theorem dX12_guess_6 : decode cX12_guess 6 = .ok (.iconst 1, 1) := by decide +kernel
theorem dX12_guess_7 : decode cX12_guess 7 = .ok (.goto 4, 3) := by decide +kernel
theorem dX12_guess_10 : decode cX12_guess 10 = .ok (.iconst 0, 1) := by decide +kernel
theorem dX12_guess_11 : decode cX12_guess 11 = .ok (.istore 5, 2) := by decide +kernel
theorem dX12_guess_13 : decode cX12_guess 13 = .ok (.iconst 0, 1) := by decide +kernel
theorem dX12_guess_14 : decode cX12_guess 14 = .ok (.istore 6, 2) := by decide +kernel
theorem dX12_guess_16 : decode cX12_guess 16 = .ok (.iload 6, 2) := by decide +kernel
theorem dX12_guess_18 : decode cX12_guess 18 = .ok (.aload_n 0, 1) := by decide +kernel
theorem dX12_guess_19 : decode cX12_guess 19 = .ok (.getfield 29, 3) := by decide +kernel
theorem dX12_guess_22 : decode cX12_guess 22 = .ok (.iconst 2, 1) := by decide +kernel
theorem dX12_guess_23 : decode cX12_guess 23 = .ok (.iaload, 1) := by decide +kernel
theorem dX12_guess_24 : decode cX12_guess 24 = .ok (.if_icmp .ge 32, 3) := by decide +kernel
theorem dX12_guess_27 : decode cX12_guess 27 = .ok (.iload 5, 2) := by decide +kernel
theorem dX12_guess_29 : decode cX12_guess 29 = .ok (.ifCond .eq 18, 3) := by decide +kernel
theorem dX12_guess_32 : decode cX12_guess 32 = .ok (.aload_n 0, 1) := by decide +kernel
theorem dX12_guess_33 : decode cX12_guess 33 = .ok (.lload_n 1, 1) := by decide +kernel
theorem dX12_guess_34 : decode cX12_guess 34 = .ok (.lload_n 3, 1) := by decide +kernel
theorem dX12_guess_35 : decode cX12_guess 35 = .ok (.iload 6, 2) := by decide +kernel
theorem dX12_guess_37 : decode cX12_guess 37 = .ok (.invokevirtual 573, 3) := by decide +kernel
theorem dX12_guess_40 : decode cX12_guess 40 = .ok (.ifCond .eq 7, 3) := by decide +kernel
theorem dX12_guess_43 : decode cX12_guess 43 = .ok (.iconst 1, 1) := by decide +kernel
theorem dX12_guess_44 : decode cX12_guess 44 = .ok (.goto 4, 3) := by decide +kernel
theorem dX12_guess_47 : decode cX12_guess 47 = .ok (.iconst 0, 1) := by decide +kernel
theorem dX12_guess_48 : decode cX12_guess 48 = .ok (.istore 5, 2) := by decide +kernel
theorem dX12_guess_50 : decode cX12_guess 50 = .ok (.iinc 6 1, 3) := by decide +kernel
theorem dX12_guess_53 : decode cX12_guess 53 = .ok (.goto (-37), 3) := by decide +kernel
theorem dX12_guess_56 : decode cX12_guess 56 = .ok (.iconst 0, 1) := by decide +kernel
theorem dX12_guess_57 : decode cX12_guess 57 = .ok (.istore 6, 2) := by decide +kernel
theorem dX12_guess_59 : decode cX12_guess 59 = .ok (.iload 6, 2) := by decide +kernel
theorem dX12_guess_61 : decode cX12_guess 61 = .ok (.aload_n 0, 1) := by decide +kernel
theorem dX12_guess_62 : decode cX12_guess 62 = .ok (.getfield 579, 3) := by decide +kernel
theorem dX12_guess_65 : decode cX12_guess 65 = .ok (.if_icmp .ge 45, 3) := by decide +kernel
theorem dX12_guess_68 : decode cX12_guess 68 = .ok (.iload 5, 2) := by decide +kernel
theorem dX12_guess_70 : decode cX12_guess 70 = .ok (.ifCond .eq 31, 3) := by decide +kernel
theorem dX12_guess_73 : decode cX12_guess 73 = .ok (.aload_n 0, 1) := by decide +kernel
theorem dX12_guess_74 : decode cX12_guess 74 = .ok (.getfield 86, 3) := by decide +kernel
theorem dX12_guess_77 : decode cX12_guess 77 = .ok (.iload 6, 2) := by decide +kernel
theorem dX12_guess_79 : decode cX12_guess 79 = .ok (.laload, 1) := by decide +kernel
theorem dX12_guess_80 : decode cX12_guess 80 = .ok (.lload_n 1, 1) := by decide +kernel
theorem dX12_guess_81 : decode cX12_guess 81 = .ok (.lcmp, 1) := by decide +kernel
theorem dX12_guess_82 : decode cX12_guess 82 = .ok (.ifCond .ne 15, 3) := by decide +kernel
theorem dX12_guess_85 : decode cX12_guess 85 = .ok (.aload_n 0, 1) := by decide +kernel
theorem dX12_guess_86 : decode cX12_guess 86 = .ok (.getfield 89, 3) := by decide +kernel
theorem dX12_guess_89 : decode cX12_guess 89 = .ok (.iload 6, 2) := by decide +kernel
theorem dX12_guess_91 : decode cX12_guess 91 = .ok (.laload, 1) := by decide +kernel
theorem dX12_guess_92 : decode cX12_guess 92 = .ok (.lload_n 3, 1) := by decide +kernel
theorem dX12_guess_93 : decode cX12_guess 93 = .ok (.lcmp, 1) := by decide +kernel
theorem dX12_guess_94 : decode cX12_guess 94 = .ok (.ifCond .eq 7, 3) := by decide +kernel
theorem dX12_guess_97 : decode cX12_guess 97 = .ok (.iconst 1, 1) := by decide +kernel
theorem dX12_guess_98 : decode cX12_guess 98 = .ok (.goto 4, 3) := by decide +kernel
theorem dX12_guess_101 : decode cX12_guess 101 = .ok (.iconst 0, 1) := by decide +kernel
theorem dX12_guess_102 : decode cX12_guess 102 = .ok (.istore 5, 2) := by decide +kernel
theorem dX12_guess_104 : decode cX12_guess 104 = .ok (.iinc 6 1, 3) := by decide +kernel
theorem dX12_guess_107 : decode cX12_guess 107 = .ok (.goto (-48), 3) := by decide +kernel
theorem dX12_guess_110 : decode cX12_guess 110 = .ok (.iload 5, 2) := by decide +kernel
theorem dX12_guess_112 : decode cX12_guess 112 = .ok (.ifCond .ne 4, 3) := by decide +kernel
theorem dX12_guess_115 : decode cX12_guess 115 = .ok (.return_, 1) := by decide +kernel
theorem dX12_guess_116 : decode cX12_guess 116 = .ok (.aload_n 0, 1) := by decide +kernel
theorem dX12_guess_117 : decode cX12_guess 117 = .ok (.getfield 86, 3) := by decide +kernel
theorem dX12_guess_120 : decode cX12_guess 120 = .ok (.aload_n 0, 1) := by decide +kernel
theorem dX12_guess_121 : decode cX12_guess 121 = .ok (.getfield 579, 3) := by decide +kernel
theorem dX12_guess_124 : decode cX12_guess 124 = .ok (.lload_n 1, 1) := by decide +kernel
theorem dX12_guess_125 : decode cX12_guess 125 = .ok (.lastore, 1) := by decide +kernel
theorem dX12_guess_126 : decode cX12_guess 126 = .ok (.aload_n 0, 1) := by decide +kernel
theorem dX12_guess_127 : decode cX12_guess 127 = .ok (.getfield 89, 3) := by decide +kernel
theorem dX12_guess_130 : decode cX12_guess 130 = .ok (.aload_n 0, 1) := by decide +kernel
theorem dX12_guess_131 : decode cX12_guess 131 = .ok (.getfield 579, 3) := by decide +kernel
theorem dX12_guess_134 : decode cX12_guess 134 = .ok (.lload_n 3, 1) := by decide +kernel
theorem dX12_guess_135 : decode cX12_guess 135 = .ok (.lastore, 1) := by decide +kernel
theorem dX12_guess_136 : decode cX12_guess 136 = .ok (.aload_n 0, 1) := by decide +kernel
theorem dX12_guess_137 : decode cX12_guess 137 = .ok (.dup, 1) := by decide +kernel
theorem dX12_guess_138 : decode cX12_guess 138 = .ok (.getfield 579, 3) := by decide +kernel
theorem dX12_guess_141 : decode cX12_guess 141 = .ok (.iconst 1, 1) := by decide +kernel
theorem dX12_guess_142 : decode cX12_guess 142 = .ok (.iadd, 1) := by decide +kernel
theorem dX12_guess_143 : decode cX12_guess 143 = .ok (.putfield 579, 3) := by decide +kernel
theorem dX12_guess_146 : decode cX12_guess 146 = .ok (.return_, 1) := by decide +kernel
theorem dX12_isAhead_0 : decode cX12_isAhead 0 = .ok (.aload_n 0, 1) := by decide +kernel
theorem dX12_isAhead_1 : decode cX12_isAhead 1 = .ok (.getfield 86, 3) := by decide +kernel
theorem dX12_isAhead_4 : decode cX12_isAhead 4 = .ok (.iload_n 1, 1) := by decide +kernel
theorem dX12_isAhead_5 : decode cX12_isAhead 5 = .ok (.laload, 1) := by decide +kernel
theorem dX12_isAhead_6 : decode cX12_isAhead 6 = .ok (.invokestatic 13, 3) := by decide +kernel
theorem dX12_isAhead_9 : decode cX12_isAhead 9 = .ok (.aload_n 0, 1) := by decide +kernel
theorem dX12_isAhead_10 : decode cX12_isAhead 10 = .ok (.getfield 86, 3) := by decide +kernel
theorem dX12_isAhead_13 : decode cX12_isAhead 13 = .ok (.iload_n 2, 1) := by decide +kernel
theorem dX12_isAhead_14 : decode cX12_isAhead 14 = .ok (.laload, 1) := by decide +kernel
theorem dX12_isAhead_15 : decode cX12_isAhead 15 = .ok (.invokestatic 13, 3) := by decide +kernel
theorem dX12_isAhead_18 : decode cX12_isAhead 18 = .ok (.if_icmp .eq 30, 3) := by decide +kernel
theorem dX12_isAhead_21 : decode cX12_isAhead 21 = .ok (.aload_n 0, 1) := by decide +kernel
theorem dX12_isAhead_22 : decode cX12_isAhead 22 = .ok (.getfield 86, 3) := by decide +kernel
theorem dX12_isAhead_25 : decode cX12_isAhead 25 = .ok (.iload_n 1, 1) := by decide +kernel
theorem dX12_isAhead_26 : decode cX12_isAhead 26 = .ok (.laload, 1) := by decide +kernel
theorem dX12_isAhead_27 : decode cX12_isAhead 27 = .ok (.invokestatic 13, 3) := by decide +kernel
theorem dX12_isAhead_30 : decode cX12_isAhead 30 = .ok (.aload_n 0, 1) := by decide +kernel
theorem dX12_isAhead_31 : decode cX12_isAhead 31 = .ok (.getfield 86, 3) := by decide +kernel
theorem dX12_isAhead_34 : decode cX12_isAhead 34 = .ok (.iload_n 2, 1) := by decide +kernel
theorem dX12_isAhead_35 : decode cX12_isAhead 35 = .ok (.laload, 1) := by decide +kernel
theorem dX12_isAhead_36 : decode cX12_isAhead 36 = .ok (.invokestatic 13, 3) := by decide +kernel
theorem dX12_isAhead_39 : decode cX12_isAhead 39 = .ok (.if_icmp .ge 7, 3) := by decide +kernel
theorem dX12_isAhead_42 : decode cX12_isAhead 42 = .ok (.iconst 1, 1) := by decide +kernel
theorem dX12_isAhead_43 : decode cX12_isAhead 43 = .ok (.goto 4, 3) := by decide +kernel
theorem dX12_isAhead_46 : decode cX12_isAhead 46 = .ok (.iconst 0, 1) := by decide +kernel
theorem dX12_isAhead_47 : decode cX12_isAhead 47 = .ok (.ireturn, 1) := by decide +kernel
theorem dX12_isAhead_48 : decode cX12_isAhead 48 = .ok (.aload_n 0, 1) := by decide +kernel
theorem dX12_isAhead_49 : decode cX12_isAhead 49 = .ok (.getfield 89, 3) := by decide +kernel
theorem dX12_isAhead_52 : decode cX12_isAhead 52 = .ok (.iload_n 1, 1) := by decide +kernel
theorem dX12_isAhead_53 : decode cX12_isAhead 53 = .ok (.laload, 1) := by decide +kernel
theorem dX12_isAhead_54 : decode cX12_isAhead 54 = .ok (.invokestatic 13, 3) := by decide +kernel
theorem dX12_isAhead_57 : decode cX12_isAhead 57 = .ok (.aload_n 0, 1) := by decide +kernel
theorem dX12_isAhead_58 : decode cX12_isAhead 58 = .ok (.getfield 89, 3) := by decide +kernel
theorem dX12_isAhead_61 : decode cX12_isAhead 61 = .ok (.iload_n 2, 1) := by decide +kernel
theorem dX12_isAhead_62 : decode cX12_isAhead 62 = .ok (.laload, 1) := by decide +kernel
theorem dX12_isAhead_63 : decode cX12_isAhead 63 = .ok (.invokestatic 13, 3) := by decide +kernel
theorem dX12_isAhead_66 : decode cX12_isAhead 66 = .ok (.if_icmp .eq 30, 3) := by decide +kernel
theorem dX12_isAhead_69 : decode cX12_isAhead 69 = .ok (.aload_n 0, 1) := by decide +kernel
theorem dX12_isAhead_70 : decode cX12_isAhead 70 = .ok (.getfield 89, 3) := by decide +kernel
theorem dX12_isAhead_73 : decode cX12_isAhead 73 = .ok (.iload_n 1, 1) := by decide +kernel
theorem dX12_isAhead_74 : decode cX12_isAhead 74 = .ok (.laload, 1) := by decide +kernel
theorem dX12_isAhead_75 : decode cX12_isAhead 75 = .ok (.invokestatic 13, 3) := by decide +kernel
theorem dX12_isAhead_78 : decode cX12_isAhead 78 = .ok (.aload_n 0, 1) := by decide +kernel
theorem dX12_isAhead_79 : decode cX12_isAhead 79 = .ok (.getfield 89, 3) := by decide +kernel
theorem dX12_isAhead_82 : decode cX12_isAhead 82 = .ok (.iload_n 2, 1) := by decide +kernel
theorem dX12_isAhead_83 : decode cX12_isAhead 83 = .ok (.laload, 1) := by decide +kernel
theorem dX12_isAhead_84 : decode cX12_isAhead 84 = .ok (.invokestatic 13, 3) := by decide +kernel
theorem dX12_isAhead_87 : decode cX12_isAhead 87 = .ok (.if_icmp .ge 7, 3) := by decide +kernel
theorem dX12_isAhead_90 : decode cX12_isAhead 90 = .ok (.iconst 1, 1) := by decide +kernel
theorem dX12_isAhead_91 : decode cX12_isAhead 91 = .ok (.goto 4, 3) := by decide +kernel
theorem dX12_isAhead_94 : decode cX12_isAhead 94 = .ok (.iconst 0, 1) := by decide +kernel
theorem dX12_isAhead_95 : decode cX12_isAhead 95 = .ok (.ireturn, 1) := by decide +kernel
theorem dX12_isAhead_96 : decode cX12_isAhead 96 = .ok (.aload_n 0, 1) := by decide +kernel
theorem dX12_isAhead_97 : decode cX12_isAhead 97 = .ok (.getfield 86, 3) := by decide +kernel
theorem dX12_isAhead_100 : decode cX12_isAhead 100 = .ok (.iload_n 1, 1) := by decide +kernel
theorem dX12_isAhead_101 : decode cX12_isAhead 101 = .ok (.laload, 1) := by decide +kernel
theorem dX12_isAhead_102 : decode cX12_isAhead 102 = .ok (.aload_n 0, 1) := by decide +kernel
theorem dX12_isAhead_103 : decode cX12_isAhead 103 = .ok (.getfield 86, 3) := by decide +kernel
theorem dX12_isAhead_106 : decode cX12_isAhead 106 = .ok (.iload_n 2, 1) := by decide +kernel
theorem dX12_isAhead_107 : decode cX12_isAhead 107 = .ok (.laload, 1) := by decide +kernel
theorem dX12_isAhead_108 : decode cX12_isAhead 108 = .ok (.lcmp, 1) := by decide +kernel
theorem dX12_isAhead_109 : decode cX12_isAhead 109 = .ok (.ifCond .eq 27, 3) := by decide +kernel
theorem dX12_isAhead_112 : decode cX12_isAhead 112 = .ok (.aload_n 0, 1) := by decide +kernel
theorem dX12_isAhead_113 : decode cX12_isAhead 113 = .ok (.getfield 86, 3) := by decide +kernel
theorem dX12_isAhead_116 : decode cX12_isAhead 116 = .ok (.iload_n 1, 1) := by decide +kernel
theorem dX12_isAhead_117 : decode cX12_isAhead 117 = .ok (.laload, 1) := by decide +kernel
theorem dX12_isAhead_118 : decode cX12_isAhead 118 = .ok (.aload_n 0, 1) := by decide +kernel
theorem dX12_isAhead_119 : decode cX12_isAhead 119 = .ok (.getfield 86, 3) := by decide +kernel
theorem dX12_isAhead_122 : decode cX12_isAhead 122 = .ok (.iload_n 2, 1) := by decide +kernel
theorem dX12_isAhead_123 : decode cX12_isAhead 123 = .ok (.laload, 1) := by decide +kernel
theorem dX12_isAhead_124 : decode cX12_isAhead 124 = .ok (.lcmp, 1) := by decide +kernel
theorem dX12_isAhead_125 : decode cX12_isAhead 125 = .ok (.ifCond .ge 7, 3) := by decide +kernel
theorem dX12_isAhead_128 : decode cX12_isAhead 128 = .ok (.iconst 1, 1) := by decide +kernel
theorem dX12_isAhead_129 : decode cX12_isAhead 129 = .ok (.goto 28, 3) := by decide +kernel
theorem dX12_isAhead_132 : decode cX12_isAhead 132 = .ok (.iconst 0, 1) := by decide +kernel
theorem dX12_isAhead_133 : decode cX12_isAhead 133 = .ok (.goto 24, 3) := by decide +kernel
theorem dX12_isAhead_136 : decode cX12_isAhead 136 = .ok (.aload_n 0, 1) := by decide +kernel
theorem dX12_isAhead_137 : decode cX12_isAhead 137 = .ok (.getfield 89, 3) := by decide +kernel
theorem dX12_isAhead_140 : decode cX12_isAhead 140 = .ok (.iload_n 1, 1) := by decide +kernel
theorem dX12_isAhead_141 : decode cX12_isAhead 141 = .ok (.laload, 1) := by decide +kernel
theorem dX12_isAhead_142 : decode cX12_isAhead 142 = .ok (.aload_n 0, 1) := by decide +kernel
theorem dX12_isAhead_143 : decode cX12_isAhead 143 = .ok (.getfield 89, 3) := by decide +kernel
theorem dX12_isAhead_146 : decode cX12_isAhead 146 = .ok (.iload_n 2, 1) := by decide +kernel
theorem dX12_isAhead_147 : decode cX12_isAhead 147 = .ok (.laload, 1) := by decide +kernel
theorem dX12_isAhead_148 : decode cX12_isAhead 148 = .ok (.lcmp, 1) := by decide +kernel
theorem dX12_isAhead_149 : decode cX12_isAhead 149 = .ok (.ifCond .ge 7, 3) := by decide +kernel
theorem dX12_isAhead_152 : decode cX12_isAhead 152 = .ok (.iconst 1, 1) := by decide +kernel
theorem dX12_isAhead_153 : decode cX12_isAhead 153 = .ok (.goto 4, 3) := by decide +kernel
theorem dX12_isAhead_156 : decode cX12_isAhead 156 = .ok (.iconst 0, 1) := by decide +kernel
theorem dX12_isAhead_157 : decode cX12_isAhead 157 = .ok (.ireturn, 1) := by decide +kernel
theorem dX12_guessed_0 : decode cX12_guessed 0 = .ok (.aload_n 0, 1) := by decide +kernel
theorem dX12_guessed_1 : decode cX12_guessed 1 = .ok (.iconst 0, 1) := by decide +kernel
theorem dX12_guessed_2 : decode cX12_guessed 2 = .ok (.putfield 3, 3) := by decide +kernel
theorem dX12_guessed_5 : decode cX12_guessed 5 = .ok (.aload_n 0, 1) := by decide +kernel
theorem dX12_guessed_6 : decode cX12_guessed 6 = .ok (.iload_n 1, 1) := by decide +kernel
theorem dX12_guessed_7 : decode cX12_guessed 7 = .ok (.iconst 0, 1) := by decide +kernel
theorem dX12_guessed_8 : decode cX12_guessed 8 = .ok (.iconst 2, 1) := by decide +kernel
theorem dX12_guessed_9 : decode cX12_guessed 9 = .ok (.invokestatic 125, 3) := by decide +kernel
theorem dX12_guessed_12 : decode cX12_guessed 12 = .ok (.ifCond .ne 7, 3) := by decide +kernel
theorem dX12_guessed_15 : decode cX12_guessed 15 = .ok (.iconst 1, 1) := by decide +kernel
theorem dX12_guessed_16 : decode cX12_guessed 16 = .ok (.goto 4, 3) := by decide +kernel
theorem dX12_guessed_19 : decode cX12_guessed 19 = .ok (.iconst 0, 1) := by decide +kernel
theorem dX12_guessed_20 : decode cX12_guessed 20 = .ok (.iconst 1, 1) := by decide +kernel
theorem dX12_guessed_21 : decode cX12_guessed 21 = .ok (.invokevirtual 302, 3) := by decide +kernel
theorem dX12_guessed_24 : decode cX12_guessed 24 = .ok (.ifCond .eq 5, 3) := by decide +kernel
theorem dX12_guessed_27 : decode cX12_guessed 27 = .ok (.lconst 0, 1) := by decide +kernel
theorem dX12_guessed_28 : decode cX12_guessed 28 = .ok (.lreturn, 1) := by decide +kernel
theorem dX12_guessed_29 : decode cX12_guessed 29 = .ok (.aload_n 0, 1) := by decide +kernel
theorem dX12_guessed_30 : decode cX12_guessed 30 = .ok (.iconst 0, 1) := by decide +kernel
theorem dX12_guessed_31 : decode cX12_guessed 31 = .ok (.putfield 579, 3) := by decide +kernel
theorem dX12_guessed_34 : decode cX12_guessed 34 = .ok (.aload_n 0, 1) := by decide +kernel
theorem dX12_guessed_35 : decode cX12_guessed 35 = .ok (.getfield 29, 3) := by decide +kernel
theorem dX12_guessed_38 : decode cX12_guessed 38 = .ok (.iconst 2, 1) := by decide +kernel
theorem dX12_guessed_39 : decode cX12_guessed 39 = .ok (.iaload, 1) := by decide +kernel
theorem dX12_guessed_40 : decode cX12_guessed 40 = .ok (.ifCond .ne 7, 3) := by decide +kernel
theorem dX12_guessed_43 : decode cX12_guessed 43 = .ok (.lconst 1, 1) := by decide +kernel
theorem dX12_guessed_44 : decode cX12_guessed 44 = .ok (.goto 10, 3) := by decide +kernel
theorem dX12_guessed_47 : decode cX12_guessed 47 = .ok (.aload_n 0, 1) := by decide +kernel
theorem dX12_guessed_48 : decode cX12_guessed 48 = .ok (.sipush 299, 3) := by decide +kernel
theorem dX12_guessed_51 : decode cX12_guessed 51 = .ok (.invokevirtual 118, 3) := by decide +kernel
theorem dX12_guessed_54 : decode cX12_guessed 54 = .ok (.lstore_n 2, 1) := by decide +kernel
theorem dX12_guessed_55 : decode cX12_guessed 55 = .ok (.aload_n 0, 1) := by decide +kernel
theorem dX12_guessed_56 : decode cX12_guessed 56 = .ok (.getfield 29, 3) := by decide +kernel
theorem dX12_guessed_59 : decode cX12_guessed 59 = .ok (.iconst 2, 1) := by decide +kernel
theorem dX12_guessed_60 : decode cX12_guessed 60 = .ok (.iaload, 1) := by decide +kernel
theorem dX12_guessed_61 : decode cX12_guessed 61 = .ok (.ifCond .ne 7, 3) := by decide +kernel
theorem dX12_guessed_64 : decode cX12_guessed 64 = .ok (.lconst 1, 1) := by decide +kernel
theorem dX12_guessed_65 : decode cX12_guessed 65 = .ok (.goto 10, 3) := by decide +kernel
theorem dX12_guessed_68 : decode cX12_guessed 68 = .ok (.aload_n 0, 1) := by decide +kernel
theorem dX12_guessed_69 : decode cX12_guessed 69 = .ok (.sipush 301, 3) := by decide +kernel
theorem dX12_guessed_72 : decode cX12_guessed 72 = .ok (.invokevirtual 118, 3) := by decide +kernel
theorem dX12_guessed_75 : decode cX12_guessed 75 = .ok (.lstore 4, 2) := by decide +kernel
theorem dX12_guessed_77 : decode cX12_guessed 77 = .ok (.iconst 1, 1) := by decide +kernel
theorem dX12_guessed_78 : decode cX12_guessed 78 = .ok (.istore 6, 2) := by decide +kernel
theorem dX12_guessed_80 : decode cX12_guessed 80 = .ok (.iload 6, 2) := by decide +kernel
theorem dX12_guessed_82 : decode cX12_guessed 82 = .ok (.iconst 4, 1) := by decide +kernel
theorem dX12_guessed_83 : decode cX12_guessed 83 = .ok (.if_icmp .ge 76, 3) := by decide +kernel
theorem dX12_guessed_86 : decode cX12_guessed 86 = .ok (.lload 4, 2) := by decide +kernel
theorem dX12_guessed_88 : decode cX12_guessed 88 = .ok (.invokestatic 13, 3) := by decide +kernel
theorem dX12_guessed_91 : decode cX12_guessed 91 = .ok (.lload_n 2, 1) := by decide +kernel
theorem dX12_guessed_92 : decode cX12_guessed 92 = .ok (.invokestatic 13, 3) := by decide +kernel
theorem dX12_guessed_95 : decode cX12_guessed 95 = .ok (.isub, 1) := by decide +kernel
theorem dX12_guessed_96 : decode cX12_guessed 96 = .ok (.iload 6, 2) := by decide +kernel
theorem dX12_guessed_98 : decode cX12_guessed 98 = .ok (.iadd, 1) := by decide +kernel
theorem dX12_guessed_99 : decode cX12_guessed 99 = .ok (.istore 7, 2) := by decide +kernel
theorem dX12_guessed_101 : decode cX12_guessed 101 = .ok (.iconst 0, 1) := by decide +kernel
theorem dX12_guessed_102 : decode cX12_guessed 102 = .ok (.istore 8, 2) := by decide +kernel
theorem dX12_guessed_104 : decode cX12_guessed 104 = .ok (.iload 7, 2) := by decide +kernel
theorem dX12_guessed_106 : decode cX12_guessed 106 = .ok (.iconst 0, 1) := by decide +kernel
theorem dX12_guessed_107 : decode cX12_guessed 107 = .ok (.iconst 3, 1) := by decide +kernel
theorem dX12_guessed_108 : decode cX12_guessed 108 = .ok (.invokestatic 125, 3) := by decide +kernel
theorem dX12_guessed_111 : decode cX12_guessed 111 = .ok (.ifCond .eq 42, 3) := by decide +kernel
theorem dX12_guessed_114 : decode cX12_guessed 114 = .ok (.iload 8, 2) := by decide +kernel
theorem dX12_guessed_116 : decode cX12_guessed 116 = .ok (.iload 6, 2) := by decide +kernel
theorem dX12_guessed_118 : decode cX12_guessed 118 = .ok (.iadd, 1) := by decide +kernel
theorem dX12_guessed_119 : decode cX12_guessed 119 = .ok (.lload_n 2, 1) := by decide +kernel
theorem dX12_guessed_120 : decode cX12_guessed 120 = .ok (.invokestatic 13, 3) := by decide +kernel
theorem dX12_guessed_123 : decode cX12_guessed 123 = .ok (.if_icmp .gt 30, 3) := by decide +kernel
theorem dX12_guessed_126 : decode cX12_guessed 126 = .ok (.aload_n 0, 1) := by decide +kernel
theorem dX12_guessed_127 : decode cX12_guessed 127 = .ok (.lload_n 2, 1) := by decide +kernel
theorem dX12_guessed_128 : decode cX12_guessed 128 = .ok (.iload 8, 2) := by decide +kernel
theorem dX12_guessed_130 : decode cX12_guessed 130 = .ok (.iload 6, 2) := by decide +kernel
theorem dX12_guessed_132 : decode cX12_guessed 132 = .ok (.invokestatic 328, 3) := by decide +kernel
theorem dX12_guessed_135 : decode cX12_guessed 135 = .ok (.lload 4, 2) := by decide +kernel
theorem dX12_guessed_137 : decode cX12_guessed 137 = .ok (.iload 8, 2) := by decide +kernel
theorem dX12_guessed_139 : decode cX12_guessed 139 = .ok (.iload 7, 2) := by decide +kernel
theorem dX12_guessed_141 : decode cX12_guessed 141 = .ok (.invokestatic 328, 3) := by decide +kernel
theorem dX12_guessed_144 : decode cX12_guessed 144 = .ok (.invokevirtual 582, 3) := by decide +kernel
theorem dX12_guessed_147 : decode cX12_guessed 147 = .ok (.iinc 8 1, 3) := by decide +kernel
theorem dX12_guessed_150 : decode cX12_guessed 150 = .ok (.goto (-46), 3) := by decide +kernel
theorem dX12_guessed_153 : decode cX12_guessed 153 = .ok (.iinc 6 1, 3) := by decide +kernel
theorem dX12_guessed_156 : decode cX12_guessed 156 = .ok (.goto (-76), 3) := by decide +kernel
theorem dX12_guessed_159 : decode cX12_guessed 159 = .ok (.iload_n 1, 1) := by decide +kernel
theorem dX12_guessed_160 : decode cX12_guessed 160 = .ok (.ifCond .eq 10, 3) := by decide +kernel
theorem dX12_guessed_163 : decode cX12_guessed 163 = .ok (.aload_n 0, 1) := by decide +kernel
theorem dX12_guessed_164 : decode cX12_guessed 164 = .ok (.getfield 579, 3) := by decide +kernel
theorem dX12_guessed_167 : decode cX12_guessed 167 = .ok (.ifCond .ne 19, 3) := by decide +kernel
theorem dX12_guessed_170 : decode cX12_guessed 170 = .ok (.iload_n 1, 1) := by decide +kernel
theorem dX12_guessed_171 : decode cX12_guessed 171 = .ok (.ifCond .ne 11, 3) := by decide +kernel
theorem dX12_guessed_174 : decode cX12_guessed 174 = .ok (.aload_n 0, 1) := by decide +kernel
theorem dX12_guessed_175 : decode cX12_guessed 175 = .ok (.getfield 579, 3) := by decide +kernel
theorem dX12_guessed_178 : decode cX12_guessed 178 = .ok (.i2l, 1) := by decide +kernel
theorem dX12_guessed_179 : decode cX12_guessed 179 = .ok (.goto 6, 3) := by decide +kernel
theorem dX12_guessed_182 : decode cX12_guessed 182 = .ok (.ldc2_w 171, 3) := by decide +kernel
theorem dX12_guessed_185 : decode cX12_guessed 185 = .ok (.lreturn, 1) := by decide +kernel
theorem dX12_guessed_186 : decode cX12_guessed 186 = .ok (.iconst 0, 1) := by decide +kernel
theorem dX12_guessed_187 : decode cX12_guessed 187 = .ok (.istore 6, 2) := by decide +kernel
theorem dX12_guessed_189 : decode cX12_guessed 189 = .ok (.iconst 1, 1) := by decide +kernel
theorem dX12_guessed_190 : decode cX12_guessed 190 = .ok (.istore 7, 2) := by decide +kernel
theorem dX12_guessed_192 : decode cX12_guessed 192 = .ok (.iload 7, 2) := by decide +kernel
theorem dX12_guessed_194 : decode cX12_guessed 194 = .ok (.aload_n 0, 1) := by decide +kernel
theorem dX12_guessed_195 : decode cX12_guessed 195 = .ok (.getfield 579, 3) := by decide +kernel
theorem dX12_guessed_198 : decode cX12_guessed 198 = .ok (.if_icmp .ge 29, 3) := by decide +kernel
theorem dX12_guessed_201 : decode cX12_guessed 201 = .ok (.aload_n 0, 1) := by decide +kernel
theorem dX12_guessed_202 : decode cX12_guessed 202 = .ok (.iload 7, 2) := by decide +kernel
theorem dX12_guessed_204 : decode cX12_guessed 204 = .ok (.iload 6, 2) := by decide +kernel
theorem dX12_guessed_206 : decode cX12_guessed 206 = .ok (.invokevirtual 585, 3) := by decide +kernel
theorem dX12_guessed_209 : decode cX12_guessed 209 = .ok (.ifCond .eq 8, 3) := by decide +kernel
theorem dX12_guessed_212 : decode cX12_guessed 212 = .ok (.iload 7, 2) := by decide +kernel
theorem dX12_guessed_214 : decode cX12_guessed 214 = .ok (.goto 5, 3) := by decide +kernel
theorem dX12_guessed_217 : decode cX12_guessed 217 = .ok (.iload 6, 2) := by decide +kernel
theorem dX12_guessed_219 : decode cX12_guessed 219 = .ok (.istore 6, 2) := by decide +kernel
theorem dX12_guessed_221 : decode cX12_guessed 221 = .ok (.iinc 7 1, 3) := by decide +kernel
theorem dX12_guessed_224 : decode cX12_guessed 224 = .ok (.goto (-32), 3) := by decide +kernel
theorem dX12_guessed_227 : decode cX12_guessed 227 = .ok (.iload_n 1, 1) := by decide +kernel
theorem dX12_guessed_228 : decode cX12_guessed 228 = .ok (.iconst 1, 1) := by decide +kernel
theorem dX12_guessed_229 : decode cX12_guessed 229 = .ok (.if_icmp .ne 13, 3) := by decide +kernel
theorem dX12_guessed_232 : decode cX12_guessed 232 = .ok (.aload_n 0, 1) := by decide +kernel
theorem dX12_guessed_233 : decode cX12_guessed 233 = .ok (.getfield 86, 3) := by decide +kernel
theorem dX12_guessed_236 : decode cX12_guessed 236 = .ok (.iload 6, 2) := by decide +kernel
theorem dX12_guessed_238 : decode cX12_guessed 238 = .ok (.laload, 1) := by decide +kernel
theorem dX12_guessed_239 : decode cX12_guessed 239 = .ok (.goto 10, 3) := by decide +kernel
theorem dX12_guessed_242 : decode cX12_guessed 242 = .ok (.aload_n 0, 1) := by decide +kernel
theorem dX12_guessed_243 : decode cX12_guessed 243 = .ok (.getfield 89, 3) := by decide +kernel
theorem dX12_guessed_246 : decode cX12_guessed 246 = .ok (.iload 6, 2) := by decide +kernel
theorem dX12_guessed_248 : decode cX12_guessed 248 = .ok (.laload, 1) := by decide +kernel
theorem dX12_guessed_249 : decode cX12_guessed 249 = .ok (.lreturn, 1) := by decide +kernel
theorem dX12_bestOf_0 : decode cX12_bestOf 0 = .ok (.iconst (-1), 1) := by decide +kernel
theorem dX12_bestOf_1 : decode cX12_bestOf 1 = .ok (.istore_n 3, 1) := by decide +kernel
theorem dX12_bestOf_2 : decode cX12_bestOf 2 = .ok (.aload_n 0, 1) := by decide +kernel
theorem dX12_bestOf_3 : decode cX12_bestOf 3 = .ok (.iconst (-1), 1) := by decide +kernel
theorem dX12_bestOf_4 : decode cX12_bestOf 4 = .ok (.putfield 588, 3) := by decide +kernel
theorem dX12_bestOf_7 : decode cX12_bestOf 7 = .ok (.iconst 0, 1) := by decide +kernel
theorem dX12_bestOf_8 : decode cX12_bestOf 8 = .ok (.istore 4, 2) := by decide +kernel
theorem dX12_bestOf_10 : decode cX12_bestOf 10 = .ok (.iload 4, 2) := by decide +kernel
theorem dX12_bestOf_12 : decode cX12_bestOf 12 = .ok (.lload_n 1, 1) := by decide +kernel
theorem dX12_bestOf_13 : decode cX12_bestOf 13 = .ok (.invokestatic 13, 3) := by decide +kernel
theorem dX12_bestOf_16 : decode cX12_bestOf 16 = .ok (.if_icmp .ge 94, 3) := by decide +kernel
theorem dX12_bestOf_19 : decode cX12_bestOf 19 = .ok (.iconst 0, 1) := by decide +kernel
theorem dX12_bestOf_20 : decode cX12_bestOf 20 = .ok (.istore 5, 2) := by decide +kernel
theorem dX12_bestOf_22 : decode cX12_bestOf 22 = .ok (.iload 5, 2) := by decide +kernel
theorem dX12_bestOf_24 : decode cX12_bestOf 24 = .ok (.aload_n 0, 1) := by decide +kernel
theorem dX12_bestOf_25 : decode cX12_bestOf 25 = .ok (.invokevirtual 121, 3) := by decide +kernel
theorem dX12_bestOf_28 : decode cX12_bestOf 28 = .ok (.if_icmp .ge 76, 3) := by decide +kernel
theorem dX12_bestOf_31 : decode cX12_bestOf 31 = .ok (.aload_n 0, 1) := by decide +kernel
theorem dX12_bestOf_32 : decode cX12_bestOf 32 = .ok (.lload_n 1, 1) := by decide +kernel
theorem dX12_bestOf_33 : decode cX12_bestOf 33 = .ok (.iload 5, 2) := by decide +kernel
theorem dX12_bestOf_35 : decode cX12_bestOf 35 = .ok (.iload 4, 2) := by decide +kernel
theorem dX12_bestOf_37 : decode cX12_bestOf 37 = .ok (.invokevirtual 339, 3) := by decide +kernel
theorem dX12_bestOf_40 : decode cX12_bestOf 40 = .ok (.ifCond .ne 6, 3) := by decide +kernel
theorem dX12_bestOf_43 : decode cX12_bestOf 43 = .ok (.goto 55, 3) := by decide +kernel
theorem dX12_bestOf_46 : decode cX12_bestOf 46 = .ok (.aload_n 0, 1) := by decide +kernel
theorem dX12_bestOf_47 : decode cX12_bestOf 47 = .ok (.getfield 95, 3) := by decide +kernel
theorem dX12_bestOf_50 : decode cX12_bestOf 50 = .ok (.aload_n 0, 1) := by decide +kernel
theorem dX12_bestOf_51 : decode cX12_bestOf 51 = .ok (.aload_n 0, 1) := by decide +kernel
theorem dX12_bestOf_52 : decode cX12_bestOf 52 = .ok (.lload_n 1, 1) := by decide +kernel
theorem dX12_bestOf_53 : decode cX12_bestOf 53 = .ok (.iload 5, 2) := by decide +kernel
theorem dX12_bestOf_55 : decode cX12_bestOf 55 = .ok (.iload 4, 2) := by decide +kernel
theorem dX12_bestOf_57 : decode cX12_bestOf 57 = .ok (.invokevirtual 360, 3) := by decide +kernel
theorem dX12_bestOf_60 : decode cX12_bestOf 60 = .ok (.invokevirtual 460, 3) := by decide +kernel
theorem dX12_bestOf_63 : decode cX12_bestOf 63 = .ok (.iaload, 1) := by decide +kernel
theorem dX12_bestOf_64 : decode cX12_bestOf 64 = .ok (.ineg, 1) := by decide +kernel
theorem dX12_bestOf_65 : decode cX12_bestOf 65 = .ok (.istore 6, 2) := by decide +kernel
theorem dX12_bestOf_67 : decode cX12_bestOf 67 = .ok (.aload_n 0, 1) := by decide +kernel
theorem dX12_bestOf_68 : decode cX12_bestOf 68 = .ok (.getfield 588, 3) := by decide +kernel
theorem dX12_bestOf_71 : decode cX12_bestOf 71 = .ok (.ifCond .lt 12, 3) := by decide +kernel
theorem dX12_bestOf_74 : decode cX12_bestOf 74 = .ok (.iload 6, 2) := by decide +kernel
theorem dX12_bestOf_76 : decode cX12_bestOf 76 = .ok (.iload_n 3, 1) := by decide +kernel
theorem dX12_bestOf_77 : decode cX12_bestOf 77 = .ok (.if_icmp .gt 6, 3) := by decide +kernel
theorem dX12_bestOf_80 : decode cX12_bestOf 80 = .ok (.goto 18, 3) := by decide +kernel
theorem dX12_bestOf_83 : decode cX12_bestOf 83 = .ok (.iload 6, 2) := by decide +kernel
theorem dX12_bestOf_85 : decode cX12_bestOf 85 = .ok (.istore_n 3, 1) := by decide +kernel
theorem dX12_bestOf_86 : decode cX12_bestOf 86 = .ok (.aload_n 0, 1) := by decide +kernel
theorem dX12_bestOf_87 : decode cX12_bestOf 87 = .ok (.bipush 100, 2) := by decide +kernel
theorem dX12_bestOf_89 : decode cX12_bestOf 89 = .ok (.iload 4, 2) := by decide +kernel
theorem dX12_bestOf_91 : decode cX12_bestOf 91 = .ok (.imul, 1) := by decide +kernel
theorem dX12_bestOf_92 : decode cX12_bestOf 92 = .ok (.iload 5, 2) := by decide +kernel
theorem dX12_bestOf_94 : decode cX12_bestOf 94 = .ok (.iadd, 1) := by decide +kernel
theorem dX12_bestOf_95 : decode cX12_bestOf 95 = .ok (.putfield 588, 3) := by decide +kernel
theorem dX12_bestOf_98 : decode cX12_bestOf 98 = .ok (.iinc 5 1, 3) := by decide +kernel
theorem dX12_bestOf_101 : decode cX12_bestOf 101 = .ok (.goto (-79), 3) := by decide +kernel
theorem dX12_bestOf_104 : decode cX12_bestOf 104 = .ok (.iinc 4 1, 3) := by decide +kernel
theorem dX12_bestOf_107 : decode cX12_bestOf 107 = .ok (.goto (-97), 3) := by decide +kernel
theorem dX12_bestOf_110 : decode cX12_bestOf 110 = .ok (.iload_n 3, 1) := by decide +kernel
theorem dX12_bestOf_111 : decode cX12_bestOf 111 = .ok (.ireturn, 1) := by decide +kernel
theorem dX12_plays_0 : decode cX12_plays 0 = .ok (.iconst 0, 1) := by decide +kernel
theorem dX12_plays_1 : decode cX12_plays 1 = .ok (.istore_n 2, 1) := by decide +kernel
theorem dX12_plays_2 : decode cX12_plays 2 = .ok (.iload_n 2, 1) := by decide +kernel
theorem dX12_plays_3 : decode cX12_plays 3 = .ok (.aload_n 0, 1) := by decide +kernel
theorem dX12_plays_4 : decode cX12_plays 4 = .ok (.getfield 431, 3) := by decide +kernel
theorem dX12_plays_7 : decode cX12_plays 7 = .ok (.if_icmp .ge 16, 3) := by decide +kernel
theorem dX12_plays_10 : decode cX12_plays 10 = .ok (.aload_n 0, 1) := by decide +kernel
theorem dX12_plays_11 : decode cX12_plays 11 = .ok (.getfield 95, 3) := by decide +kernel
theorem dX12_plays_14 : decode cX12_plays 14 = .ok (.iload_n 2, 1) := by decide +kernel
theorem dX12_plays_15 : decode cX12_plays 15 = .ok (.iconst 0, 1) := by decide +kernel
theorem dX12_plays_16 : decode cX12_plays 16 = .ok (.iastore, 1) := by decide +kernel
theorem dX12_plays_17 : decode cX12_plays 17 = .ok (.iinc 2 1, 3) := by decide +kernel
theorem dX12_plays_20 : decode cX12_plays 20 = .ok (.goto (-18), 3) := by decide +kernel
theorem dX12_plays_23 : decode cX12_plays 23 = .ok (.iconst 0, 1) := by decide +kernel
theorem dX12_plays_24 : decode cX12_plays 24 = .ok (.istore_n 2, 1) := by decide +kernel
theorem dX12_plays_25 : decode cX12_plays 25 = .ok (.iconst 1, 1) := by decide +kernel
theorem dX12_plays_26 : decode cX12_plays 26 = .ok (.istore_n 3, 1) := by decide +kernel
theorem dX12_plays_27 : decode cX12_plays 27 = .ok (.iload_n 3, 1) := by decide +kernel
theorem dX12_plays_28 : decode cX12_plays 28 = .ok (.iload_n 1, 1) := by decide +kernel
theorem dX12_plays_29 : decode cX12_plays 29 = .ok (.if_icmp .gt 117, 3) := by decide +kernel
theorem dX12_plays_32 : decode cX12_plays 32 = .ok (.iconst 0, 1) := by decide +kernel
theorem dX12_plays_33 : decode cX12_plays 33 = .ok (.istore 4, 2) := by decide +kernel
theorem dX12_plays_35 : decode cX12_plays 35 = .ok (.iload 4, 2) := by decide +kernel
theorem dX12_plays_37 : decode cX12_plays 37 = .ok (.aload_n 0, 1) := by decide +kernel
theorem dX12_plays_38 : decode cX12_plays 38 = .ok (.getfield 431, 3) := by decide +kernel
theorem dX12_plays_41 : decode cX12_plays 41 = .ok (.if_icmp .ge 44, 3) := by decide +kernel
theorem dX12_plays_44 : decode cX12_plays 44 = .ok (.aload_n 0, 1) := by decide +kernel
theorem dX12_plays_45 : decode cX12_plays 45 = .ok (.getfield 92, 3) := by decide +kernel
theorem dX12_plays_48 : decode cX12_plays 48 = .ok (.iload 4, 2) := by decide +kernel
theorem dX12_plays_50 : decode cX12_plays 50 = .ok (.aload_n 0, 1) := by decide +kernel
theorem dX12_plays_51 : decode cX12_plays 51 = .ok (.getfield 65, 3) := by decide +kernel
theorem dX12_plays_54 : decode cX12_plays 54 = .ok (.iload 4, 2) := by decide +kernel
theorem dX12_plays_56 : decode cX12_plays 56 = .ok (.iaload, 1) := by decide +kernel
theorem dX12_plays_57 : decode cX12_plays 57 = .ok (.iload_n 1, 1) := by decide +kernel
theorem dX12_plays_58 : decode cX12_plays 58 = .ok (.iload_n 3, 1) := by decide +kernel
theorem dX12_plays_59 : decode cX12_plays 59 = .ok (.isub, 1) := by decide +kernel
theorem dX12_plays_60 : decode cX12_plays 60 = .ok (.if_icmp .gt 17, 3) := by decide +kernel
theorem dX12_plays_63 : decode cX12_plays 63 = .ok (.aload_n 0, 1) := by decide +kernel
theorem dX12_plays_64 : decode cX12_plays 64 = .ok (.aload_n 0, 1) := by decide +kernel
theorem dX12_plays_65 : decode cX12_plays 65 = .ok (.getfield 62, 3) := by decide +kernel
theorem dX12_plays_68 : decode cX12_plays 68 = .ok (.iload 4, 2) := by decide +kernel
theorem dX12_plays_70 : decode cX12_plays 70 = .ok (.laload, 1) := by decide +kernel
theorem dX12_plays_71 : decode cX12_plays 71 = .ok (.invokevirtual 591, 3) := by decide +kernel
theorem dX12_plays_74 : decode cX12_plays 74 = .ok (.goto 4, 3) := by decide +kernel
theorem dX12_plays_77 : decode cX12_plays 77 = .ok (.iconst 0, 1) := by decide +kernel
theorem dX12_plays_78 : decode cX12_plays 78 = .ok (.iastore, 1) := by decide +kernel
theorem dX12_plays_79 : decode cX12_plays 79 = .ok (.iinc 4 1, 3) := by decide +kernel
theorem dX12_plays_82 : decode cX12_plays 82 = .ok (.goto (-47), 3) := by decide +kernel
theorem dX12_plays_85 : decode cX12_plays 85 = .ok (.aload_n 0, 1) := by decide +kernel
theorem dX12_plays_86 : decode cX12_plays 86 = .ok (.getfield 92, 3) := by decide +kernel
theorem dX12_plays_89 : decode cX12_plays 89 = .ok (.iconst 0, 1) := by decide +kernel
theorem dX12_plays_90 : decode cX12_plays 90 = .ok (.iaload, 1) := by decide +kernel
theorem dX12_plays_91 : decode cX12_plays 91 = .ok (.istore_n 2, 1) := by decide +kernel
theorem dX12_plays_92 : decode cX12_plays 92 = .ok (.iload_n 3, 1) := by decide +kernel
theorem dX12_plays_93 : decode cX12_plays 93 = .ok (.iload_n 1, 1) := by decide +kernel
theorem dX12_plays_94 : decode cX12_plays 94 = .ok (.if_icmp .ne 14, 3) := by decide +kernel
theorem dX12_plays_97 : decode cX12_plays 97 = .ok (.aload_n 0, 1) := by decide +kernel
theorem dX12_plays_98 : decode cX12_plays 98 = .ok (.aload_n 0, 1) := by decide +kernel
theorem dX12_plays_99 : decode cX12_plays 99 = .ok (.getfield 62, 3) := by decide +kernel
theorem dX12_plays_102 : decode cX12_plays 102 = .ok (.iconst 0, 1) := by decide +kernel
theorem dX12_plays_103 : decode cX12_plays 103 = .ok (.laload, 1) := by decide +kernel
theorem dX12_plays_104 : decode cX12_plays 104 = .ok (.invokevirtual 591, 3) := by decide +kernel
theorem dX12_plays_107 : decode cX12_plays 107 = .ok (.istore_n 2, 1) := by decide +kernel
theorem dX12_plays_108 : decode cX12_plays 108 = .ok (.iconst 0, 1) := by decide +kernel
theorem dX12_plays_109 : decode cX12_plays 109 = .ok (.istore 4, 2) := by decide +kernel
theorem dX12_plays_111 : decode cX12_plays 111 = .ok (.iload 4, 2) := by decide +kernel
theorem dX12_plays_113 : decode cX12_plays 113 = .ok (.aload_n 0, 1) := by decide +kernel
theorem dX12_plays_114 : decode cX12_plays 114 = .ok (.getfield 431, 3) := by decide +kernel
theorem dX12_plays_117 : decode cX12_plays 117 = .ok (.if_icmp .ge 23, 3) := by decide +kernel
theorem dX12_plays_120 : decode cX12_plays 120 = .ok (.aload_n 0, 1) := by decide +kernel
theorem dX12_plays_121 : decode cX12_plays 121 = .ok (.getfield 95, 3) := by decide +kernel
theorem dX12_plays_124 : decode cX12_plays 124 = .ok (.iload 4, 2) := by decide +kernel
theorem dX12_plays_126 : decode cX12_plays 126 = .ok (.aload_n 0, 1) := by decide +kernel
theorem dX12_plays_127 : decode cX12_plays 127 = .ok (.getfield 92, 3) := by decide +kernel
theorem dX12_plays_130 : decode cX12_plays 130 = .ok (.iload 4, 2) := by decide +kernel
theorem dX12_plays_132 : decode cX12_plays 132 = .ok (.iaload, 1) := by decide +kernel
theorem dX12_plays_133 : decode cX12_plays 133 = .ok (.iastore, 1) := by decide +kernel
theorem dX12_plays_134 : decode cX12_plays 134 = .ok (.iinc 4 1, 3) := by decide +kernel
theorem dX12_plays_137 : decode cX12_plays 137 = .ok (.goto (-26), 3) := by decide +kernel
theorem dX12_plays_140 : decode cX12_plays 140 = .ok (.iinc 3 1, 3) := by decide +kernel
theorem dX12_plays_143 : decode cX12_plays 143 = .ok (.goto (-116), 3) := by decide +kernel
theorem dX12_plays_146 : decode cX12_plays 146 = .ok (.iload_n 2, 1) := by decide +kernel
theorem dX12_plays_147 : decode cX12_plays 147 = .ok (.ireturn, 1) := by decide +kernel
theorem dX12_drovers_0 : decode cX12_drovers 0 = .ok (.aload_n 0, 1) := by decide +kernel
theorem dX12_drovers_1 : decode cX12_drovers 1 = .ok (.iconst 0, 1) := by decide +kernel
theorem dX12_drovers_2 : decode cX12_drovers 2 = .ok (.putfield 3, 3) := by decide +kernel
theorem dX12_drovers_5 : decode cX12_drovers 5 = .ok (.aload_n 0, 1) := by decide +kernel
theorem dX12_drovers_6 : decode cX12_drovers 6 = .ok (.lload_n 1, 1) := by decide +kernel
theorem dX12_drovers_7 : decode cX12_drovers 7 = .ok (.invokestatic 382, 3) := by decide +kernel
theorem dX12_drovers_10 : decode cX12_drovers 10 = .ok (.ifCond .eq 13, 3) := by decide +kernel
theorem dX12_drovers_13 : decode cX12_drovers 13 = .ok (.iload_n 3, 1) := by decide +kernel
theorem dX12_drovers_14 : decode cX12_drovers 14 = .ok (.iconst 1, 1) := by decide +kernel
theorem dX12_drovers_15 : decode cX12_drovers 15 = .ok (.bipush 8, 2) := by decide +kernel
theorem dX12_drovers_17 : decode cX12_drovers 17 = .ok (.invokestatic 125, 3) := by decide +kernel
theorem dX12_drovers_20 : decode cX12_drovers 20 = .ok (.ifCond .ne 7, 3) := by decide +kernel
theorem dX12_drovers_23 : decode cX12_drovers 23 = .ok (.iconst 1, 1) := by decide +kernel
theorem dX12_drovers_24 : decode cX12_drovers 24 = .ok (.goto 4, 3) := by decide +kernel
theorem dX12_drovers_27 : decode cX12_drovers 27 = .ok (.iconst 0, 1) := by decide +kernel
theorem dX12_drovers_28 : decode cX12_drovers 28 = .ok (.iconst 1, 1) := by decide +kernel
theorem dX12_drovers_29 : decode cX12_drovers 29 = .ok (.invokevirtual 302, 3) := by decide +kernel
theorem dX12_drovers_32 : decode cX12_drovers 32 = .ok (.ifCond .eq 5, 3) := by decide +kernel
theorem dX12_drovers_35 : decode cX12_drovers 35 = .ok (.iconst 0, 1) := by decide +kernel
theorem dX12_drovers_36 : decode cX12_drovers 36 = .ok (.ireturn, 1) := by decide +kernel
theorem dX12_drovers_37 : decode cX12_drovers 37 = .ok (.aload_n 0, 1) := by decide +kernel
theorem dX12_drovers_38 : decode cX12_drovers 38 = .ok (.lload_n 1, 1) := by decide +kernel
theorem dX12_drovers_39 : decode cX12_drovers 39 = .ok (.iload_n 3, 1) := by decide +kernel
theorem dX12_drovers_40 : decode cX12_drovers 40 = .ok (.invokevirtual 444, 3) := by decide +kernel
theorem dX12_drovers_43 : decode cX12_drovers 43 = .ok (.ifCond .eq 11, 3) := by decide +kernel
theorem dX12_drovers_46 : decode cX12_drovers 46 = .ok (.aload_n 0, 1) := by decide +kernel
theorem dX12_drovers_47 : decode cX12_drovers 47 = .ok (.iload_n 3, 1) := by decide +kernel
theorem dX12_drovers_48 : decode cX12_drovers 48 = .ok (.invokevirtual 594, 3) := by decide +kernel
theorem dX12_drovers_51 : decode cX12_drovers 51 = .ok (.goto 5, 3) := by decide +kernel
theorem dX12_drovers_54 : decode cX12_drovers 54 = .ok (.bipush (-3), 2) := by decide +kernel
theorem dX12_drovers_56 : decode cX12_drovers 56 = .ok (.ireturn, 1) := by decide +kernel
theorem dX12_best_0 : decode cX12_best 0 = .ok (.aload_n 0, 1) := by decide +kernel
theorem dX12_best_1 : decode cX12_best 1 = .ok (.iconst 0, 1) := by decide +kernel
theorem dX12_best_2 : decode cX12_best 2 = .ok (.putfield 3, 3) := by decide +kernel
theorem dX12_best_5 : decode cX12_best 5 = .ok (.aload_n 0, 1) := by decide +kernel
theorem dX12_best_6 : decode cX12_best 6 = .ok (.lload_n 1, 1) := by decide +kernel
theorem dX12_best_7 : decode cX12_best 7 = .ok (.invokestatic 382, 3) := by decide +kernel
theorem dX12_best_10 : decode cX12_best 10 = .ok (.ifCond .eq 13, 3) := by decide +kernel
theorem dX12_best_13 : decode cX12_best 13 = .ok (.iload_n 3, 1) := by decide +kernel
theorem dX12_best_14 : decode cX12_best 14 = .ok (.iconst 1, 1) := by decide +kernel
theorem dX12_best_15 : decode cX12_best 15 = .ok (.bipush 8, 2) := by decide +kernel
theorem dX12_best_17 : decode cX12_best 17 = .ok (.invokestatic 125, 3) := by decide +kernel
theorem dX12_best_20 : decode cX12_best 20 = .ok (.ifCond .ne 7, 3) := by decide +kernel
theorem dX12_best_23 : decode cX12_best 23 = .ok (.iconst 1, 1) := by decide +kernel
theorem dX12_best_24 : decode cX12_best 24 = .ok (.goto 4, 3) := by decide +kernel
theorem dX12_best_27 : decode cX12_best 27 = .ok (.iconst 0, 1) := by decide +kernel
theorem dX12_best_28 : decode cX12_best 28 = .ok (.iconst 1, 1) := by decide +kernel
theorem dX12_best_29 : decode cX12_best 29 = .ok (.invokevirtual 302, 3) := by decide +kernel
theorem dX12_best_32 : decode cX12_best 32 = .ok (.ifCond .eq 5, 3) := by decide +kernel
theorem dX12_best_35 : decode cX12_best 35 = .ok (.iconst 0, 1) := by decide +kernel
theorem dX12_best_36 : decode cX12_best 36 = .ok (.ireturn, 1) := by decide +kernel
theorem dX12_best_37 : decode cX12_best 37 = .ok (.aload_n 0, 1) := by decide +kernel
theorem dX12_best_38 : decode cX12_best 38 = .ok (.lload_n 1, 1) := by decide +kernel
theorem dX12_best_39 : decode cX12_best 39 = .ok (.iload_n 3, 1) := by decide +kernel
theorem dX12_best_40 : decode cX12_best 40 = .ok (.invokevirtual 444, 3) := by decide +kernel
theorem dX12_best_43 : decode cX12_best 43 = .ok (.ifCond .ne 6, 3) := by decide +kernel
theorem dX12_best_46 : decode cX12_best 46 = .ok (.bipush (-3), 2) := by decide +kernel
theorem dX12_best_48 : decode cX12_best 48 = .ok (.ireturn, 1) := by decide +kernel
theorem dX12_best_49 : decode cX12_best 49 = .ok (.aload_n 0, 1) := by decide +kernel
theorem dX12_best_50 : decode cX12_best 50 = .ok (.iload_n 3, 1) := by decide +kernel
theorem dX12_best_51 : decode cX12_best 51 = .ok (.invokevirtual 594, 3) := by decide +kernel
theorem dX12_best_54 : decode cX12_best 54 = .ok (.pop, 1) := by decide +kernel
theorem dX12_best_55 : decode cX12_best 55 = .ok (.aload_n 0, 1) := by decide +kernel
theorem dX12_best_56 : decode cX12_best 56 = .ok (.getfield 588, 3) := by decide +kernel
theorem dX12_best_59 : decode cX12_best 59 = .ok (.ireturn, 1) := by decide +kernel
theorem dX12_sorts_0 : decode cX12_sorts 0 = .ok (.aload_n 0, 1) := by decide +kernel
theorem dX12_sorts_1 : decode cX12_sorts 1 = .ok (.iconst 0, 1) := by decide +kernel
theorem dX12_sorts_2 : decode cX12_sorts 2 = .ok (.putfield 3, 3) := by decide +kernel
theorem dX12_sorts_5 : decode cX12_sorts 5 = .ok (.aload_n 0, 1) := by decide +kernel
theorem dX12_sorts_6 : decode cX12_sorts 6 = .ok (.iload_n 1, 1) := by decide +kernel
theorem dX12_sorts_7 : decode cX12_sorts 7 = .ok (.iconst 0, 1) := by decide +kernel
theorem dX12_sorts_8 : decode cX12_sorts 8 = .ok (.iconst 3, 1) := by decide +kernel
theorem dX12_sorts_9 : decode cX12_sorts 9 = .ok (.invokestatic 125, 3) := by decide +kernel
theorem dX12_sorts_12 : decode cX12_sorts 12 = .ok (.ifCond .ne 7, 3) := by decide +kernel
theorem dX12_sorts_15 : decode cX12_sorts 15 = .ok (.iconst 1, 1) := by decide +kernel
theorem dX12_sorts_16 : decode cX12_sorts 16 = .ok (.goto 4, 3) := by decide +kernel
theorem dX12_sorts_19 : decode cX12_sorts 19 = .ok (.iconst 0, 1) := by decide +kernel
theorem dX12_sorts_20 : decode cX12_sorts 20 = .ok (.iconst 1, 1) := by decide +kernel
theorem dX12_sorts_21 : decode cX12_sorts 21 = .ok (.invokevirtual 302, 3) := by decide +kernel
theorem dX12_sorts_24 : decode cX12_sorts 24 = .ok (.ifCond .eq 5, 3) := by decide +kernel
theorem dX12_sorts_27 : decode cX12_sorts 27 = .ok (.iconst 0, 1) := by decide +kernel
theorem dX12_sorts_28 : decode cX12_sorts 28 = .ok (.ireturn, 1) := by decide +kernel
theorem dX12_sorts_29 : decode cX12_sorts 29 = .ok (.iload_n 1, 1) := by decide +kernel
theorem dX12_sorts_30 : decode cX12_sorts 30 = .ok (.iconst 2, 1) := by decide +kernel
theorem dX12_sorts_31 : decode cX12_sorts 31 = .ok (.if_icmp .ge 33, 3) := by decide +kernel
theorem dX12_sorts_34 : decode cX12_sorts 34 = .ok (.sipush 255, 3) := by decide +kernel
theorem dX12_sorts_37 : decode cX12_sorts 37 = .ok (.aload_n 0, 1) := by decide +kernel
theorem dX12_sorts_38 : decode cX12_sorts 38 = .ok (.iload_n 1, 1) := by decide +kernel
theorem dX12_sorts_39 : decode cX12_sorts 39 = .ok (.ifCond .ne 7, 3) := by decide +kernel
theorem dX12_sorts_42 : decode cX12_sorts 42 = .ok (.iconst 1, 1) := by decide +kernel
theorem dX12_sorts_43 : decode cX12_sorts 43 = .ok (.goto 4, 3) := by decide +kernel
theorem dX12_sorts_46 : decode cX12_sorts 46 = .ok (.iconst 0, 1) := by decide +kernel
theorem dX12_sorts_47 : decode cX12_sorts 47 = .ok (.iload_n 1, 1) := by decide +kernel
theorem dX12_sorts_48 : decode cX12_sorts 48 = .ok (.iconst 1, 1) := by decide +kernel
theorem dX12_sorts_49 : decode cX12_sorts 49 = .ok (.if_icmp .ne 7, 3) := by decide +kernel
theorem dX12_sorts_52 : decode cX12_sorts 52 = .ok (.iconst 1, 1) := by decide +kernel
theorem dX12_sorts_53 : decode cX12_sorts 53 = .ok (.goto 4, 3) := by decide +kernel
theorem dX12_sorts_56 : decode cX12_sorts 56 = .ok (.iconst 0, 1) := by decide +kernel
theorem dX12_sorts_57 : decode cX12_sorts 57 = .ok (.invokevirtual 528, 3) := by decide +kernel
theorem dX12_sorts_60 : decode cX12_sorts 60 = .ok (.iconst (-1), 1) := by decide +kernel
theorem dX12_sorts_61 : decode cX12_sorts 61 = .ok (.ixor, 1) := by decide +kernel
theorem dX12_sorts_62 : decode cX12_sorts 62 = .ok (.iand, 1) := by decide +kernel
theorem dX12_sorts_63 : decode cX12_sorts 63 = .ok (.ireturn, 1) := by decide +kernel
theorem dX12_sorts_64 : decode cX12_sorts 64 = .ok (.iconst 0, 1) := by decide +kernel
theorem dX12_sorts_65 : decode cX12_sorts 65 = .ok (.istore_n 2, 1) := by decide +kernel
theorem dX12_sorts_66 : decode cX12_sorts 66 = .ok (.iconst 0, 1) := by decide +kernel
theorem dX12_sorts_67 : decode cX12_sorts 67 = .ok (.istore_n 3, 1) := by decide +kernel
theorem dX12_sorts_68 : decode cX12_sorts 68 = .ok (.iload_n 3, 1) := by decide +kernel
theorem dX12_sorts_69 : decode cX12_sorts 69 = .ok (.aload_n 0, 1) := by decide +kernel
theorem dX12_sorts_70 : decode cX12_sorts 70 = .ok (.invokevirtual 121, 3) := by decide +kernel
theorem dX12_sorts_73 : decode cX12_sorts 73 = .ok (.if_icmp .ge 53, 3) := by decide +kernel
theorem dX12_sorts_76 : decode cX12_sorts 76 = .ok (.iload_n 2, 1) := by decide +kernel
theorem dX12_sorts_77 : decode cX12_sorts 77 = .ok (.iload_n 1, 1) := by decide +kernel
theorem dX12_sorts_78 : decode cX12_sorts 78 = .ok (.iconst 2, 1) := by decide +kernel
theorem dX12_sorts_79 : decode cX12_sorts 79 = .ok (.if_icmp .ne 19, 3) := by decide +kernel
theorem dX12_sorts_82 : decode cX12_sorts 82 = .ok (.aload_n 0, 1) := by decide +kernel
theorem dX12_sorts_83 : decode cX12_sorts 83 = .ok (.iload_n 3, 1) := by decide +kernel
theorem dX12_sorts_84 : decode cX12_sorts 84 = .ok (.invokevirtual 322, 3) := by decide +kernel
theorem dX12_sorts_87 : decode cX12_sorts 87 = .ok (.aload_n 0, 1) := by decide +kernel
theorem dX12_sorts_88 : decode cX12_sorts 88 = .ok (.iload_n 3, 1) := by decide +kernel
theorem dX12_sorts_89 : decode cX12_sorts 89 = .ok (.invokevirtual 311, 3) := by decide +kernel
theorem dX12_sorts_92 : decode cX12_sorts 92 = .ok (.if_icmp .ge 25, 3) := by decide +kernel
theorem dX12_sorts_95 : decode cX12_sorts 95 = .ok (.goto 16, 3) := by decide +kernel
theorem dX12_sorts_98 : decode cX12_sorts 98 = .ok (.aload_n 0, 1) := by decide +kernel
theorem dX12_sorts_99 : decode cX12_sorts 99 = .ok (.iload_n 3, 1) := by decide +kernel
theorem dX12_sorts_100 : decode cX12_sorts 100 = .ok (.invokevirtual 322, 3) := by decide +kernel
theorem dX12_sorts_103 : decode cX12_sorts 103 = .ok (.aload_n 0, 1) := by decide +kernel
theorem dX12_sorts_104 : decode cX12_sorts 104 = .ok (.iload_n 3, 1) := by decide +kernel
theorem dX12_sorts_105 : decode cX12_sorts 105 = .ok (.invokevirtual 311, 3) := by decide +kernel
theorem dX12_sorts_108 : decode cX12_sorts 108 = .ok (.if_icmp .le 9, 3) := by decide +kernel
theorem dX12_sorts_111 : decode cX12_sorts 111 = .ok (.iconst 1, 1) := by decide +kernel
theorem dX12_sorts_112 : decode cX12_sorts 112 = .ok (.iload_n 3, 1) := by decide +kernel
theorem dX12_sorts_113 : decode cX12_sorts 113 = .ok (.ishl, 1) := by decide +kernel
theorem dX12_sorts_114 : decode cX12_sorts 114 = .ok (.goto 4, 3) := by decide +kernel
theorem dX12_sorts_117 : decode cX12_sorts 117 = .ok (.iconst 0, 1) := by decide +kernel
theorem dX12_sorts_118 : decode cX12_sorts 118 = .ok (.ior, 1) := by decide +kernel
theorem dX12_sorts_119 : decode cX12_sorts 119 = .ok (.istore_n 2, 1) := by decide +kernel
theorem dX12_sorts_120 : decode cX12_sorts 120 = .ok (.iinc 3 1, 3) := by decide +kernel
theorem dX12_sorts_123 : decode cX12_sorts 123 = .ok (.goto (-55), 3) := by decide +kernel
theorem dX12_sorts_126 : decode cX12_sorts 126 = .ok (.iload_n 2, 1) := by decide +kernel
theorem dX12_sorts_127 : decode cX12_sorts 127 = .ok (.ireturn, 1) := by decide +kernel
theorem dX12_seed_0 : decode cX12_seed 0 = .ok (.aload_n 0, 1) := by decide +kernel
theorem dX12_seed_1 : decode cX12_seed 1 = .ok (.iconst 0, 1) := by decide +kernel
theorem dX12_seed_2 : decode cX12_seed 2 = .ok (.putfield 3, 3) := by decide +kernel
theorem dX12_seed_5 : decode cX12_seed 5 = .ok (.aload_n 0, 1) := by decide +kernel
theorem dX12_seed_6 : decode cX12_seed 6 = .ok (.getfield 29, 3) := by decide +kernel
theorem dX12_seed_9 : decode cX12_seed 9 = .ok (.bipush 8, 2) := by decide +kernel
theorem dX12_seed_11 : decode cX12_seed 11 = .ok (.iaload, 1) := by decide +kernel
theorem dX12_seed_12 : decode cX12_seed 12 = .ok (.istore_n 2, 1) := by decide +kernel
theorem dX12_seed_13 : decode cX12_seed 13 = .ok (.aload_n 0, 1) := by decide +kernel
theorem dX12_seed_14 : decode cX12_seed 14 = .ok (.getfield 29, 3) := by decide +kernel
theorem dX12_seed_17 : decode cX12_seed 17 = .ok (.bipush 8, 2) := by decide +kernel
theorem dX12_seed_19 : decode cX12_seed 19 = .ok (.iload_n 1, 1) := by decide +kernel
theorem dX12_seed_20 : decode cX12_seed 20 = .ok (.iastore, 1) := by decide +kernel
theorem dX12_seed_21 : decode cX12_seed 21 = .ok (.iload_n 2, 1) := by decide +kernel
theorem dX12_seed_22 : decode cX12_seed 22 = .ok (.ireturn, 1) := by decide +kernel
theorem dX12_count_0 : decode cX12_count 0 = .ok (.aload_n 0, 1) := by decide +kernel
theorem dX12_count_1 : decode cX12_count 1 = .ok (.iconst 0, 1) := by decide +kernel
theorem dX12_count_2 : decode cX12_count 2 = .ok (.putfield 3, 3) := by decide +kernel
theorem dX12_count_5 : decode cX12_count 5 = .ok (.iconst 0, 1) := by decide +kernel
theorem dX12_count_6 : decode cX12_count 6 = .ok (.istore_n 2, 1) := by decide +kernel
theorem dX12_count_7 : decode cX12_count 7 = .ok (.iload_n 1, 1) := by decide +kernel
theorem dX12_count_8 : decode cX12_count 8 = .ok (.tableswitch 133 4 10 #[44, 133, 133, 133, 67, 99, 128], 44) := by decide +kernel
theorem dX12_count_52 : decode cX12_count 52 = .ok (.aload_n 0, 1) := by decide +kernel
theorem dX12_count_53 : decode cX12_count 53 = .ok (.getfield 29, 3) := by decide +kernel
theorem dX12_count_56 : decode cX12_count 56 = .ok (.iconst 4, 1) := by decide +kernel
theorem dX12_count_57 : decode cX12_count 57 = .ok (.iaload, 1) := by decide +kernel
theorem dX12_count_58 : decode cX12_count 58 = .ok (.iconst 1, 1) := by decide +kernel
theorem dX12_count_59 : decode cX12_count 59 = .ok (.if_icmp .ne 14, 3) := by decide +kernel
theorem dX12_count_62 : decode cX12_count 62 = .ok (.aload_n 0, 1) := by decide +kernel
theorem dX12_count_63 : decode cX12_count 63 = .ok (.getfield 29, 3) := by decide +kernel
theorem dX12_count_66 : decode cX12_count 66 = .ok (.sipush 339, 3) := by decide +kernel
theorem dX12_count_69 : decode cX12_count 69 = .ok (.iaload, 1) := by decide +kernel
theorem dX12_count_70 : decode cX12_count 70 = .ok (.goto 4, 3) := by decide +kernel
theorem dX12_count_73 : decode cX12_count 73 = .ok (.iconst (-1), 1) := by decide +kernel
theorem dX12_count_74 : decode cX12_count 74 = .ok (.ireturn, 1) := by decide +kernel
theorem dX12_count_75 : decode cX12_count 75 = .ok (.iconst 0, 1) := by decide +kernel
theorem dX12_count_76 : decode cX12_count 76 = .ok (.istore_n 3, 1) := by decide +kernel
theorem dX12_count_77 : decode cX12_count 77 = .ok (.iload_n 3, 1) := by decide +kernel
theorem dX12_count_78 : decode cX12_count 78 = .ok (.aload_n 0, 1) := by decide +kernel
theorem dX12_count_79 : decode cX12_count 79 = .ok (.invokevirtual 129, 3) := by decide +kernel
theorem dX12_count_82 : decode cX12_count 82 = .ok (.if_icmp .ge 23, 3) := by decide +kernel
theorem dX12_count_85 : decode cX12_count 85 = .ok (.iload_n 2, 1) := by decide +kernel
theorem dX12_count_86 : decode cX12_count 86 = .ok (.aload_n 0, 1) := by decide +kernel
theorem dX12_count_87 : decode cX12_count 87 = .ok (.getfield 29, 3) := by decide +kernel
theorem dX12_count_90 : decode cX12_count 90 = .ok (.iload_n 3, 1) := by decide +kernel
theorem dX12_count_91 : decode cX12_count 91 = .ok (.invokestatic 114, 3) := by decide +kernel
theorem dX12_count_94 : decode cX12_count 94 = .ok (.iconst 2, 1) := by decide +kernel
theorem dX12_count_95 : decode cX12_count 95 = .ok (.iadd, 1) := by decide +kernel
theorem dX12_count_96 : decode cX12_count 96 = .ok (.iaload, 1) := by decide +kernel
theorem dX12_count_97 : decode cX12_count 97 = .ok (.iadd, 1) := by decide +kernel
theorem dX12_count_98 : decode cX12_count 98 = .ok (.istore_n 2, 1) := by decide +kernel
theorem dX12_count_99 : decode cX12_count 99 = .ok (.iinc 3 1, 3) := by decide +kernel
theorem dX12_count_102 : decode cX12_count 102 = .ok (.goto (-25), 3) := by decide +kernel
theorem dX12_count_105 : decode cX12_count 105 = .ok (.iload_n 2, 1) := by decide +kernel
theorem dX12_count_106 : decode cX12_count 106 = .ok (.ireturn, 1) := by decide +kernel
theorem dX12_count_107 : decode cX12_count 107 = .ok (.iconst 0, 1) := by decide +kernel
theorem dX12_count_108 : decode cX12_count 108 = .ok (.istore_n 3, 1) := by decide +kernel
theorem dX12_count_109 : decode cX12_count 109 = .ok (.iload_n 3, 1) := by decide +kernel
theorem dX12_count_110 : decode cX12_count 110 = .ok (.aload_n 0, 1) := by decide +kernel
theorem dX12_count_111 : decode cX12_count 111 = .ok (.invokevirtual 129, 3) := by decide +kernel
theorem dX12_count_114 : decode cX12_count 114 = .ok (.if_icmp .ge 20, 3) := by decide +kernel
theorem dX12_count_117 : decode cX12_count 117 = .ok (.iload_n 2, 1) := by decide +kernel
theorem dX12_count_118 : decode cX12_count 118 = .ok (.aload_n 0, 1) := by decide +kernel
theorem dX12_count_119 : decode cX12_count 119 = .ok (.iload_n 3, 1) := by decide +kernel
theorem dX12_count_120 : decode cX12_count 120 = .ok (.invokevirtual 379, 3) := by decide +kernel
theorem dX12_count_123 : decode cX12_count 123 = .ok (.invokestatic 13, 3) := by decide +kernel
theorem dX12_count_126 : decode cX12_count 126 = .ok (.iadd, 1) := by decide +kernel
theorem dX12_count_127 : decode cX12_count 127 = .ok (.istore_n 2, 1) := by decide +kernel
theorem dX12_count_128 : decode cX12_count 128 = .ok (.iinc 3 1, 3) := by decide +kernel
theorem dX12_count_131 : decode cX12_count 131 = .ok (.goto (-22), 3) := by decide +kernel
theorem dX12_count_134 : decode cX12_count 134 = .ok (.iload_n 2, 1) := by decide +kernel
theorem dX12_count_135 : decode cX12_count 135 = .ok (.ireturn, 1) := by decide +kernel
theorem dX12_count_136 : decode cX12_count 136 = .ok (.aload_n 0, 1) := by decide +kernel
theorem dX12_count_137 : decode cX12_count 137 = .ok (.getfield 102, 3) := by decide +kernel
theorem dX12_count_140 : decode cX12_count 140 = .ok (.ireturn, 1) := by decide +kernel
theorem dX12_count_141 : decode cX12_count 141 = .ok (.iload_n 1, 1) := by decide +kernel
theorem dX12_count_142 : decode cX12_count 142 = .ok (.iconst 0, 1) := by decide +kernel
theorem dX12_count_143 : decode cX12_count 143 = .ok (.bipush 7, 2) := by decide +kernel
theorem dX12_count_145 : decode cX12_count 145 = .ok (.invokestatic 125, 3) := by decide +kernel
theorem dX12_count_148 : decode cX12_count 148 = .ok (.ifCond .eq 12, 3) := by decide +kernel
theorem dX12_count_151 : decode cX12_count 151 = .ok (.aload_n 0, 1) := by decide +kernel
theorem dX12_count_152 : decode cX12_count 152 = .ok (.getfield 29, 3) := by decide +kernel
theorem dX12_count_155 : decode cX12_count 155 = .ok (.iload_n 1, 1) := by decide +kernel
theorem dX12_count_156 : decode cX12_count 156 = .ok (.iaload, 1) := by decide +kernel
theorem dX12_count_157 : decode cX12_count 157 = .ok (.goto 4, 3) := by decide +kernel
theorem dX12_count_160 : decode cX12_count 160 = .ok (.iconst (-1), 1) := by decide +kernel
theorem dX12_count_161 : decode cX12_count 161 = .ok (.ireturn, 1) := by decide +kernel
