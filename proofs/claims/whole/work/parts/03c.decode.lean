theorem dX6_init_0 : decode cX6_init 0 = .ok (.aload_n 0, 1) := by decide +kernel
theorem dX6_init_1 : decode cX6_init 1 = .ok (.invokespecial 1, 3) := by decide +kernel
theorem dX6_init_4 : decode cX6_init 4 = .ok (.aload_n 0, 1) := by decide +kernel
theorem dX6_init_5 : decode cX6_init 5 = .ok (.iconst 4, 1) := by decide +kernel
theorem dX6_init_6 : decode cX6_init 6 = .ok (.newarray .int, 2) := by decide +kernel
theorem dX6_init_8 : decode cX6_init 8 = .ok (.putfield 7, 3) := by decide +kernel
theorem dX6_init_11 : decode cX6_init 11 = .ok (.aload_n 0, 1) := by decide +kernel
theorem dX6_init_12 : decode cX6_init 12 = .ok (.iconst 3, 1) := by decide +kernel
theorem dX6_init_13 : decode cX6_init 13 = .ok (.newarray .int, 2) := by decide +kernel
theorem dX6_init_15 : decode cX6_init 15 = .ok (.putfield 13, 3) := by decide +kernel
theorem dX6_init_18 : decode cX6_init 18 = .ok (.aload_n 0, 1) := by decide +kernel
theorem dX6_init_19 : decode cX6_init 19 = .ok (.bipush 36, 2) := by decide +kernel
theorem dX6_init_21 : decode cX6_init 21 = .ok (.newarray .int, 2) := by decide +kernel
theorem dX6_init_23 : decode cX6_init 23 = .ok (.putfield 16, 3) := by decide +kernel
theorem dX6_init_26 : decode cX6_init 26 = .ok (.aload_n 0, 1) := by decide +kernel
theorem dX6_init_27 : decode cX6_init 27 = .ok (.bipush 36, 2) := by decide +kernel
theorem dX6_init_29 : decode cX6_init 29 = .ok (.newarray .int, 2) := by decide +kernel
theorem dX6_init_31 : decode cX6_init 31 = .ok (.putfield 19, 3) := by decide +kernel
theorem dX6_init_34 : decode cX6_init 34 = .ok (.aload_n 0, 1) := by decide +kernel
theorem dX6_init_35 : decode cX6_init 35 = .ok (.bipush 36, 2) := by decide +kernel
theorem dX6_init_37 : decode cX6_init 37 = .ok (.newarray .int, 2) := by decide +kernel
theorem dX6_init_39 : decode cX6_init 39 = .ok (.putfield 22, 3) := by decide +kernel
theorem dX6_init_42 : decode cX6_init 42 = .ok (.aload_n 0, 1) := by decide +kernel
theorem dX6_init_43 : decode cX6_init 43 = .ok (.bipush 36, 2) := by decide +kernel
theorem dX6_init_45 : decode cX6_init 45 = .ok (.newarray .int, 2) := by decide +kernel
theorem dX6_init_47 : decode cX6_init 47 = .ok (.putfield 25, 3) := by decide +kernel
theorem dX6_init_50 : decode cX6_init 50 = .ok (.aload_n 0, 1) := by decide +kernel
theorem dX6_init_51 : decode cX6_init 51 = .ok (.bipush 12, 2) := by decide +kernel
theorem dX6_init_53 : decode cX6_init 53 = .ok (.newarray .int, 2) := by decide +kernel
theorem dX6_init_55 : decode cX6_init 55 = .ok (.putfield 28, 3) := by decide +kernel
theorem dX6_init_58 : decode cX6_init 58 = .ok (.aload_n 0, 1) := by decide +kernel
theorem dX6_init_59 : decode cX6_init 59 = .ok (.sipush 6000, 3) := by decide +kernel
theorem dX6_init_62 : decode cX6_init 62 = .ok (.newarray .int, 2) := by decide +kernel
theorem dX6_init_64 : decode cX6_init 64 = .ok (.putfield 31, 3) := by decide +kernel
theorem dX6_init_67 : decode cX6_init 67 = .ok (.aload_n 0, 1) := by decide +kernel
theorem dX6_init_68 : decode cX6_init 68 = .ok (.sipush 6000, 3) := by decide +kernel
theorem dX6_init_71 : decode cX6_init 71 = .ok (.newarray .int, 2) := by decide +kernel
theorem dX6_init_73 : decode cX6_init 73 = .ok (.putfield 34, 3) := by decide +kernel
theorem dX6_init_76 : decode cX6_init 76 = .ok (.aload_n 0, 1) := by decide +kernel
theorem dX6_init_77 : decode cX6_init 77 = .ok (.sipush 6000, 3) := by decide +kernel
theorem dX6_init_80 : decode cX6_init 80 = .ok (.newarray .int, 2) := by decide +kernel
theorem dX6_init_82 : decode cX6_init 82 = .ok (.putfield 37, 3) := by decide +kernel
theorem dX6_init_85 : decode cX6_init 85 = .ok (.aload_n 0, 1) := by decide +kernel
theorem dX6_init_86 : decode cX6_init 86 = .ok (.bipush 18, 2) := by decide +kernel
theorem dX6_init_88 : decode cX6_init 88 = .ok (.newarray .int, 2) := by decide +kernel
theorem dX6_init_90 : decode cX6_init 90 = .ok (.putfield 40, 3) := by decide +kernel
theorem dX6_init_93 : decode cX6_init 93 = .ok (.aload_n 0, 1) := by decide +kernel
theorem dX6_init_94 : decode cX6_init 94 = .ok (.bipush 18, 2) := by decide +kernel
theorem dX6_init_96 : decode cX6_init 96 = .ok (.newarray .int, 2) := by decide +kernel
theorem dX6_init_98 : decode cX6_init 98 = .ok (.putfield 43, 3) := by decide +kernel
theorem dX6_init_101 : decode cX6_init 101 = .ok (.aload_n 0, 1) := by decide +kernel
theorem dX6_init_102 : decode cX6_init 102 = .ok (.iconst 2, 1) := by decide +kernel
theorem dX6_init_103 : decode cX6_init 103 = .ok (.newarray .int, 2) := by decide +kernel
theorem dX6_init_105 : decode cX6_init 105 = .ok (.putfield 46, 3) := by decide +kernel
theorem dX6_init_108 : decode cX6_init 108 = .ok (.aload_n 0, 1) := by decide +kernel
theorem dX6_init_109 : decode cX6_init 109 = .ok (.sipush 6000, 3) := by decide +kernel
theorem dX6_init_112 : decode cX6_init 112 = .ok (.newarray .int, 2) := by decide +kernel
theorem dX6_init_114 : decode cX6_init 114 = .ok (.putfield 49, 3) := by decide +kernel
theorem dX6_init_117 : decode cX6_init 117 = .ok (.aload_n 0, 1) := by decide +kernel
theorem dX6_init_118 : decode cX6_init 118 = .ok (.bipush 12, 2) := by decide +kernel
theorem dX6_init_120 : decode cX6_init 120 = .ok (.newarray .int, 2) := by decide +kernel
theorem dX6_init_122 : decode cX6_init 122 = .ok (.putfield 52, 3) := by decide +kernel
theorem dX6_init_125 : decode cX6_init 125 = .ok (.aload_n 0, 1) := by decide +kernel
theorem dX6_init_126 : decode cX6_init 126 = .ok (.bipush 24, 2) := by decide +kernel
theorem dX6_init_128 : decode cX6_init 128 = .ok (.newarray .int, 2) := by decide +kernel
theorem dX6_init_130 : decode cX6_init 130 = .ok (.putfield 55, 3) := by decide +kernel
theorem dX6_init_133 : decode cX6_init 133 = .ok (.aload_n 0, 1) := by decide +kernel
theorem dX6_init_134 : decode cX6_init 134 = .ok (.bipush 36, 2) := by decide +kernel
theorem dX6_init_136 : decode cX6_init 136 = .ok (.newarray .int, 2) := by decide +kernel
theorem dX6_init_138 : decode cX6_init 138 = .ok (.putfield 58, 3) := by decide +kernel
theorem dX6_init_141 : decode cX6_init 141 = .ok (.iconst 0, 1) := by decide +kernel
theorem dX6_init_142 : decode cX6_init 142 = .ok (.istore_n 1, 1) := by decide +kernel
theorem dX6_init_143 : decode cX6_init 143 = .ok (.iload_n 1, 1) := by decide +kernel
theorem dX6_init_144 : decode cX6_init 144 = .ok (.iconst 4, 1) := by decide +kernel
theorem dX6_init_145 : decode cX6_init 145 = .ok (.if_icmp .ge 19, 3) := by decide +kernel
theorem dX6_init_148 : decode cX6_init 148 = .ok (.aload_n 0, 1) := by decide +kernel
theorem dX6_init_149 : decode cX6_init 149 = .ok (.getfield 7, 3) := by decide +kernel
theorem dX6_init_152 : decode cX6_init 152 = .ok (.iload_n 1, 1) := by decide +kernel
theorem dX6_init_153 : decode cX6_init 153 = .ok (.bipush 7, 2) := by decide +kernel
theorem dX6_init_155 : decode cX6_init 155 = .ok (.iload_n 1, 1) := by decide +kernel
theorem dX6_init_156 : decode cX6_init 156 = .ok (.imul, 1) := by decide +kernel
theorem dX6_init_157 : decode cX6_init 157 = .ok (.iastore, 1) := by decide +kernel
theorem dX6_init_158 : decode cX6_init 158 = .ok (.iinc 1 1, 3) := by decide +kernel
theorem dX6_init_161 : decode cX6_init 161 = .ok (.goto (-18), 3) := by decide +kernel
theorem dX6_init_164 : decode cX6_init 164 = .ok (.return_, 1) := by decide +kernel
theorem dX6_in_0 : decode cX6_in 0 = .ok (.iload_n 0, 1) := by decide +kernel
theorem dX6_in_1 : decode cX6_in 1 = .ok (.iload_n 1, 1) := by decide +kernel
theorem dX6_in_2 : decode cX6_in 2 = .ok (.if_icmp .lt 12, 3) := by decide +kernel
theorem dX6_in_5 : decode cX6_in 5 = .ok (.iload_n 0, 1) := by decide +kernel
theorem dX6_in_6 : decode cX6_in 6 = .ok (.iload_n 2, 1) := by decide +kernel
theorem dX6_in_7 : decode cX6_in 7 = .ok (.if_icmp .gt 7, 3) := by decide +kernel
theorem dX6_in_10 : decode cX6_in 10 = .ok (.iconst 1, 1) := by decide +kernel
theorem dX6_in_11 : decode cX6_in 11 = .ok (.goto 4, 3) := by decide +kernel
theorem dX6_in_14 : decode cX6_in 14 = .ok (.iconst 0, 1) := by decide +kernel
theorem dX6_in_15 : decode cX6_in 15 = .ok (.ireturn, 1) := by decide +kernel
theorem dX6_isPart_0 : decode cX6_isPart 0 = .ok (.iload_n 0, 1) := by decide +kernel
theorem dX6_isPart_1 : decode cX6_isPart 1 = .ok (.iconst 0, 1) := by decide +kernel
theorem dX6_isPart_2 : decode cX6_isPart 2 = .ok (.iconst 2, 1) := by decide +kernel
theorem dX6_isPart_3 : decode cX6_isPart 3 = .ok (.invokestatic 61, 3) := by decide +kernel
theorem dX6_isPart_6 : decode cX6_isPart 6 = .ok (.ireturn, 1) := by decide +kernel
theorem dX6_isNote_0 : decode cX6_isNote 0 = .ok (.iload_n 1, 1) := by decide +kernel
theorem dX6_isNote_1 : decode cX6_isNote 1 = .ok (.invokestatic 65, 3) := by decide +kernel
theorem dX6_isNote_4 : decode cX6_isNote 4 = .ok (.ifCond .eq 23, 3) := by decide +kernel
theorem dX6_isNote_7 : decode cX6_isNote 7 = .ok (.iload_n 2, 1) := by decide +kernel
theorem dX6_isNote_8 : decode cX6_isNote 8 = .ok (.iconst 0, 1) := by decide +kernel
theorem dX6_isNote_9 : decode cX6_isNote 9 = .ok (.aload_n 0, 1) := by decide +kernel
theorem dX6_isNote_10 : decode cX6_isNote 10 = .ok (.getfield 13, 3) := by decide +kernel
theorem dX6_isNote_13 : decode cX6_isNote 13 = .ok (.iload_n 1, 1) := by decide +kernel
theorem dX6_isNote_14 : decode cX6_isNote 14 = .ok (.iaload, 1) := by decide +kernel
theorem dX6_isNote_15 : decode cX6_isNote 15 = .ok (.iconst 1, 1) := by decide +kernel
theorem dX6_isNote_16 : decode cX6_isNote 16 = .ok (.isub, 1) := by decide +kernel
theorem dX6_isNote_17 : decode cX6_isNote 17 = .ok (.invokestatic 61, 3) := by decide +kernel
theorem dX6_isNote_20 : decode cX6_isNote 20 = .ok (.ifCond .eq 7, 3) := by decide +kernel
theorem dX6_isNote_23 : decode cX6_isNote 23 = .ok (.iconst 1, 1) := by decide +kernel
theorem dX6_isNote_24 : decode cX6_isNote 24 = .ok (.goto 4, 3) := by decide +kernel
theorem dX6_isNote_27 : decode cX6_isNote 27 = .ok (.iconst 0, 1) := by decide +kernel
theorem dX6_isNote_28 : decode cX6_isNote 28 = .ok (.ireturn, 1) := by decide +kernel
theorem dX6_has_0 : decode cX6_has 0 = .ok (.iload_n 0, 1) := by decide +kernel
theorem dX6_has_1 : decode cX6_has 1 = .ok (.iload_n 1, 1) := by decide +kernel
theorem dX6_has_2 : decode cX6_has 2 = .ok (.iand, 1) := by decide +kernel
theorem dX6_has_3 : decode cX6_has 3 = .ok (.ifCond .eq 7, 3) := by decide +kernel
theorem dX6_has_6 : decode cX6_has 6 = .ok (.iconst 1, 1) := by decide +kernel
theorem dX6_has_7 : decode cX6_has 7 = .ok (.goto 4, 3) := by decide +kernel
theorem dX6_has_10 : decode cX6_has 10 = .ok (.iconst 0, 1) := by decide +kernel
theorem dX6_has_11 : decode cX6_has 11 = .ok (.ireturn, 1) := by decide +kernel
theorem dX6_is_0 : decode cX6_is 0 = .ok (.aload_n 0, 1) := by decide +kernel
theorem dX6_is_1 : decode cX6_is 1 = .ok (.getfield 25, 3) := by decide +kernel
theorem dX6_is_4 : decode cX6_is 4 = .ok (.bipush 12, 2) := by decide +kernel
theorem dX6_is_6 : decode cX6_is 6 = .ok (.iload_n 1, 1) := by decide +kernel
theorem dX6_is_7 : decode cX6_is 7 = .ok (.imul, 1) := by decide +kernel
theorem dX6_is_8 : decode cX6_is 8 = .ok (.iload_n 2, 1) := by decide +kernel
theorem dX6_is_9 : decode cX6_is 9 = .ok (.iadd, 1) := by decide +kernel
theorem dX6_is_10 : decode cX6_is 10 = .ok (.iaload, 1) := by decide +kernel
theorem dX6_is_11 : decode cX6_is 11 = .ok (.iload_n 3, 1) := by decide +kernel
theorem dX6_is_12 : decode cX6_is 12 = .ok (.invokestatic 69, 3) := by decide +kernel
theorem dX6_is_15 : decode cX6_is 15 = .ok (.ireturn, 1) := by decide +kernel
theorem dX6_tune_0 : decode cX6_tune 0 = .ok (.iload_n 1, 1) := by decide +kernel
theorem dX6_tune_1 : decode cX6_tune 1 = .ok (.iconst 0, 1) := by decide +kernel
theorem dX6_tune_2 : decode cX6_tune 2 = .ok (.iconst 3, 1) := by decide +kernel
theorem dX6_tune_3 : decode cX6_tune 3 = .ok (.invokestatic 61, 3) := by decide +kernel
theorem dX6_tune_6 : decode cX6_tune 6 = .ok (.ifCond .eq 13, 3) := by decide +kernel
theorem dX6_tune_9 : decode cX6_tune 9 = .ok (.iload_n 2, 1) := by decide +kernel
theorem dX6_tune_10 : decode cX6_tune 10 = .ok (.iconst 0, 1) := by decide +kernel
theorem dX6_tune_11 : decode cX6_tune 11 = .ok (.bipush 60, 2) := by decide +kernel
theorem dX6_tune_13 : decode cX6_tune 13 = .ok (.invokestatic 61, 3) := by decide +kernel
theorem dX6_tune_16 : decode cX6_tune 16 = .ok (.ifCond .ne 5, 3) := by decide +kernel
theorem dX6_tune_19 : decode cX6_tune 19 = .ok (.iconst (-1), 1) := by decide +kernel
theorem dX6_tune_20 : decode cX6_tune 20 = .ok (.ireturn, 1) := by decide +kernel
theorem dX6_tune_21 : decode cX6_tune 21 = .ok (.aload_n 0, 1) := by decide +kernel
theorem dX6_tune_22 : decode cX6_tune 22 = .ok (.getfield 7, 3) := by decide +kernel
theorem dX6_tune_25 : decode cX6_tune 25 = .ok (.iload_n 1, 1) := by decide +kernel
theorem dX6_tune_26 : decode cX6_tune 26 = .ok (.iaload, 1) := by decide +kernel
theorem dX6_tune_27 : decode cX6_tune 27 = .ok (.istore_n 3, 1) := by decide +kernel
theorem dX6_tune_28 : decode cX6_tune 28 = .ok (.aload_n 0, 1) := by decide +kernel
theorem dX6_tune_29 : decode cX6_tune 29 = .ok (.getfield 7, 3) := by decide +kernel
theorem dX6_tune_32 : decode cX6_tune 32 = .ok (.iload_n 1, 1) := by decide +kernel
theorem dX6_tune_33 : decode cX6_tune 33 = .ok (.iload_n 2, 1) := by decide +kernel
theorem dX6_tune_34 : decode cX6_tune 34 = .ok (.iastore, 1) := by decide +kernel
theorem dX6_tune_35 : decode cX6_tune 35 = .ok (.iload_n 3, 1) := by decide +kernel
theorem dX6_tune_36 : decode cX6_tune 36 = .ok (.ireturn, 1) := by decide +kernel
theorem dX6_areMarks_0 : decode cX6_areMarks 0 = .ok (.iload_n 1, 1) := by decide +kernel
theorem dX6_areMarks_1 : decode cX6_areMarks 1 = .ok (.iconst 2, 1) := by decide +kernel
theorem dX6_areMarks_2 : decode cX6_areMarks 2 = .ok (.invokestatic 69, 3) := by decide +kernel
theorem dX6_areMarks_5 : decode cX6_areMarks 5 = .ok (.ifCond .eq 15, 3) := by decide +kernel
theorem dX6_areMarks_8 : decode cX6_areMarks 8 = .ok (.iload_n 0, 1) := by decide +kernel
theorem dX6_areMarks_9 : decode cX6_areMarks 9 = .ok (.ifCond .le 15, 3) := by decide +kernel
theorem dX6_areMarks_12 : decode cX6_areMarks 12 = .ok (.iload_n 1, 1) := by decide +kernel
theorem dX6_areMarks_13 : decode cX6_areMarks 13 = .ok (.iconst 1, 1) := by decide +kernel
theorem dX6_areMarks_14 : decode cX6_areMarks 14 = .ok (.invokestatic 69, 3) := by decide +kernel
theorem dX6_areMarks_17 : decode cX6_areMarks 17 = .ok (.ifCond .ne 7, 3) := by decide +kernel
theorem dX6_areMarks_20 : decode cX6_areMarks 20 = .ok (.iconst 1, 1) := by decide +kernel
theorem dX6_areMarks_21 : decode cX6_areMarks 21 = .ok (.goto 4, 3) := by decide +kernel
theorem dX6_areMarks_24 : decode cX6_areMarks 24 = .ok (.iconst 0, 1) := by decide +kernel
theorem dX6_areMarks_25 : decode cX6_areMarks 25 = .ok (.ireturn, 1) := by decide +kernel
theorem dX6_note_0 : decode cX6_note 0 = .ok (.iload_n 1, 1) := by decide +kernel
theorem dX6_note_1 : decode cX6_note 1 = .ok (.invokestatic 65, 3) := by decide +kernel
theorem dX6_note_4 : decode cX6_note 4 = .ok (.ifCond .eq 34, 3) := by decide +kernel
theorem dX6_note_7 : decode cX6_note 7 = .ok (.iload_n 2, 1) := by decide +kernel
theorem dX6_note_8 : decode cX6_note 8 = .ok (.iconst 0, 1) := by decide +kernel
theorem dX6_note_9 : decode cX6_note 9 = .ok (.bipush 80, 2) := by decide +kernel
theorem dX6_note_11 : decode cX6_note 11 = .ok (.invokestatic 61, 3) := by decide +kernel
theorem dX6_note_14 : decode cX6_note 14 = .ok (.ifCond .eq 24, 3) := by decide +kernel
theorem dX6_note_17 : decode cX6_note 17 = .ok (.iload_n 3, 1) := by decide +kernel
theorem dX6_note_18 : decode cX6_note 18 = .ok (.iconst 1, 1) := by decide +kernel
theorem dX6_note_19 : decode cX6_note 19 = .ok (.bipush 16, 2) := by decide +kernel
theorem dX6_note_21 : decode cX6_note 21 = .ok (.invokestatic 61, 3) := by decide +kernel
theorem dX6_note_24 : decode cX6_note 24 = .ok (.ifCond .eq 14, 3) := by decide +kernel
theorem dX6_note_27 : decode cX6_note 27 = .ok (.iload 4, 2) := by decide +kernel
theorem dX6_note_29 : decode cX6_note 29 = .ok (.iconst 0, 1) := by decide +kernel
theorem dX6_note_30 : decode cX6_note 30 = .ok (.bipush 15, 2) := by decide +kernel
theorem dX6_note_32 : decode cX6_note 32 = .ok (.invokestatic 61, 3) := by decide +kernel
theorem dX6_note_35 : decode cX6_note 35 = .ok (.ifCond .ne 5, 3) := by decide +kernel
theorem dX6_note_38 : decode cX6_note 38 = .ok (.iconst (-1), 1) := by decide +kernel
theorem dX6_note_39 : decode cX6_note 39 = .ok (.ireturn, 1) := by decide +kernel
theorem dX6_note_40 : decode cX6_note 40 = .ok (.aload_n 0, 1) := by decide +kernel
theorem dX6_note_41 : decode cX6_note 41 = .ok (.getfield 13, 3) := by decide +kernel
theorem dX6_note_44 : decode cX6_note 44 = .ok (.iload_n 1, 1) := by decide +kernel
theorem dX6_note_45 : decode cX6_note 45 = .ok (.iaload, 1) := by decide +kernel
theorem dX6_note_46 : decode cX6_note 46 = .ok (.iload 4, 2) := by decide +kernel
theorem dX6_note_48 : decode cX6_note 48 = .ok (.invokestatic 73, 3) := by decide +kernel
theorem dX6_note_51 : decode cX6_note 51 = .ok (.ifCond .ne 6, 3) := by decide +kernel
theorem dX6_note_54 : decode cX6_note 54 = .ok (.bipush (-4), 2) := by decide +kernel
theorem dX6_note_56 : decode cX6_note 56 = .ok (.ireturn, 1) := by decide +kernel
theorem dX6_note_57 : decode cX6_note 57 = .ok (.aload_n 0, 1) := by decide +kernel
theorem dX6_note_58 : decode cX6_note 58 = .ok (.getfield 13, 3) := by decide +kernel
theorem dX6_note_61 : decode cX6_note 61 = .ok (.iload_n 1, 1) := by decide +kernel
theorem dX6_note_62 : decode cX6_note 62 = .ok (.iaload, 1) := by decide +kernel
theorem dX6_note_63 : decode cX6_note 63 = .ok (.bipush 12, 2) := by decide +kernel
theorem dX6_note_65 : decode cX6_note 65 = .ok (.if_icmp .ne 6, 3) := by decide +kernel
theorem dX6_note_68 : decode cX6_note 68 = .ok (.bipush (-2), 2) := by decide +kernel
theorem dX6_note_70 : decode cX6_note 70 = .ok (.ireturn, 1) := by decide +kernel
theorem dX6_note_71 : decode cX6_note 71 = .ok (.bipush 12, 2) := by decide +kernel
theorem dX6_note_73 : decode cX6_note 73 = .ok (.iload_n 1, 1) := by decide +kernel
theorem dX6_note_74 : decode cX6_note 74 = .ok (.imul, 1) := by decide +kernel
theorem dX6_note_75 : decode cX6_note 75 = .ok (.aload_n 0, 1) := by decide +kernel
theorem dX6_note_76 : decode cX6_note 76 = .ok (.getfield 13, 3) := by decide +kernel
theorem dX6_note_79 : decode cX6_note 79 = .ok (.iload_n 1, 1) := by decide +kernel
theorem dX6_note_80 : decode cX6_note 80 = .ok (.iaload, 1) := by decide +kernel
theorem dX6_note_81 : decode cX6_note 81 = .ok (.iadd, 1) := by decide +kernel
theorem dX6_note_82 : decode cX6_note 82 = .ok (.istore 5, 2) := by decide +kernel
theorem dX6_note_84 : decode cX6_note 84 = .ok (.aload_n 0, 1) := by decide +kernel
theorem dX6_note_85 : decode cX6_note 85 = .ok (.getfield 16, 3) := by decide +kernel
theorem dX6_note_88 : decode cX6_note 88 = .ok (.iload 5, 2) := by decide +kernel
theorem dX6_note_90 : decode cX6_note 90 = .ok (.iload_n 2, 1) := by decide +kernel
theorem dX6_note_91 : decode cX6_note 91 = .ok (.iastore, 1) := by decide +kernel
theorem dX6_note_92 : decode cX6_note 92 = .ok (.aload_n 0, 1) := by decide +kernel
theorem dX6_note_93 : decode cX6_note 93 = .ok (.getfield 19, 3) := by decide +kernel
theorem dX6_note_96 : decode cX6_note 96 = .ok (.iload 5, 2) := by decide +kernel
theorem dX6_note_98 : decode cX6_note 98 = .ok (.iconst (-1), 1) := by decide +kernel
theorem dX6_note_99 : decode cX6_note 99 = .ok (.iastore, 1) := by decide +kernel
theorem dX6_note_100 : decode cX6_note 100 = .ok (.aload_n 0, 1) := by decide +kernel
theorem dX6_note_101 : decode cX6_note 101 = .ok (.getfield 22, 3) := by decide +kernel
theorem dX6_note_104 : decode cX6_note 104 = .ok (.iload 5, 2) := by decide +kernel
theorem dX6_note_106 : decode cX6_note 106 = .ok (.iload_n 3, 1) := by decide +kernel
theorem dX6_note_107 : decode cX6_note 107 = .ok (.iastore, 1) := by decide +kernel
theorem dX6_note_108 : decode cX6_note 108 = .ok (.aload_n 0, 1) := by decide +kernel
theorem dX6_note_109 : decode cX6_note 109 = .ok (.getfield 25, 3) := by decide +kernel
theorem dX6_note_112 : decode cX6_note 112 = .ok (.iload 5, 2) := by decide +kernel
theorem dX6_note_114 : decode cX6_note 114 = .ok (.iload 4, 2) := by decide +kernel
theorem dX6_note_116 : decode cX6_note 116 = .ok (.iastore, 1) := by decide +kernel
theorem dX6_note_117 : decode cX6_note 117 = .ok (.aload_n 0, 1) := by decide +kernel
theorem dX6_note_118 : decode cX6_note 118 = .ok (.getfield 13, 3) := by decide +kernel
theorem dX6_note_121 : decode cX6_note 121 = .ok (.iload_n 1, 1) := by decide +kernel
theorem dX6_note_122 : decode cX6_note 122 = .ok (.dup2, 1) := by decide +kernel
theorem dX6_note_123 : decode cX6_note 123 = .ok (.iaload, 1) := by decide +kernel
theorem dX6_note_124 : decode cX6_note 124 = .ok (.iconst 1, 1) := by decide +kernel
theorem dX6_note_125 : decode cX6_note 125 = .ok (.iadd, 1) := by decide +kernel
theorem dX6_note_126 : decode cX6_note 126 = .ok (.iastore, 1) := by decide +kernel
theorem dX6_note_127 : decode cX6_note 127 = .ok (.aload_n 0, 1) := by decide +kernel
theorem dX6_note_128 : decode cX6_note 128 = .ok (.getfield 13, 3) := by decide +kernel
theorem dX6_note_131 : decode cX6_note 131 = .ok (.iload_n 1, 1) := by decide +kernel
theorem dX6_note_132 : decode cX6_note 132 = .ok (.iaload, 1) := by decide +kernel
theorem dX6_note_133 : decode cX6_note 133 = .ok (.iconst 1, 1) := by decide +kernel
theorem dX6_note_134 : decode cX6_note 134 = .ok (.isub, 1) := by decide +kernel
theorem dX6_note_135 : decode cX6_note 135 = .ok (.ireturn, 1) := by decide +kernel
theorem dX6_stop_0 : decode cX6_stop 0 = .ok (.aload_n 0, 1) := by decide +kernel
theorem dX6_stop_1 : decode cX6_stop 1 = .ok (.iload_n 1, 1) := by decide +kernel
theorem dX6_stop_2 : decode cX6_stop 2 = .ok (.iload_n 2, 1) := by decide +kernel
theorem dX6_stop_3 : decode cX6_stop 3 = .ok (.invokevirtual 76, 3) := by decide +kernel
theorem dX6_stop_6 : decode cX6_stop 6 = .ok (.ifCond .ne 6, 3) := by decide +kernel
theorem dX6_stop_9 : decode cX6_stop 9 = .ok (.bipush (-9), 2) := by decide +kernel
theorem dX6_stop_11 : decode cX6_stop 11 = .ok (.ireturn, 1) := by decide +kernel
theorem dX6_stop_12 : decode cX6_stop 12 = .ok (.bipush 12, 2) := by decide +kernel
theorem dX6_stop_14 : decode cX6_stop 14 = .ok (.iload_n 1, 1) := by decide +kernel
theorem dX6_stop_15 : decode cX6_stop 15 = .ok (.imul, 1) := by decide +kernel
theorem dX6_stop_16 : decode cX6_stop 16 = .ok (.iload_n 2, 1) := by decide +kernel
theorem dX6_stop_17 : decode cX6_stop 17 = .ok (.iadd, 1) := by decide +kernel
theorem dX6_stop_18 : decode cX6_stop 18 = .ok (.istore 4, 2) := by decide +kernel
theorem dX6_stop_20 : decode cX6_stop 20 = .ok (.iload_n 3, 1) := by decide +kernel
theorem dX6_stop_21 : decode cX6_stop 21 = .ok (.iconst (-1), 1) := by decide +kernel
theorem dX6_stop_22 : decode cX6_stop 22 = .ok (.if_icmp .eq 24, 3) := by decide +kernel
theorem dX6_stop_25 : decode cX6_stop 25 = .ok (.iload_n 3, 1) := by decide +kernel
theorem dX6_stop_26 : decode cX6_stop 26 = .ok (.aload_n 0, 1) := by decide +kernel
theorem dX6_stop_27 : decode cX6_stop 27 = .ok (.getfield 16, 3) := by decide +kernel
theorem dX6_stop_30 : decode cX6_stop 30 = .ok (.iload 4, 2) := by decide +kernel
theorem dX6_stop_32 : decode cX6_stop 32 = .ok (.iaload, 1) := by decide +kernel
theorem dX6_stop_33 : decode cX6_stop 33 = .ok (.iconst 1, 1) := by decide +kernel
theorem dX6_stop_34 : decode cX6_stop 34 = .ok (.iadd, 1) := by decide +kernel
theorem dX6_stop_35 : decode cX6_stop 35 = .ok (.bipush 80, 2) := by decide +kernel
theorem dX6_stop_37 : decode cX6_stop 37 = .ok (.invokestatic 61, 3) := by decide +kernel
theorem dX6_stop_40 : decode cX6_stop 40 = .ok (.ifCond .ne 6, 3) := by decide +kernel
theorem dX6_stop_43 : decode cX6_stop 43 = .ok (.bipush (-9), 2) := by decide +kernel
theorem dX6_stop_45 : decode cX6_stop 45 = .ok (.ireturn, 1) := by decide +kernel
theorem dX6_stop_46 : decode cX6_stop 46 = .ok (.aload_n 0, 1) := by decide +kernel
theorem dX6_stop_47 : decode cX6_stop 47 = .ok (.getfield 19, 3) := by decide +kernel
theorem dX6_stop_50 : decode cX6_stop 50 = .ok (.iload 4, 2) := by decide +kernel
theorem dX6_stop_52 : decode cX6_stop 52 = .ok (.iaload, 1) := by decide +kernel
theorem dX6_stop_53 : decode cX6_stop 53 = .ok (.istore 5, 2) := by decide +kernel
theorem dX6_stop_55 : decode cX6_stop 55 = .ok (.aload_n 0, 1) := by decide +kernel
theorem dX6_stop_56 : decode cX6_stop 56 = .ok (.getfield 19, 3) := by decide +kernel
theorem dX6_stop_59 : decode cX6_stop 59 = .ok (.iload 4, 2) := by decide +kernel
theorem dX6_stop_61 : decode cX6_stop 61 = .ok (.iload_n 3, 1) := by decide +kernel
theorem dX6_stop_62 : decode cX6_stop 62 = .ok (.iastore, 1) := by decide +kernel
theorem dX6_stop_63 : decode cX6_stop 63 = .ok (.iload 5, 2) := by decide +kernel
theorem dX6_stop_65 : decode cX6_stop 65 = .ok (.ireturn, 1) := by decide +kernel
theorem dX6_mark_0 : decode cX6_mark 0 = .ok (.aload_n 0, 1) := by decide +kernel
theorem dX6_mark_1 : decode cX6_mark 1 = .ok (.iload_n 1, 1) := by decide +kernel
theorem dX6_mark_2 : decode cX6_mark 2 = .ok (.iload_n 2, 1) := by decide +kernel
theorem dX6_mark_3 : decode cX6_mark 3 = .ok (.invokevirtual 76, 3) := by decide +kernel
theorem dX6_mark_6 : decode cX6_mark 6 = .ok (.ifCond .eq 13, 3) := by decide +kernel
theorem dX6_mark_9 : decode cX6_mark 9 = .ok (.iload_n 3, 1) := by decide +kernel
theorem dX6_mark_10 : decode cX6_mark 10 = .ok (.iconst 0, 1) := by decide +kernel
theorem dX6_mark_11 : decode cX6_mark 11 = .ok (.bipush 15, 2) := by decide +kernel
theorem dX6_mark_13 : decode cX6_mark 13 = .ok (.invokestatic 61, 3) := by decide +kernel
theorem dX6_mark_16 : decode cX6_mark 16 = .ok (.ifCond .ne 5, 3) := by decide +kernel
theorem dX6_mark_19 : decode cX6_mark 19 = .ok (.iconst (-1), 1) := by decide +kernel
theorem dX6_mark_20 : decode cX6_mark 20 = .ok (.ireturn, 1) := by decide +kernel
theorem dX6_mark_21 : decode cX6_mark 21 = .ok (.iload_n 2, 1) := by decide +kernel
theorem dX6_mark_22 : decode cX6_mark 22 = .ok (.iload_n 3, 1) := by decide +kernel
theorem dX6_mark_23 : decode cX6_mark 23 = .ok (.invokestatic 73, 3) := by decide +kernel
theorem dX6_mark_26 : decode cX6_mark 26 = .ok (.ifCond .ne 6, 3) := by decide +kernel
theorem dX6_mark_29 : decode cX6_mark 29 = .ok (.bipush (-4), 2) := by decide +kernel
theorem dX6_mark_31 : decode cX6_mark 31 = .ok (.ireturn, 1) := by decide +kernel
theorem dX6_mark_32 : decode cX6_mark 32 = .ok (.bipush 12, 2) := by decide +kernel
theorem dX6_mark_34 : decode cX6_mark 34 = .ok (.iload_n 1, 1) := by decide +kernel
theorem dX6_mark_35 : decode cX6_mark 35 = .ok (.imul, 1) := by decide +kernel
theorem dX6_mark_36 : decode cX6_mark 36 = .ok (.iload_n 2, 1) := by decide +kernel
theorem dX6_mark_37 : decode cX6_mark 37 = .ok (.iadd, 1) := by decide +kernel
theorem dX6_mark_38 : decode cX6_mark 38 = .ok (.istore 4, 2) := by decide +kernel
theorem dX6_mark_40 : decode cX6_mark 40 = .ok (.aload_n 0, 1) := by decide +kernel
theorem dX6_mark_41 : decode cX6_mark 41 = .ok (.getfield 25, 3) := by decide +kernel
theorem dX6_mark_44 : decode cX6_mark 44 = .ok (.iload 4, 2) := by decide +kernel
theorem dX6_mark_46 : decode cX6_mark 46 = .ok (.iaload, 1) := by decide +kernel
theorem dX6_mark_47 : decode cX6_mark 47 = .ok (.istore 5, 2) := by decide +kernel
theorem dX6_mark_49 : decode cX6_mark 49 = .ok (.aload_n 0, 1) := by decide +kernel
theorem dX6_mark_50 : decode cX6_mark 50 = .ok (.getfield 25, 3) := by decide +kernel
theorem dX6_mark_53 : decode cX6_mark 53 = .ok (.iload 4, 2) := by decide +kernel
theorem dX6_mark_55 : decode cX6_mark 55 = .ok (.iload_n 3, 1) := by decide +kernel
theorem dX6_mark_56 : decode cX6_mark 56 = .ok (.iastore, 1) := by decide +kernel
theorem dX6_mark_57 : decode cX6_mark 57 = .ok (.iload 5, 2) := by decide +kernel
theorem dX6_mark_59 : decode cX6_mark 59 = .ok (.ireturn, 1) := by decide +kernel
theorem dX6_cut_0 : decode cX6_cut 0 = .ok (.iload_n 1, 1) := by decide +kernel
theorem dX6_cut_1 : decode cX6_cut 1 = .ok (.invokestatic 65, 3) := by decide +kernel
theorem dX6_cut_4 : decode cX6_cut 4 = .ok (.ifCond .ne 5, 3) := by decide +kernel
theorem dX6_cut_7 : decode cX6_cut 7 = .ok (.iconst (-1), 1) := by decide +kernel
theorem dX6_cut_8 : decode cX6_cut 8 = .ok (.ireturn, 1) := by decide +kernel
theorem dX6_cut_9 : decode cX6_cut 9 = .ok (.aload_n 0, 1) := by decide +kernel
theorem dX6_cut_10 : decode cX6_cut 10 = .ok (.getfield 13, 3) := by decide +kernel
theorem dX6_cut_13 : decode cX6_cut 13 = .ok (.iload_n 1, 1) := by decide +kernel
theorem dX6_cut_14 : decode cX6_cut 14 = .ok (.iaload, 1) := by decide +kernel
theorem dX6_cut_15 : decode cX6_cut 15 = .ok (.ifCond .ne 6, 3) := by decide +kernel
theorem dX6_cut_18 : decode cX6_cut 18 = .ok (.bipush (-3), 2) := by decide +kernel
theorem dX6_cut_20 : decode cX6_cut 20 = .ok (.ireturn, 1) := by decide +kernel
theorem dX6_cut_21 : decode cX6_cut 21 = .ok (.aload_n 0, 1) := by decide +kernel
theorem dX6_cut_22 : decode cX6_cut 22 = .ok (.getfield 13, 3) := by decide +kernel
theorem dX6_cut_25 : decode cX6_cut 25 = .ok (.iload_n 1, 1) := by decide +kernel
theorem dX6_cut_26 : decode cX6_cut 26 = .ok (.dup2, 1) := by decide +kernel
theorem dX6_cut_27 : decode cX6_cut 27 = .ok (.iaload, 1) := by decide +kernel
theorem dX6_cut_28 : decode cX6_cut 28 = .ok (.iconst 1, 1) := by decide +kernel
theorem dX6_cut_29 : decode cX6_cut 29 = .ok (.isub, 1) := by decide +kernel
theorem dX6_cut_30 : decode cX6_cut 30 = .ok (.iastore, 1) := by decide +kernel
theorem dX6_cut_31 : decode cX6_cut 31 = .ok (.aload_n 0, 1) := by decide +kernel
theorem dX6_cut_32 : decode cX6_cut 32 = .ok (.getfield 13, 3) := by decide +kernel
theorem dX6_cut_35 : decode cX6_cut 35 = .ok (.iload_n 1, 1) := by decide +kernel
theorem dX6_cut_36 : decode cX6_cut 36 = .ok (.iaload, 1) := by decide +kernel
theorem dX6_cut_37 : decode cX6_cut 37 = .ok (.ireturn, 1) := by decide +kernel
theorem dX6_onset_0 : decode cX6_onset 0 = .ok (.iconst 0, 1) := by decide +kernel
theorem dX6_onset_1 : decode cX6_onset 1 = .ok (.istore_n 3, 1) := by decide +kernel
theorem dX6_onset_2 : decode cX6_onset 2 = .ok (.iconst 0, 1) := by decide +kernel
theorem dX6_onset_3 : decode cX6_onset 3 = .ok (.istore 4, 2) := by decide +kernel
theorem dX6_onset_5 : decode cX6_onset 5 = .ok (.iload 4, 2) := by decide +kernel
theorem dX6_onset_7 : decode cX6_onset 7 = .ok (.iload_n 2, 1) := by decide +kernel
theorem dX6_onset_8 : decode cX6_onset 8 = .ok (.if_icmp .ge 24, 3) := by decide +kernel
theorem dX6_onset_11 : decode cX6_onset 11 = .ok (.iload_n 3, 1) := by decide +kernel
theorem dX6_onset_12 : decode cX6_onset 12 = .ok (.aload_n 0, 1) := by decide +kernel
theorem dX6_onset_13 : decode cX6_onset 13 = .ok (.getfield 22, 3) := by decide +kernel
theorem dX6_onset_16 : decode cX6_onset 16 = .ok (.bipush 12, 2) := by decide +kernel
theorem dX6_onset_18 : decode cX6_onset 18 = .ok (.iload_n 1, 1) := by decide +kernel
theorem dX6_onset_19 : decode cX6_onset 19 = .ok (.imul, 1) := by decide +kernel
theorem dX6_onset_20 : decode cX6_onset 20 = .ok (.iload 4, 2) := by decide +kernel
theorem dX6_onset_22 : decode cX6_onset 22 = .ok (.iadd, 1) := by decide +kernel
theorem dX6_onset_23 : decode cX6_onset 23 = .ok (.iaload, 1) := by decide +kernel
theorem dX6_onset_24 : decode cX6_onset 24 = .ok (.iadd, 1) := by decide +kernel
theorem dX6_onset_25 : decode cX6_onset 25 = .ok (.istore_n 3, 1) := by decide +kernel
theorem dX6_onset_26 : decode cX6_onset 26 = .ok (.iinc 4 1, 3) := by decide +kernel
theorem dX6_onset_29 : decode cX6_onset 29 = .ok (.goto (-24), 3) := by decide +kernel
theorem dX6_onset_32 : decode cX6_onset 32 = .ok (.iload_n 3, 1) := by decide +kernel
theorem dX6_onset_33 : decode cX6_onset 33 = .ok (.ireturn, 1) := by decide +kernel
theorem dX6_findOnes_0 : decode cX6_findOnes 0 = .ok (.iconst 0, 1) := by decide +kernel
theorem dX6_findOnes_1 : decode cX6_findOnes 1 = .ok (.istore 4, 2) := by decide +kernel
theorem dX6_findOnes_3 : decode cX6_findOnes 3 = .ok (.iload_n 3, 1) := by decide +kernel
theorem dX6_findOnes_4 : decode cX6_findOnes 4 = .ok (.aload_n 0, 1) := by decide +kernel
theorem dX6_findOnes_5 : decode cX6_findOnes 5 = .ok (.getfield 7, 3) := by decide +kernel
theorem dX6_findOnes_8 : decode cX6_findOnes 8 = .ok (.iload_n 2, 1) := by decide +kernel
theorem dX6_findOnes_9 : decode cX6_findOnes 9 = .ok (.iaload, 1) := by decide +kernel
theorem dX6_findOnes_10 : decode cX6_findOnes 10 = .ok (.isub, 1) := by decide +kernel
theorem dX6_findOnes_11 : decode cX6_findOnes 11 = .ok (.istore 5, 2) := by decide +kernel
theorem dX6_findOnes_13 : decode cX6_findOnes 13 = .ok (.iload 5, 2) := by decide +kernel
theorem dX6_findOnes_15 : decode cX6_findOnes 15 = .ok (.ifCond .ne 26, 3) := by decide +kernel
theorem dX6_findOnes_18 : decode cX6_findOnes 18 = .ok (.aload_n 0, 1) := by decide +kernel
theorem dX6_findOnes_19 : decode cX6_findOnes 19 = .ok (.getfield 40, 3) := by decide +kernel
theorem dX6_findOnes_22 : decode cX6_findOnes 22 = .ok (.bipush 9, 2) := by decide +kernel
theorem dX6_findOnes_24 : decode cX6_findOnes 24 = .ok (.iload_n 1, 1) := by decide +kernel
theorem dX6_findOnes_25 : decode cX6_findOnes 25 = .ok (.imul, 1) := by decide +kernel
theorem dX6_findOnes_26 : decode cX6_findOnes 26 = .ok (.iconst 0, 1) := by decide +kernel
theorem dX6_findOnes_27 : decode cX6_findOnes 27 = .ok (.iastore, 1) := by decide +kernel
theorem dX6_findOnes_28 : decode cX6_findOnes 28 = .ok (.aload_n 0, 1) := by decide +kernel
theorem dX6_findOnes_29 : decode cX6_findOnes 29 = .ok (.getfield 43, 3) := by decide +kernel
theorem dX6_findOnes_32 : decode cX6_findOnes 32 = .ok (.bipush 9, 2) := by decide +kernel
theorem dX6_findOnes_34 : decode cX6_findOnes 34 = .ok (.iload_n 1, 1) := by decide +kernel
theorem dX6_findOnes_35 : decode cX6_findOnes 35 = .ok (.imul, 1) := by decide +kernel
theorem dX6_findOnes_36 : decode cX6_findOnes 36 = .ok (.iconst 0, 1) := by decide +kernel
theorem dX6_findOnes_37 : decode cX6_findOnes 37 = .ok (.iastore, 1) := by decide +kernel
theorem dX6_findOnes_38 : decode cX6_findOnes 38 = .ok (.iconst 1, 1) := by decide +kernel
theorem dX6_findOnes_39 : decode cX6_findOnes 39 = .ok (.istore 4, 2) := by decide +kernel
theorem dX6_findOnes_41 : decode cX6_findOnes 41 = .ok (.iconst 1, 1) := by decide +kernel
theorem dX6_findOnes_42 : decode cX6_findOnes 42 = .ok (.istore 6, 2) := by decide +kernel
theorem dX6_findOnes_44 : decode cX6_findOnes 44 = .ok (.iload 6, 2) := by decide +kernel
theorem dX6_findOnes_46 : decode cX6_findOnes 46 = .ok (.iconst 4, 1) := by decide +kernel
theorem dX6_findOnes_47 : decode cX6_findOnes 47 = .ok (.if_icmp .gt 95, 3) := by decide +kernel
theorem dX6_findOnes_50 : decode cX6_findOnes 50 = .ok (.iconst 0, 1) := by decide +kernel
theorem dX6_findOnes_51 : decode cX6_findOnes 51 = .ok (.istore 7, 2) := by decide +kernel
theorem dX6_findOnes_53 : decode cX6_findOnes 53 = .ok (.iload 7, 2) := by decide +kernel
theorem dX6_findOnes_55 : decode cX6_findOnes 55 = .ok (.iconst 2, 1) := by decide +kernel
theorem dX6_findOnes_56 : decode cX6_findOnes 56 = .ok (.if_icmp .ge 80, 3) := by decide +kernel
theorem dX6_findOnes_59 : decode cX6_findOnes 59 = .ok (.iload 5, 2) := by decide +kernel
theorem dX6_findOnes_61 : decode cX6_findOnes 61 = .ok (.iload 7, 2) := by decide +kernel
theorem dX6_findOnes_63 : decode cX6_findOnes 63 = .ok (.isub, 1) := by decide +kernel
theorem dX6_findOnes_64 : decode cX6_findOnes 64 = .ok (.iload 6, 2) := by decide +kernel
theorem dX6_findOnes_66 : decode cX6_findOnes 66 = .ok (.iconst 4, 1) := by decide +kernel
theorem dX6_findOnes_67 : decode cX6_findOnes 67 = .ok (.if_icmp .ne 7, 3) := by decide +kernel
theorem dX6_findOnes_70 : decode cX6_findOnes 70 = .ok (.iconst 5, 1) := by decide +kernel
theorem dX6_findOnes_71 : decode cX6_findOnes 71 = .ok (.goto 9, 3) := by decide +kernel
theorem dX6_findOnes_74 : decode cX6_findOnes 74 = .ok (.iconst 2, 1) := by decide +kernel
theorem dX6_findOnes_75 : decode cX6_findOnes 75 = .ok (.iload 6, 2) := by decide +kernel
theorem dX6_findOnes_77 : decode cX6_findOnes 77 = .ok (.imul, 1) := by decide +kernel
theorem dX6_findOnes_78 : decode cX6_findOnes 78 = .ok (.iconst 2, 1) := by decide +kernel
theorem dX6_findOnes_79 : decode cX6_findOnes 79 = .ok (.isub, 1) := by decide +kernel
theorem dX6_findOnes_80 : decode cX6_findOnes 80 = .ok (.isub, 1) := by decide +kernel
theorem dX6_findOnes_81 : decode cX6_findOnes 81 = .ok (.istore 8, 2) := by decide +kernel
theorem dX6_findOnes_83 : decode cX6_findOnes 83 = .ok (.iload 8, 2) := by decide +kernel
theorem dX6_findOnes_85 : decode cX6_findOnes 85 = .ok (.iconst 1, 1) := by decide +kernel
theorem dX6_findOnes_86 : decode cX6_findOnes 86 = .ok (.bipush 12, 2) := by decide +kernel
theorem dX6_findOnes_88 : decode cX6_findOnes 88 = .ok (.invokestatic 61, 3) := by decide +kernel
theorem dX6_findOnes_91 : decode cX6_findOnes 91 = .ok (.ifCond .eq 39, 3) := by decide +kernel
theorem dX6_findOnes_94 : decode cX6_findOnes 94 = .ok (.aload_n 0, 1) := by decide +kernel
theorem dX6_findOnes_95 : decode cX6_findOnes 95 = .ok (.getfield 40, 3) := by decide +kernel
theorem dX6_findOnes_98 : decode cX6_findOnes 98 = .ok (.bipush 9, 2) := by decide +kernel
theorem dX6_findOnes_100 : decode cX6_findOnes 100 = .ok (.iload_n 1, 1) := by decide +kernel
theorem dX6_findOnes_101 : decode cX6_findOnes 101 = .ok (.imul, 1) := by decide +kernel
theorem dX6_findOnes_102 : decode cX6_findOnes 102 = .ok (.iload 4, 2) := by decide +kernel
theorem dX6_findOnes_104 : decode cX6_findOnes 104 = .ok (.iadd, 1) := by decide +kernel
theorem dX6_findOnes_105 : decode cX6_findOnes 105 = .ok (.iload 8, 2) := by decide +kernel
theorem dX6_findOnes_107 : decode cX6_findOnes 107 = .ok (.iastore, 1) := by decide +kernel
theorem dX6_findOnes_108 : decode cX6_findOnes 108 = .ok (.aload_n 0, 1) := by decide +kernel
theorem dX6_findOnes_109 : decode cX6_findOnes 109 = .ok (.getfield 43, 3) := by decide +kernel
theorem dX6_findOnes_112 : decode cX6_findOnes 112 = .ok (.bipush 9, 2) := by decide +kernel
theorem dX6_findOnes_114 : decode cX6_findOnes 114 = .ok (.iload_n 1, 1) := by decide +kernel
theorem dX6_findOnes_115 : decode cX6_findOnes 115 = .ok (.imul, 1) := by decide +kernel
theorem dX6_findOnes_116 : decode cX6_findOnes 116 = .ok (.iload 4, 2) := by decide +kernel
theorem dX6_findOnes_118 : decode cX6_findOnes 118 = .ok (.iadd, 1) := by decide +kernel
theorem dX6_findOnes_119 : decode cX6_findOnes 119 = .ok (.iload 6, 2) := by decide +kernel
theorem dX6_findOnes_121 : decode cX6_findOnes 121 = .ok (.iconst 5, 1) := by decide +kernel
theorem dX6_findOnes_122 : decode cX6_findOnes 122 = .ok (.iload 7, 2) := by decide +kernel
theorem dX6_findOnes_124 : decode cX6_findOnes 124 = .ok (.imul, 1) := by decide +kernel
theorem dX6_findOnes_125 : decode cX6_findOnes 125 = .ok (.iadd, 1) := by decide +kernel
theorem dX6_findOnes_126 : decode cX6_findOnes 126 = .ok (.iastore, 1) := by decide +kernel
theorem dX6_findOnes_127 : decode cX6_findOnes 127 = .ok (.iinc 4 1, 3) := by decide +kernel
theorem dX6_findOnes_130 : decode cX6_findOnes 130 = .ok (.iinc 7 1, 3) := by decide +kernel
theorem dX6_findOnes_133 : decode cX6_findOnes 133 = .ok (.goto (-80), 3) := by decide +kernel
theorem dX6_findOnes_136 : decode cX6_findOnes 136 = .ok (.iinc 6 1, 3) := by decide +kernel
theorem dX6_findOnes_139 : decode cX6_findOnes 139 = .ok (.goto (-95), 3) := by decide +kernel
theorem dX6_findOnes_142 : decode cX6_findOnes 142 = .ok (.aload_n 0, 1) := by decide +kernel
theorem dX6_findOnes_143 : decode cX6_findOnes 143 = .ok (.getfield 46, 3) := by decide +kernel
theorem dX6_findOnes_146 : decode cX6_findOnes 146 = .ok (.iload_n 1, 1) := by decide +kernel
theorem dX6_findOnes_147 : decode cX6_findOnes 147 = .ok (.iload 4, 2) := by decide +kernel
theorem dX6_findOnes_149 : decode cX6_findOnes 149 = .ok (.iastore, 1) := by decide +kernel
theorem dX6_findOnes_150 : decode cX6_findOnes 150 = .ok (.return_, 1) := by decide +kernel
theorem dX6_keep_0 : decode cX6_keep 0 = .ok (.sipush 500, 3) := by decide +kernel
theorem dX6_keep_3 : decode cX6_keep 3 = .ok (.iload_n 1, 1) := by decide +kernel
theorem dX6_keep_4 : decode cX6_keep 4 = .ok (.imul, 1) := by decide +kernel
theorem dX6_keep_5 : decode cX6_keep 5 = .ok (.aload_n 0, 1) := by decide +kernel
theorem dX6_keep_6 : decode cX6_keep 6 = .ok (.getfield 28, 3) := by decide +kernel
theorem dX6_keep_9 : decode cX6_keep 9 = .ok (.iload_n 1, 1) := by decide +kernel
theorem dX6_keep_10 : decode cX6_keep 10 = .ok (.iaload, 1) := by decide +kernel
theorem dX6_keep_11 : decode cX6_keep 11 = .ok (.iadd, 1) := by decide +kernel
theorem dX6_keep_12 : decode cX6_keep 12 = .ok (.istore 5, 2) := by decide +kernel
theorem dX6_keep_14 : decode cX6_keep 14 = .ok (.iload 5, 2) := by decide +kernel
theorem dX6_keep_16 : decode cX6_keep 16 = .ok (.sipush 500, 3) := by decide +kernel
theorem dX6_keep_19 : decode cX6_keep 19 = .ok (.iload_n 1, 1) := by decide +kernel
theorem dX6_keep_20 : decode cX6_keep 20 = .ok (.imul, 1) := by decide +kernel
theorem dX6_keep_21 : decode cX6_keep 21 = .ok (.if_icmp .le 96, 3) := by decide +kernel
theorem dX6_keep_24 : decode cX6_keep 24 = .ok (.aload_n 0, 1) := by decide +kernel
theorem dX6_keep_25 : decode cX6_keep 25 = .ok (.getfield 31, 3) := by decide +kernel
theorem dX6_keep_28 : decode cX6_keep 28 = .ok (.iload 5, 2) := by decide +kernel
theorem dX6_keep_30 : decode cX6_keep 30 = .ok (.iconst 1, 1) := by decide +kernel
theorem dX6_keep_31 : decode cX6_keep 31 = .ok (.isub, 1) := by decide +kernel
theorem dX6_keep_32 : decode cX6_keep 32 = .ok (.iaload, 1) := by decide +kernel
theorem dX6_keep_33 : decode cX6_keep 33 = .ok (.iload_n 2, 1) := by decide +kernel
theorem dX6_keep_34 : decode cX6_keep 34 = .ok (.if_icmp .gt 29, 3) := by decide +kernel
theorem dX6_keep_37 : decode cX6_keep 37 = .ok (.aload_n 0, 1) := by decide +kernel
theorem dX6_keep_38 : decode cX6_keep 38 = .ok (.getfield 31, 3) := by decide +kernel
theorem dX6_keep_41 : decode cX6_keep 41 = .ok (.iload 5, 2) := by decide +kernel
theorem dX6_keep_43 : decode cX6_keep 43 = .ok (.iconst 1, 1) := by decide +kernel
theorem dX6_keep_44 : decode cX6_keep 44 = .ok (.isub, 1) := by decide +kernel
theorem dX6_keep_45 : decode cX6_keep 45 = .ok (.iaload, 1) := by decide +kernel
theorem dX6_keep_46 : decode cX6_keep 46 = .ok (.iload_n 2, 1) := by decide +kernel
theorem dX6_keep_47 : decode cX6_keep 47 = .ok (.if_icmp .ne 70, 3) := by decide +kernel
theorem dX6_keep_50 : decode cX6_keep 50 = .ok (.aload_n 0, 1) := by decide +kernel
theorem dX6_keep_51 : decode cX6_keep 51 = .ok (.getfield 34, 3) := by decide +kernel
theorem dX6_keep_54 : decode cX6_keep 54 = .ok (.iload 5, 2) := by decide +kernel
theorem dX6_keep_56 : decode cX6_keep 56 = .ok (.iconst 1, 1) := by decide +kernel
theorem dX6_keep_57 : decode cX6_keep 57 = .ok (.isub, 1) := by decide +kernel
theorem dX6_keep_58 : decode cX6_keep 58 = .ok (.iaload, 1) := by decide +kernel
theorem dX6_keep_59 : decode cX6_keep 59 = .ok (.iload_n 3, 1) := by decide +kernel
theorem dX6_keep_60 : decode cX6_keep 60 = .ok (.if_icmp .le 57, 3) := by decide +kernel
theorem dX6_keep_63 : decode cX6_keep 63 = .ok (.aload_n 0, 1) := by decide +kernel
theorem dX6_keep_64 : decode cX6_keep 64 = .ok (.getfield 31, 3) := by decide +kernel
theorem dX6_keep_67 : decode cX6_keep 67 = .ok (.iload 5, 2) := by decide +kernel
theorem dX6_keep_69 : decode cX6_keep 69 = .ok (.aload_n 0, 1) := by decide +kernel
theorem dX6_keep_70 : decode cX6_keep 70 = .ok (.getfield 31, 3) := by decide +kernel
theorem dX6_keep_73 : decode cX6_keep 73 = .ok (.iload 5, 2) := by decide +kernel
theorem dX6_keep_75 : decode cX6_keep 75 = .ok (.iconst 1, 1) := by decide +kernel
theorem dX6_keep_76 : decode cX6_keep 76 = .ok (.isub, 1) := by decide +kernel
theorem dX6_keep_77 : decode cX6_keep 77 = .ok (.iaload, 1) := by decide +kernel
theorem dX6_keep_78 : decode cX6_keep 78 = .ok (.iastore, 1) := by decide +kernel
theorem dX6_keep_79 : decode cX6_keep 79 = .ok (.aload_n 0, 1) := by decide +kernel
theorem dX6_keep_80 : decode cX6_keep 80 = .ok (.getfield 34, 3) := by decide +kernel
theorem dX6_keep_83 : decode cX6_keep 83 = .ok (.iload 5, 2) := by decide +kernel
theorem dX6_keep_85 : decode cX6_keep 85 = .ok (.aload_n 0, 1) := by decide +kernel
theorem dX6_keep_86 : decode cX6_keep 86 = .ok (.getfield 34, 3) := by decide +kernel
theorem dX6_keep_89 : decode cX6_keep 89 = .ok (.iload 5, 2) := by decide +kernel
theorem dX6_keep_91 : decode cX6_keep 91 = .ok (.iconst 1, 1) := by decide +kernel
theorem dX6_keep_92 : decode cX6_keep 92 = .ok (.isub, 1) := by decide +kernel
theorem dX6_keep_93 : decode cX6_keep 93 = .ok (.iaload, 1) := by decide +kernel
theorem dX6_keep_94 : decode cX6_keep 94 = .ok (.iastore, 1) := by decide +kernel
theorem dX6_keep_95 : decode cX6_keep 95 = .ok (.aload_n 0, 1) := by decide +kernel
theorem dX6_keep_96 : decode cX6_keep 96 = .ok (.getfield 37, 3) := by decide +kernel
theorem dX6_keep_99 : decode cX6_keep 99 = .ok (.iload 5, 2) := by decide +kernel
theorem dX6_keep_101 : decode cX6_keep 101 = .ok (.aload_n 0, 1) := by decide +kernel
theorem dX6_keep_102 : decode cX6_keep 102 = .ok (.getfield 37, 3) := by decide +kernel
theorem dX6_keep_105 : decode cX6_keep 105 = .ok (.iload 5, 2) := by decide +kernel
theorem dX6_keep_107 : decode cX6_keep 107 = .ok (.iconst 1, 1) := by decide +kernel
theorem dX6_keep_108 : decode cX6_keep 108 = .ok (.isub, 1) := by decide +kernel
theorem dX6_keep_109 : decode cX6_keep 109 = .ok (.iaload, 1) := by decide +kernel
theorem dX6_keep_110 : decode cX6_keep 110 = .ok (.iastore, 1) := by decide +kernel
theorem dX6_keep_111 : decode cX6_keep 111 = .ok (.iinc 5 (-1), 3) := by decide +kernel
theorem dX6_keep_114 : decode cX6_keep 114 = .ok (.goto (-100), 3) := by decide +kernel
theorem dX6_keep_117 : decode cX6_keep 117 = .ok (.aload_n 0, 1) := by decide +kernel
theorem dX6_keep_118 : decode cX6_keep 118 = .ok (.getfield 31, 3) := by decide +kernel
theorem dX6_keep_121 : decode cX6_keep 121 = .ok (.iload 5, 2) := by decide +kernel
theorem dX6_keep_123 : decode cX6_keep 123 = .ok (.iload_n 2, 1) := by decide +kernel
theorem dX6_keep_124 : decode cX6_keep 124 = .ok (.iastore, 1) := by decide +kernel
theorem dX6_keep_125 : decode cX6_keep 125 = .ok (.aload_n 0, 1) := by decide +kernel
theorem dX6_keep_126 : decode cX6_keep 126 = .ok (.getfield 34, 3) := by decide +kernel
theorem dX6_keep_129 : decode cX6_keep 129 = .ok (.iload 5, 2) := by decide +kernel
theorem dX6_keep_131 : decode cX6_keep 131 = .ok (.iload_n 3, 1) := by decide +kernel
theorem dX6_keep_132 : decode cX6_keep 132 = .ok (.iastore, 1) := by decide +kernel
theorem dX6_keep_133 : decode cX6_keep 133 = .ok (.aload_n 0, 1) := by decide +kernel
theorem dX6_keep_134 : decode cX6_keep 134 = .ok (.getfield 37, 3) := by decide +kernel
theorem dX6_keep_137 : decode cX6_keep 137 = .ok (.iload 5, 2) := by decide +kernel
theorem dX6_keep_139 : decode cX6_keep 139 = .ok (.iload 4, 2) := by decide +kernel
theorem dX6_keep_141 : decode cX6_keep 141 = .ok (.iastore, 1) := by decide +kernel
theorem dX6_keep_142 : decode cX6_keep 142 = .ok (.aload_n 0, 1) := by decide +kernel
theorem dX6_keep_143 : decode cX6_keep 143 = .ok (.getfield 28, 3) := by decide +kernel
theorem dX6_keep_146 : decode cX6_keep 146 = .ok (.iload_n 1, 1) := by decide +kernel
theorem dX6_keep_147 : decode cX6_keep 147 = .ok (.dup2, 1) := by decide +kernel
theorem dX6_keep_148 : decode cX6_keep 148 = .ok (.iaload, 1) := by decide +kernel
theorem dX6_keep_149 : decode cX6_keep 149 = .ok (.iconst 1, 1) := by decide +kernel
theorem dX6_keep_150 : decode cX6_keep 150 = .ok (.iadd, 1) := by decide +kernel
theorem dX6_keep_151 : decode cX6_keep 151 = .ok (.iastore, 1) := by decide +kernel
theorem dX6_keep_152 : decode cX6_keep 152 = .ok (.return_, 1) := by decide +kernel
theorem dX6_highs_0 : decode cX6_highs 0 = .ok (.iload_n 0, 1) := by decide +kernel
theorem dX6_highs_1 : decode cX6_highs 1 = .ok (.iconst 4, 1) := by decide +kernel
theorem dX6_highs_2 : decode cX6_highs 2 = .ok (.if_icmp .le 7, 3) := by decide +kernel
theorem dX6_highs_5 : decode cX6_highs 5 = .ok (.iconst 1, 1) := by decide +kernel
theorem dX6_highs_6 : decode cX6_highs 6 = .ok (.goto 4, 3) := by decide +kernel
theorem dX6_highs_9 : decode cX6_highs 9 = .ok (.iconst 0, 1) := by decide +kernel
theorem dX6_highs_10 : decode cX6_highs 10 = .ok (.ireturn, 1) := by decide +kernel
theorem dX6_findDouble_0 : decode cX6_findDouble 0 = .ok (.aload_n 0, 1) := by decide +kernel
theorem dX6_findDouble_1 : decode cX6_findDouble 1 = .ok (.iconst 0, 1) := by decide +kernel
theorem dX6_findDouble_2 : decode cX6_findDouble 2 = .ok (.iload_n 2, 1) := by decide +kernel
theorem dX6_findDouble_3 : decode cX6_findDouble 3 = .ok (.iload_n 3, 1) := by decide +kernel
theorem dX6_findDouble_4 : decode cX6_findDouble 4 = .ok (.invokevirtual 79, 3) := by decide +kernel
theorem dX6_findDouble_7 : decode cX6_findDouble 7 = .ok (.aload_n 0, 1) := by decide +kernel
theorem dX6_findDouble_8 : decode cX6_findDouble 8 = .ok (.iconst 1, 1) := by decide +kernel
theorem dX6_findDouble_9 : decode cX6_findDouble 9 = .ok (.iload_n 2, 1) := by decide +kernel
theorem dX6_findDouble_10 : decode cX6_findDouble 10 = .ok (.iconst 1, 1) := by decide +kernel
theorem dX6_findDouble_11 : decode cX6_findDouble 11 = .ok (.iadd, 1) := by decide +kernel
theorem dX6_findDouble_12 : decode cX6_findDouble 12 = .ok (.iload 4, 2) := by decide +kernel
theorem dX6_findDouble_14 : decode cX6_findDouble 14 = .ok (.invokevirtual 79, 3) := by decide +kernel
theorem dX6_findDouble_17 : decode cX6_findDouble 17 = .ok (.iconst 0, 1) := by decide +kernel
theorem dX6_findDouble_18 : decode cX6_findDouble 18 = .ok (.istore 5, 2) := by decide +kernel
theorem dX6_findDouble_20 : decode cX6_findDouble 20 = .ok (.iload 5, 2) := by decide +kernel
theorem dX6_findDouble_22 : decode cX6_findDouble 22 = .ok (.aload_n 0, 1) := by decide +kernel
theorem dX6_findDouble_23 : decode cX6_findDouble 23 = .ok (.getfield 46, 3) := by decide +kernel
theorem dX6_findDouble_26 : decode cX6_findDouble 26 = .ok (.iconst 0, 1) := by decide +kernel
theorem dX6_findDouble_27 : decode cX6_findDouble 27 = .ok (.iaload, 1) := by decide +kernel
theorem dX6_findDouble_28 : decode cX6_findDouble 28 = .ok (.if_icmp .ge 235, 3) := by decide +kernel
theorem dX6_findDouble_31 : decode cX6_findDouble 31 = .ok (.bipush 9, 2) := by decide +kernel
theorem dX6_findDouble_33 : decode cX6_findDouble 33 = .ok (.istore 6, 2) := by decide +kernel
theorem dX6_findDouble_35 : decode cX6_findDouble 35 = .ok (.iload 6, 2) := by decide +kernel
theorem dX6_findDouble_37 : decode cX6_findDouble 37 = .ok (.bipush 9, 2) := by decide +kernel
theorem dX6_findDouble_39 : decode cX6_findDouble 39 = .ok (.aload_n 0, 1) := by decide +kernel
theorem dX6_findDouble_40 : decode cX6_findDouble 40 = .ok (.getfield 46, 3) := by decide +kernel
theorem dX6_findDouble_43 : decode cX6_findDouble 43 = .ok (.iconst 1, 1) := by decide +kernel
theorem dX6_findDouble_44 : decode cX6_findDouble 44 = .ok (.iaload, 1) := by decide +kernel
theorem dX6_findDouble_45 : decode cX6_findDouble 45 = .ok (.iadd, 1) := by decide +kernel
theorem dX6_findDouble_46 : decode cX6_findDouble 46 = .ok (.if_icmp .ge 211, 3) := by decide +kernel
theorem dX6_findDouble_49 : decode cX6_findDouble 49 = .ok (.aload_n 0, 1) := by decide +kernel
theorem dX6_findDouble_50 : decode cX6_findDouble 50 = .ok (.getfield 43, 3) := by decide +kernel
theorem dX6_findDouble_53 : decode cX6_findDouble 53 = .ok (.iload 5, 2) := by decide +kernel
theorem dX6_findDouble_55 : decode cX6_findDouble 55 = .ok (.iaload, 1) := by decide +kernel
theorem dX6_findDouble_56 : decode cX6_findDouble 56 = .ok (.ifCond .le 17, 3) := by decide +kernel
theorem dX6_findDouble_59 : decode cX6_findDouble 59 = .ok (.aload_n 0, 1) := by decide +kernel
theorem dX6_findDouble_60 : decode cX6_findDouble 60 = .ok (.getfield 43, 3) := by decide +kernel
theorem dX6_findDouble_63 : decode cX6_findDouble 63 = .ok (.iload 6, 2) := by decide +kernel
theorem dX6_findDouble_65 : decode cX6_findDouble 65 = .ok (.iaload, 1) := by decide +kernel
theorem dX6_findDouble_66 : decode cX6_findDouble 66 = .ok (.ifCond .le 7, 3) := by decide +kernel
theorem dX6_findDouble_69 : decode cX6_findDouble 69 = .ok (.iconst 1, 1) := by decide +kernel
theorem dX6_findDouble_70 : decode cX6_findDouble 70 = .ok (.goto 4, 3) := by decide +kernel
theorem dX6_findDouble_73 : decode cX6_findDouble 73 = .ok (.iconst 0, 1) := by decide +kernel
theorem dX6_findDouble_74 : decode cX6_findDouble 74 = .ok (.istore 7, 2) := by decide +kernel
theorem dX6_findDouble_76 : decode cX6_findDouble 76 = .ok (.aload_n 0, 1) := by decide +kernel
theorem dX6_findDouble_77 : decode cX6_findDouble 77 = .ok (.getfield 43, 3) := by decide +kernel
theorem dX6_findDouble_80 : decode cX6_findDouble 80 = .ok (.iload 5, 2) := by decide +kernel
theorem dX6_findDouble_82 : decode cX6_findDouble 82 = .ok (.iaload, 1) := by decide +kernel
theorem dX6_findDouble_83 : decode cX6_findDouble 83 = .ok (.iconst 5, 1) := by decide +kernel
theorem dX6_findDouble_84 : decode cX6_findDouble 84 = .ok (.irem, 1) := by decide +kernel
theorem dX6_findDouble_85 : decode cX6_findDouble 85 = .ok (.aload_n 0, 1) := by decide +kernel
theorem dX6_findDouble_86 : decode cX6_findDouble 86 = .ok (.getfield 43, 3) := by decide +kernel
theorem dX6_findDouble_89 : decode cX6_findDouble 89 = .ok (.iload 6, 2) := by decide +kernel
theorem dX6_findDouble_91 : decode cX6_findDouble 91 = .ok (.iaload, 1) := by decide +kernel
theorem dX6_findDouble_92 : decode cX6_findDouble 92 = .ok (.iconst 5, 1) := by decide +kernel
theorem dX6_findDouble_93 : decode cX6_findDouble 93 = .ok (.irem, 1) := by decide +kernel
theorem dX6_findDouble_94 : decode cX6_findDouble 94 = .ok (.if_icmp .ne 7, 3) := by decide +kernel
theorem dX6_findDouble_97 : decode cX6_findDouble 97 = .ok (.iconst 1, 1) := by decide +kernel
theorem dX6_findDouble_98 : decode cX6_findDouble 98 = .ok (.goto 4, 3) := by decide +kernel
theorem dX6_findDouble_101 : decode cX6_findDouble 101 = .ok (.iconst 0, 1) := by decide +kernel
theorem dX6_findDouble_102 : decode cX6_findDouble 102 = .ok (.istore 8, 2) := by decide +kernel
theorem dX6_findDouble_104 : decode cX6_findDouble 104 = .ok (.iload 7, 2) := by decide +kernel
theorem dX6_findDouble_106 : decode cX6_findDouble 106 = .ok (.ifCond .eq 45, 3) := by decide +kernel
theorem dX6_findDouble_109 : decode cX6_findDouble 109 = .ok (.aload_n 0, 1) := by decide +kernel
theorem dX6_findDouble_110 : decode cX6_findDouble 110 = .ok (.getfield 40, 3) := by decide +kernel
theorem dX6_findDouble_113 : decode cX6_findDouble 113 = .ok (.iload 5, 2) := by decide +kernel
theorem dX6_findDouble_115 : decode cX6_findDouble 115 = .ok (.iaload, 1) := by decide +kernel
theorem dX6_findDouble_116 : decode cX6_findDouble 116 = .ok (.aload_n 0, 1) := by decide +kernel
theorem dX6_findDouble_117 : decode cX6_findDouble 117 = .ok (.getfield 40, 3) := by decide +kernel
theorem dX6_findDouble_120 : decode cX6_findDouble 120 = .ok (.iload 6, 2) := by decide +kernel
theorem dX6_findDouble_122 : decode cX6_findDouble 122 = .ok (.iaload, 1) := by decide +kernel
theorem dX6_findDouble_123 : decode cX6_findDouble 123 = .ok (.if_icmp .ne 128, 3) := by decide +kernel
theorem dX6_findDouble_126 : decode cX6_findDouble 126 = .ok (.iload 8, 2) := by decide +kernel
theorem dX6_findDouble_128 : decode cX6_findDouble 128 = .ok (.ifCond .eq 23, 3) := by decide +kernel
theorem dX6_findDouble_131 : decode cX6_findDouble 131 = .ok (.aload_n 0, 1) := by decide +kernel
theorem dX6_findDouble_132 : decode cX6_findDouble 132 = .ok (.getfield 43, 3) := by decide +kernel
theorem dX6_findDouble_135 : decode cX6_findDouble 135 = .ok (.iload 5, 2) := by decide +kernel
theorem dX6_findDouble_137 : decode cX6_findDouble 137 = .ok (.iaload, 1) := by decide +kernel
theorem dX6_findDouble_138 : decode cX6_findDouble 138 = .ok (.aload_n 0, 1) := by decide +kernel
theorem dX6_findDouble_139 : decode cX6_findDouble 139 = .ok (.getfield 43, 3) := by decide +kernel
theorem dX6_findDouble_142 : decode cX6_findDouble 142 = .ok (.iload 6, 2) := by decide +kernel
theorem dX6_findDouble_144 : decode cX6_findDouble 144 = .ok (.iaload, 1) := by decide +kernel
theorem dX6_findDouble_145 : decode cX6_findDouble 145 = .ok (.if_icmp .eq 6, 3) := by decide +kernel
theorem dX6_findDouble_148 : decode cX6_findDouble 148 = .ok (.goto 103, 3) := by decide +kernel
theorem dX6_findDouble_151 : decode cX6_findDouble 151 = .ok (.aload_n 0, 1) := by decide +kernel
theorem dX6_findDouble_152 : decode cX6_findDouble 152 = .ok (.getfield 40, 3) := by decide +kernel
theorem dX6_findDouble_155 : decode cX6_findDouble 155 = .ok (.iload 5, 2) := by decide +kernel
theorem dX6_findDouble_157 : decode cX6_findDouble 157 = .ok (.iaload, 1) := by decide +kernel
theorem dX6_findDouble_158 : decode cX6_findDouble 158 = .ok (.ifCond .le 13, 3) := by decide +kernel
theorem dX6_findDouble_161 : decode cX6_findDouble 161 = .ok (.aload_n 0, 1) := by decide +kernel
theorem dX6_findDouble_162 : decode cX6_findDouble 162 = .ok (.getfield 40, 3) := by decide +kernel
theorem dX6_findDouble_165 : decode cX6_findDouble 165 = .ok (.iload 5, 2) := by decide +kernel
theorem dX6_findDouble_167 : decode cX6_findDouble 167 = .ok (.iaload, 1) := by decide +kernel
theorem dX6_findDouble_168 : decode cX6_findDouble 168 = .ok (.goto 10, 3) := by decide +kernel
theorem dX6_findDouble_171 : decode cX6_findDouble 171 = .ok (.aload_n 0, 1) := by decide +kernel
theorem dX6_findDouble_172 : decode cX6_findDouble 172 = .ok (.getfield 40, 3) := by decide +kernel
theorem dX6_findDouble_175 : decode cX6_findDouble 175 = .ok (.iload 6, 2) := by decide +kernel
theorem dX6_findDouble_177 : decode cX6_findDouble 177 = .ok (.iaload, 1) := by decide +kernel
theorem dX6_findDouble_178 : decode cX6_findDouble 178 = .ok (.istore 9, 2) := by decide +kernel
theorem dX6_findDouble_180 : decode cX6_findDouble 180 = .ok (.aload_n 0, 1) := by decide +kernel
theorem dX6_findDouble_181 : decode cX6_findDouble 181 = .ok (.iload_n 1, 1) := by decide +kernel
theorem dX6_findDouble_182 : decode cX6_findDouble 182 = .ok (.sipush 1000, 3) := by decide +kernel
theorem dX6_findDouble_185 : decode cX6_findDouble 185 = .ok (.iload_n 2, 1) := by decide +kernel
theorem dX6_findDouble_186 : decode cX6_findDouble 186 = .ok (.imul, 1) := by decide +kernel
theorem dX6_findDouble_187 : decode cX6_findDouble 187 = .ok (.bipush 10, 2) := by decide +kernel
theorem dX6_findDouble_189 : decode cX6_findDouble 189 = .ok (.iload 9, 2) := by decide +kernel
theorem dX6_findDouble_191 : decode cX6_findDouble 191 = .ok (.imul, 1) := by decide +kernel
theorem dX6_findDouble_192 : decode cX6_findDouble 192 = .ok (.iadd, 1) := by decide +kernel
theorem dX6_findDouble_193 : decode cX6_findDouble 193 = .ok (.aload_n 0, 1) := by decide +kernel
theorem dX6_findDouble_194 : decode cX6_findDouble 194 = .ok (.getfield 43, 3) := by decide +kernel
theorem dX6_findDouble_197 : decode cX6_findDouble 197 = .ok (.iload 5, 2) := by decide +kernel
theorem dX6_findDouble_199 : decode cX6_findDouble 199 = .ok (.iaload, 1) := by decide +kernel
theorem dX6_findDouble_200 : decode cX6_findDouble 200 = .ok (.iadd, 1) := by decide +kernel
theorem dX6_findDouble_201 : decode cX6_findDouble 201 = .ok (.sipush 1000, 3) := by decide +kernel
theorem dX6_findDouble_204 : decode cX6_findDouble 204 = .ok (.iload_n 2, 1) := by decide +kernel
theorem dX6_findDouble_205 : decode cX6_findDouble 205 = .ok (.iconst 1, 1) := by decide +kernel
theorem dX6_findDouble_206 : decode cX6_findDouble 206 = .ok (.iadd, 1) := by decide +kernel
theorem dX6_findDouble_207 : decode cX6_findDouble 207 = .ok (.imul, 1) := by decide +kernel
theorem dX6_findDouble_208 : decode cX6_findDouble 208 = .ok (.bipush 10, 2) := by decide +kernel
theorem dX6_findDouble_210 : decode cX6_findDouble 210 = .ok (.aload_n 0, 1) := by decide +kernel
theorem dX6_findDouble_211 : decode cX6_findDouble 211 = .ok (.getfield 40, 3) := by decide +kernel
theorem dX6_findDouble_214 : decode cX6_findDouble 214 = .ok (.iload 6, 2) := by decide +kernel
theorem dX6_findDouble_216 : decode cX6_findDouble 216 = .ok (.iaload, 1) := by decide +kernel
theorem dX6_findDouble_217 : decode cX6_findDouble 217 = .ok (.imul, 1) := by decide +kernel
theorem dX6_findDouble_218 : decode cX6_findDouble 218 = .ok (.iadd, 1) := by decide +kernel
theorem dX6_findDouble_219 : decode cX6_findDouble 219 = .ok (.aload_n 0, 1) := by decide +kernel
theorem dX6_findDouble_220 : decode cX6_findDouble 220 = .ok (.getfield 43, 3) := by decide +kernel
theorem dX6_findDouble_223 : decode cX6_findDouble 223 = .ok (.iload 6, 2) := by decide +kernel
theorem dX6_findDouble_225 : decode cX6_findDouble 225 = .ok (.iaload, 1) := by decide +kernel
theorem dX6_findDouble_226 : decode cX6_findDouble 226 = .ok (.iadd, 1) := by decide +kernel
theorem dX6_findDouble_227 : decode cX6_findDouble 227 = .ok (.aload_n 0, 1) := by decide +kernel
theorem dX6_findDouble_228 : decode cX6_findDouble 228 = .ok (.getfield 43, 3) := by decide +kernel
theorem dX6_findDouble_231 : decode cX6_findDouble 231 = .ok (.iload 5, 2) := by decide +kernel
theorem dX6_findDouble_233 : decode cX6_findDouble 233 = .ok (.iaload, 1) := by decide +kernel
theorem dX6_findDouble_234 : decode cX6_findDouble 234 = .ok (.invokestatic 83, 3) := by decide +kernel
theorem dX6_findDouble_237 : decode cX6_findDouble 237 = .ok (.aload_n 0, 1) := by decide +kernel
theorem dX6_findDouble_238 : decode cX6_findDouble 238 = .ok (.getfield 43, 3) := by decide +kernel
theorem dX6_findDouble_241 : decode cX6_findDouble 241 = .ok (.iload 6, 2) := by decide +kernel
theorem dX6_findDouble_243 : decode cX6_findDouble 243 = .ok (.iaload, 1) := by decide +kernel
theorem dX6_findDouble_244 : decode cX6_findDouble 244 = .ok (.invokestatic 83, 3) := by decide +kernel
theorem dX6_findDouble_247 : decode cX6_findDouble 247 = .ok (.iadd, 1) := by decide +kernel
theorem dX6_findDouble_248 : decode cX6_findDouble 248 = .ok (.invokevirtual 87, 3) := by decide +kernel
theorem dX6_findDouble_251 : decode cX6_findDouble 251 = .ok (.iinc 6 1, 3) := by decide +kernel
theorem dX6_findDouble_254 : decode cX6_findDouble 254 = .ok (.goto (-219), 3) := by decide +kernel
theorem dX6_findDouble_257 : decode cX6_findDouble 257 = .ok (.iinc 5 1, 3) := by decide +kernel
theorem dX6_findDouble_260 : decode cX6_findDouble 260 = .ok (.goto (-240), 3) := by decide +kernel
theorem dX6_findDouble_263 : decode cX6_findDouble 263 = .ok (.return_, 1) := by decide +kernel
theorem dX6_findHolds_0 : decode cX6_findHolds 0 = .ok (.aload_n 0, 1) := by decide +kernel
theorem dX6_findHolds_1 : decode cX6_findHolds 1 = .ok (.getfield 28, 3) := by decide +kernel
theorem dX6_findHolds_4 : decode cX6_findHolds 4 = .ok (.iload_n 2, 1) := by decide +kernel
theorem dX6_findHolds_5 : decode cX6_findHolds 5 = .ok (.iconst 0, 1) := by decide +kernel
theorem dX6_findHolds_6 : decode cX6_findHolds 6 = .ok (.iastore, 1) := by decide +kernel
theorem dX6_findHolds_7 : decode cX6_findHolds 7 = .ok (.bipush 12, 2) := by decide +kernel
theorem dX6_findHolds_9 : decode cX6_findHolds 9 = .ok (.iload_n 1, 1) := by decide +kernel
theorem dX6_findHolds_10 : decode cX6_findHolds 10 = .ok (.imul, 1) := by decide +kernel
theorem dX6_findHolds_11 : decode cX6_findHolds 11 = .ok (.iload_n 2, 1) := by decide +kernel
theorem dX6_findHolds_12 : decode cX6_findHolds 12 = .ok (.iadd, 1) := by decide +kernel
theorem dX6_findHolds_13 : decode cX6_findHolds 13 = .ok (.istore_n 3, 1) := by decide +kernel
theorem dX6_findHolds_14 : decode cX6_findHolds 14 = .ok (.iconst 0, 1) := by decide +kernel
theorem dX6_findHolds_15 : decode cX6_findHolds 15 = .ok (.istore 4, 2) := by decide +kernel
theorem dX6_findHolds_17 : decode cX6_findHolds 17 = .ok (.iload 4, 2) := by decide +kernel
theorem dX6_findHolds_19 : decode cX6_findHolds 19 = .ok (.iconst 4, 1) := by decide +kernel
theorem dX6_findHolds_20 : decode cX6_findHolds 20 = .ok (.if_icmp .ge 139, 3) := by decide +kernel
theorem dX6_findHolds_23 : decode cX6_findHolds 23 = .ok (.aload_n 0, 1) := by decide +kernel
theorem dX6_findHolds_24 : decode cX6_findHolds 24 = .ok (.getfield 19, 3) := by decide +kernel
theorem dX6_findHolds_27 : decode cX6_findHolds 27 = .ok (.iload_n 3, 1) := by decide +kernel
theorem dX6_findHolds_28 : decode cX6_findHolds 28 = .ok (.iaload, 1) := by decide +kernel
theorem dX6_findHolds_29 : decode cX6_findHolds 29 = .ok (.ifCond .ge 80, 3) := by decide +kernel
theorem dX6_findHolds_32 : decode cX6_findHolds 32 = .ok (.aload_n 0, 1) := by decide +kernel
theorem dX6_findHolds_33 : decode cX6_findHolds 33 = .ok (.iconst 0, 1) := by decide +kernel
theorem dX6_findHolds_34 : decode cX6_findHolds 34 = .ok (.iload 4, 2) := by decide +kernel
theorem dX6_findHolds_36 : decode cX6_findHolds 36 = .ok (.aload_n 0, 1) := by decide +kernel
theorem dX6_findHolds_37 : decode cX6_findHolds 37 = .ok (.getfield 16, 3) := by decide +kernel
theorem dX6_findHolds_40 : decode cX6_findHolds 40 = .ok (.iload_n 3, 1) := by decide +kernel
theorem dX6_findHolds_41 : decode cX6_findHolds 41 = .ok (.iaload, 1) := by decide +kernel
theorem dX6_findHolds_42 : decode cX6_findHolds 42 = .ok (.invokevirtual 79, 3) := by decide +kernel
theorem dX6_findHolds_45 : decode cX6_findHolds 45 = .ok (.iconst 0, 1) := by decide +kernel
theorem dX6_findHolds_46 : decode cX6_findHolds 46 = .ok (.istore 5, 2) := by decide +kernel
theorem dX6_findHolds_48 : decode cX6_findHolds 48 = .ok (.iload 5, 2) := by decide +kernel
theorem dX6_findHolds_50 : decode cX6_findHolds 50 = .ok (.aload_n 0, 1) := by decide +kernel
theorem dX6_findHolds_51 : decode cX6_findHolds 51 = .ok (.getfield 46, 3) := by decide +kernel
theorem dX6_findHolds_54 : decode cX6_findHolds 54 = .ok (.iconst 0, 1) := by decide +kernel
theorem dX6_findHolds_55 : decode cX6_findHolds 55 = .ok (.iaload, 1) := by decide +kernel
theorem dX6_findHolds_56 : decode cX6_findHolds 56 = .ok (.if_icmp .ge 50, 3) := by decide +kernel
theorem dX6_findHolds_59 : decode cX6_findHolds 59 = .ok (.aload_n 0, 1) := by decide +kernel
theorem dX6_findHolds_60 : decode cX6_findHolds 60 = .ok (.iload_n 2, 1) := by decide +kernel
theorem dX6_findHolds_61 : decode cX6_findHolds 61 = .ok (.sipush 1000, 3) := by decide +kernel
theorem dX6_findHolds_64 : decode cX6_findHolds 64 = .ok (.iload 4, 2) := by decide +kernel
theorem dX6_findHolds_66 : decode cX6_findHolds 66 = .ok (.imul, 1) := by decide +kernel
theorem dX6_findHolds_67 : decode cX6_findHolds 67 = .ok (.bipush 10, 2) := by decide +kernel
theorem dX6_findHolds_69 : decode cX6_findHolds 69 = .ok (.aload_n 0, 1) := by decide +kernel
theorem dX6_findHolds_70 : decode cX6_findHolds 70 = .ok (.getfield 40, 3) := by decide +kernel
theorem dX6_findHolds_73 : decode cX6_findHolds 73 = .ok (.iload 5, 2) := by decide +kernel
theorem dX6_findHolds_75 : decode cX6_findHolds 75 = .ok (.iaload, 1) := by decide +kernel
theorem dX6_findHolds_76 : decode cX6_findHolds 76 = .ok (.imul, 1) := by decide +kernel
theorem dX6_findHolds_77 : decode cX6_findHolds 77 = .ok (.iadd, 1) := by decide +kernel
theorem dX6_findHolds_78 : decode cX6_findHolds 78 = .ok (.aload_n 0, 1) := by decide +kernel
theorem dX6_findHolds_79 : decode cX6_findHolds 79 = .ok (.getfield 43, 3) := by decide +kernel
theorem dX6_findHolds_82 : decode cX6_findHolds 82 = .ok (.iload 5, 2) := by decide +kernel
theorem dX6_findHolds_84 : decode cX6_findHolds 84 = .ok (.iaload, 1) := by decide +kernel
theorem dX6_findHolds_85 : decode cX6_findHolds 85 = .ok (.iadd, 1) := by decide +kernel
theorem dX6_findHolds_86 : decode cX6_findHolds 86 = .ok (.iconst (-1), 1) := by decide +kernel
theorem dX6_findHolds_87 : decode cX6_findHolds 87 = .ok (.aload_n 0, 1) := by decide +kernel
theorem dX6_findHolds_88 : decode cX6_findHolds 88 = .ok (.getfield 43, 3) := by decide +kernel
theorem dX6_findHolds_91 : decode cX6_findHolds 91 = .ok (.iload 5, 2) := by decide +kernel
theorem dX6_findHolds_93 : decode cX6_findHolds 93 = .ok (.iaload, 1) := by decide +kernel
theorem dX6_findHolds_94 : decode cX6_findHolds 94 = .ok (.invokestatic 83, 3) := by decide +kernel
theorem dX6_findHolds_97 : decode cX6_findHolds 97 = .ok (.invokevirtual 87, 3) := by decide +kernel
theorem dX6_findHolds_100 : decode cX6_findHolds 100 = .ok (.iinc 5 1, 3) := by decide +kernel
theorem dX6_findHolds_103 : decode cX6_findHolds 103 = .ok (.goto (-55), 3) := by decide +kernel
theorem dX6_findHolds_106 : decode cX6_findHolds 106 = .ok (.goto 47, 3) := by decide +kernel
theorem dX6_findHolds_109 : decode cX6_findHolds 109 = .ok (.iload 4, 2) := by decide +kernel
theorem dX6_findHolds_111 : decode cX6_findHolds 111 = .ok (.iconst 3, 1) := by decide +kernel
theorem dX6_findHolds_112 : decode cX6_findHolds 112 = .ok (.if_icmp .ge 41, 3) := by decide +kernel
theorem dX6_findHolds_115 : decode cX6_findHolds 115 = .ok (.aload_n 0, 1) := by decide +kernel
theorem dX6_findHolds_116 : decode cX6_findHolds 116 = .ok (.iload_n 2, 1) := by decide +kernel
theorem dX6_findHolds_117 : decode cX6_findHolds 117 = .ok (.iload 4, 2) := by decide +kernel
theorem dX6_findHolds_119 : decode cX6_findHolds 119 = .ok (.aload_n 0, 1) := by decide +kernel
theorem dX6_findHolds_120 : decode cX6_findHolds 120 = .ok (.getfield 16, 3) := by decide +kernel
theorem dX6_findHolds_123 : decode cX6_findHolds 123 = .ok (.iload_n 3, 1) := by decide +kernel
theorem dX6_findHolds_124 : decode cX6_findHolds 124 = .ok (.iaload, 1) := by decide +kernel
theorem dX6_findHolds_125 : decode cX6_findHolds 125 = .ok (.aload_n 0, 1) := by decide +kernel
theorem dX6_findHolds_126 : decode cX6_findHolds 126 = .ok (.getfield 19, 3) := by decide +kernel
theorem dX6_findHolds_129 : decode cX6_findHolds 129 = .ok (.iload_n 3, 1) := by decide +kernel
theorem dX6_findHolds_130 : decode cX6_findHolds 130 = .ok (.iaload, 1) := by decide +kernel
theorem dX6_findHolds_131 : decode cX6_findHolds 131 = .ok (.invokevirtual 91, 3) := by decide +kernel
theorem dX6_findHolds_134 : decode cX6_findHolds 134 = .ok (.aload_n 0, 1) := by decide +kernel
theorem dX6_findHolds_135 : decode cX6_findHolds 135 = .ok (.iload_n 2, 1) := by decide +kernel
theorem dX6_findHolds_136 : decode cX6_findHolds 136 = .ok (.iload 4, 2) := by decide +kernel
theorem dX6_findHolds_138 : decode cX6_findHolds 138 = .ok (.aload_n 0, 1) := by decide +kernel
theorem dX6_findHolds_139 : decode cX6_findHolds 139 = .ok (.getfield 19, 3) := by decide +kernel
theorem dX6_findHolds_142 : decode cX6_findHolds 142 = .ok (.iload_n 3, 1) := by decide +kernel
theorem dX6_findHolds_143 : decode cX6_findHolds 143 = .ok (.iaload, 1) := by decide +kernel
theorem dX6_findHolds_144 : decode cX6_findHolds 144 = .ok (.aload_n 0, 1) := by decide +kernel
theorem dX6_findHolds_145 : decode cX6_findHolds 145 = .ok (.getfield 16, 3) := by decide +kernel
theorem dX6_findHolds_148 : decode cX6_findHolds 148 = .ok (.iload_n 3, 1) := by decide +kernel
theorem dX6_findHolds_149 : decode cX6_findHolds 149 = .ok (.iaload, 1) := by decide +kernel
theorem dX6_findHolds_150 : decode cX6_findHolds 150 = .ok (.invokevirtual 91, 3) := by decide +kernel
theorem dX6_findHolds_153 : decode cX6_findHolds 153 = .ok (.iinc 4 1, 3) := by decide +kernel
theorem dX6_findHolds_156 : decode cX6_findHolds 156 = .ok (.goto (-139), 3) := by decide +kernel
theorem dX6_findHolds_159 : decode cX6_findHolds 159 = .ok (.return_, 1) := by decide +kernel
theorem dX6_of_0 : decode cX6_of 0 = .ok (.aload_n 0, 1) := by decide +kernel
theorem dX6_of_1 : decode cX6_of 1 = .ok (.iload_n 1, 1) := by decide +kernel
theorem dX6_of_2 : decode cX6_of 2 = .ok (.iload_n 2, 1) := by decide +kernel
theorem dX6_of_3 : decode cX6_of 3 = .ok (.invokevirtual 76, 3) := by decide +kernel
theorem dX6_of_6 : decode cX6_of 6 = .ok (.ifCond .ne 5, 3) := by decide +kernel
theorem dX6_of_9 : decode cX6_of 9 = .ok (.iconst (-1), 1) := by decide +kernel
theorem dX6_of_10 : decode cX6_of 10 = .ok (.ireturn, 1) := by decide +kernel
theorem dX6_of_11 : decode cX6_of 11 = .ok (.bipush 12, 2) := by decide +kernel
theorem dX6_of_13 : decode cX6_of 13 = .ok (.iload_n 1, 1) := by decide +kernel
theorem dX6_of_14 : decode cX6_of 14 = .ok (.imul, 1) := by decide +kernel
theorem dX6_of_15 : decode cX6_of 15 = .ok (.iload_n 2, 1) := by decide +kernel
theorem dX6_of_16 : decode cX6_of 16 = .ok (.iadd, 1) := by decide +kernel
theorem dX6_of_17 : decode cX6_of 17 = .ok (.istore 4, 2) := by decide +kernel
theorem dX6_of_19 : decode cX6_of 19 = .ok (.iload_n 3, 1) := by decide +kernel
theorem dX6_of_20 : decode cX6_of 20 = .ok (.tableswitch 107 0 5 #[40, 48, 56, 64, 87, 94], 40) := by decide +kernel
theorem dX6_of_60 : decode cX6_of 60 = .ok (.aload_n 0, 1) := by decide +kernel
theorem dX6_of_61 : decode cX6_of 61 = .ok (.getfield 16, 3) := by decide +kernel
theorem dX6_of_64 : decode cX6_of 64 = .ok (.iload 4, 2) := by decide +kernel
theorem dX6_of_66 : decode cX6_of 66 = .ok (.iaload, 1) := by decide +kernel
theorem dX6_of_67 : decode cX6_of 67 = .ok (.ireturn, 1) := by decide +kernel
theorem dX6_of_68 : decode cX6_of 68 = .ok (.aload_n 0, 1) := by decide +kernel
theorem dX6_of_69 : decode cX6_of 69 = .ok (.getfield 22, 3) := by decide +kernel
theorem dX6_of_72 : decode cX6_of 72 = .ok (.iload 4, 2) := by decide +kernel
theorem dX6_of_74 : decode cX6_of 74 = .ok (.iaload, 1) := by decide +kernel
theorem dX6_of_75 : decode cX6_of 75 = .ok (.ireturn, 1) := by decide +kernel
theorem dX6_of_76 : decode cX6_of 76 = .ok (.aload_n 0, 1) := by decide +kernel
theorem dX6_of_77 : decode cX6_of 77 = .ok (.getfield 25, 3) := by decide +kernel
theorem dX6_of_80 : decode cX6_of 80 = .ok (.iload 4, 2) := by decide +kernel
theorem dX6_of_82 : decode cX6_of 82 = .ok (.iaload, 1) := by decide +kernel
theorem dX6_of_83 : decode cX6_of 83 = .ok (.ireturn, 1) := by decide +kernel
theorem dX6_of_84 : decode cX6_of 84 = .ok (.aload_n 0, 1) := by decide +kernel
theorem dX6_of_85 : decode cX6_of 85 = .ok (.getfield 19, 3) := by decide +kernel
theorem dX6_of_88 : decode cX6_of 88 = .ok (.iload 4, 2) := by decide +kernel
theorem dX6_of_90 : decode cX6_of 90 = .ok (.iaload, 1) := by decide +kernel
theorem dX6_of_91 : decode cX6_of 91 = .ok (.ifCond .ge 8, 3) := by decide +kernel
theorem dX6_of_94 : decode cX6_of 94 = .ok (.bipush (-3), 2) := by decide +kernel
theorem dX6_of_96 : decode cX6_of 96 = .ok (.goto 10, 3) := by decide +kernel
theorem dX6_of_99 : decode cX6_of 99 = .ok (.aload_n 0, 1) := by decide +kernel
theorem dX6_of_100 : decode cX6_of 100 = .ok (.getfield 19, 3) := by decide +kernel
theorem dX6_of_103 : decode cX6_of 103 = .ok (.iload 4, 2) := by decide +kernel
theorem dX6_of_105 : decode cX6_of 105 = .ok (.iaload, 1) := by decide +kernel
theorem dX6_of_106 : decode cX6_of 106 = .ok (.ireturn, 1) := by decide +kernel
theorem dX6_of_107 : decode cX6_of 107 = .ok (.aload_n 0, 1) := by decide +kernel
theorem dX6_of_108 : decode cX6_of 108 = .ok (.iload_n 1, 1) := by decide +kernel
theorem dX6_of_109 : decode cX6_of 109 = .ok (.iload_n 2, 1) := by decide +kernel
theorem dX6_of_110 : decode cX6_of 110 = .ok (.invokevirtual 94, 3) := by decide +kernel
theorem dX6_of_113 : decode cX6_of 113 = .ok (.ireturn, 1) := by decide +kernel
theorem dX6_of_114 : decode cX6_of 114 = .ok (.aload_n 0, 1) := by decide +kernel
theorem dX6_of_115 : decode cX6_of 115 = .ok (.iload_n 1, 1) := by decide +kernel
theorem dX6_of_116 : decode cX6_of 116 = .ok (.iload_n 2, 1) := by decide +kernel
theorem dX6_of_117 : decode cX6_of 117 = .ok (.invokevirtual 98, 3) := by decide +kernel
theorem dX6_of_120 : decode cX6_of 120 = .ok (.aload_n 0, 1) := by decide +kernel
theorem dX6_of_121 : decode cX6_of 121 = .ok (.getfield 28, 3) := by decide +kernel
theorem dX6_of_124 : decode cX6_of 124 = .ok (.iload_n 2, 1) := by decide +kernel
theorem dX6_of_125 : decode cX6_of 125 = .ok (.iaload, 1) := by decide +kernel
theorem dX6_of_126 : decode cX6_of 126 = .ok (.ireturn, 1) := by decide +kernel
theorem dX6_of_127 : decode cX6_of 127 = .ok (.iconst (-1), 1) := by decide +kernel
theorem dX6_of_128 : decode cX6_of 128 = .ok (.ireturn, 1) := by decide +kernel
theorem dX6_hold_0 : decode cX6_hold 0 = .ok (.aload_n 0, 1) := by decide +kernel
theorem dX6_hold_1 : decode cX6_hold 1 = .ok (.iload_n 1, 1) := by decide +kernel
theorem dX6_hold_2 : decode cX6_hold 2 = .ok (.iload_n 2, 1) := by decide +kernel
theorem dX6_hold_3 : decode cX6_hold 3 = .ok (.invokevirtual 76, 3) := by decide +kernel
theorem dX6_hold_6 : decode cX6_hold 6 = .ok (.ifCond .ne 5, 3) := by decide +kernel
theorem dX6_hold_9 : decode cX6_hold 9 = .ok (.iconst (-1), 1) := by decide +kernel
theorem dX6_hold_10 : decode cX6_hold 10 = .ok (.ireturn, 1) := by decide +kernel
theorem dX6_hold_11 : decode cX6_hold 11 = .ok (.aload_n 0, 1) := by decide +kernel
theorem dX6_hold_12 : decode cX6_hold 12 = .ok (.iload_n 1, 1) := by decide +kernel
theorem dX6_hold_13 : decode cX6_hold 13 = .ok (.iload_n 2, 1) := by decide +kernel
theorem dX6_hold_14 : decode cX6_hold 14 = .ok (.invokevirtual 98, 3) := by decide +kernel
theorem dX6_hold_17 : decode cX6_hold 17 = .ok (.iload_n 3, 1) := by decide +kernel
theorem dX6_hold_18 : decode cX6_hold 18 = .ok (.iconst 0, 1) := by decide +kernel
theorem dX6_hold_19 : decode cX6_hold 19 = .ok (.aload_n 0, 1) := by decide +kernel
theorem dX6_hold_20 : decode cX6_hold 20 = .ok (.getfield 28, 3) := by decide +kernel
theorem dX6_hold_23 : decode cX6_hold 23 = .ok (.iload_n 2, 1) := by decide +kernel
theorem dX6_hold_24 : decode cX6_hold 24 = .ok (.iaload, 1) := by decide +kernel
theorem dX6_hold_25 : decode cX6_hold 25 = .ok (.iconst 1, 1) := by decide +kernel
theorem dX6_hold_26 : decode cX6_hold 26 = .ok (.isub, 1) := by decide +kernel
theorem dX6_hold_27 : decode cX6_hold 27 = .ok (.invokestatic 61, 3) := by decide +kernel
theorem dX6_hold_30 : decode cX6_hold 30 = .ok (.ifCond .eq 18, 3) := by decide +kernel
theorem dX6_hold_33 : decode cX6_hold 33 = .ok (.aload_n 0, 1) := by decide +kernel
theorem dX6_hold_34 : decode cX6_hold 34 = .ok (.getfield 31, 3) := by decide +kernel
theorem dX6_hold_37 : decode cX6_hold 37 = .ok (.sipush 500, 3) := by decide +kernel
theorem dX6_hold_40 : decode cX6_hold 40 = .ok (.iload_n 2, 1) := by decide +kernel
theorem dX6_hold_41 : decode cX6_hold 41 = .ok (.imul, 1) := by decide +kernel
theorem dX6_hold_42 : decode cX6_hold 42 = .ok (.iload_n 3, 1) := by decide +kernel
theorem dX6_hold_43 : decode cX6_hold 43 = .ok (.iadd, 1) := by decide +kernel
theorem dX6_hold_44 : decode cX6_hold 44 = .ok (.iaload, 1) := by decide +kernel
theorem dX6_hold_45 : decode cX6_hold 45 = .ok (.goto 5, 3) := by decide +kernel
theorem dX6_hold_48 : decode cX6_hold 48 = .ok (.bipush (-3), 2) := by decide +kernel
theorem dX6_hold_50 : decode cX6_hold 50 = .ok (.ireturn, 1) := by decide +kernel
theorem dX6_handOf_0 : decode cX6_handOf 0 = .ok (.iload_n 0, 1) := by decide +kernel
theorem dX6_handOf_1 : decode cX6_handOf 1 = .ok (.sipush 1000, 3) := by decide +kernel
theorem dX6_handOf_4 : decode cX6_handOf 4 = .ok (.irem, 1) := by decide +kernel
theorem dX6_handOf_5 : decode cX6_handOf 5 = .ok (.bipush 10, 2) := by decide +kernel
theorem dX6_handOf_7 : decode cX6_handOf 7 = .ok (.idiv, 1) := by decide +kernel
theorem dX6_handOf_8 : decode cX6_handOf 8 = .ok (.ireturn, 1) := by decide +kernel
theorem dX6_apart_0 : decode cX6_apart 0 = .ok (.iload_n 0, 1) := by decide +kernel
theorem dX6_apart_1 : decode cX6_apart 1 = .ok (.iload_n 1, 1) := by decide +kernel
theorem dX6_apart_2 : decode cX6_apart 2 = .ok (.if_icmp .ge 9, 3) := by decide +kernel
theorem dX6_apart_5 : decode cX6_apart 5 = .ok (.iload_n 1, 1) := by decide +kernel
theorem dX6_apart_6 : decode cX6_apart 6 = .ok (.iload_n 0, 1) := by decide +kernel
theorem dX6_apart_7 : decode cX6_apart 7 = .ok (.isub, 1) := by decide +kernel
theorem dX6_apart_8 : decode cX6_apart 8 = .ok (.goto 6, 3) := by decide +kernel
theorem dX6_apart_11 : decode cX6_apart 11 = .ok (.iload_n 0, 1) := by decide +kernel
theorem dX6_apart_12 : decode cX6_apart 12 = .ok (.iload_n 1, 1) := by decide +kernel
theorem dX6_apart_13 : decode cX6_apart 13 = .ok (.isub, 1) := by decide +kernel
theorem dX6_apart_14 : decode cX6_apart 14 = .ok (.ireturn, 1) := by decide +kernel
theorem dX6_comes_0 : decode cX6_comes 0 = .ok (.aload_n 0, 1) := by decide +kernel
theorem dX6_comes_1 : decode cX6_comes 1 = .ok (.getfield 31, 3) := by decide +kernel
theorem dX6_comes_4 : decode cX6_comes 4 = .ok (.iload_n 3, 1) := by decide +kernel
theorem dX6_comes_5 : decode cX6_comes 5 = .ok (.iaload, 1) := by decide +kernel
theorem dX6_comes_6 : decode cX6_comes 6 = .ok (.sipush 1000, 3) := by decide +kernel
theorem dX6_comes_9 : decode cX6_comes 9 = .ok (.idiv, 1) := by decide +kernel
theorem dX6_comes_10 : decode cX6_comes 10 = .ok (.aload_n 0, 1) := by decide +kernel
theorem dX6_comes_11 : decode cX6_comes 11 = .ok (.getfield 31, 3) := by decide +kernel
theorem dX6_comes_14 : decode cX6_comes 14 = .ok (.iload 4, 2) := by decide +kernel
theorem dX6_comes_16 : decode cX6_comes 16 = .ok (.iaload, 1) := by decide +kernel
theorem dX6_comes_17 : decode cX6_comes 17 = .ok (.sipush 1000, 3) := by decide +kernel
theorem dX6_comes_20 : decode cX6_comes 20 = .ok (.idiv, 1) := by decide +kernel
theorem dX6_comes_21 : decode cX6_comes 21 = .ok (.invokestatic 102, 3) := by decide +kernel
theorem dX6_comes_24 : decode cX6_comes 24 = .ok (.istore 5, 2) := by decide +kernel
theorem dX6_comes_26 : decode cX6_comes 26 = .ok (.aload_n 0, 1) := by decide +kernel
theorem dX6_comes_27 : decode cX6_comes 27 = .ok (.getfield 31, 3) := by decide +kernel
theorem dX6_comes_30 : decode cX6_comes 30 = .ok (.iload_n 3, 1) := by decide +kernel
theorem dX6_comes_31 : decode cX6_comes 31 = .ok (.iaload, 1) := by decide +kernel
theorem dX6_comes_32 : decode cX6_comes 32 = .ok (.invokestatic 105, 3) := by decide +kernel
theorem dX6_comes_35 : decode cX6_comes 35 = .ok (.istore 6, 2) := by decide +kernel
theorem dX6_comes_37 : decode cX6_comes 37 = .ok (.aload_n 0, 1) := by decide +kernel
theorem dX6_comes_38 : decode cX6_comes 38 = .ok (.getfield 31, 3) := by decide +kernel
theorem dX6_comes_41 : decode cX6_comes 41 = .ok (.iload 4, 2) := by decide +kernel
theorem dX6_comes_43 : decode cX6_comes 43 = .ok (.iaload, 1) := by decide +kernel
theorem dX6_comes_44 : decode cX6_comes 44 = .ok (.invokestatic 105, 3) := by decide +kernel
theorem dX6_comes_47 : decode cX6_comes 47 = .ok (.istore 7, 2) := by decide +kernel
theorem dX6_comes_49 : decode cX6_comes 49 = .ok (.iload 6, 2) := by decide +kernel
theorem dX6_comes_51 : decode cX6_comes 51 = .ok (.ifCond .eq 36, 3) := by decide +kernel
theorem dX6_comes_54 : decode cX6_comes 54 = .ok (.iload 7, 2) := by decide +kernel
theorem dX6_comes_56 : decode cX6_comes 56 = .ok (.ifCond .eq 31, 3) := by decide +kernel
theorem dX6_comes_59 : decode cX6_comes 59 = .ok (.iload 6, 2) := by decide +kernel
theorem dX6_comes_61 : decode cX6_comes 61 = .ok (.iload 7, 2) := by decide +kernel
theorem dX6_comes_63 : decode cX6_comes 63 = .ok (.if_icmp .eq 24, 3) := by decide +kernel
theorem dX6_comes_66 : decode cX6_comes 66 = .ok (.aload_n 0, 1) := by decide +kernel
theorem dX6_comes_67 : decode cX6_comes 67 = .ok (.iload_n 1, 1) := by decide +kernel
theorem dX6_comes_68 : decode cX6_comes 68 = .ok (.iload_n 2, 1) := by decide +kernel
theorem dX6_comes_69 : decode cX6_comes 69 = .ok (.iconst 1, 1) := by decide +kernel
theorem dX6_comes_70 : decode cX6_comes 70 = .ok (.invokevirtual 108, 3) := by decide +kernel
theorem dX6_comes_73 : decode cX6_comes 73 = .ok (.ifCond .ne 14, 3) := by decide +kernel
theorem dX6_comes_76 : decode cX6_comes 76 = .ok (.aload_n 0, 1) := by decide +kernel
theorem dX6_comes_77 : decode cX6_comes 77 = .ok (.iload_n 1, 1) := by decide +kernel
theorem dX6_comes_78 : decode cX6_comes 78 = .ok (.iload_n 2, 1) := by decide +kernel
theorem dX6_comes_79 : decode cX6_comes 79 = .ok (.bipush 8, 2) := by decide +kernel
theorem dX6_comes_81 : decode cX6_comes 81 = .ok (.invokevirtual 108, 3) := by decide +kernel
theorem dX6_comes_84 : decode cX6_comes 84 = .ok (.ifCond .eq 6, 3) := by decide +kernel
theorem dX6_comes_87 : decode cX6_comes 87 = .ok (.iload 5, 2) := by decide +kernel
theorem dX6_comes_89 : decode cX6_comes 89 = .ok (.ireturn, 1) := by decide +kernel
theorem dX6_comes_90 : decode cX6_comes 90 = .ok (.aload_n 0, 1) := by decide +kernel
theorem dX6_comes_91 : decode cX6_comes 91 = .ok (.iload_n 1, 1) := by decide +kernel
theorem dX6_comes_92 : decode cX6_comes 92 = .ok (.iload_n 2, 1) := by decide +kernel
theorem dX6_comes_93 : decode cX6_comes 93 = .ok (.iconst 2, 1) := by decide +kernel
theorem dX6_comes_94 : decode cX6_comes 94 = .ok (.invokevirtual 108, 3) := by decide +kernel
theorem dX6_comes_97 : decode cX6_comes 97 = .ok (.ifCond .eq 8, 3) := by decide +kernel
theorem dX6_comes_100 : decode cX6_comes 100 = .ok (.ldc 111, 2) := by decide +kernel
theorem dX6_comes_102 : decode cX6_comes 102 = .ok (.goto 15, 3) := by decide +kernel
theorem dX6_comes_105 : decode cX6_comes 105 = .ok (.iload 5, 2) := by decide +kernel
theorem dX6_comes_107 : decode cX6_comes 107 = .ok (.iconst 2, 1) := by decide +kernel
theorem dX6_comes_108 : decode cX6_comes 108 = .ok (.iload 6, 2) := by decide +kernel
theorem dX6_comes_110 : decode cX6_comes 110 = .ok (.iload 7, 2) := by decide +kernel
theorem dX6_comes_112 : decode cX6_comes 112 = .ok (.invokestatic 102, 3) := by decide +kernel
theorem dX6_comes_115 : decode cX6_comes 115 = .ok (.imul, 1) := by decide +kernel
theorem dX6_comes_116 : decode cX6_comes 116 = .ok (.iadd, 1) := by decide +kernel
theorem dX6_comes_117 : decode cX6_comes 117 = .ok (.ireturn, 1) := by decide +kernel
theorem dX6_findHardest_0 : decode cX6_findHardest 0 = .ok (.sipush 500, 3) := by decide +kernel
theorem dX6_findHardest_3 : decode cX6_findHardest 3 = .ok (.iload_n 2, 1) := by decide +kernel
theorem dX6_findHardest_4 : decode cX6_findHardest 4 = .ok (.imul, 1) := by decide +kernel
theorem dX6_findHardest_5 : decode cX6_findHardest 5 = .ok (.istore_n 3, 1) := by decide +kernel
theorem dX6_findHardest_6 : decode cX6_findHardest 6 = .ok (.iload_n 3, 1) := by decide +kernel
theorem dX6_findHardest_7 : decode cX6_findHardest 7 = .ok (.sipush 500, 3) := by decide +kernel
theorem dX6_findHardest_10 : decode cX6_findHardest 10 = .ok (.iload_n 2, 1) := by decide +kernel
theorem dX6_findHardest_11 : decode cX6_findHardest 11 = .ok (.imul, 1) := by decide +kernel
theorem dX6_findHardest_12 : decode cX6_findHardest 12 = .ok (.aload_n 0, 1) := by decide +kernel
theorem dX6_findHardest_13 : decode cX6_findHardest 13 = .ok (.getfield 28, 3) := by decide +kernel
theorem dX6_findHardest_16 : decode cX6_findHardest 16 = .ok (.iload_n 2, 1) := by decide +kernel
theorem dX6_findHardest_17 : decode cX6_findHardest 17 = .ok (.iaload, 1) := by decide +kernel
theorem dX6_findHardest_18 : decode cX6_findHardest 18 = .ok (.iadd, 1) := by decide +kernel
theorem dX6_findHardest_19 : decode cX6_findHardest 19 = .ok (.if_icmp .ge 141, 3) := by decide +kernel
theorem dX6_findHardest_22 : decode cX6_findHardest 22 = .ok (.iload_n 2, 1) := by decide +kernel
theorem dX6_findHardest_23 : decode cX6_findHardest 23 = .ok (.aload_n 0, 1) := by decide +kernel
theorem dX6_findHardest_24 : decode cX6_findHardest 24 = .ok (.getfield 13, 3) := by decide +kernel
theorem dX6_findHardest_27 : decode cX6_findHardest 27 = .ok (.iload_n 1, 1) := by decide +kernel
theorem dX6_findHardest_28 : decode cX6_findHardest 28 = .ok (.iaload, 1) := by decide +kernel
theorem dX6_findHardest_29 : decode cX6_findHardest 29 = .ok (.iconst 1, 1) := by decide +kernel
theorem dX6_findHardest_30 : decode cX6_findHardest 30 = .ok (.isub, 1) := by decide +kernel
theorem dX6_findHardest_31 : decode cX6_findHardest 31 = .ok (.if_icmp .ne 7, 3) := by decide +kernel
theorem dX6_findHardest_34 : decode cX6_findHardest 34 = .ok (.iconst 0, 1) := by decide +kernel
theorem dX6_findHardest_35 : decode cX6_findHardest 35 = .ok (.goto 5, 3) := by decide +kernel
theorem dX6_findHardest_38 : decode cX6_findHardest 38 = .ok (.ldc 111, 2) := by decide +kernel
theorem dX6_findHardest_40 : decode cX6_findHardest 40 = .ok (.istore 4, 2) := by decide +kernel
theorem dX6_findHardest_42 : decode cX6_findHardest 42 = .ok (.sipush 500, 3) := by decide +kernel
theorem dX6_findHardest_45 : decode cX6_findHardest 45 = .ok (.iload_n 2, 1) := by decide +kernel
theorem dX6_findHardest_46 : decode cX6_findHardest 46 = .ok (.iconst 1, 1) := by decide +kernel
theorem dX6_findHardest_47 : decode cX6_findHardest 47 = .ok (.iadd, 1) := by decide +kernel
theorem dX6_findHardest_48 : decode cX6_findHardest 48 = .ok (.imul, 1) := by decide +kernel
theorem dX6_findHardest_49 : decode cX6_findHardest 49 = .ok (.istore 5, 2) := by decide +kernel
theorem dX6_findHardest_51 : decode cX6_findHardest 51 = .ok (.iload_n 2, 1) := by decide +kernel
theorem dX6_findHardest_52 : decode cX6_findHardest 52 = .ok (.aload_n 0, 1) := by decide +kernel
theorem dX6_findHardest_53 : decode cX6_findHardest 53 = .ok (.getfield 13, 3) := by decide +kernel
theorem dX6_findHardest_56 : decode cX6_findHardest 56 = .ok (.iload_n 1, 1) := by decide +kernel
theorem dX6_findHardest_57 : decode cX6_findHardest 57 = .ok (.iaload, 1) := by decide +kernel
theorem dX6_findHardest_58 : decode cX6_findHardest 58 = .ok (.iconst 1, 1) := by decide +kernel
theorem dX6_findHardest_59 : decode cX6_findHardest 59 = .ok (.isub, 1) := by decide +kernel
theorem dX6_findHardest_60 : decode cX6_findHardest 60 = .ok (.if_icmp .ge 67, 3) := by decide +kernel
theorem dX6_findHardest_63 : decode cX6_findHardest 63 = .ok (.iload 5, 2) := by decide +kernel
theorem dX6_findHardest_65 : decode cX6_findHardest 65 = .ok (.sipush 500, 3) := by decide +kernel
theorem dX6_findHardest_68 : decode cX6_findHardest 68 = .ok (.iload_n 2, 1) := by decide +kernel
theorem dX6_findHardest_69 : decode cX6_findHardest 69 = .ok (.iconst 1, 1) := by decide +kernel
theorem dX6_findHardest_70 : decode cX6_findHardest 70 = .ok (.iadd, 1) := by decide +kernel
theorem dX6_findHardest_71 : decode cX6_findHardest 71 = .ok (.imul, 1) := by decide +kernel
theorem dX6_findHardest_72 : decode cX6_findHardest 72 = .ok (.aload_n 0, 1) := by decide +kernel
theorem dX6_findHardest_73 : decode cX6_findHardest 73 = .ok (.getfield 28, 3) := by decide +kernel
theorem dX6_findHardest_76 : decode cX6_findHardest 76 = .ok (.iload_n 2, 1) := by decide +kernel
theorem dX6_findHardest_77 : decode cX6_findHardest 77 = .ok (.iconst 1, 1) := by decide +kernel
theorem dX6_findHardest_78 : decode cX6_findHardest 78 = .ok (.iadd, 1) := by decide +kernel
theorem dX6_findHardest_79 : decode cX6_findHardest 79 = .ok (.iaload, 1) := by decide +kernel
theorem dX6_findHardest_80 : decode cX6_findHardest 80 = .ok (.iadd, 1) := by decide +kernel
theorem dX6_findHardest_81 : decode cX6_findHardest 81 = .ok (.if_icmp .ge 46, 3) := by decide +kernel
theorem dX6_findHardest_84 : decode cX6_findHardest 84 = .ok (.aload_n 0, 1) := by decide +kernel
theorem dX6_findHardest_85 : decode cX6_findHardest 85 = .ok (.iload_n 1, 1) := by decide +kernel
theorem dX6_findHardest_86 : decode cX6_findHardest 86 = .ok (.iload_n 2, 1) := by decide +kernel
theorem dX6_findHardest_87 : decode cX6_findHardest 87 = .ok (.iconst 1, 1) := by decide +kernel
theorem dX6_findHardest_88 : decode cX6_findHardest 88 = .ok (.iadd, 1) := by decide +kernel
theorem dX6_findHardest_89 : decode cX6_findHardest 89 = .ok (.iload_n 3, 1) := by decide +kernel
theorem dX6_findHardest_90 : decode cX6_findHardest 90 = .ok (.iload 5, 2) := by decide +kernel
theorem dX6_findHardest_92 : decode cX6_findHardest 92 = .ok (.invokevirtual 112, 3) := by decide +kernel
theorem dX6_findHardest_95 : decode cX6_findHardest 95 = .ok (.aload_n 0, 1) := by decide +kernel
theorem dX6_findHardest_96 : decode cX6_findHardest 96 = .ok (.getfield 49, 3) := by decide +kernel
theorem dX6_findHardest_99 : decode cX6_findHardest 99 = .ok (.iload 5, 2) := by decide +kernel
theorem dX6_findHardest_101 : decode cX6_findHardest 101 = .ok (.iaload, 1) := by decide +kernel
theorem dX6_findHardest_102 : decode cX6_findHardest 102 = .ok (.iadd, 1) := by decide +kernel
theorem dX6_findHardest_103 : decode cX6_findHardest 103 = .ok (.istore 6, 2) := by decide +kernel
theorem dX6_findHardest_105 : decode cX6_findHardest 105 = .ok (.iload 6, 2) := by decide +kernel
theorem dX6_findHardest_107 : decode cX6_findHardest 107 = .ok (.iload 4, 2) := by decide +kernel
