theorem dX6_findHardest_109 : decode cX6_findHardest 109 = .ok (.if_icmp .ge 8, 3) := by decide +kernel
theorem dX6_findHardest_112 : decode cX6_findHardest 112 = .ok (.iload 6, 2) := by decide +kernel
theorem dX6_findHardest_114 : decode cX6_findHardest 114 = .ok (.goto 5, 3) := by decide +kernel
theorem dX6_findHardest_117 : decode cX6_findHardest 117 = .ok (.iload 4, 2) := by decide +kernel
theorem dX6_findHardest_119 : decode cX6_findHardest 119 = .ok (.istore 4, 2) := by decide +kernel
theorem dX6_findHardest_121 : decode cX6_findHardest 121 = .ok (.iinc 5 1, 3) := by decide +kernel
theorem dX6_findHardest_124 : decode cX6_findHardest 124 = .ok (.goto (-73), 3) := by decide +kernel
theorem dX6_findHardest_127 : decode cX6_findHardest 127 = .ok (.aload_n 0, 1) := by decide +kernel
theorem dX6_findHardest_128 : decode cX6_findHardest 128 = .ok (.getfield 49, 3) := by decide +kernel
theorem dX6_findHardest_131 : decode cX6_findHardest 131 = .ok (.iload_n 3, 1) := by decide +kernel
theorem dX6_findHardest_132 : decode cX6_findHardest 132 = .ok (.iload 4, 2) := by decide +kernel
theorem dX6_findHardest_134 : decode cX6_findHardest 134 = .ok (.ldc 111, 2) := by decide +kernel
theorem dX6_findHardest_136 : decode cX6_findHardest 136 = .ok (.if_icmp .lt 8, 3) := by decide +kernel
theorem dX6_findHardest_139 : decode cX6_findHardest 139 = .ok (.ldc 111, 2) := by decide +kernel
theorem dX6_findHardest_141 : decode cX6_findHardest 141 = .ok (.goto 12, 3) := by decide +kernel
theorem dX6_findHardest_144 : decode cX6_findHardest 144 = .ok (.aload_n 0, 1) := by decide +kernel
theorem dX6_findHardest_145 : decode cX6_findHardest 145 = .ok (.getfield 37, 3) := by decide +kernel
theorem dX6_findHardest_148 : decode cX6_findHardest 148 = .ok (.iload_n 3, 1) := by decide +kernel
theorem dX6_findHardest_149 : decode cX6_findHardest 149 = .ok (.iaload, 1) := by decide +kernel
theorem dX6_findHardest_150 : decode cX6_findHardest 150 = .ok (.iload 4, 2) := by decide +kernel
theorem dX6_findHardest_152 : decode cX6_findHardest 152 = .ok (.iadd, 1) := by decide +kernel
theorem dX6_findHardest_153 : decode cX6_findHardest 153 = .ok (.iastore, 1) := by decide +kernel
theorem dX6_findHardest_154 : decode cX6_findHardest 154 = .ok (.iinc 3 1, 3) := by decide +kernel
theorem dX6_findHardest_157 : decode cX6_findHardest 157 = .ok (.goto (-151), 3) := by decide +kernel
theorem dX6_findHardest_160 : decode cX6_findHardest 160 = .ok (.return_, 1) := by decide +kernel
theorem dX6_makeFingers_0 : decode cX6_makeFingers 0 = .ok (.aload_n 0, 1) := by decide +kernel
theorem dX6_makeFingers_1 : decode cX6_makeFingers 1 = .ok (.iconst 0, 1) := by decide +kernel
theorem dX6_makeFingers_2 : decode cX6_makeFingers 2 = .ok (.putfield 116, 3) := by decide +kernel
theorem dX6_makeFingers_5 : decode cX6_makeFingers 5 = .ok (.aload_n 0, 1) := by decide +kernel
theorem dX6_makeFingers_6 : decode cX6_makeFingers 6 = .ok (.getfield 13, 3) := by decide +kernel
theorem dX6_makeFingers_9 : decode cX6_makeFingers 9 = .ok (.iload_n 1, 1) := by decide +kernel
theorem dX6_makeFingers_10 : decode cX6_makeFingers 10 = .ok (.iaload, 1) := by decide +kernel
theorem dX6_makeFingers_11 : decode cX6_makeFingers 11 = .ok (.ifCond .ne 5, 3) := by decide +kernel
theorem dX6_makeFingers_14 : decode cX6_makeFingers 14 = .ok (.iconst 1, 1) := by decide +kernel
theorem dX6_makeFingers_15 : decode cX6_makeFingers 15 = .ok (.ireturn, 1) := by decide +kernel
theorem dX6_makeFingers_16 : decode cX6_makeFingers 16 = .ok (.iconst 0, 1) := by decide +kernel
theorem dX6_makeFingers_17 : decode cX6_makeFingers 17 = .ok (.istore_n 2, 1) := by decide +kernel
theorem dX6_makeFingers_18 : decode cX6_makeFingers 18 = .ok (.iload_n 2, 1) := by decide +kernel
theorem dX6_makeFingers_19 : decode cX6_makeFingers 19 = .ok (.aload_n 0, 1) := by decide +kernel
theorem dX6_makeFingers_20 : decode cX6_makeFingers 20 = .ok (.getfield 13, 3) := by decide +kernel
theorem dX6_makeFingers_23 : decode cX6_makeFingers 23 = .ok (.iload_n 1, 1) := by decide +kernel
theorem dX6_makeFingers_24 : decode cX6_makeFingers 24 = .ok (.iaload, 1) := by decide +kernel
theorem dX6_makeFingers_25 : decode cX6_makeFingers 25 = .ok (.if_icmp .ge 15, 3) := by decide +kernel
theorem dX6_makeFingers_28 : decode cX6_makeFingers 28 = .ok (.aload_n 0, 1) := by decide +kernel
theorem dX6_makeFingers_29 : decode cX6_makeFingers 29 = .ok (.iload_n 1, 1) := by decide +kernel
theorem dX6_makeFingers_30 : decode cX6_makeFingers 30 = .ok (.iload_n 2, 1) := by decide +kernel
theorem dX6_makeFingers_31 : decode cX6_makeFingers 31 = .ok (.invokevirtual 98, 3) := by decide +kernel
theorem dX6_makeFingers_34 : decode cX6_makeFingers 34 = .ok (.iinc 2 1, 3) := by decide +kernel
theorem dX6_makeFingers_37 : decode cX6_makeFingers 37 = .ok (.goto (-19), 3) := by decide +kernel
theorem dX6_makeFingers_40 : decode cX6_makeFingers 40 = .ok (.aload_n 0, 1) := by decide +kernel
theorem dX6_makeFingers_41 : decode cX6_makeFingers 41 = .ok (.getfield 13, 3) := by decide +kernel
theorem dX6_makeFingers_44 : decode cX6_makeFingers 44 = .ok (.iload_n 1, 1) := by decide +kernel
theorem dX6_makeFingers_45 : decode cX6_makeFingers 45 = .ok (.iaload, 1) := by decide +kernel
theorem dX6_makeFingers_46 : decode cX6_makeFingers 46 = .ok (.iconst 1, 1) := by decide +kernel
theorem dX6_makeFingers_47 : decode cX6_makeFingers 47 = .ok (.isub, 1) := by decide +kernel
theorem dX6_makeFingers_48 : decode cX6_makeFingers 48 = .ok (.istore_n 2, 1) := by decide +kernel
theorem dX6_makeFingers_49 : decode cX6_makeFingers 49 = .ok (.iload_n 2, 1) := by decide +kernel
theorem dX6_makeFingers_50 : decode cX6_makeFingers 50 = .ok (.ifCond .lt 15, 3) := by decide +kernel
theorem dX6_makeFingers_53 : decode cX6_makeFingers 53 = .ok (.aload_n 0, 1) := by decide +kernel
theorem dX6_makeFingers_54 : decode cX6_makeFingers 54 = .ok (.iload_n 1, 1) := by decide +kernel
theorem dX6_makeFingers_55 : decode cX6_makeFingers 55 = .ok (.iload_n 2, 1) := by decide +kernel
theorem dX6_makeFingers_56 : decode cX6_makeFingers 56 = .ok (.invokevirtual 120, 3) := by decide +kernel
theorem dX6_makeFingers_59 : decode cX6_makeFingers 59 = .ok (.iinc 2 (-1), 3) := by decide +kernel
theorem dX6_makeFingers_62 : decode cX6_makeFingers 62 = .ok (.goto (-13), 3) := by decide +kernel
theorem dX6_makeFingers_65 : decode cX6_makeFingers 65 = .ok (.aload_n 0, 1) := by decide +kernel
theorem dX6_makeFingers_66 : decode cX6_makeFingers 66 = .ok (.ldc 111, 2) := by decide +kernel
theorem dX6_makeFingers_68 : decode cX6_makeFingers 68 = .ok (.putfield 116, 3) := by decide +kernel
theorem dX6_makeFingers_71 : decode cX6_makeFingers 71 = .ok (.iconst 0, 1) := by decide +kernel
theorem dX6_makeFingers_72 : decode cX6_makeFingers 72 = .ok (.istore_n 2, 1) := by decide +kernel
theorem dX6_makeFingers_73 : decode cX6_makeFingers 73 = .ok (.iload_n 2, 1) := by decide +kernel
theorem dX6_makeFingers_74 : decode cX6_makeFingers 74 = .ok (.aload_n 0, 1) := by decide +kernel
theorem dX6_makeFingers_75 : decode cX6_makeFingers 75 = .ok (.getfield 28, 3) := by decide +kernel
theorem dX6_makeFingers_78 : decode cX6_makeFingers 78 = .ok (.iconst 0, 1) := by decide +kernel
theorem dX6_makeFingers_79 : decode cX6_makeFingers 79 = .ok (.iaload, 1) := by decide +kernel
theorem dX6_makeFingers_80 : decode cX6_makeFingers 80 = .ok (.if_icmp .ge 39, 3) := by decide +kernel
theorem dX6_makeFingers_83 : decode cX6_makeFingers 83 = .ok (.aload_n 0, 1) := by decide +kernel
theorem dX6_makeFingers_84 : decode cX6_makeFingers 84 = .ok (.getfield 49, 3) := by decide +kernel
theorem dX6_makeFingers_87 : decode cX6_makeFingers 87 = .ok (.iload_n 2, 1) := by decide +kernel
theorem dX6_makeFingers_88 : decode cX6_makeFingers 88 = .ok (.iaload, 1) := by decide +kernel
theorem dX6_makeFingers_89 : decode cX6_makeFingers 89 = .ok (.aload_n 0, 1) := by decide +kernel
theorem dX6_makeFingers_90 : decode cX6_makeFingers 90 = .ok (.getfield 116, 3) := by decide +kernel
theorem dX6_makeFingers_93 : decode cX6_makeFingers 93 = .ok (.if_icmp .ge 20, 3) := by decide +kernel
theorem dX6_makeFingers_96 : decode cX6_makeFingers 96 = .ok (.aload_n 0, 1) := by decide +kernel
theorem dX6_makeFingers_97 : decode cX6_makeFingers 97 = .ok (.aload_n 0, 1) := by decide +kernel
theorem dX6_makeFingers_98 : decode cX6_makeFingers 98 = .ok (.getfield 49, 3) := by decide +kernel
theorem dX6_makeFingers_101 : decode cX6_makeFingers 101 = .ok (.iload_n 2, 1) := by decide +kernel
theorem dX6_makeFingers_102 : decode cX6_makeFingers 102 = .ok (.iaload, 1) := by decide +kernel
theorem dX6_makeFingers_103 : decode cX6_makeFingers 103 = .ok (.putfield 116, 3) := by decide +kernel
theorem dX6_makeFingers_106 : decode cX6_makeFingers 106 = .ok (.aload_n 0, 1) := by decide +kernel
theorem dX6_makeFingers_107 : decode cX6_makeFingers 107 = .ok (.getfield 52, 3) := by decide +kernel
theorem dX6_makeFingers_110 : decode cX6_makeFingers 110 = .ok (.iconst 0, 1) := by decide +kernel
theorem dX6_makeFingers_111 : decode cX6_makeFingers 111 = .ok (.iload_n 2, 1) := by decide +kernel
theorem dX6_makeFingers_112 : decode cX6_makeFingers 112 = .ok (.iastore, 1) := by decide +kernel
theorem dX6_makeFingers_113 : decode cX6_makeFingers 113 = .ok (.iinc 2 1, 3) := by decide +kernel
theorem dX6_makeFingers_116 : decode cX6_makeFingers 116 = .ok (.goto (-43), 3) := by decide +kernel
theorem dX6_makeFingers_119 : decode cX6_makeFingers 119 = .ok (.aload_n 0, 1) := by decide +kernel
theorem dX6_makeFingers_120 : decode cX6_makeFingers 120 = .ok (.getfield 116, 3) := by decide +kernel
theorem dX6_makeFingers_123 : decode cX6_makeFingers 123 = .ok (.ldc 111, 2) := by decide +kernel
theorem dX6_makeFingers_125 : decode cX6_makeFingers 125 = .ok (.if_icmp .ne 5, 3) := by decide +kernel
theorem dX6_makeFingers_128 : decode cX6_makeFingers 128 = .ok (.iconst 0, 1) := by decide +kernel
theorem dX6_makeFingers_129 : decode cX6_makeFingers 129 = .ok (.ireturn, 1) := by decide +kernel
theorem dX6_makeFingers_130 : decode cX6_makeFingers 130 = .ok (.iconst 1, 1) := by decide +kernel
theorem dX6_makeFingers_131 : decode cX6_makeFingers 131 = .ok (.istore_n 2, 1) := by decide +kernel
theorem dX6_makeFingers_132 : decode cX6_makeFingers 132 = .ok (.iload_n 2, 1) := by decide +kernel
theorem dX6_makeFingers_133 : decode cX6_makeFingers 133 = .ok (.aload_n 0, 1) := by decide +kernel
theorem dX6_makeFingers_134 : decode cX6_makeFingers 134 = .ok (.getfield 13, 3) := by decide +kernel
theorem dX6_makeFingers_137 : decode cX6_makeFingers 137 = .ok (.iload_n 1, 1) := by decide +kernel
theorem dX6_makeFingers_138 : decode cX6_makeFingers 138 = .ok (.iaload, 1) := by decide +kernel
theorem dX6_makeFingers_139 : decode cX6_makeFingers 139 = .ok (.if_icmp .ge 72, 3) := by decide +kernel
theorem dX6_makeFingers_142 : decode cX6_makeFingers 142 = .ok (.aload_n 0, 1) := by decide +kernel
theorem dX6_makeFingers_143 : decode cX6_makeFingers 143 = .ok (.getfield 52, 3) := by decide +kernel
theorem dX6_makeFingers_146 : decode cX6_makeFingers 146 = .ok (.iload_n 2, 1) := by decide +kernel
theorem dX6_makeFingers_147 : decode cX6_makeFingers 147 = .ok (.iconst 1, 1) := by decide +kernel
theorem dX6_makeFingers_148 : decode cX6_makeFingers 148 = .ok (.isub, 1) := by decide +kernel
theorem dX6_makeFingers_149 : decode cX6_makeFingers 149 = .ok (.iaload, 1) := by decide +kernel
theorem dX6_makeFingers_150 : decode cX6_makeFingers 150 = .ok (.istore_n 3, 1) := by decide +kernel
theorem dX6_makeFingers_151 : decode cX6_makeFingers 151 = .ok (.sipush 500, 3) := by decide +kernel
theorem dX6_makeFingers_154 : decode cX6_makeFingers 154 = .ok (.iload_n 2, 1) := by decide +kernel
theorem dX6_makeFingers_155 : decode cX6_makeFingers 155 = .ok (.imul, 1) := by decide +kernel
theorem dX6_makeFingers_156 : decode cX6_makeFingers 156 = .ok (.istore 4, 2) := by decide +kernel
theorem dX6_makeFingers_158 : decode cX6_makeFingers 158 = .ok (.aload_n 0, 1) := by decide +kernel
theorem dX6_makeFingers_159 : decode cX6_makeFingers 159 = .ok (.iload_n 1, 1) := by decide +kernel
theorem dX6_makeFingers_160 : decode cX6_makeFingers 160 = .ok (.iload_n 2, 1) := by decide +kernel
theorem dX6_makeFingers_161 : decode cX6_makeFingers 161 = .ok (.iload_n 3, 1) := by decide +kernel
theorem dX6_makeFingers_162 : decode cX6_makeFingers 162 = .ok (.iload 4, 2) := by decide +kernel
theorem dX6_makeFingers_164 : decode cX6_makeFingers 164 = .ok (.invokevirtual 112, 3) := by decide +kernel
theorem dX6_makeFingers_167 : decode cX6_makeFingers 167 = .ok (.aload_n 0, 1) := by decide +kernel
theorem dX6_makeFingers_168 : decode cX6_makeFingers 168 = .ok (.getfield 49, 3) := by decide +kernel
theorem dX6_makeFingers_171 : decode cX6_makeFingers 171 = .ok (.iload 4, 2) := by decide +kernel
theorem dX6_makeFingers_173 : decode cX6_makeFingers 173 = .ok (.iaload, 1) := by decide +kernel
theorem dX6_makeFingers_174 : decode cX6_makeFingers 174 = .ok (.iadd, 1) := by decide +kernel
theorem dX6_makeFingers_175 : decode cX6_makeFingers 175 = .ok (.aload_n 0, 1) := by decide +kernel
theorem dX6_makeFingers_176 : decode cX6_makeFingers 176 = .ok (.getfield 37, 3) := by decide +kernel
theorem dX6_makeFingers_179 : decode cX6_makeFingers 179 = .ok (.iload_n 3, 1) := by decide +kernel
theorem dX6_makeFingers_180 : decode cX6_makeFingers 180 = .ok (.iaload, 1) := by decide +kernel
theorem dX6_makeFingers_181 : decode cX6_makeFingers 181 = .ok (.iadd, 1) := by decide +kernel
theorem dX6_makeFingers_182 : decode cX6_makeFingers 182 = .ok (.aload_n 0, 1) := by decide +kernel
theorem dX6_makeFingers_183 : decode cX6_makeFingers 183 = .ok (.getfield 49, 3) := by decide +kernel
theorem dX6_makeFingers_186 : decode cX6_makeFingers 186 = .ok (.iload_n 3, 1) := by decide +kernel
theorem dX6_makeFingers_187 : decode cX6_makeFingers 187 = .ok (.iaload, 1) := by decide +kernel
theorem dX6_makeFingers_188 : decode cX6_makeFingers 188 = .ok (.if_icmp .eq 9, 3) := by decide +kernel
theorem dX6_makeFingers_191 : decode cX6_makeFingers 191 = .ok (.iinc 4 1, 3) := by decide +kernel
theorem dX6_makeFingers_194 : decode cX6_makeFingers 194 = .ok (.goto (-36), 3) := by decide +kernel
theorem dX6_makeFingers_197 : decode cX6_makeFingers 197 = .ok (.aload_n 0, 1) := by decide +kernel
theorem dX6_makeFingers_198 : decode cX6_makeFingers 198 = .ok (.getfield 52, 3) := by decide +kernel
theorem dX6_makeFingers_201 : decode cX6_makeFingers 201 = .ok (.iload_n 2, 1) := by decide +kernel
theorem dX6_makeFingers_202 : decode cX6_makeFingers 202 = .ok (.iload 4, 2) := by decide +kernel
theorem dX6_makeFingers_204 : decode cX6_makeFingers 204 = .ok (.iastore, 1) := by decide +kernel
theorem dX6_makeFingers_205 : decode cX6_makeFingers 205 = .ok (.iinc 2 1, 3) := by decide +kernel
theorem dX6_makeFingers_208 : decode cX6_makeFingers 208 = .ok (.goto (-76), 3) := by decide +kernel
theorem dX6_makeFingers_211 : decode cX6_makeFingers 211 = .ok (.iconst 1, 1) := by decide +kernel
theorem dX6_makeFingers_212 : decode cX6_makeFingers 212 = .ok (.ireturn, 1) := by decide +kernel
theorem dX6_hard_0 : decode cX6_hard 0 = .ok (.iload_n 1, 1) := by decide +kernel
theorem dX6_hard_1 : decode cX6_hard 1 = .ok (.invokestatic 65, 3) := by decide +kernel
theorem dX6_hard_4 : decode cX6_hard 4 = .ok (.ifCond .ne 5, 3) := by decide +kernel
theorem dX6_hard_7 : decode cX6_hard 7 = .ok (.iconst (-1), 1) := by decide +kernel
theorem dX6_hard_8 : decode cX6_hard 8 = .ok (.ireturn, 1) := by decide +kernel
theorem dX6_hard_9 : decode cX6_hard 9 = .ok (.aload_n 0, 1) := by decide +kernel
theorem dX6_hard_10 : decode cX6_hard 10 = .ok (.iload_n 1, 1) := by decide +kernel
theorem dX6_hard_11 : decode cX6_hard 11 = .ok (.invokevirtual 123, 3) := by decide +kernel
theorem dX6_hard_14 : decode cX6_hard 14 = .ok (.ifCond .eq 10, 3) := by decide +kernel
theorem dX6_hard_17 : decode cX6_hard 17 = .ok (.aload_n 0, 1) := by decide +kernel
theorem dX6_hard_18 : decode cX6_hard 18 = .ok (.getfield 116, 3) := by decide +kernel
theorem dX6_hard_21 : decode cX6_hard 21 = .ok (.goto 5, 3) := by decide +kernel
theorem dX6_hard_24 : decode cX6_hard 24 = .ok (.bipush (-3), 2) := by decide +kernel
theorem dX6_hard_26 : decode cX6_hard 26 = .ok (.ireturn, 1) := by decide +kernel
theorem dX6_finger_0 : decode cX6_finger 0 = .ok (.aload_n 0, 1) := by decide +kernel
theorem dX6_finger_1 : decode cX6_finger 1 = .ok (.iload_n 1, 1) := by decide +kernel
theorem dX6_finger_2 : decode cX6_finger 2 = .ok (.iload_n 2, 1) := by decide +kernel
theorem dX6_finger_3 : decode cX6_finger 3 = .ok (.invokevirtual 76, 3) := by decide +kernel
theorem dX6_finger_6 : decode cX6_finger 6 = .ok (.ifCond .eq 12, 3) := by decide +kernel
theorem dX6_finger_9 : decode cX6_finger 9 = .ok (.iload_n 3, 1) := by decide +kernel
theorem dX6_finger_10 : decode cX6_finger 10 = .ok (.iconst 0, 1) := by decide +kernel
theorem dX6_finger_11 : decode cX6_finger 11 = .ok (.iconst 5, 1) := by decide +kernel
theorem dX6_finger_12 : decode cX6_finger 12 = .ok (.invokestatic 61, 3) := by decide +kernel
theorem dX6_finger_15 : decode cX6_finger 15 = .ok (.ifCond .ne 5, 3) := by decide +kernel
theorem dX6_finger_18 : decode cX6_finger 18 = .ok (.iconst (-1), 1) := by decide +kernel
theorem dX6_finger_19 : decode cX6_finger 19 = .ok (.ireturn, 1) := by decide +kernel
theorem dX6_finger_20 : decode cX6_finger 20 = .ok (.aload_n 0, 1) := by decide +kernel
theorem dX6_finger_21 : decode cX6_finger 21 = .ok (.iload_n 1, 1) := by decide +kernel
theorem dX6_finger_22 : decode cX6_finger 22 = .ok (.invokevirtual 123, 3) := by decide +kernel
theorem dX6_finger_25 : decode cX6_finger 25 = .ok (.ifCond .ne 6, 3) := by decide +kernel
theorem dX6_finger_28 : decode cX6_finger 28 = .ok (.bipush (-3), 2) := by decide +kernel
theorem dX6_finger_30 : decode cX6_finger 30 = .ok (.ireturn, 1) := by decide +kernel
theorem dX6_finger_31 : decode cX6_finger 31 = .ok (.aload_n 0, 1) := by decide +kernel
theorem dX6_finger_32 : decode cX6_finger 32 = .ok (.getfield 31, 3) := by decide +kernel
theorem dX6_finger_35 : decode cX6_finger 35 = .ok (.aload_n 0, 1) := by decide +kernel
theorem dX6_finger_36 : decode cX6_finger 36 = .ok (.getfield 52, 3) := by decide +kernel
theorem dX6_finger_39 : decode cX6_finger 39 = .ok (.iload_n 2, 1) := by decide +kernel
theorem dX6_finger_40 : decode cX6_finger 40 = .ok (.iaload, 1) := by decide +kernel
theorem dX6_finger_41 : decode cX6_finger 41 = .ok (.iaload, 1) := by decide +kernel
theorem dX6_finger_42 : decode cX6_finger 42 = .ok (.istore 4, 2) := by decide +kernel
theorem dX6_finger_44 : decode cX6_finger 44 = .ok (.aload_n 0, 1) := by decide +kernel
theorem dX6_finger_45 : decode cX6_finger 45 = .ok (.getfield 34, 3) := by decide +kernel
theorem dX6_finger_48 : decode cX6_finger 48 = .ok (.aload_n 0, 1) := by decide +kernel
theorem dX6_finger_49 : decode cX6_finger 49 = .ok (.getfield 52, 3) := by decide +kernel
theorem dX6_finger_52 : decode cX6_finger 52 = .ok (.iload_n 2, 1) := by decide +kernel
theorem dX6_finger_53 : decode cX6_finger 53 = .ok (.iaload, 1) := by decide +kernel
theorem dX6_finger_54 : decode cX6_finger 54 = .ok (.iaload, 1) := by decide +kernel
theorem dX6_finger_55 : decode cX6_finger 55 = .ok (.istore 5, 2) := by decide +kernel
theorem dX6_finger_57 : decode cX6_finger 57 = .ok (.iload_n 3, 1) := by decide +kernel
theorem dX6_finger_58 : decode cX6_finger 58 = .ok (.tableswitch 82 0 4 #[34, 41, 47, 55, 64], 34) := by decide +kernel
theorem dX6_finger_92 : decode cX6_finger 92 = .ok (.iload 4, 2) := by decide +kernel
theorem dX6_finger_94 : decode cX6_finger 94 = .ok (.sipush 1000, 3) := by decide +kernel
theorem dX6_finger_97 : decode cX6_finger 97 = .ok (.idiv, 1) := by decide +kernel
theorem dX6_finger_98 : decode cX6_finger 98 = .ok (.ireturn, 1) := by decide +kernel
theorem dX6_finger_99 : decode cX6_finger 99 = .ok (.iload 4, 2) := by decide +kernel
theorem dX6_finger_101 : decode cX6_finger 101 = .ok (.invokestatic 105, 3) := by decide +kernel
theorem dX6_finger_104 : decode cX6_finger 104 = .ok (.ireturn, 1) := by decide +kernel
theorem dX6_finger_105 : decode cX6_finger 105 = .ok (.iload 4, 2) := by decide +kernel
theorem dX6_finger_107 : decode cX6_finger 107 = .ok (.bipush 10, 2) := by decide +kernel
theorem dX6_finger_109 : decode cX6_finger 109 = .ok (.irem, 1) := by decide +kernel
theorem dX6_finger_110 : decode cX6_finger 110 = .ok (.iconst 5, 1) := by decide +kernel
theorem dX6_finger_111 : decode cX6_finger 111 = .ok (.irem, 1) := by decide +kernel
theorem dX6_finger_112 : decode cX6_finger 112 = .ok (.ireturn, 1) := by decide +kernel
theorem dX6_finger_113 : decode cX6_finger 113 = .ok (.iload 4, 2) := by decide +kernel
theorem dX6_finger_115 : decode cX6_finger 115 = .ok (.bipush 10, 2) := by decide +kernel
theorem dX6_finger_117 : decode cX6_finger 117 = .ok (.irem, 1) := by decide +kernel
theorem dX6_finger_118 : decode cX6_finger 118 = .ok (.invokestatic 83, 3) := by decide +kernel
theorem dX6_finger_121 : decode cX6_finger 121 = .ok (.ireturn, 1) := by decide +kernel
theorem dX6_finger_122 : decode cX6_finger 122 = .ok (.iload 5, 2) := by decide +kernel
theorem dX6_finger_124 : decode cX6_finger 124 = .ok (.ifCond .ge 8, 3) := by decide +kernel
theorem dX6_finger_127 : decode cX6_finger 127 = .ok (.bipush (-3), 2) := by decide +kernel
theorem dX6_finger_129 : decode cX6_finger 129 = .ok (.goto 10, 3) := by decide +kernel
theorem dX6_finger_132 : decode cX6_finger 132 = .ok (.iload 5, 2) := by decide +kernel
theorem dX6_finger_134 : decode cX6_finger 134 = .ok (.bipush 10, 2) := by decide +kernel
theorem dX6_finger_136 : decode cX6_finger 136 = .ok (.irem, 1) := by decide +kernel
theorem dX6_finger_137 : decode cX6_finger 137 = .ok (.iconst 5, 1) := by decide +kernel
theorem dX6_finger_138 : decode cX6_finger 138 = .ok (.irem, 1) := by decide +kernel
theorem dX6_finger_139 : decode cX6_finger 139 = .ok (.ireturn, 1) := by decide +kernel
theorem dX6_finger_140 : decode cX6_finger 140 = .ok (.iload 5, 2) := by decide +kernel
theorem dX6_finger_142 : decode cX6_finger 142 = .ok (.ifCond .ge 8, 3) := by decide +kernel
theorem dX6_finger_145 : decode cX6_finger 145 = .ok (.bipush (-3), 2) := by decide +kernel
theorem dX6_finger_147 : decode cX6_finger 147 = .ok (.goto 11, 3) := by decide +kernel
theorem dX6_finger_150 : decode cX6_finger 150 = .ok (.iload 5, 2) := by decide +kernel
theorem dX6_finger_152 : decode cX6_finger 152 = .ok (.bipush 10, 2) := by decide +kernel
theorem dX6_finger_154 : decode cX6_finger 154 = .ok (.irem, 1) := by decide +kernel
theorem dX6_finger_155 : decode cX6_finger 155 = .ok (.invokestatic 83, 3) := by decide +kernel
theorem dX6_finger_158 : decode cX6_finger 158 = .ok (.ireturn, 1) := by decide +kernel
theorem dX6_shifts_0 : decode cX6_shifts 0 = .ok (.iload_n 1, 1) := by decide +kernel
theorem dX6_shifts_1 : decode cX6_shifts 1 = .ok (.invokestatic 65, 3) := by decide +kernel
theorem dX6_shifts_4 : decode cX6_shifts 4 = .ok (.ifCond .ne 5, 3) := by decide +kernel
theorem dX6_shifts_7 : decode cX6_shifts 7 = .ok (.iconst (-1), 1) := by decide +kernel
theorem dX6_shifts_8 : decode cX6_shifts 8 = .ok (.ireturn, 1) := by decide +kernel
theorem dX6_shifts_9 : decode cX6_shifts 9 = .ok (.aload_n 0, 1) := by decide +kernel
theorem dX6_shifts_10 : decode cX6_shifts 10 = .ok (.iload_n 1, 1) := by decide +kernel
theorem dX6_shifts_11 : decode cX6_shifts 11 = .ok (.invokevirtual 123, 3) := by decide +kernel
theorem dX6_shifts_14 : decode cX6_shifts 14 = .ok (.ifCond .ne 6, 3) := by decide +kernel
theorem dX6_shifts_17 : decode cX6_shifts 17 = .ok (.bipush (-3), 2) := by decide +kernel
theorem dX6_shifts_19 : decode cX6_shifts 19 = .ok (.ireturn, 1) := by decide +kernel
theorem dX6_shifts_20 : decode cX6_shifts 20 = .ok (.iconst 0, 1) := by decide +kernel
theorem dX6_shifts_21 : decode cX6_shifts 21 = .ok (.istore_n 2, 1) := by decide +kernel
theorem dX6_shifts_22 : decode cX6_shifts 22 = .ok (.iconst 1, 1) := by decide +kernel
theorem dX6_shifts_23 : decode cX6_shifts 23 = .ok (.istore_n 3, 1) := by decide +kernel
theorem dX6_shifts_24 : decode cX6_shifts 24 = .ok (.iload_n 3, 1) := by decide +kernel
theorem dX6_shifts_25 : decode cX6_shifts 25 = .ok (.aload_n 0, 1) := by decide +kernel
theorem dX6_shifts_26 : decode cX6_shifts 26 = .ok (.getfield 13, 3) := by decide +kernel
theorem dX6_shifts_29 : decode cX6_shifts 29 = .ok (.iload_n 1, 1) := by decide +kernel
theorem dX6_shifts_30 : decode cX6_shifts 30 = .ok (.iaload, 1) := by decide +kernel
theorem dX6_shifts_31 : decode cX6_shifts 31 = .ok (.if_icmp .ge 68, 3) := by decide +kernel
theorem dX6_shifts_34 : decode cX6_shifts 34 = .ok (.aload_n 0, 1) := by decide +kernel
theorem dX6_shifts_35 : decode cX6_shifts 35 = .ok (.getfield 31, 3) := by decide +kernel
theorem dX6_shifts_38 : decode cX6_shifts 38 = .ok (.aload_n 0, 1) := by decide +kernel
theorem dX6_shifts_39 : decode cX6_shifts 39 = .ok (.getfield 52, 3) := by decide +kernel
theorem dX6_shifts_42 : decode cX6_shifts 42 = .ok (.iload_n 3, 1) := by decide +kernel
theorem dX6_shifts_43 : decode cX6_shifts 43 = .ok (.iconst 1, 1) := by decide +kernel
theorem dX6_shifts_44 : decode cX6_shifts 44 = .ok (.isub, 1) := by decide +kernel
theorem dX6_shifts_45 : decode cX6_shifts 45 = .ok (.iaload, 1) := by decide +kernel
theorem dX6_shifts_46 : decode cX6_shifts 46 = .ok (.iaload, 1) := by decide +kernel
theorem dX6_shifts_47 : decode cX6_shifts 47 = .ok (.invokestatic 105, 3) := by decide +kernel
theorem dX6_shifts_50 : decode cX6_shifts 50 = .ok (.istore 4, 2) := by decide +kernel
theorem dX6_shifts_52 : decode cX6_shifts 52 = .ok (.aload_n 0, 1) := by decide +kernel
theorem dX6_shifts_53 : decode cX6_shifts 53 = .ok (.getfield 31, 3) := by decide +kernel
theorem dX6_shifts_56 : decode cX6_shifts 56 = .ok (.aload_n 0, 1) := by decide +kernel
theorem dX6_shifts_57 : decode cX6_shifts 57 = .ok (.getfield 52, 3) := by decide +kernel
theorem dX6_shifts_60 : decode cX6_shifts 60 = .ok (.iload_n 3, 1) := by decide +kernel
theorem dX6_shifts_61 : decode cX6_shifts 61 = .ok (.iaload, 1) := by decide +kernel
theorem dX6_shifts_62 : decode cX6_shifts 62 = .ok (.iaload, 1) := by decide +kernel
theorem dX6_shifts_63 : decode cX6_shifts 63 = .ok (.invokestatic 105, 3) := by decide +kernel
theorem dX6_shifts_66 : decode cX6_shifts 66 = .ok (.istore 5, 2) := by decide +kernel
theorem dX6_shifts_68 : decode cX6_shifts 68 = .ok (.iload_n 2, 1) := by decide +kernel
theorem dX6_shifts_69 : decode cX6_shifts 69 = .ok (.iload 4, 2) := by decide +kernel
theorem dX6_shifts_71 : decode cX6_shifts 71 = .ok (.iload 5, 2) := by decide +kernel
theorem dX6_shifts_73 : decode cX6_shifts 73 = .ok (.if_icmp .eq 17, 3) := by decide +kernel
theorem dX6_shifts_76 : decode cX6_shifts 76 = .ok (.iload 4, 2) := by decide +kernel
theorem dX6_shifts_78 : decode cX6_shifts 78 = .ok (.ifCond .le 12, 3) := by decide +kernel
theorem dX6_shifts_81 : decode cX6_shifts 81 = .ok (.iload 5, 2) := by decide +kernel
theorem dX6_shifts_83 : decode cX6_shifts 83 = .ok (.ifCond .le 7, 3) := by decide +kernel
theorem dX6_shifts_86 : decode cX6_shifts 86 = .ok (.iconst 1, 1) := by decide +kernel
theorem dX6_shifts_87 : decode cX6_shifts 87 = .ok (.goto 4, 3) := by decide +kernel
theorem dX6_shifts_90 : decode cX6_shifts 90 = .ok (.iconst 0, 1) := by decide +kernel
theorem dX6_shifts_91 : decode cX6_shifts 91 = .ok (.iadd, 1) := by decide +kernel
theorem dX6_shifts_92 : decode cX6_shifts 92 = .ok (.istore_n 2, 1) := by decide +kernel
theorem dX6_shifts_93 : decode cX6_shifts 93 = .ok (.iinc 3 1, 3) := by decide +kernel
theorem dX6_shifts_96 : decode cX6_shifts 96 = .ok (.goto (-72), 3) := by decide +kernel
theorem dX6_shifts_99 : decode cX6_shifts 99 = .ok (.iload_n 2, 1) := by decide +kernel
theorem dX6_shifts_100 : decode cX6_shifts 100 = .ok (.ireturn, 1) := by decide +kernel
theorem dX6_turn_0 : decode cX6_turn 0 = .ok (.aload_n 0, 1) := by decide +kernel
theorem dX6_turn_1 : decode cX6_turn 1 = .ok (.iload_n 1, 1) := by decide +kernel
theorem dX6_turn_2 : decode cX6_turn 2 = .ok (.iload_n 2, 1) := by decide +kernel
theorem dX6_turn_3 : decode cX6_turn 3 = .ok (.iconst 4, 1) := by decide +kernel
theorem dX6_turn_4 : decode cX6_turn 4 = .ok (.invokevirtual 108, 3) := by decide +kernel
theorem dX6_turn_7 : decode cX6_turn 7 = .ok (.ifCond .eq 12, 3) := by decide +kernel
theorem dX6_turn_10 : decode cX6_turn 10 = .ok (.iload 4, 2) := by decide +kernel
theorem dX6_turn_12 : decode cX6_turn 12 = .ok (.iconst 1, 1) := by decide +kernel
theorem dX6_turn_13 : decode cX6_turn 13 = .ok (.if_icmp .ne 6, 3) := by decide +kernel
theorem dX6_turn_16 : decode cX6_turn 16 = .ok (.ldc 111, 2) := by decide +kernel
theorem dX6_turn_18 : decode cX6_turn 18 = .ok (.ireturn, 1) := by decide +kernel
theorem dX6_turn_19 : decode cX6_turn 19 = .ok (.aload_n 0, 1) := by decide +kernel
theorem dX6_turn_20 : decode cX6_turn 20 = .ok (.iload_n 1, 1) := by decide +kernel
theorem dX6_turn_21 : decode cX6_turn 21 = .ok (.iload_n 2, 1) := by decide +kernel
theorem dX6_turn_22 : decode cX6_turn 22 = .ok (.iconst 2, 1) := by decide +kernel
theorem dX6_turn_23 : decode cX6_turn 23 = .ok (.invokevirtual 108, 3) := by decide +kernel
theorem dX6_turn_26 : decode cX6_turn 26 = .ok (.ifCond .eq 15, 3) := by decide +kernel
theorem dX6_turn_29 : decode cX6_turn 29 = .ok (.iload_n 3, 1) := by decide +kernel
theorem dX6_turn_30 : decode cX6_turn 30 = .ok (.iload 4, 2) := by decide +kernel
theorem dX6_turn_32 : decode cX6_turn 32 = .ok (.if_icmp .ne 7, 3) := by decide +kernel
theorem dX6_turn_35 : decode cX6_turn 35 = .ok (.iconst 0, 1) := by decide +kernel
theorem dX6_turn_36 : decode cX6_turn 36 = .ok (.goto 4, 3) := by decide +kernel
theorem dX6_turn_39 : decode cX6_turn 39 = .ok (.iconst 2, 1) := by decide +kernel
theorem dX6_turn_40 : decode cX6_turn 40 = .ok (.ireturn, 1) := by decide +kernel
theorem dX6_turn_41 : decode cX6_turn 41 = .ok (.iload_n 3, 1) := by decide +kernel
theorem dX6_turn_42 : decode cX6_turn 42 = .ok (.iload 4, 2) := by decide +kernel
theorem dX6_turn_44 : decode cX6_turn 44 = .ok (.if_icmp .eq 7, 3) := by decide +kernel
theorem dX6_turn_47 : decode cX6_turn 47 = .ok (.iconst 0, 1) := by decide +kernel
theorem dX6_turn_48 : decode cX6_turn 48 = .ok (.goto 18, 3) := by decide +kernel
theorem dX6_turn_51 : decode cX6_turn 51 = .ok (.aload_n 0, 1) := by decide +kernel
theorem dX6_turn_52 : decode cX6_turn 52 = .ok (.iload_n 1, 1) := by decide +kernel
theorem dX6_turn_53 : decode cX6_turn 53 = .ok (.iload_n 2, 1) := by decide +kernel
theorem dX6_turn_54 : decode cX6_turn 54 = .ok (.iconst 1, 1) := by decide +kernel
theorem dX6_turn_55 : decode cX6_turn 55 = .ok (.invokevirtual 108, 3) := by decide +kernel
theorem dX6_turn_58 : decode cX6_turn 58 = .ok (.ifCond .eq 7, 3) := by decide +kernel
theorem dX6_turn_61 : decode cX6_turn 61 = .ok (.iconst 1, 1) := by decide +kernel
theorem dX6_turn_62 : decode cX6_turn 62 = .ok (.goto 4, 3) := by decide +kernel
theorem dX6_turn_65 : decode cX6_turn 65 = .ok (.iconst 3, 1) := by decide +kernel
theorem dX6_turn_66 : decode cX6_turn 66 = .ok (.ireturn, 1) := by decide +kernel
theorem dX6_goes_0 : decode cX6_goes 0 = .ok (.aload_n 0, 1) := by decide +kernel
theorem dX6_goes_1 : decode cX6_goes 1 = .ok (.iload_n 1, 1) := by decide +kernel
theorem dX6_goes_2 : decode cX6_goes 2 = .ok (.iload_n 2, 1) := by decide +kernel
theorem dX6_goes_3 : decode cX6_goes 3 = .ok (.iload_n 3, 1) := by decide +kernel
theorem dX6_goes_4 : decode cX6_goes 4 = .ok (.iload 4, 2) := by decide +kernel
theorem dX6_goes_6 : decode cX6_goes 6 = .ok (.invokevirtual 126, 3) := by decide +kernel
theorem dX6_goes_9 : decode cX6_goes 9 = .ok (.aload_n 0, 1) := by decide +kernel
theorem dX6_goes_10 : decode cX6_goes 10 = .ok (.getfield 55, 3) := by decide +kernel
theorem dX6_goes_13 : decode cX6_goes 13 = .ok (.iconst 2, 1) := by decide +kernel
theorem dX6_goes_14 : decode cX6_goes 14 = .ok (.iload_n 2, 1) := by decide +kernel
theorem dX6_goes_15 : decode cX6_goes 15 = .ok (.imul, 1) := by decide +kernel
theorem dX6_goes_16 : decode cX6_goes 16 = .ok (.iload 4, 2) := by decide +kernel
theorem dX6_goes_18 : decode cX6_goes 18 = .ok (.iadd, 1) := by decide +kernel
theorem dX6_goes_19 : decode cX6_goes 19 = .ok (.iaload, 1) := by decide +kernel
theorem dX6_goes_20 : decode cX6_goes 20 = .ok (.iadd, 1) := by decide +kernel
theorem dX6_goes_21 : decode cX6_goes 21 = .ok (.istore 5, 2) := by decide +kernel
theorem dX6_goes_23 : decode cX6_goes 23 = .ok (.iload 5, 2) := by decide +kernel
theorem dX6_goes_25 : decode cX6_goes 25 = .ok (.ldc 111, 2) := by decide +kernel
theorem dX6_goes_27 : decode cX6_goes 27 = .ok (.if_icmp .ge 8, 3) := by decide +kernel
theorem dX6_goes_30 : decode cX6_goes 30 = .ok (.iload 5, 2) := by decide +kernel
theorem dX6_goes_32 : decode cX6_goes 32 = .ok (.goto 5, 3) := by decide +kernel
theorem dX6_goes_35 : decode cX6_goes 35 = .ok (.ldc 111, 2) := by decide +kernel
theorem dX6_goes_37 : decode cX6_goes 37 = .ok (.ireturn, 1) := by decide +kernel
theorem dX6_makeBows_0 : decode cX6_makeBows 0 = .ok (.aload_n 0, 1) := by decide +kernel
theorem dX6_makeBows_1 : decode cX6_makeBows 1 = .ok (.getfield 13, 3) := by decide +kernel
theorem dX6_makeBows_4 : decode cX6_makeBows 4 = .ok (.iload_n 1, 1) := by decide +kernel
theorem dX6_makeBows_5 : decode cX6_makeBows 5 = .ok (.iaload, 1) := by decide +kernel
theorem dX6_makeBows_6 : decode cX6_makeBows 6 = .ok (.ifCond .ne 5, 3) := by decide +kernel
theorem dX6_makeBows_9 : decode cX6_makeBows 9 = .ok (.iconst 0, 1) := by decide +kernel
theorem dX6_makeBows_10 : decode cX6_makeBows 10 = .ok (.ireturn, 1) := by decide +kernel
theorem dX6_makeBows_11 : decode cX6_makeBows 11 = .ok (.iload_n 2, 1) := by decide +kernel
theorem dX6_makeBows_12 : decode cX6_makeBows 12 = .ok (.iconst 1, 1) := by decide +kernel
theorem dX6_makeBows_13 : decode cX6_makeBows 13 = .ok (.if_icmp .ne 16, 3) := by decide +kernel
theorem dX6_makeBows_16 : decode cX6_makeBows 16 = .ok (.aload_n 0, 1) := by decide +kernel
theorem dX6_makeBows_17 : decode cX6_makeBows 17 = .ok (.iload_n 1, 1) := by decide +kernel
theorem dX6_makeBows_18 : decode cX6_makeBows 18 = .ok (.iconst 0, 1) := by decide +kernel
theorem dX6_makeBows_19 : decode cX6_makeBows 19 = .ok (.iconst 4, 1) := by decide +kernel
theorem dX6_makeBows_20 : decode cX6_makeBows 20 = .ok (.invokevirtual 108, 3) := by decide +kernel
theorem dX6_makeBows_23 : decode cX6_makeBows 23 = .ok (.ifCond .eq 6, 3) := by decide +kernel
theorem dX6_makeBows_26 : decode cX6_makeBows 26 = .ok (.bipush (-3), 2) := by decide +kernel
theorem dX6_makeBows_28 : decode cX6_makeBows 28 = .ok (.ireturn, 1) := by decide +kernel
theorem dX6_makeBows_29 : decode cX6_makeBows 29 = .ok (.aload_n 0, 1) := by decide +kernel
theorem dX6_makeBows_30 : decode cX6_makeBows 30 = .ok (.getfield 13, 3) := by decide +kernel
theorem dX6_makeBows_33 : decode cX6_makeBows 33 = .ok (.iload_n 1, 1) := by decide +kernel
theorem dX6_makeBows_34 : decode cX6_makeBows 34 = .ok (.iaload, 1) := by decide +kernel
theorem dX6_makeBows_35 : decode cX6_makeBows 35 = .ok (.iconst 1, 1) := by decide +kernel
theorem dX6_makeBows_36 : decode cX6_makeBows 36 = .ok (.isub, 1) := by decide +kernel
theorem dX6_makeBows_37 : decode cX6_makeBows 37 = .ok (.istore_n 3, 1) := by decide +kernel
theorem dX6_makeBows_38 : decode cX6_makeBows 38 = .ok (.iload_n 3, 1) := by decide +kernel
theorem dX6_makeBows_39 : decode cX6_makeBows 39 = .ok (.ifCond .lt 107, 3) := by decide +kernel
theorem dX6_makeBows_42 : decode cX6_makeBows 42 = .ok (.iconst 0, 1) := by decide +kernel
theorem dX6_makeBows_43 : decode cX6_makeBows 43 = .ok (.istore 4, 2) := by decide +kernel
theorem dX6_makeBows_45 : decode cX6_makeBows 45 = .ok (.iload 4, 2) := by decide +kernel
theorem dX6_makeBows_47 : decode cX6_makeBows 47 = .ok (.iconst 2, 1) := by decide +kernel
theorem dX6_makeBows_48 : decode cX6_makeBows 48 = .ok (.if_icmp .ge 92, 3) := by decide +kernel
theorem dX6_makeBows_51 : decode cX6_makeBows 51 = .ok (.iload_n 3, 1) := by decide +kernel
theorem dX6_makeBows_52 : decode cX6_makeBows 52 = .ok (.aload_n 0, 1) := by decide +kernel
theorem dX6_makeBows_53 : decode cX6_makeBows 53 = .ok (.getfield 13, 3) := by decide +kernel
theorem dX6_makeBows_56 : decode cX6_makeBows 56 = .ok (.iload_n 1, 1) := by decide +kernel
theorem dX6_makeBows_57 : decode cX6_makeBows 57 = .ok (.iaload, 1) := by decide +kernel
theorem dX6_makeBows_58 : decode cX6_makeBows 58 = .ok (.iconst 1, 1) := by decide +kernel
theorem dX6_makeBows_59 : decode cX6_makeBows 59 = .ok (.isub, 1) := by decide +kernel
theorem dX6_makeBows_60 : decode cX6_makeBows 60 = .ok (.if_icmp .ne 7, 3) := by decide +kernel
theorem dX6_makeBows_63 : decode cX6_makeBows 63 = .ok (.iconst 0, 1) := by decide +kernel
theorem dX6_makeBows_64 : decode cX6_makeBows 64 = .ok (.goto 14, 3) := by decide +kernel
theorem dX6_makeBows_67 : decode cX6_makeBows 67 = .ok (.aload_n 0, 1) := by decide +kernel
theorem dX6_makeBows_68 : decode cX6_makeBows 68 = .ok (.iload_n 1, 1) := by decide +kernel
theorem dX6_makeBows_69 : decode cX6_makeBows 69 = .ok (.iload_n 3, 1) := by decide +kernel
theorem dX6_makeBows_70 : decode cX6_makeBows 70 = .ok (.iconst 1, 1) := by decide +kernel
theorem dX6_makeBows_71 : decode cX6_makeBows 71 = .ok (.iadd, 1) := by decide +kernel
theorem dX6_makeBows_72 : decode cX6_makeBows 72 = .ok (.iload 4, 2) := by decide +kernel
theorem dX6_makeBows_74 : decode cX6_makeBows 74 = .ok (.iconst 0, 1) := by decide +kernel
theorem dX6_makeBows_75 : decode cX6_makeBows 75 = .ok (.invokevirtual 129, 3) := by decide +kernel
theorem dX6_makeBows_78 : decode cX6_makeBows 78 = .ok (.istore 5, 2) := by decide +kernel
theorem dX6_makeBows_80 : decode cX6_makeBows 80 = .ok (.iload_n 3, 1) := by decide +kernel
theorem dX6_makeBows_81 : decode cX6_makeBows 81 = .ok (.aload_n 0, 1) := by decide +kernel
theorem dX6_makeBows_82 : decode cX6_makeBows 82 = .ok (.getfield 13, 3) := by decide +kernel
theorem dX6_makeBows_85 : decode cX6_makeBows 85 = .ok (.iload_n 1, 1) := by decide +kernel
theorem dX6_makeBows_86 : decode cX6_makeBows 86 = .ok (.iaload, 1) := by decide +kernel
theorem dX6_makeBows_87 : decode cX6_makeBows 87 = .ok (.iconst 1, 1) := by decide +kernel
theorem dX6_makeBows_88 : decode cX6_makeBows 88 = .ok (.isub, 1) := by decide +kernel
theorem dX6_makeBows_89 : decode cX6_makeBows 89 = .ok (.if_icmp .ne 7, 3) := by decide +kernel
theorem dX6_makeBows_92 : decode cX6_makeBows 92 = .ok (.iconst 0, 1) := by decide +kernel
theorem dX6_makeBows_93 : decode cX6_makeBows 93 = .ok (.goto 14, 3) := by decide +kernel
theorem dX6_makeBows_96 : decode cX6_makeBows 96 = .ok (.aload_n 0, 1) := by decide +kernel
theorem dX6_makeBows_97 : decode cX6_makeBows 97 = .ok (.iload_n 1, 1) := by decide +kernel
theorem dX6_makeBows_98 : decode cX6_makeBows 98 = .ok (.iload_n 3, 1) := by decide +kernel
theorem dX6_makeBows_99 : decode cX6_makeBows 99 = .ok (.iconst 1, 1) := by decide +kernel
theorem dX6_makeBows_100 : decode cX6_makeBows 100 = .ok (.iadd, 1) := by decide +kernel
theorem dX6_makeBows_101 : decode cX6_makeBows 101 = .ok (.iload 4, 2) := by decide +kernel
theorem dX6_makeBows_103 : decode cX6_makeBows 103 = .ok (.iconst 1, 1) := by decide +kernel
theorem dX6_makeBows_104 : decode cX6_makeBows 104 = .ok (.invokevirtual 129, 3) := by decide +kernel
theorem dX6_makeBows_107 : decode cX6_makeBows 107 = .ok (.istore 6, 2) := by decide +kernel
theorem dX6_makeBows_109 : decode cX6_makeBows 109 = .ok (.aload_n 0, 1) := by decide +kernel
theorem dX6_makeBows_110 : decode cX6_makeBows 110 = .ok (.getfield 55, 3) := by decide +kernel
theorem dX6_makeBows_113 : decode cX6_makeBows 113 = .ok (.iconst 2, 1) := by decide +kernel
theorem dX6_makeBows_114 : decode cX6_makeBows 114 = .ok (.iload_n 3, 1) := by decide +kernel
theorem dX6_makeBows_115 : decode cX6_makeBows 115 = .ok (.imul, 1) := by decide +kernel
theorem dX6_makeBows_116 : decode cX6_makeBows 116 = .ok (.iload 4, 2) := by decide +kernel
theorem dX6_makeBows_118 : decode cX6_makeBows 118 = .ok (.iadd, 1) := by decide +kernel
theorem dX6_makeBows_119 : decode cX6_makeBows 119 = .ok (.iload 5, 2) := by decide +kernel
theorem dX6_makeBows_121 : decode cX6_makeBows 121 = .ok (.iload 6, 2) := by decide +kernel
theorem dX6_makeBows_123 : decode cX6_makeBows 123 = .ok (.if_icmp .ge 8, 3) := by decide +kernel
theorem dX6_makeBows_126 : decode cX6_makeBows 126 = .ok (.iload 5, 2) := by decide +kernel
theorem dX6_makeBows_128 : decode cX6_makeBows 128 = .ok (.goto 5, 3) := by decide +kernel
theorem dX6_makeBows_131 : decode cX6_makeBows 131 = .ok (.iload 6, 2) := by decide +kernel
theorem dX6_makeBows_133 : decode cX6_makeBows 133 = .ok (.iastore, 1) := by decide +kernel
theorem dX6_makeBows_134 : decode cX6_makeBows 134 = .ok (.iinc 4 1, 3) := by decide +kernel
theorem dX6_makeBows_137 : decode cX6_makeBows 137 = .ok (.goto (-92), 3) := by decide +kernel
theorem dX6_makeBows_140 : decode cX6_makeBows 140 = .ok (.iinc 3 (-1), 3) := by decide +kernel
theorem dX6_makeBows_143 : decode cX6_makeBows 143 = .ok (.goto (-105), 3) := by decide +kernel
theorem dX6_makeBows_146 : decode cX6_makeBows 146 = .ok (.aload_n 0, 1) := by decide +kernel
theorem dX6_makeBows_147 : decode cX6_makeBows 147 = .ok (.getfield 58, 3) := by decide +kernel
theorem dX6_makeBows_150 : decode cX6_makeBows 150 = .ok (.bipush 12, 2) := by decide +kernel
theorem dX6_makeBows_152 : decode cX6_makeBows 152 = .ok (.iload_n 1, 1) := by decide +kernel
theorem dX6_makeBows_153 : decode cX6_makeBows 153 = .ok (.imul, 1) := by decide +kernel
theorem dX6_makeBows_154 : decode cX6_makeBows 154 = .ok (.iload_n 2, 1) := by decide +kernel
theorem dX6_makeBows_155 : decode cX6_makeBows 155 = .ok (.iastore, 1) := by decide +kernel
theorem dX6_makeBows_156 : decode cX6_makeBows 156 = .ok (.iconst 1, 1) := by decide +kernel
theorem dX6_makeBows_157 : decode cX6_makeBows 157 = .ok (.istore_n 3, 1) := by decide +kernel
theorem dX6_makeBows_158 : decode cX6_makeBows 158 = .ok (.iload_n 3, 1) := by decide +kernel
theorem dX6_makeBows_159 : decode cX6_makeBows 159 = .ok (.aload_n 0, 1) := by decide +kernel
theorem dX6_makeBows_160 : decode cX6_makeBows 160 = .ok (.getfield 13, 3) := by decide +kernel
theorem dX6_makeBows_163 : decode cX6_makeBows 163 = .ok (.iload_n 1, 1) := by decide +kernel
theorem dX6_makeBows_164 : decode cX6_makeBows 164 = .ok (.iaload, 1) := by decide +kernel
theorem dX6_makeBows_165 : decode cX6_makeBows 165 = .ok (.if_icmp .ge 65, 3) := by decide +kernel
theorem dX6_makeBows_168 : decode cX6_makeBows 168 = .ok (.aload_n 0, 1) := by decide +kernel
theorem dX6_makeBows_169 : decode cX6_makeBows 169 = .ok (.getfield 58, 3) := by decide +kernel
theorem dX6_makeBows_172 : decode cX6_makeBows 172 = .ok (.bipush 12, 2) := by decide +kernel
theorem dX6_makeBows_174 : decode cX6_makeBows 174 = .ok (.iload_n 1, 1) := by decide +kernel
theorem dX6_makeBows_175 : decode cX6_makeBows 175 = .ok (.imul, 1) := by decide +kernel
theorem dX6_makeBows_176 : decode cX6_makeBows 176 = .ok (.iload_n 3, 1) := by decide +kernel
theorem dX6_makeBows_177 : decode cX6_makeBows 177 = .ok (.iadd, 1) := by decide +kernel
theorem dX6_makeBows_178 : decode cX6_makeBows 178 = .ok (.iconst 1, 1) := by decide +kernel
theorem dX6_makeBows_179 : decode cX6_makeBows 179 = .ok (.isub, 1) := by decide +kernel
theorem dX6_makeBows_180 : decode cX6_makeBows 180 = .ok (.iaload, 1) := by decide +kernel
theorem dX6_makeBows_181 : decode cX6_makeBows 181 = .ok (.istore 4, 2) := by decide +kernel
theorem dX6_makeBows_183 : decode cX6_makeBows 183 = .ok (.aload_n 0, 1) := by decide +kernel
theorem dX6_makeBows_184 : decode cX6_makeBows 184 = .ok (.getfield 58, 3) := by decide +kernel
theorem dX6_makeBows_187 : decode cX6_makeBows 187 = .ok (.bipush 12, 2) := by decide +kernel
theorem dX6_makeBows_189 : decode cX6_makeBows 189 = .ok (.iload_n 1, 1) := by decide +kernel
theorem dX6_makeBows_190 : decode cX6_makeBows 190 = .ok (.imul, 1) := by decide +kernel
theorem dX6_makeBows_191 : decode cX6_makeBows 191 = .ok (.iload_n 3, 1) := by decide +kernel
theorem dX6_makeBows_192 : decode cX6_makeBows 192 = .ok (.iadd, 1) := by decide +kernel
theorem dX6_makeBows_193 : decode cX6_makeBows 193 = .ok (.aload_n 0, 1) := by decide +kernel
theorem dX6_makeBows_194 : decode cX6_makeBows 194 = .ok (.iload_n 1, 1) := by decide +kernel
theorem dX6_makeBows_195 : decode cX6_makeBows 195 = .ok (.iload_n 3, 1) := by decide +kernel
theorem dX6_makeBows_196 : decode cX6_makeBows 196 = .ok (.iload 4, 2) := by decide +kernel
theorem dX6_makeBows_198 : decode cX6_makeBows 198 = .ok (.iconst 0, 1) := by decide +kernel
theorem dX6_makeBows_199 : decode cX6_makeBows 199 = .ok (.invokevirtual 129, 3) := by decide +kernel
theorem dX6_makeBows_202 : decode cX6_makeBows 202 = .ok (.aload_n 0, 1) := by decide +kernel
theorem dX6_makeBows_203 : decode cX6_makeBows 203 = .ok (.getfield 55, 3) := by decide +kernel
theorem dX6_makeBows_206 : decode cX6_makeBows 206 = .ok (.iconst 2, 1) := by decide +kernel
theorem dX6_makeBows_207 : decode cX6_makeBows 207 = .ok (.iload_n 3, 1) := by decide +kernel
theorem dX6_makeBows_208 : decode cX6_makeBows 208 = .ok (.imul, 1) := by decide +kernel
theorem dX6_makeBows_209 : decode cX6_makeBows 209 = .ok (.iconst 2, 1) := by decide +kernel
theorem dX6_makeBows_210 : decode cX6_makeBows 210 = .ok (.isub, 1) := by decide +kernel
theorem dX6_makeBows_211 : decode cX6_makeBows 211 = .ok (.iload 4, 2) := by decide +kernel
theorem dX6_makeBows_213 : decode cX6_makeBows 213 = .ok (.iadd, 1) := by decide +kernel
theorem dX6_makeBows_214 : decode cX6_makeBows 214 = .ok (.iaload, 1) := by decide +kernel
theorem dX6_makeBows_215 : decode cX6_makeBows 215 = .ok (.if_icmp .ne 7, 3) := by decide +kernel
theorem dX6_makeBows_218 : decode cX6_makeBows 218 = .ok (.iconst 0, 1) := by decide +kernel
theorem dX6_makeBows_219 : decode cX6_makeBows 219 = .ok (.goto 4, 3) := by decide +kernel
theorem dX6_makeBows_222 : decode cX6_makeBows 222 = .ok (.iconst 1, 1) := by decide +kernel
theorem dX6_makeBows_223 : decode cX6_makeBows 223 = .ok (.iastore, 1) := by decide +kernel
theorem dX6_makeBows_224 : decode cX6_makeBows 224 = .ok (.iinc 3 1, 3) := by decide +kernel
theorem dX6_makeBows_227 : decode cX6_makeBows 227 = .ok (.goto (-69), 3) := by decide +kernel
theorem dX6_makeBows_230 : decode cX6_makeBows 230 = .ok (.aload_n 0, 1) := by decide +kernel
theorem dX6_makeBows_231 : decode cX6_makeBows 231 = .ok (.getfield 55, 3) := by decide +kernel
theorem dX6_makeBows_234 : decode cX6_makeBows 234 = .ok (.iload_n 2, 1) := by decide +kernel
theorem dX6_makeBows_235 : decode cX6_makeBows 235 = .ok (.iaload, 1) := by decide +kernel
theorem dX6_makeBows_236 : decode cX6_makeBows 236 = .ok (.ireturn, 1) := by decide +kernel
theorem dX6_bow_0 : decode cX6_bow 0 = .ok (.iload_n 1, 1) := by decide +kernel
theorem dX6_bow_1 : decode cX6_bow 1 = .ok (.invokestatic 65, 3) := by decide +kernel
theorem dX6_bow_4 : decode cX6_bow 4 = .ok (.ifCond .eq 21, 3) := by decide +kernel
theorem dX6_bow_7 : decode cX6_bow 7 = .ok (.iload_n 2, 1) := by decide +kernel
theorem dX6_bow_8 : decode cX6_bow 8 = .ok (.iconst 0, 1) := by decide +kernel
theorem dX6_bow_9 : decode cX6_bow 9 = .ok (.iconst 1, 1) := by decide +kernel
theorem dX6_bow_10 : decode cX6_bow 10 = .ok (.invokestatic 61, 3) := by decide +kernel
theorem dX6_bow_13 : decode cX6_bow 13 = .ok (.ifCond .eq 12, 3) := by decide +kernel
theorem dX6_bow_16 : decode cX6_bow 16 = .ok (.aload_n 0, 1) := by decide +kernel
theorem dX6_bow_17 : decode cX6_bow 17 = .ok (.iload_n 1, 1) := by decide +kernel
theorem dX6_bow_18 : decode cX6_bow 18 = .ok (.iload_n 2, 1) := by decide +kernel
theorem dX6_bow_19 : decode cX6_bow 19 = .ok (.invokevirtual 132, 3) := by decide +kernel
theorem dX6_bow_22 : decode cX6_bow 22 = .ok (.goto 4, 3) := by decide +kernel
theorem dX6_bow_25 : decode cX6_bow 25 = .ok (.iconst (-1), 1) := by decide +kernel
theorem dX6_bow_26 : decode cX6_bow 26 = .ok (.ireturn, 1) := by decide +kernel
theorem dX6_stroke_0 : decode cX6_stroke 0 = .ok (.aload_n 0, 1) := by decide +kernel
theorem dX6_stroke_1 : decode cX6_stroke 1 = .ok (.iload_n 1, 1) := by decide +kernel
theorem dX6_stroke_2 : decode cX6_stroke 2 = .ok (.iload_n 2, 1) := by decide +kernel
theorem dX6_stroke_3 : decode cX6_stroke 3 = .ok (.invokevirtual 76, 3) := by decide +kernel
theorem dX6_stroke_6 : decode cX6_stroke 6 = .ok (.ifCond .eq 12, 3) := by decide +kernel
theorem dX6_stroke_9 : decode cX6_stroke 9 = .ok (.iload_n 3, 1) := by decide +kernel
theorem dX6_stroke_10 : decode cX6_stroke 10 = .ok (.iconst 0, 1) := by decide +kernel
theorem dX6_stroke_11 : decode cX6_stroke 11 = .ok (.iconst 1, 1) := by decide +kernel
theorem dX6_stroke_12 : decode cX6_stroke 12 = .ok (.invokestatic 61, 3) := by decide +kernel
theorem dX6_stroke_15 : decode cX6_stroke 15 = .ok (.ifCond .ne 5, 3) := by decide +kernel
theorem dX6_stroke_18 : decode cX6_stroke 18 = .ok (.iconst (-1), 1) := by decide +kernel
theorem dX6_stroke_19 : decode cX6_stroke 19 = .ok (.ireturn, 1) := by decide +kernel
theorem dX6_stroke_20 : decode cX6_stroke 20 = .ok (.aload_n 0, 1) := by decide +kernel
theorem dX6_stroke_21 : decode cX6_stroke 21 = .ok (.iload_n 1, 1) := by decide +kernel
theorem dX6_stroke_22 : decode cX6_stroke 22 = .ok (.iload_n 3, 1) := by decide +kernel
theorem dX6_stroke_23 : decode cX6_stroke 23 = .ok (.invokevirtual 132, 3) := by decide +kernel
theorem dX6_stroke_26 : decode cX6_stroke 26 = .ok (.ifCond .ge 8, 3) := by decide +kernel
theorem dX6_stroke_29 : decode cX6_stroke 29 = .ok (.bipush (-3), 2) := by decide +kernel
theorem dX6_stroke_31 : decode cX6_stroke 31 = .ok (.goto 14, 3) := by decide +kernel
theorem dX6_stroke_34 : decode cX6_stroke 34 = .ok (.aload_n 0, 1) := by decide +kernel
theorem dX6_stroke_35 : decode cX6_stroke 35 = .ok (.getfield 58, 3) := by decide +kernel
theorem dX6_stroke_38 : decode cX6_stroke 38 = .ok (.bipush 12, 2) := by decide +kernel
theorem dX6_stroke_40 : decode cX6_stroke 40 = .ok (.iload_n 1, 1) := by decide +kernel
theorem dX6_stroke_41 : decode cX6_stroke 41 = .ok (.imul, 1) := by decide +kernel
theorem dX6_stroke_42 : decode cX6_stroke 42 = .ok (.iload_n 2, 1) := by decide +kernel
theorem dX6_stroke_43 : decode cX6_stroke 43 = .ok (.iadd, 1) := by decide +kernel
theorem dX6_stroke_44 : decode cX6_stroke 44 = .ok (.iaload, 1) := by decide +kernel
theorem dX6_stroke_45 : decode cX6_stroke 45 = .ok (.ireturn, 1) := by decide +kernel
theorem dX6_strokes_0 : decode cX6_strokes 0 = .ok (.iload_n 1, 1) := by decide +kernel
theorem dX6_strokes_1 : decode cX6_strokes 1 = .ok (.invokestatic 65, 3) := by decide +kernel
theorem dX6_strokes_4 : decode cX6_strokes 4 = .ok (.ifCond .eq 21, 3) := by decide +kernel
theorem dX6_strokes_7 : decode cX6_strokes 7 = .ok (.iload_n 2, 1) := by decide +kernel
theorem dX6_strokes_8 : decode cX6_strokes 8 = .ok (.iconst 0, 1) := by decide +kernel
theorem dX6_strokes_9 : decode cX6_strokes 9 = .ok (.iconst 1, 1) := by decide +kernel
theorem dX6_strokes_10 : decode cX6_strokes 10 = .ok (.invokestatic 61, 3) := by decide +kernel
theorem dX6_strokes_13 : decode cX6_strokes 13 = .ok (.ifCond .eq 12, 3) := by decide +kernel
theorem dX6_strokes_16 : decode cX6_strokes 16 = .ok (.iload_n 3, 1) := by decide +kernel
theorem dX6_strokes_17 : decode cX6_strokes 17 = .ok (.iconst 0, 1) := by decide +kernel
theorem dX6_strokes_18 : decode cX6_strokes 18 = .ok (.iconst 2, 1) := by decide +kernel
theorem dX6_strokes_19 : decode cX6_strokes 19 = .ok (.invokestatic 61, 3) := by decide +kernel
theorem dX6_strokes_22 : decode cX6_strokes 22 = .ok (.ifCond .ne 5, 3) := by decide +kernel
theorem dX6_strokes_25 : decode cX6_strokes 25 = .ok (.iconst (-1), 1) := by decide +kernel
theorem dX6_strokes_26 : decode cX6_strokes 26 = .ok (.ireturn, 1) := by decide +kernel
theorem dX6_strokes_27 : decode cX6_strokes 27 = .ok (.aload_n 0, 1) := by decide +kernel
theorem dX6_strokes_28 : decode cX6_strokes 28 = .ok (.iload_n 1, 1) := by decide +kernel
theorem dX6_strokes_29 : decode cX6_strokes 29 = .ok (.iload_n 2, 1) := by decide +kernel
theorem dX6_strokes_30 : decode cX6_strokes 30 = .ok (.invokevirtual 132, 3) := by decide +kernel
theorem dX6_strokes_33 : decode cX6_strokes 33 = .ok (.ifCond .ge 6, 3) := by decide +kernel
theorem dX6_strokes_36 : decode cX6_strokes 36 = .ok (.bipush (-3), 2) := by decide +kernel
theorem dX6_strokes_38 : decode cX6_strokes 38 = .ok (.ireturn, 1) := by decide +kernel
theorem dX6_strokes_39 : decode cX6_strokes 39 = .ok (.iconst 0, 1) := by decide +kernel
theorem dX6_strokes_40 : decode cX6_strokes 40 = .ok (.istore 4, 2) := by decide +kernel
theorem dX6_strokes_42 : decode cX6_strokes 42 = .ok (.iconst 0, 1) := by decide +kernel
theorem dX6_strokes_43 : decode cX6_strokes 43 = .ok (.istore 5, 2) := by decide +kernel
theorem dX6_strokes_45 : decode cX6_strokes 45 = .ok (.iconst 0, 1) := by decide +kernel
theorem dX6_strokes_46 : decode cX6_strokes 46 = .ok (.istore 6, 2) := by decide +kernel
theorem dX6_strokes_48 : decode cX6_strokes 48 = .ok (.iconst 0, 1) := by decide +kernel
theorem dX6_strokes_49 : decode cX6_strokes 49 = .ok (.istore 7, 2) := by decide +kernel
theorem dX6_strokes_51 : decode cX6_strokes 51 = .ok (.iload 7, 2) := by decide +kernel
theorem dX6_strokes_53 : decode cX6_strokes 53 = .ok (.aload_n 0, 1) := by decide +kernel
theorem dX6_strokes_54 : decode cX6_strokes 54 = .ok (.getfield 13, 3) := by decide +kernel
theorem dX6_strokes_57 : decode cX6_strokes 57 = .ok (.iload_n 1, 1) := by decide +kernel
theorem dX6_strokes_58 : decode cX6_strokes 58 = .ok (.iaload, 1) := by decide +kernel
theorem dX6_strokes_59 : decode cX6_strokes 59 = .ok (.if_icmp .ge 120, 3) := by decide +kernel
theorem dX6_strokes_62 : decode cX6_strokes 62 = .ok (.iload 7, 2) := by decide +kernel
theorem dX6_strokes_64 : decode cX6_strokes 64 = .ok (.ifCond .le 36, 3) := by decide +kernel
theorem dX6_strokes_67 : decode cX6_strokes 67 = .ok (.aload_n 0, 1) := by decide +kernel
theorem dX6_strokes_68 : decode cX6_strokes 68 = .ok (.getfield 58, 3) := by decide +kernel
theorem dX6_strokes_71 : decode cX6_strokes 71 = .ok (.bipush 12, 2) := by decide +kernel
theorem dX6_strokes_73 : decode cX6_strokes 73 = .ok (.iload_n 1, 1) := by decide +kernel
theorem dX6_strokes_74 : decode cX6_strokes 74 = .ok (.imul, 1) := by decide +kernel
theorem dX6_strokes_75 : decode cX6_strokes 75 = .ok (.iload 7, 2) := by decide +kernel
theorem dX6_strokes_77 : decode cX6_strokes 77 = .ok (.iadd, 1) := by decide +kernel
theorem dX6_strokes_78 : decode cX6_strokes 78 = .ok (.iaload, 1) := by decide +kernel
theorem dX6_strokes_79 : decode cX6_strokes 79 = .ok (.aload_n 0, 1) := by decide +kernel
theorem dX6_strokes_80 : decode cX6_strokes 80 = .ok (.getfield 58, 3) := by decide +kernel
theorem dX6_strokes_83 : decode cX6_strokes 83 = .ok (.bipush 12, 2) := by decide +kernel
theorem dX6_strokes_85 : decode cX6_strokes 85 = .ok (.iload_n 1, 1) := by decide +kernel
theorem dX6_strokes_86 : decode cX6_strokes 86 = .ok (.imul, 1) := by decide +kernel
theorem dX6_strokes_87 : decode cX6_strokes 87 = .ok (.iload 7, 2) := by decide +kernel
theorem dX6_strokes_89 : decode cX6_strokes 89 = .ok (.iadd, 1) := by decide +kernel
theorem dX6_strokes_90 : decode cX6_strokes 90 = .ok (.iconst 1, 1) := by decide +kernel
theorem dX6_strokes_91 : decode cX6_strokes 91 = .ok (.isub, 1) := by decide +kernel
theorem dX6_strokes_92 : decode cX6_strokes 92 = .ok (.iaload, 1) := by decide +kernel
theorem dX6_strokes_93 : decode cX6_strokes 93 = .ok (.if_icmp .ne 7, 3) := by decide +kernel
theorem dX6_strokes_96 : decode cX6_strokes 96 = .ok (.iconst 1, 1) := by decide +kernel
theorem dX6_strokes_97 : decode cX6_strokes 97 = .ok (.goto 4, 3) := by decide +kernel
theorem dX6_strokes_100 : decode cX6_strokes 100 = .ok (.iconst 0, 1) := by decide +kernel
theorem dX6_strokes_101 : decode cX6_strokes 101 = .ok (.istore 8, 2) := by decide +kernel
theorem dX6_strokes_103 : decode cX6_strokes 103 = .ok (.aload_n 0, 1) := by decide +kernel
theorem dX6_strokes_104 : decode cX6_strokes 104 = .ok (.iload_n 1, 1) := by decide +kernel
theorem dX6_strokes_105 : decode cX6_strokes 105 = .ok (.iload 7, 2) := by decide +kernel
theorem dX6_strokes_107 : decode cX6_strokes 107 = .ok (.iconst 2, 1) := by decide +kernel
theorem dX6_strokes_108 : decode cX6_strokes 108 = .ok (.invokevirtual 108, 3) := by decide +kernel
theorem dX6_strokes_111 : decode cX6_strokes 111 = .ok (.istore 9, 2) := by decide +kernel
theorem dX6_strokes_113 : decode cX6_strokes 113 = .ok (.iload 4, 2) := by decide +kernel
theorem dX6_strokes_115 : decode cX6_strokes 115 = .ok (.iload 8, 2) := by decide +kernel
theorem dX6_strokes_117 : decode cX6_strokes 117 = .ok (.ifCond .eq 12, 3) := by decide +kernel
theorem dX6_strokes_120 : decode cX6_strokes 120 = .ok (.iload 9, 2) := by decide +kernel
theorem dX6_strokes_122 : decode cX6_strokes 122 = .ok (.ifCond .ne 7, 3) := by decide +kernel
theorem dX6_strokes_125 : decode cX6_strokes 125 = .ok (.iconst 1, 1) := by decide +kernel
theorem dX6_strokes_126 : decode cX6_strokes 126 = .ok (.goto 4, 3) := by decide +kernel
theorem dX6_strokes_129 : decode cX6_strokes 129 = .ok (.iconst 0, 1) := by decide +kernel
theorem dX6_strokes_130 : decode cX6_strokes 130 = .ok (.iadd, 1) := by decide +kernel
theorem dX6_strokes_131 : decode cX6_strokes 131 = .ok (.istore 4, 2) := by decide +kernel
theorem dX6_strokes_133 : decode cX6_strokes 133 = .ok (.iload 5, 2) := by decide +kernel
theorem dX6_strokes_135 : decode cX6_strokes 135 = .ok (.iload 8, 2) := by decide +kernel
theorem dX6_strokes_137 : decode cX6_strokes 137 = .ok (.ifCond .ne 12, 3) := by decide +kernel
theorem dX6_strokes_140 : decode cX6_strokes 140 = .ok (.iload 9, 2) := by decide +kernel
theorem dX6_strokes_142 : decode cX6_strokes 142 = .ok (.ifCond .eq 7, 3) := by decide +kernel
theorem dX6_strokes_145 : decode cX6_strokes 145 = .ok (.iconst 1, 1) := by decide +kernel
theorem dX6_strokes_146 : decode cX6_strokes 146 = .ok (.goto 4, 3) := by decide +kernel
theorem dX6_strokes_149 : decode cX6_strokes 149 = .ok (.iconst 0, 1) := by decide +kernel
theorem dX6_strokes_150 : decode cX6_strokes 150 = .ok (.iadd, 1) := by decide +kernel
theorem dX6_strokes_151 : decode cX6_strokes 151 = .ok (.istore 5, 2) := by decide +kernel
theorem dX6_strokes_153 : decode cX6_strokes 153 = .ok (.iload 6, 2) := by decide +kernel
theorem dX6_strokes_155 : decode cX6_strokes 155 = .ok (.iload 9, 2) := by decide +kernel
theorem dX6_strokes_157 : decode cX6_strokes 157 = .ok (.ifCond .eq 8, 3) := by decide +kernel
theorem dX6_strokes_160 : decode cX6_strokes 160 = .ok (.iload 8, 2) := by decide +kernel
theorem dX6_strokes_162 : decode cX6_strokes 162 = .ok (.ifCond .ne 7, 3) := by decide +kernel
theorem dX6_strokes_165 : decode cX6_strokes 165 = .ok (.iconst 1, 1) := by decide +kernel
theorem dX6_strokes_166 : decode cX6_strokes 166 = .ok (.goto 4, 3) := by decide +kernel
theorem dX6_strokes_169 : decode cX6_strokes 169 = .ok (.iconst 0, 1) := by decide +kernel
theorem dX6_strokes_170 : decode cX6_strokes 170 = .ok (.iadd, 1) := by decide +kernel
theorem dX6_strokes_171 : decode cX6_strokes 171 = .ok (.istore 6, 2) := by decide +kernel
theorem dX6_strokes_173 : decode cX6_strokes 173 = .ok (.iinc 7 1, 3) := by decide +kernel
theorem dX6_strokes_176 : decode cX6_strokes 176 = .ok (.goto (-125), 3) := by decide +kernel
theorem dX6_strokes_179 : decode cX6_strokes 179 = .ok (.iload_n 3, 1) := by decide +kernel
theorem dX6_strokes_180 : decode cX6_strokes 180 = .ok (.ifCond .ne 8, 3) := by decide +kernel
theorem dX6_strokes_183 : decode cX6_strokes 183 = .ok (.iload 4, 2) := by decide +kernel
theorem dX6_strokes_185 : decode cX6_strokes 185 = .ok (.goto 15, 3) := by decide +kernel
theorem dX6_strokes_188 : decode cX6_strokes 188 = .ok (.iload_n 3, 1) := by decide +kernel
theorem dX6_strokes_189 : decode cX6_strokes 189 = .ok (.iconst 1, 1) := by decide +kernel
theorem dX6_strokes_190 : decode cX6_strokes 190 = .ok (.if_icmp .ne 8, 3) := by decide +kernel
theorem dX6_strokes_193 : decode cX6_strokes 193 = .ok (.iload 5, 2) := by decide +kernel
theorem dX6_strokes_195 : decode cX6_strokes 195 = .ok (.goto 5, 3) := by decide +kernel
theorem dX6_strokes_198 : decode cX6_strokes 198 = .ok (.iload 6, 2) := by decide +kernel
theorem dX6_strokes_200 : decode cX6_strokes 200 = .ok (.ireturn, 1) := by decide +kernel
theorem dX6_areAlike_0 : decode cX6_areAlike 0 = .ok (.aload_n 0, 1) := by decide +kernel
theorem dX6_areAlike_1 : decode cX6_areAlike 1 = .ok (.getfield 22, 3) := by decide +kernel
theorem dX6_areAlike_4 : decode cX6_areAlike 4 = .ok (.bipush 12, 2) := by decide +kernel
theorem dX6_areAlike_6 : decode cX6_areAlike 6 = .ok (.iload_n 1, 1) := by decide +kernel
theorem dX6_areAlike_7 : decode cX6_areAlike 7 = .ok (.imul, 1) := by decide +kernel
theorem dX6_areAlike_8 : decode cX6_areAlike 8 = .ok (.iload_n 2, 1) := by decide +kernel
theorem dX6_areAlike_9 : decode cX6_areAlike 9 = .ok (.iadd, 1) := by decide +kernel
theorem dX6_areAlike_10 : decode cX6_areAlike 10 = .ok (.iaload, 1) := by decide +kernel
theorem dX6_areAlike_11 : decode cX6_areAlike 11 = .ok (.aload_n 0, 1) := by decide +kernel
theorem dX6_areAlike_12 : decode cX6_areAlike 12 = .ok (.getfield 22, 3) := by decide +kernel
theorem dX6_areAlike_15 : decode cX6_areAlike 15 = .ok (.bipush 12, 2) := by decide +kernel
theorem dX6_areAlike_17 : decode cX6_areAlike 17 = .ok (.iload_n 3, 1) := by decide +kernel
theorem dX6_areAlike_18 : decode cX6_areAlike 18 = .ok (.imul, 1) := by decide +kernel
theorem dX6_areAlike_19 : decode cX6_areAlike 19 = .ok (.iload 4, 2) := by decide +kernel
theorem dX6_areAlike_21 : decode cX6_areAlike 21 = .ok (.iadd, 1) := by decide +kernel
theorem dX6_areAlike_22 : decode cX6_areAlike 22 = .ok (.iaload, 1) := by decide +kernel
theorem dX6_areAlike_23 : decode cX6_areAlike 23 = .ok (.if_icmp .ne 23, 3) := by decide +kernel
theorem dX6_areAlike_26 : decode cX6_areAlike 26 = .ok (.aload_n 0, 1) := by decide +kernel
theorem dX6_areAlike_27 : decode cX6_areAlike 27 = .ok (.iload_n 1, 1) := by decide +kernel
theorem dX6_areAlike_28 : decode cX6_areAlike 28 = .ok (.iload_n 2, 1) := by decide +kernel
theorem dX6_areAlike_29 : decode cX6_areAlike 29 = .ok (.invokevirtual 94, 3) := by decide +kernel
theorem dX6_areAlike_32 : decode cX6_areAlike 32 = .ok (.aload_n 0, 1) := by decide +kernel
theorem dX6_areAlike_33 : decode cX6_areAlike 33 = .ok (.iload_n 3, 1) := by decide +kernel
theorem dX6_areAlike_34 : decode cX6_areAlike 34 = .ok (.iload 4, 2) := by decide +kernel
theorem dX6_areAlike_36 : decode cX6_areAlike 36 = .ok (.invokevirtual 94, 3) := by decide +kernel
theorem dX6_areAlike_39 : decode cX6_areAlike 39 = .ok (.if_icmp .ne 7, 3) := by decide +kernel
theorem dX6_areAlike_42 : decode cX6_areAlike 42 = .ok (.iconst 1, 1) := by decide +kernel
theorem dX6_areAlike_43 : decode cX6_areAlike 43 = .ok (.goto 4, 3) := by decide +kernel
theorem dX6_areAlike_46 : decode cX6_areAlike 46 = .ok (.iconst 0, 1) := by decide +kernel
theorem dX6_areAlike_47 : decode cX6_areAlike 47 = .ok (.ireturn, 1) := by decide +kernel
theorem dX6_alike_0 : decode cX6_alike 0 = .ok (.aload_n 0, 1) := by decide +kernel
theorem dX6_alike_1 : decode cX6_alike 1 = .ok (.iload_n 1, 1) := by decide +kernel
theorem dX6_alike_2 : decode cX6_alike 2 = .ok (.iload_n 2, 1) := by decide +kernel
theorem dX6_alike_3 : decode cX6_alike 3 = .ok (.invokevirtual 76, 3) := by decide +kernel
theorem dX6_alike_6 : decode cX6_alike 6 = .ok (.ifCond .eq 18, 3) := by decide +kernel
theorem dX6_alike_9 : decode cX6_alike 9 = .ok (.aload_n 0, 1) := by decide +kernel
theorem dX6_alike_10 : decode cX6_alike 10 = .ok (.iload_n 3, 1) := by decide +kernel
theorem dX6_alike_11 : decode cX6_alike 11 = .ok (.iload 4, 2) := by decide +kernel
theorem dX6_alike_13 : decode cX6_alike 13 = .ok (.invokevirtual 76, 3) := by decide +kernel
theorem dX6_alike_16 : decode cX6_alike 16 = .ok (.ifCond .eq 8, 3) := by decide +kernel
theorem dX6_alike_19 : decode cX6_alike 19 = .ok (.iload_n 1, 1) := by decide +kernel
theorem dX6_alike_20 : decode cX6_alike 20 = .ok (.iload_n 3, 1) := by decide +kernel
theorem dX6_alike_21 : decode cX6_alike 21 = .ok (.if_icmp .ne 5, 3) := by decide +kernel
theorem dX6_alike_24 : decode cX6_alike 24 = .ok (.iconst (-1), 1) := by decide +kernel
theorem dX6_alike_25 : decode cX6_alike 25 = .ok (.ireturn, 1) := by decide +kernel
theorem dX6_alike_26 : decode cX6_alike 26 = .ok (.aload_n 0, 1) := by decide +kernel
theorem dX6_alike_27 : decode cX6_alike 27 = .ok (.iload_n 1, 1) := by decide +kernel
theorem dX6_alike_28 : decode cX6_alike 28 = .ok (.iload_n 2, 1) := by decide +kernel
theorem dX6_alike_29 : decode cX6_alike 29 = .ok (.iload_n 3, 1) := by decide +kernel
theorem dX6_alike_30 : decode cX6_alike 30 = .ok (.iload 4, 2) := by decide +kernel
theorem dX6_alike_32 : decode cX6_alike 32 = .ok (.invokevirtual 135, 3) := by decide +kernel
theorem dX6_alike_35 : decode cX6_alike 35 = .ok (.ifCond .eq 7, 3) := by decide +kernel
theorem dX6_alike_38 : decode cX6_alike 38 = .ok (.iconst 1, 1) := by decide +kernel
theorem dX6_alike_39 : decode cX6_alike 39 = .ok (.goto 4, 3) := by decide +kernel
theorem dX6_alike_42 : decode cX6_alike 42 = .ok (.iconst 0, 1) := by decide +kernel
theorem dX6_alike_43 : decode cX6_alike 43 = .ok (.ireturn, 1) := by decide +kernel
theorem dX6_alikes_0 : decode cX6_alikes 0 = .ok (.iconst 0, 1) := by decide +kernel
theorem dX6_alikes_1 : decode cX6_alikes 1 = .ok (.istore_n 2, 1) := by decide +kernel
theorem dX6_alikes_2 : decode cX6_alikes 2 = .ok (.iconst 0, 1) := by decide +kernel
theorem dX6_alikes_3 : decode cX6_alikes 3 = .ok (.istore_n 3, 1) := by decide +kernel
theorem dX6_alikes_4 : decode cX6_alikes 4 = .ok (.iload_n 3, 1) := by decide +kernel
theorem dX6_alikes_5 : decode cX6_alikes 5 = .ok (.iconst 3, 1) := by decide +kernel
theorem dX6_alikes_6 : decode cX6_alikes 6 = .ok (.if_icmp .ge 133, 3) := by decide +kernel
theorem dX6_alikes_9 : decode cX6_alikes 9 = .ok (.iload_n 3, 1) := by decide +kernel
theorem dX6_alikes_10 : decode cX6_alikes 10 = .ok (.iconst 1, 1) := by decide +kernel
theorem dX6_alikes_11 : decode cX6_alikes 11 = .ok (.iadd, 1) := by decide +kernel
theorem dX6_alikes_12 : decode cX6_alikes 12 = .ok (.istore 4, 2) := by decide +kernel
theorem dX6_alikes_14 : decode cX6_alikes 14 = .ok (.iload 4, 2) := by decide +kernel
theorem dX6_alikes_16 : decode cX6_alikes 16 = .ok (.iconst 3, 1) := by decide +kernel
theorem dX6_alikes_17 : decode cX6_alikes 17 = .ok (.if_icmp .ge 116, 3) := by decide +kernel
theorem dX6_alikes_20 : decode cX6_alikes 20 = .ok (.iconst 0, 1) := by decide +kernel
theorem dX6_alikes_21 : decode cX6_alikes 21 = .ok (.istore 5, 2) := by decide +kernel
theorem dX6_alikes_23 : decode cX6_alikes 23 = .ok (.iload 5, 2) := by decide +kernel
theorem dX6_alikes_25 : decode cX6_alikes 25 = .ok (.aload_n 0, 1) := by decide +kernel
theorem dX6_alikes_26 : decode cX6_alikes 26 = .ok (.getfield 13, 3) := by decide +kernel
theorem dX6_alikes_29 : decode cX6_alikes 29 = .ok (.iload_n 3, 1) := by decide +kernel
theorem dX6_alikes_30 : decode cX6_alikes 30 = .ok (.iaload, 1) := by decide +kernel
theorem dX6_alikes_31 : decode cX6_alikes 31 = .ok (.if_icmp .ge 96, 3) := by decide +kernel
theorem dX6_alikes_34 : decode cX6_alikes 34 = .ok (.iconst 0, 1) := by decide +kernel
theorem dX6_alikes_35 : decode cX6_alikes 35 = .ok (.istore 6, 2) := by decide +kernel
theorem dX6_alikes_37 : decode cX6_alikes 37 = .ok (.iload 6, 2) := by decide +kernel
theorem dX6_alikes_39 : decode cX6_alikes 39 = .ok (.aload_n 0, 1) := by decide +kernel
theorem dX6_alikes_40 : decode cX6_alikes 40 = .ok (.getfield 13, 3) := by decide +kernel
theorem dX6_alikes_43 : decode cX6_alikes 43 = .ok (.iload 4, 2) := by decide +kernel
theorem dX6_alikes_45 : decode cX6_alikes 45 = .ok (.iaload, 1) := by decide +kernel
theorem dX6_alikes_46 : decode cX6_alikes 46 = .ok (.if_icmp .ge 75, 3) := by decide +kernel
theorem dX6_alikes_49 : decode cX6_alikes 49 = .ok (.aload_n 0, 1) := by decide +kernel
theorem dX6_alikes_50 : decode cX6_alikes 50 = .ok (.iload_n 3, 1) := by decide +kernel
theorem dX6_alikes_51 : decode cX6_alikes 51 = .ok (.iload 5, 2) := by decide +kernel
theorem dX6_alikes_53 : decode cX6_alikes 53 = .ok (.iload 4, 2) := by decide +kernel
theorem dX6_alikes_55 : decode cX6_alikes 55 = .ok (.iload 6, 2) := by decide +kernel
theorem dX6_alikes_57 : decode cX6_alikes 57 = .ok (.invokevirtual 135, 3) := by decide +kernel
theorem dX6_alikes_60 : decode cX6_alikes 60 = .ok (.ifCond .eq 39, 3) := by decide +kernel
theorem dX6_alikes_63 : decode cX6_alikes 63 = .ok (.iload_n 1, 1) := by decide +kernel
theorem dX6_alikes_64 : decode cX6_alikes 64 = .ok (.ifCond .eq 31, 3) := by decide +kernel
theorem dX6_alikes_67 : decode cX6_alikes 67 = .ok (.aload_n 0, 1) := by decide +kernel
theorem dX6_alikes_68 : decode cX6_alikes 68 = .ok (.getfield 58, 3) := by decide +kernel
theorem dX6_alikes_71 : decode cX6_alikes 71 = .ok (.bipush 12, 2) := by decide +kernel
theorem dX6_alikes_73 : decode cX6_alikes 73 = .ok (.iload_n 3, 1) := by decide +kernel
theorem dX6_alikes_74 : decode cX6_alikes 74 = .ok (.imul, 1) := by decide +kernel
theorem dX6_alikes_75 : decode cX6_alikes 75 = .ok (.iload 5, 2) := by decide +kernel
theorem dX6_alikes_77 : decode cX6_alikes 77 = .ok (.iadd, 1) := by decide +kernel
theorem dX6_alikes_78 : decode cX6_alikes 78 = .ok (.iaload, 1) := by decide +kernel
theorem dX6_alikes_79 : decode cX6_alikes 79 = .ok (.aload_n 0, 1) := by decide +kernel
theorem dX6_alikes_80 : decode cX6_alikes 80 = .ok (.getfield 58, 3) := by decide +kernel
theorem dX6_alikes_83 : decode cX6_alikes 83 = .ok (.bipush 12, 2) := by decide +kernel
theorem dX6_alikes_85 : decode cX6_alikes 85 = .ok (.iload 4, 2) := by decide +kernel
theorem dX6_alikes_87 : decode cX6_alikes 87 = .ok (.imul, 1) := by decide +kernel
theorem dX6_alikes_88 : decode cX6_alikes 88 = .ok (.iload 6, 2) := by decide +kernel
theorem dX6_alikes_90 : decode cX6_alikes 90 = .ok (.iadd, 1) := by decide +kernel
theorem dX6_alikes_91 : decode cX6_alikes 91 = .ok (.iaload, 1) := by decide +kernel
theorem dX6_alikes_92 : decode cX6_alikes 92 = .ok (.if_icmp .eq 7, 3) := by decide +kernel
theorem dX6_alikes_95 : decode cX6_alikes 95 = .ok (.iconst 1, 1) := by decide +kernel
theorem dX6_alikes_96 : decode cX6_alikes 96 = .ok (.goto 4, 3) := by decide +kernel
theorem dX6_alikes_99 : decode cX6_alikes 99 = .ok (.iconst 0, 1) := by decide +kernel
theorem dX6_alikes_100 : decode cX6_alikes 100 = .ok (.istore 7, 2) := by decide +kernel
theorem dX6_alikes_102 : decode cX6_alikes 102 = .ok (.iload_n 2, 1) := by decide +kernel
theorem dX6_alikes_103 : decode cX6_alikes 103 = .ok (.iload 7, 2) := by decide +kernel
theorem dX6_alikes_105 : decode cX6_alikes 105 = .ok (.ifCond .eq 7, 3) := by decide +kernel
theorem dX6_alikes_108 : decode cX6_alikes 108 = .ok (.iconst 1, 1) := by decide +kernel
theorem dX6_alikes_109 : decode cX6_alikes 109 = .ok (.goto 4, 3) := by decide +kernel
theorem dX6_alikes_112 : decode cX6_alikes 112 = .ok (.iconst 0, 1) := by decide +kernel
theorem dX6_alikes_113 : decode cX6_alikes 113 = .ok (.iadd, 1) := by decide +kernel
theorem dX6_alikes_114 : decode cX6_alikes 114 = .ok (.istore_n 2, 1) := by decide +kernel
theorem dX6_alikes_115 : decode cX6_alikes 115 = .ok (.iinc 6 1, 3) := by decide +kernel
theorem dX6_alikes_118 : decode cX6_alikes 118 = .ok (.goto (-81), 3) := by decide +kernel
theorem dX6_alikes_121 : decode cX6_alikes 121 = .ok (.iinc 5 1, 3) := by decide +kernel
theorem dX6_alikes_124 : decode cX6_alikes 124 = .ok (.goto (-101), 3) := by decide +kernel
theorem dX6_alikes_127 : decode cX6_alikes 127 = .ok (.iinc 4 1, 3) := by decide +kernel
theorem dX6_alikes_130 : decode cX6_alikes 130 = .ok (.goto (-116), 3) := by decide +kernel
theorem dX6_alikes_133 : decode cX6_alikes 133 = .ok (.iinc 3 1, 3) := by decide +kernel
theorem dX6_alikes_136 : decode cX6_alikes 136 = .ok (.goto (-132), 3) := by decide +kernel
theorem dX6_alikes_139 : decode cX6_alikes 139 = .ok (.iload_n 2, 1) := by decide +kernel
theorem dX6_alikes_140 : decode cX6_alikes 140 = .ok (.ireturn, 1) := by decide +kernel
theorem dX6_bowAll_0 : decode cX6_bowAll 0 = .ok (.iconst 0, 1) := by decide +kernel
theorem dX6_bowAll_1 : decode cX6_bowAll 1 = .ok (.istore_n 2, 1) := by decide +kernel
theorem dX6_bowAll_2 : decode cX6_bowAll 2 = .ok (.iconst 0, 1) := by decide +kernel
theorem dX6_bowAll_3 : decode cX6_bowAll 3 = .ok (.istore_n 3, 1) := by decide +kernel
theorem dX6_bowAll_4 : decode cX6_bowAll 4 = .ok (.iload_n 3, 1) := by decide +kernel
theorem dX6_bowAll_5 : decode cX6_bowAll 5 = .ok (.iconst 3, 1) := by decide +kernel
theorem dX6_bowAll_6 : decode cX6_bowAll 6 = .ok (.if_icmp .ge 34, 3) := by decide +kernel
theorem dX6_bowAll_9 : decode cX6_bowAll 9 = .ok (.aload_n 0, 1) := by decide +kernel
theorem dX6_bowAll_10 : decode cX6_bowAll 10 = .ok (.iload_n 3, 1) := by decide +kernel
theorem dX6_bowAll_11 : decode cX6_bowAll 11 = .ok (.iload_n 1, 1) := by decide +kernel
theorem dX6_bowAll_12 : decode cX6_bowAll 12 = .ok (.iload_n 3, 1) := by decide +kernel
theorem dX6_bowAll_13 : decode cX6_bowAll 13 = .ok (.ishr, 1) := by decide +kernel
theorem dX6_bowAll_14 : decode cX6_bowAll 14 = .ok (.iconst 1, 1) := by decide +kernel
theorem dX6_bowAll_15 : decode cX6_bowAll 15 = .ok (.iand, 1) := by decide +kernel
theorem dX6_bowAll_16 : decode cX6_bowAll 16 = .ok (.invokevirtual 132, 3) := by decide +kernel
theorem dX6_bowAll_19 : decode cX6_bowAll 19 = .ok (.istore 4, 2) := by decide +kernel
theorem dX6_bowAll_21 : decode cX6_bowAll 21 = .ok (.iload 4, 2) := by decide +kernel
theorem dX6_bowAll_23 : decode cX6_bowAll 23 = .ok (.ifCond .ge 6, 3) := by decide +kernel
theorem dX6_bowAll_26 : decode cX6_bowAll 26 = .ok (.bipush (-3), 2) := by decide +kernel
theorem dX6_bowAll_28 : decode cX6_bowAll 28 = .ok (.ireturn, 1) := by decide +kernel
theorem dX6_bowAll_29 : decode cX6_bowAll 29 = .ok (.iload_n 2, 1) := by decide +kernel
theorem dX6_bowAll_30 : decode cX6_bowAll 30 = .ok (.iload 4, 2) := by decide +kernel
theorem dX6_bowAll_32 : decode cX6_bowAll 32 = .ok (.iadd, 1) := by decide +kernel
theorem dX6_bowAll_33 : decode cX6_bowAll 33 = .ok (.istore_n 2, 1) := by decide +kernel
theorem dX6_bowAll_34 : decode cX6_bowAll 34 = .ok (.iinc 3 1, 3) := by decide +kernel
theorem dX6_bowAll_37 : decode cX6_bowAll 37 = .ok (.goto (-33), 3) := by decide +kernel
theorem dX6_bowAll_40 : decode cX6_bowAll 40 = .ok (.iload_n 2, 1) := by decide +kernel
theorem dX6_bowAll_41 : decode cX6_bowAll 41 = .ok (.ireturn, 1) := by decide +kernel
theorem dX6_union_0 : decode cX6_union 0 = .ok (.iload_n 1, 1) := by decide +kernel
theorem dX6_union_1 : decode cX6_union 1 = .ok (.iconst 0, 1) := by decide +kernel
theorem dX6_union_2 : decode cX6_union 2 = .ok (.iconst 2, 1) := by decide +kernel
theorem dX6_union_3 : decode cX6_union 3 = .ok (.invokestatic 61, 3) := by decide +kernel
theorem dX6_union_6 : decode cX6_union 6 = .ok (.ifCond .ne 5, 3) := by decide +kernel
theorem dX6_union_9 : decode cX6_union 9 = .ok (.iconst (-1), 1) := by decide +kernel
theorem dX6_union_10 : decode cX6_union 10 = .ok (.ireturn, 1) := by decide +kernel
theorem dX6_union_11 : decode cX6_union 11 = .ok (.ldc 111, 2) := by decide +kernel
theorem dX6_union_13 : decode cX6_union 13 = .ok (.istore_n 2, 1) := by decide +kernel
theorem dX6_union_14 : decode cX6_union 14 = .ok (.iconst 0, 1) := by decide +kernel
theorem dX6_union_15 : decode cX6_union 15 = .ok (.istore_n 3, 1) := by decide +kernel
theorem dX6_union_16 : decode cX6_union 16 = .ok (.iconst 0, 1) := by decide +kernel
theorem dX6_union_17 : decode cX6_union 17 = .ok (.istore 4, 2) := by decide +kernel
theorem dX6_union_19 : decode cX6_union 19 = .ok (.iload 4, 2) := by decide +kernel
theorem dX6_union_21 : decode cX6_union 21 = .ok (.bipush 8, 2) := by decide +kernel
theorem dX6_union_23 : decode cX6_union 23 = .ok (.if_icmp .ge 51, 3) := by decide +kernel
theorem dX6_union_26 : decode cX6_union 26 = .ok (.aload_n 0, 1) := by decide +kernel
theorem dX6_union_27 : decode cX6_union 27 = .ok (.iload 4, 2) := by decide +kernel
theorem dX6_union_29 : decode cX6_union 29 = .ok (.invokevirtual 139, 3) := by decide +kernel
theorem dX6_union_32 : decode cX6_union 32 = .ok (.istore 5, 2) := by decide +kernel
theorem dX6_union_34 : decode cX6_union 34 = .ok (.iload 5, 2) := by decide +kernel
theorem dX6_union_36 : decode cX6_union 36 = .ok (.ifCond .ge 8, 3) := by decide +kernel
theorem dX6_union_39 : decode cX6_union 39 = .ok (.ldc 111, 2) := by decide +kernel
theorem dX6_union_41 : decode cX6_union 41 = .ok (.goto 13, 3) := by decide +kernel
theorem dX6_union_44 : decode cX6_union 44 = .ok (.iload 5, 2) := by decide +kernel
theorem dX6_union_46 : decode cX6_union 46 = .ok (.iconst 4, 1) := by decide +kernel
theorem dX6_union_47 : decode cX6_union 47 = .ok (.aload_n 0, 1) := by decide +kernel
theorem dX6_union_48 : decode cX6_union 48 = .ok (.iconst 1, 1) := by decide +kernel
theorem dX6_union_49 : decode cX6_union 49 = .ok (.invokevirtual 142, 3) := by decide +kernel
theorem dX6_union_52 : decode cX6_union 52 = .ok (.imul, 1) := by decide +kernel
theorem dX6_union_53 : decode cX6_union 53 = .ok (.iadd, 1) := by decide +kernel
theorem dX6_union_54 : decode cX6_union 54 = .ok (.istore 6, 2) := by decide +kernel
theorem dX6_union_56 : decode cX6_union 56 = .ok (.iload 6, 2) := by decide +kernel
theorem dX6_union_58 : decode cX6_union 58 = .ok (.iload_n 2, 1) := by decide +kernel
theorem dX6_union_59 : decode cX6_union 59 = .ok (.if_icmp .ge 9, 3) := by decide +kernel
theorem dX6_union_62 : decode cX6_union 62 = .ok (.iload 6, 2) := by decide +kernel
theorem dX6_union_64 : decode cX6_union 64 = .ok (.istore_n 2, 1) := by decide +kernel
theorem dX6_union_65 : decode cX6_union 65 = .ok (.iload 4, 2) := by decide +kernel
theorem dX6_union_67 : decode cX6_union 67 = .ok (.istore_n 3, 1) := by decide +kernel
theorem dX6_union_68 : decode cX6_union 68 = .ok (.iinc 4 1, 3) := by decide +kernel
theorem dX6_union_71 : decode cX6_union 71 = .ok (.goto (-52), 3) := by decide +kernel
theorem dX6_union_74 : decode cX6_union 74 = .ok (.iload_n 1, 1) := by decide +kernel
theorem dX6_union_75 : decode cX6_union 75 = .ok (.iconst 2, 1) := by decide +kernel
theorem dX6_union_76 : decode cX6_union 76 = .ok (.if_icmp .ge 13, 3) := by decide +kernel
theorem dX6_union_79 : decode cX6_union 79 = .ok (.iload_n 1, 1) := by decide +kernel
theorem dX6_union_80 : decode cX6_union 80 = .ok (.ifCond .ne 7, 3) := by decide +kernel
theorem dX6_union_83 : decode cX6_union 83 = .ok (.iload_n 3, 1) := by decide +kernel
theorem dX6_union_84 : decode cX6_union 84 = .ok (.goto 4, 3) := by decide +kernel
theorem dX6_union_87 : decode cX6_union 87 = .ok (.iload_n 2, 1) := by decide +kernel
theorem dX6_union_88 : decode cX6_union 88 = .ok (.ireturn, 1) := by decide +kernel
theorem dX6_union_89 : decode cX6_union 89 = .ok (.aload_n 0, 1) := by decide +kernel
theorem dX6_union_90 : decode cX6_union 90 = .ok (.iload_n 3, 1) := by decide +kernel
theorem dX6_union_91 : decode cX6_union 91 = .ok (.invokevirtual 139, 3) := by decide +kernel
theorem dX6_union_94 : decode cX6_union 94 = .ok (.istore 4, 2) := by decide +kernel
theorem dX6_union_96 : decode cX6_union 96 = .ok (.iload 4, 2) := by decide +kernel
theorem dX6_union_98 : decode cX6_union 98 = .ok (.ifCond .ge 7, 3) := by decide +kernel
theorem dX6_union_101 : decode cX6_union 101 = .ok (.iconst 0, 1) := by decide +kernel
theorem dX6_union_102 : decode cX6_union 102 = .ok (.goto 8, 3) := by decide +kernel
theorem dX6_union_105 : decode cX6_union 105 = .ok (.aload_n 0, 1) := by decide +kernel
theorem dX6_union_106 : decode cX6_union 106 = .ok (.iconst 1, 1) := by decide +kernel
theorem dX6_union_107 : decode cX6_union 107 = .ok (.invokevirtual 142, 3) := by decide +kernel
theorem dX6_union_110 : decode cX6_union 110 = .ok (.ireturn, 1) := by decide +kernel
theorem dX6_notesThat_0 : decode cX6_notesThat 0 = .ok (.iconst 0, 1) := by decide +kernel
theorem dX6_notesThat_1 : decode cX6_notesThat 1 = .ok (.istore_n 2, 1) := by decide +kernel
theorem dX6_notesThat_2 : decode cX6_notesThat 2 = .ok (.iconst 0, 1) := by decide +kernel
theorem dX6_notesThat_3 : decode cX6_notesThat 3 = .ok (.istore_n 3, 1) := by decide +kernel
theorem dX6_notesThat_4 : decode cX6_notesThat 4 = .ok (.iload_n 3, 1) := by decide +kernel
theorem dX6_notesThat_5 : decode cX6_notesThat 5 = .ok (.iconst 3, 1) := by decide +kernel
theorem dX6_notesThat_6 : decode cX6_notesThat 6 = .ok (.if_icmp .ge 79, 3) := by decide +kernel
theorem dX6_notesThat_9 : decode cX6_notesThat 9 = .ok (.iconst 0, 1) := by decide +kernel
theorem dX6_notesThat_10 : decode cX6_notesThat 10 = .ok (.istore 4, 2) := by decide +kernel
theorem dX6_notesThat_12 : decode cX6_notesThat 12 = .ok (.iload 4, 2) := by decide +kernel
theorem dX6_notesThat_14 : decode cX6_notesThat 14 = .ok (.aload_n 0, 1) := by decide +kernel
theorem dX6_notesThat_15 : decode cX6_notesThat 15 = .ok (.getfield 13, 3) := by decide +kernel
theorem dX6_notesThat_18 : decode cX6_notesThat 18 = .ok (.iload_n 3, 1) := by decide +kernel
theorem dX6_notesThat_19 : decode cX6_notesThat 19 = .ok (.iaload, 1) := by decide +kernel
theorem dX6_notesThat_20 : decode cX6_notesThat 20 = .ok (.if_icmp .ge 59, 3) := by decide +kernel
theorem dX6_notesThat_23 : decode cX6_notesThat 23 = .ok (.iload_n 1, 1) := by decide +kernel
theorem dX6_notesThat_24 : decode cX6_notesThat 24 = .ok (.ifCond .eq 26, 3) := by decide +kernel
theorem dX6_notesThat_27 : decode cX6_notesThat 27 = .ok (.aload_n 0, 1) := by decide +kernel
theorem dX6_notesThat_28 : decode cX6_notesThat 28 = .ok (.getfield 19, 3) := by decide +kernel
theorem dX6_notesThat_31 : decode cX6_notesThat 31 = .ok (.bipush 12, 2) := by decide +kernel
theorem dX6_notesThat_33 : decode cX6_notesThat 33 = .ok (.iload_n 3, 1) := by decide +kernel
theorem dX6_notesThat_34 : decode cX6_notesThat 34 = .ok (.imul, 1) := by decide +kernel
theorem dX6_notesThat_35 : decode cX6_notesThat 35 = .ok (.iload 4, 2) := by decide +kernel
theorem dX6_notesThat_37 : decode cX6_notesThat 37 = .ok (.iadd, 1) := by decide +kernel
theorem dX6_notesThat_38 : decode cX6_notesThat 38 = .ok (.iaload, 1) := by decide +kernel
theorem dX6_notesThat_39 : decode cX6_notesThat 39 = .ok (.ifCond .lt 7, 3) := by decide +kernel
theorem dX6_notesThat_42 : decode cX6_notesThat 42 = .ok (.iconst 1, 1) := by decide +kernel
theorem dX6_notesThat_43 : decode cX6_notesThat 43 = .ok (.goto 15, 3) := by decide +kernel
theorem dX6_notesThat_46 : decode cX6_notesThat 46 = .ok (.iconst 0, 1) := by decide +kernel
theorem dX6_notesThat_47 : decode cX6_notesThat 47 = .ok (.goto 11, 3) := by decide +kernel
theorem dX6_notesThat_50 : decode cX6_notesThat 50 = .ok (.aload_n 0, 1) := by decide +kernel
theorem dX6_notesThat_51 : decode cX6_notesThat 51 = .ok (.iload_n 3, 1) := by decide +kernel
theorem dX6_notesThat_52 : decode cX6_notesThat 52 = .ok (.iload 4, 2) := by decide +kernel
theorem dX6_notesThat_54 : decode cX6_notesThat 54 = .ok (.iconst 2, 1) := by decide +kernel
theorem dX6_notesThat_55 : decode cX6_notesThat 55 = .ok (.invokevirtual 108, 3) := by decide +kernel
theorem dX6_notesThat_58 : decode cX6_notesThat 58 = .ok (.istore 5, 2) := by decide +kernel
theorem dX6_notesThat_60 : decode cX6_notesThat 60 = .ok (.iload_n 2, 1) := by decide +kernel
theorem dX6_notesThat_61 : decode cX6_notesThat 61 = .ok (.iload 5, 2) := by decide +kernel
theorem dX6_notesThat_63 : decode cX6_notesThat 63 = .ok (.ifCond .eq 7, 3) := by decide +kernel
theorem dX6_notesThat_66 : decode cX6_notesThat 66 = .ok (.iconst 1, 1) := by decide +kernel
theorem dX6_notesThat_67 : decode cX6_notesThat 67 = .ok (.goto 4, 3) := by decide +kernel
theorem dX6_notesThat_70 : decode cX6_notesThat 70 = .ok (.iconst 0, 1) := by decide +kernel
theorem dX6_notesThat_71 : decode cX6_notesThat 71 = .ok (.iadd, 1) := by decide +kernel
theorem dX6_notesThat_72 : decode cX6_notesThat 72 = .ok (.istore_n 2, 1) := by decide +kernel
theorem dX6_notesThat_73 : decode cX6_notesThat 73 = .ok (.iinc 4 1, 3) := by decide +kernel
theorem dX6_notesThat_76 : decode cX6_notesThat 76 = .ok (.goto (-64), 3) := by decide +kernel
theorem dX6_notesThat_79 : decode cX6_notesThat 79 = .ok (.iinc 3 1, 3) := by decide +kernel
theorem dX6_notesThat_82 : decode cX6_notesThat 82 = .ok (.goto (-78), 3) := by decide +kernel
theorem dX6_notesThat_85 : decode cX6_notesThat 85 = .ok (.iload_n 2, 1) := by decide +kernel
theorem dX6_notesThat_86 : decode cX6_notesThat 86 = .ok (.ireturn, 1) := by decide +kernel
theorem dX6_without_0 : decode cX6_without 0 = .ok (.iconst 0, 1) := by decide +kernel
theorem dX6_without_1 : decode cX6_without 1 = .ok (.istore_n 1, 1) := by decide +kernel
theorem dX6_without_2 : decode cX6_without 2 = .ok (.iconst 0, 1) := by decide +kernel
theorem dX6_without_3 : decode cX6_without 3 = .ok (.istore_n 2, 1) := by decide +kernel
theorem dX6_without_4 : decode cX6_without 4 = .ok (.iload_n 2, 1) := by decide +kernel
theorem dX6_without_5 : decode cX6_without 5 = .ok (.iconst 3, 1) := by decide +kernel
theorem dX6_without_6 : decode cX6_without 6 = .ok (.if_icmp .ge 27, 3) := by decide +kernel
theorem dX6_without_9 : decode cX6_without 9 = .ok (.aload_n 0, 1) := by decide +kernel
theorem dX6_without_10 : decode cX6_without 10 = .ok (.iload_n 2, 1) := by decide +kernel
theorem dX6_without_11 : decode cX6_without 11 = .ok (.invokevirtual 123, 3) := by decide +kernel
theorem dX6_without_14 : decode cX6_without 14 = .ok (.istore_n 3, 1) := by decide +kernel
theorem dX6_without_15 : decode cX6_without 15 = .ok (.iload_n 1, 1) := by decide +kernel
theorem dX6_without_16 : decode cX6_without 16 = .ok (.iload_n 3, 1) := by decide +kernel
theorem dX6_without_17 : decode cX6_without 17 = .ok (.ifCond .eq 7, 3) := by decide +kernel
theorem dX6_without_20 : decode cX6_without 20 = .ok (.iconst 0, 1) := by decide +kernel
theorem dX6_without_21 : decode cX6_without 21 = .ok (.goto 4, 3) := by decide +kernel
theorem dX6_without_24 : decode cX6_without 24 = .ok (.iconst 1, 1) := by decide +kernel
theorem dX6_without_25 : decode cX6_without 25 = .ok (.iadd, 1) := by decide +kernel
theorem dX6_without_26 : decode cX6_without 26 = .ok (.istore_n 1, 1) := by decide +kernel
theorem dX6_without_27 : decode cX6_without 27 = .ok (.iinc 2 1, 3) := by decide +kernel
theorem dX6_without_30 : decode cX6_without 30 = .ok (.goto (-26), 3) := by decide +kernel
theorem dX6_without_33 : decode cX6_without 33 = .ok (.iload_n 1, 1) := by decide +kernel
theorem dX6_without_34 : decode cX6_without 34 = .ok (.ireturn, 1) := by decide +kernel
theorem dX6_many_0 : decode cX6_many 0 = .ok (.iload_n 1, 1) := by decide +kernel
theorem dX6_many_1 : decode cX6_many 1 = .ok (.tableswitch 73 0 6 #[43, 43, 43, 50, 56, 62, 68], 43) := by decide +kernel
theorem dX6_many_44 : decode cX6_many 44 = .ok (.aload_n 0, 1) := by decide +kernel
theorem dX6_many_45 : decode cX6_many 45 = .ok (.getfield 13, 3) := by decide +kernel
theorem dX6_many_48 : decode cX6_many 48 = .ok (.iload_n 1, 1) := by decide +kernel
theorem dX6_many_49 : decode cX6_many 49 = .ok (.iaload, 1) := by decide +kernel
theorem dX6_many_50 : decode cX6_many 50 = .ok (.ireturn, 1) := by decide +kernel
theorem dX6_many_51 : decode cX6_many 51 = .ok (.aload_n 0, 1) := by decide +kernel
theorem dX6_many_52 : decode cX6_many 52 = .ok (.iconst 0, 1) := by decide +kernel
theorem dX6_many_53 : decode cX6_many 53 = .ok (.invokevirtual 142, 3) := by decide +kernel
theorem dX6_many_56 : decode cX6_many 56 = .ok (.ireturn, 1) := by decide +kernel
theorem dX6_many_57 : decode cX6_many 57 = .ok (.aload_n 0, 1) := by decide +kernel
theorem dX6_many_58 : decode cX6_many 58 = .ok (.iconst 1, 1) := by decide +kernel
theorem dX6_many_59 : decode cX6_many 59 = .ok (.invokevirtual 146, 3) := by decide +kernel
theorem dX6_many_62 : decode cX6_many 62 = .ok (.ireturn, 1) := by decide +kernel
theorem dX6_many_63 : decode cX6_many 63 = .ok (.aload_n 0, 1) := by decide +kernel
theorem dX6_many_64 : decode cX6_many 64 = .ok (.iconst 0, 1) := by decide +kernel
theorem dX6_many_65 : decode cX6_many 65 = .ok (.invokevirtual 146, 3) := by decide +kernel
theorem dX6_many_68 : decode cX6_many 68 = .ok (.ireturn, 1) := by decide +kernel
theorem dX6_many_69 : decode cX6_many 69 = .ok (.aload_n 0, 1) := by decide +kernel
theorem dX6_many_70 : decode cX6_many 70 = .ok (.invokevirtual 149, 3) := by decide +kernel
theorem dX6_many_73 : decode cX6_many 73 = .ok (.ireturn, 1) := by decide +kernel
theorem dX6_many_74 : decode cX6_many 74 = .ok (.iconst (-1), 1) := by decide +kernel
theorem dX6_many_75 : decode cX6_many 75 = .ok (.ireturn, 1) := by decide +kernel
