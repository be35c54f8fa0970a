theorem d_Md_look_10 : decode prog_10_method_46_code 10 = .ok (.iconst (-1), 1) := by decide +kernel
theorem d_Md_look_11 : decode prog_10_method_46_code 11 = .ok (.goto 9, 3) := by decide +kernel
theorem d_Md_look_14 : decode prog_10_method_46_code 14 = .ok (.aload_n 0, 1) := by decide +kernel
theorem d_Md_look_15 : decode prog_10_method_46_code 15 = .ok (.getfield 68, 3) := by decide +kernel
theorem d_Md_look_18 : decode prog_10_method_46_code 18 = .ok (.iload_n 2, 1) := by decide +kernel
theorem d_Md_look_19 : decode prog_10_method_46_code 19 = .ok (.iaload, 1) := by decide +kernel
theorem d_Md_look_20 : decode prog_10_method_46_code 20 = .ok (.ireturn, 1) := by decide +kernel
theorem d_Md_needed_0 : decode prog_10_method_47_code 0 = .ok (.iconst 0, 1) := by decide +kernel
theorem d_Md_needed_1 : decode prog_10_method_47_code 1 = .ok (.istore_n 1, 1) := by decide +kernel
theorem d_Md_needed_2 : decode prog_10_method_47_code 2 = .ok (.iload_n 0, 1) := by decide +kernel
theorem d_Md_needed_3 : decode prog_10_method_47_code 3 = .ok (.istore_n 2, 1) := by decide +kernel
theorem d_Md_needed_4 : decode prog_10_method_47_code 4 = .ok (.iload_n 2, 1) := by decide +kernel
theorem d_Md_needed_5 : decode prog_10_method_47_code 5 = .ok (.iconst 4, 1) := by decide +kernel
theorem d_Md_needed_6 : decode prog_10_method_47_code 6 = .ok (.if_icmp .le 16, 3) := by decide +kernel
theorem d_Md_needed_9 : decode prog_10_method_47_code 9 = .ok (.iload_n 2, 1) := by decide +kernel
theorem d_Md_needed_10 : decode prog_10_method_47_code 10 = .ok (.iconst 3, 1) := by decide +kernel
theorem d_Md_needed_11 : decode prog_10_method_47_code 11 = .ok (.iadd, 1) := by decide +kernel
theorem d_Md_needed_12 : decode prog_10_method_47_code 12 = .ok (.iconst 4, 1) := by decide +kernel
theorem d_Md_needed_13 : decode prog_10_method_47_code 13 = .ok (.idiv, 1) := by decide +kernel
theorem d_Md_needed_14 : decode prog_10_method_47_code 14 = .ok (.istore_n 2, 1) := by decide +kernel
theorem d_Md_needed_15 : decode prog_10_method_47_code 15 = .ok (.iload_n 1, 1) := by decide +kernel
theorem d_Md_needed_16 : decode prog_10_method_47_code 16 = .ok (.iload_n 2, 1) := by decide +kernel
theorem d_Md_needed_17 : decode prog_10_method_47_code 17 = .ok (.iadd, 1) := by decide +kernel
theorem d_Md_needed_18 : decode prog_10_method_47_code 18 = .ok (.istore_n 1, 1) := by decide +kernel
theorem d_Md_needed_19 : decode prog_10_method_47_code 19 = .ok (.goto (-15), 3) := by decide +kernel
theorem d_Md_needed_22 : decode prog_10_method_47_code 22 = .ok (.iload_n 1, 1) := by decide +kernel
theorem d_Md_needed_23 : decode prog_10_method_47_code 23 = .ok (.ireturn, 1) := by decide +kernel
theorem d_Md_hang_0 : decode prog_10_method_48_code 0 = .ok (.aload_n 0, 1) := by decide +kernel
theorem d_Md_hang_1 : decode prog_10_method_48_code 1 = .ok (.iload_n 1, 1) := by decide +kernel
theorem d_Md_hang_2 : decode prog_10_method_48_code 2 = .ok (.iload_n 2, 1) := by decide +kernel
theorem d_Md_hang_3 : decode prog_10_method_48_code 3 = .ok (.invokevirtual 92, 3) := by decide +kernel
theorem d_Md_hang_6 : decode prog_10_method_48_code 6 = .ok (.aload_n 0, 1) := by decide +kernel
theorem d_Md_hang_7 : decode prog_10_method_48_code 7 = .ok (.getfield 13, 3) := by decide +kernel
theorem d_Md_hang_10 : decode prog_10_method_48_code 10 = .ok (.iload_n 2, 1) := by decide +kernel
theorem d_Md_hang_11 : decode prog_10_method_48_code 11 = .ok (.iload_n 1, 1) := by decide +kernel
theorem d_Md_hang_12 : decode prog_10_method_48_code 12 = .ok (.iastore, 1) := by decide +kernel
theorem d_Md_hang_13 : decode prog_10_method_48_code 13 = .ok (.aload_n 0, 1) := by decide +kernel
theorem d_Md_hang_14 : decode prog_10_method_48_code 14 = .ok (.getfield 17, 3) := by decide +kernel
theorem d_Md_hang_17 : decode prog_10_method_48_code 17 = .ok (.iload_n 1, 1) := by decide +kernel
theorem d_Md_hang_18 : decode prog_10_method_48_code 18 = .ok (.dup2, 1) := by decide +kernel
theorem d_Md_hang_19 : decode prog_10_method_48_code 19 = .ok (.iaload, 1) := by decide +kernel
theorem d_Md_hang_20 : decode prog_10_method_48_code 20 = .ok (.aload_n 0, 1) := by decide +kernel
theorem d_Md_hang_21 : decode prog_10_method_48_code 21 = .ok (.getfield 7, 3) := by decide +kernel
theorem d_Md_hang_24 : decode prog_10_method_48_code 24 = .ok (.iload_n 2, 1) := by decide +kernel
theorem d_Md_hang_25 : decode prog_10_method_48_code 25 = .ok (.baload, 1) := by decide +kernel
theorem d_Md_hang_26 : decode prog_10_method_48_code 26 = .ok (.ifCond .eq 7, 3) := by decide +kernel
theorem d_Md_hang_29 : decode prog_10_method_48_code 29 = .ok (.iconst 1, 1) := by decide +kernel
theorem d_Md_hang_30 : decode prog_10_method_48_code 30 = .ok (.goto 9, 3) := by decide +kernel
theorem d_Md_hang_33 : decode prog_10_method_48_code 33 = .ok (.aload_n 0, 1) := by decide +kernel
theorem d_Md_hang_34 : decode prog_10_method_48_code 34 = .ok (.getfield 17, 3) := by decide +kernel
theorem d_Md_hang_37 : decode prog_10_method_48_code 37 = .ok (.iload_n 2, 1) := by decide +kernel
theorem d_Md_hang_38 : decode prog_10_method_48_code 38 = .ok (.iaload, 1) := by decide +kernel
theorem d_Md_hang_39 : decode prog_10_method_48_code 39 = .ok (.iadd, 1) := by decide +kernel
theorem d_Md_hang_40 : decode prog_10_method_48_code 40 = .ok (.iastore, 1) := by decide +kernel
theorem d_Md_hang_41 : decode prog_10_method_48_code 41 = .ok (.return_, 1) := by decide +kernel
theorem d_Md_balance_0 : decode prog_10_method_49_code 0 = .ok (.aload_n 0, 1) := by decide +kernel
theorem d_Md_balance_1 : decode prog_10_method_49_code 1 = .ok (.invokevirtual 124, 3) := by decide +kernel
theorem d_Md_balance_4 : decode prog_10_method_49_code 4 = .ok (.aload_n 0, 1) := by decide +kernel
theorem d_Md_balance_5 : decode prog_10_method_49_code 5 = .ok (.getfield 105, 3) := by decide +kernel
theorem d_Md_balance_8 : decode prog_10_method_49_code 8 = .ok (.ifCond .ne 6, 3) := by decide +kernel
theorem d_Md_balance_11 : decode prog_10_method_49_code 11 = .ok (.bipush (-3), 2) := by decide +kernel
theorem d_Md_balance_13 : decode prog_10_method_49_code 13 = .ok (.ireturn, 1) := by decide +kernel
theorem d_Md_balance_14 : decode prog_10_method_49_code 14 = .ok (.aload_n 0, 1) := by decide +kernel
theorem d_Md_balance_15 : decode prog_10_method_49_code 15 = .ok (.getfield 105, 3) := by decide +kernel
theorem d_Md_balance_18 : decode prog_10_method_49_code 18 = .ok (.invokestatic 188, 3) := by decide +kernel
theorem d_Md_balance_21 : decode prog_10_method_49_code 21 = .ok (.istore_n 1, 1) := by decide +kernel
theorem d_Md_balance_22 : decode prog_10_method_49_code 22 = .ok (.aload_n 0, 1) := by decide +kernel
theorem d_Md_balance_23 : decode prog_10_method_49_code 23 = .ok (.getfield 77, 3) := by decide +kernel
theorem d_Md_balance_26 : decode prog_10_method_49_code 26 = .ok (.iload_n 1, 1) := by decide +kernel
theorem d_Md_balance_27 : decode prog_10_method_49_code 27 = .ok (.iadd, 1) := by decide +kernel
theorem d_Md_balance_28 : decode prog_10_method_49_code 28 = .ok (.sipush 200, 3) := by decide +kernel
theorem d_Md_balance_31 : decode prog_10_method_49_code 31 = .ok (.if_icmp .le 6, 3) := by decide +kernel
theorem d_Md_balance_34 : decode prog_10_method_49_code 34 = .ok (.bipush (-4), 2) := by decide +kernel
theorem d_Md_balance_36 : decode prog_10_method_49_code 36 = .ok (.ireturn, 1) := by decide +kernel
theorem d_Md_balance_37 : decode prog_10_method_49_code 37 = .ok (.aload_n 0, 1) := by decide +kernel
theorem d_Md_balance_38 : decode prog_10_method_49_code 38 = .ok (.aload_n 0, 1) := by decide +kernel
theorem d_Md_balance_39 : decode prog_10_method_49_code 39 = .ok (.getfield 105, 3) := by decide +kernel
theorem d_Md_balance_42 : decode prog_10_method_49_code 42 = .ok (.putfield 191, 3) := by decide +kernel
theorem d_Md_balance_45 : decode prog_10_method_49_code 45 = .ok (.iconst 0, 1) := by decide +kernel
theorem d_Md_balance_46 : decode prog_10_method_49_code 46 = .ok (.istore_n 2, 1) := by decide +kernel
theorem d_Md_balance_47 : decode prog_10_method_49_code 47 = .ok (.iload_n 2, 1) := by decide +kernel
theorem d_Md_balance_48 : decode prog_10_method_49_code 48 = .ok (.aload_n 0, 1) := by decide +kernel
theorem d_Md_balance_49 : decode prog_10_method_49_code 49 = .ok (.getfield 105, 3) := by decide +kernel
theorem d_Md_balance_52 : decode prog_10_method_49_code 52 = .ok (.if_icmp .ge 31, 3) := by decide +kernel
theorem d_Md_balance_55 : decode prog_10_method_49_code 55 = .ok (.aload_n 0, 1) := by decide +kernel
theorem d_Md_balance_56 : decode prog_10_method_49_code 56 = .ok (.getfield 74, 3) := by decide +kernel
theorem d_Md_balance_59 : decode prog_10_method_49_code 59 = .ok (.iload_n 2, 1) := by decide +kernel
theorem d_Md_balance_60 : decode prog_10_method_49_code 60 = .ok (.aload_n 0, 1) := by decide +kernel
theorem d_Md_balance_61 : decode prog_10_method_49_code 61 = .ok (.getfield 38, 3) := by decide +kernel
theorem d_Md_balance_64 : decode prog_10_method_49_code 64 = .ok (.iload_n 2, 1) := by decide +kernel
theorem d_Md_balance_65 : decode prog_10_method_49_code 65 = .ok (.iaload, 1) := by decide +kernel
theorem d_Md_balance_66 : decode prog_10_method_49_code 66 = .ok (.iastore, 1) := by decide +kernel
theorem d_Md_balance_67 : decode prog_10_method_49_code 67 = .ok (.aload_n 0, 1) := by decide +kernel
theorem d_Md_balance_68 : decode prog_10_method_49_code 68 = .ok (.aload_n 0, 1) := by decide +kernel
theorem d_Md_balance_69 : decode prog_10_method_49_code 69 = .ok (.getfield 38, 3) := by decide +kernel
theorem d_Md_balance_72 : decode prog_10_method_49_code 72 = .ok (.iload_n 2, 1) := by decide +kernel
theorem d_Md_balance_73 : decode prog_10_method_49_code 73 = .ok (.iaload, 1) := by decide +kernel
theorem d_Md_balance_74 : decode prog_10_method_49_code 74 = .ok (.invokevirtual 150, 3) := by decide +kernel
theorem d_Md_balance_77 : decode prog_10_method_49_code 77 = .ok (.iinc 2 1, 3) := by decide +kernel
theorem d_Md_balance_80 : decode prog_10_method_49_code 80 = .ok (.goto (-33), 3) := by decide +kernel
theorem d_Md_balance_83 : decode prog_10_method_49_code 83 = .ok (.iconst 0, 1) := by decide +kernel
theorem d_Md_balance_84 : decode prog_10_method_49_code 84 = .ok (.istore_n 2, 1) := by decide +kernel
theorem d_Md_balance_85 : decode prog_10_method_49_code 85 = .ok (.iload_n 2, 1) := by decide +kernel
theorem d_Md_balance_86 : decode prog_10_method_49_code 86 = .ok (.aload_n 0, 1) := by decide +kernel
theorem d_Md_balance_87 : decode prog_10_method_49_code 87 = .ok (.getfield 77, 3) := by decide +kernel
theorem d_Md_balance_90 : decode prog_10_method_49_code 90 = .ok (.if_icmp .ge 23, 3) := by decide +kernel
theorem d_Md_balance_93 : decode prog_10_method_49_code 93 = .ok (.aload_n 0, 1) := by decide +kernel
theorem d_Md_balance_94 : decode prog_10_method_49_code 94 = .ok (.getfield 20, 3) := by decide +kernel
theorem d_Md_balance_97 : decode prog_10_method_49_code 97 = .ok (.iload_n 2, 1) := by decide +kernel
theorem d_Md_balance_98 : decode prog_10_method_49_code 98 = .ok (.iconst 0, 1) := by decide +kernel
theorem d_Md_balance_99 : decode prog_10_method_49_code 99 = .ok (.iastore, 1) := by decide +kernel
theorem d_Md_balance_100 : decode prog_10_method_49_code 100 = .ok (.aload_n 0, 1) := by decide +kernel
theorem d_Md_balance_101 : decode prog_10_method_49_code 101 = .ok (.getfield 13, 3) := by decide +kernel
theorem d_Md_balance_104 : decode prog_10_method_49_code 104 = .ok (.iload_n 2, 1) := by decide +kernel
theorem d_Md_balance_105 : decode prog_10_method_49_code 105 = .ok (.iconst (-1), 1) := by decide +kernel
theorem d_Md_balance_106 : decode prog_10_method_49_code 106 = .ok (.iastore, 1) := by decide +kernel
theorem d_Md_balance_107 : decode prog_10_method_49_code 107 = .ok (.iinc 2 1, 3) := by decide +kernel
theorem d_Md_balance_110 : decode prog_10_method_49_code 110 = .ok (.goto (-25), 3) := by decide +kernel
theorem d_Md_balance_113 : decode prog_10_method_49_code 113 = .ok (.aload_n 0, 1) := by decide +kernel
theorem d_Md_balance_114 : decode prog_10_method_49_code 114 = .ok (.getfield 191, 3) := by decide +kernel
theorem d_Md_balance_117 : decode prog_10_method_49_code 117 = .ok (.iconst 4, 1) := by decide +kernel
theorem d_Md_balance_118 : decode prog_10_method_49_code 118 = .ok (.if_icmp .le 93, 3) := by decide +kernel
theorem d_Md_balance_121 : decode prog_10_method_49_code 121 = .ok (.iconst 0, 1) := by decide +kernel
theorem d_Md_balance_122 : decode prog_10_method_49_code 122 = .ok (.istore_n 2, 1) := by decide +kernel
theorem d_Md_balance_123 : decode prog_10_method_49_code 123 = .ok (.iconst 0, 1) := by decide +kernel
theorem d_Md_balance_124 : decode prog_10_method_49_code 124 = .ok (.istore_n 3, 1) := by decide +kernel
theorem d_Md_balance_125 : decode prog_10_method_49_code 125 = .ok (.iload_n 3, 1) := by decide +kernel
theorem d_Md_balance_126 : decode prog_10_method_49_code 126 = .ok (.aload_n 0, 1) := by decide +kernel
theorem d_Md_balance_127 : decode prog_10_method_49_code 127 = .ok (.getfield 191, 3) := by decide +kernel
theorem d_Md_balance_130 : decode prog_10_method_49_code 130 = .ok (.if_icmp .ge 66, 3) := by decide +kernel
theorem d_Md_balance_133 : decode prog_10_method_49_code 133 = .ok (.iload_n 3, 1) := by decide +kernel
theorem d_Md_balance_134 : decode prog_10_method_49_code 134 = .ok (.iconst 4, 1) := by decide +kernel
theorem d_Md_balance_135 : decode prog_10_method_49_code 135 = .ok (.irem, 1) := by decide +kernel
theorem d_Md_balance_136 : decode prog_10_method_49_code 136 = .ok (.ifCond .ne 11, 3) := by decide +kernel
theorem d_Md_balance_139 : decode prog_10_method_49_code 139 = .ok (.aload_n 0, 1) := by decide +kernel
theorem d_Md_balance_140 : decode prog_10_method_49_code 140 = .ok (.iconst 0, 1) := by decide +kernel
theorem d_Md_balance_141 : decode prog_10_method_49_code 141 = .ok (.iconst (-1), 1) := by decide +kernel
theorem d_Md_balance_142 : decode prog_10_method_49_code 142 = .ok (.iconst 0, 1) := by decide +kernel
theorem d_Md_balance_143 : decode prog_10_method_49_code 143 = .ok (.invokevirtual 88, 3) := by decide +kernel
theorem d_Md_balance_146 : decode prog_10_method_49_code 146 = .ok (.pop, 1) := by decide +kernel
theorem d_Md_balance_147 : decode prog_10_method_49_code 147 = .ok (.aload_n 0, 1) := by decide +kernel
theorem d_Md_balance_148 : decode prog_10_method_49_code 148 = .ok (.aload_n 0, 1) := by decide +kernel
theorem d_Md_balance_149 : decode prog_10_method_49_code 149 = .ok (.getfield 77, 3) := by decide +kernel
theorem d_Md_balance_152 : decode prog_10_method_49_code 152 = .ok (.iconst 1, 1) := by decide +kernel
theorem d_Md_balance_153 : decode prog_10_method_49_code 153 = .ok (.isub, 1) := by decide +kernel
theorem d_Md_balance_154 : decode prog_10_method_49_code 154 = .ok (.aload_n 0, 1) := by decide +kernel
theorem d_Md_balance_155 : decode prog_10_method_49_code 155 = .ok (.getfield 74, 3) := by decide +kernel
theorem d_Md_balance_158 : decode prog_10_method_49_code 158 = .ok (.iload_n 3, 1) := by decide +kernel
theorem d_Md_balance_159 : decode prog_10_method_49_code 159 = .ok (.iaload, 1) := by decide +kernel
theorem d_Md_balance_160 : decode prog_10_method_49_code 160 = .ok (.invokevirtual 194, 3) := by decide +kernel
theorem d_Md_balance_163 : decode prog_10_method_49_code 163 = .ok (.aload_n 0, 1) := by decide +kernel
theorem d_Md_balance_164 : decode prog_10_method_49_code 164 = .ok (.getfield 74, 3) := by decide +kernel
theorem d_Md_balance_167 : decode prog_10_method_49_code 167 = .ok (.iload_n 2, 1) := by decide +kernel
theorem d_Md_balance_168 : decode prog_10_method_49_code 168 = .ok (.aload_n 0, 1) := by decide +kernel
theorem d_Md_balance_169 : decode prog_10_method_49_code 169 = .ok (.getfield 77, 3) := by decide +kernel
theorem d_Md_balance_172 : decode prog_10_method_49_code 172 = .ok (.iconst 1, 1) := by decide +kernel
theorem d_Md_balance_173 : decode prog_10_method_49_code 173 = .ok (.isub, 1) := by decide +kernel
theorem d_Md_balance_174 : decode prog_10_method_49_code 174 = .ok (.iastore, 1) := by decide +kernel
theorem d_Md_balance_175 : decode prog_10_method_49_code 175 = .ok (.iload_n 3, 1) := by decide +kernel
theorem d_Md_balance_176 : decode prog_10_method_49_code 176 = .ok (.iconst 4, 1) := by decide +kernel
theorem d_Md_balance_177 : decode prog_10_method_49_code 177 = .ok (.irem, 1) := by decide +kernel
theorem d_Md_balance_178 : decode prog_10_method_49_code 178 = .ok (.iconst 3, 1) := by decide +kernel
theorem d_Md_balance_179 : decode prog_10_method_49_code 179 = .ok (.if_icmp .ne 9, 3) := by decide +kernel
theorem d_Md_balance_182 : decode prog_10_method_49_code 182 = .ok (.iload_n 2, 1) := by decide +kernel
theorem d_Md_balance_183 : decode prog_10_method_49_code 183 = .ok (.iconst 1, 1) := by decide +kernel
theorem d_Md_balance_184 : decode prog_10_method_49_code 184 = .ok (.iadd, 1) := by decide +kernel
theorem d_Md_balance_185 : decode prog_10_method_49_code 185 = .ok (.goto 4, 3) := by decide +kernel
theorem d_Md_balance_188 : decode prog_10_method_49_code 188 = .ok (.iload_n 2, 1) := by decide +kernel
theorem d_Md_balance_189 : decode prog_10_method_49_code 189 = .ok (.istore_n 2, 1) := by decide +kernel
theorem d_Md_balance_190 : decode prog_10_method_49_code 190 = .ok (.iinc 3 1, 3) := by decide +kernel
theorem d_Md_balance_193 : decode prog_10_method_49_code 193 = .ok (.goto (-68), 3) := by decide +kernel
theorem d_Md_balance_196 : decode prog_10_method_49_code 196 = .ok (.aload_n 0, 1) := by decide +kernel
theorem d_Md_balance_197 : decode prog_10_method_49_code 197 = .ok (.aload_n 0, 1) := by decide +kernel
theorem d_Md_balance_198 : decode prog_10_method_49_code 198 = .ok (.getfield 191, 3) := by decide +kernel
theorem d_Md_balance_201 : decode prog_10_method_49_code 201 = .ok (.iconst 3, 1) := by decide +kernel
theorem d_Md_balance_202 : decode prog_10_method_49_code 202 = .ok (.iadd, 1) := by decide +kernel
theorem d_Md_balance_203 : decode prog_10_method_49_code 203 = .ok (.iconst 4, 1) := by decide +kernel
theorem d_Md_balance_204 : decode prog_10_method_49_code 204 = .ok (.idiv, 1) := by decide +kernel
theorem d_Md_balance_205 : decode prog_10_method_49_code 205 = .ok (.putfield 191, 3) := by decide +kernel
theorem d_Md_balance_208 : decode prog_10_method_49_code 208 = .ok (.goto (-95), 3) := by decide +kernel
theorem d_Md_balance_211 : decode prog_10_method_49_code 211 = .ok (.aload_n 0, 1) := by decide +kernel
theorem d_Md_balance_212 : decode prog_10_method_49_code 212 = .ok (.getfield 17, 3) := by decide +kernel
theorem d_Md_balance_215 : decode prog_10_method_49_code 215 = .ok (.iconst 0, 1) := by decide +kernel
theorem d_Md_balance_216 : decode prog_10_method_49_code 216 = .ok (.iconst 0, 1) := by decide +kernel
theorem d_Md_balance_217 : decode prog_10_method_49_code 217 = .ok (.iastore, 1) := by decide +kernel
theorem d_Md_balance_218 : decode prog_10_method_49_code 218 = .ok (.iconst 0, 1) := by decide +kernel
theorem d_Md_balance_219 : decode prog_10_method_49_code 219 = .ok (.istore_n 2, 1) := by decide +kernel
theorem d_Md_balance_220 : decode prog_10_method_49_code 220 = .ok (.iload_n 2, 1) := by decide +kernel
theorem d_Md_balance_221 : decode prog_10_method_49_code 221 = .ok (.aload_n 0, 1) := by decide +kernel
theorem d_Md_balance_222 : decode prog_10_method_49_code 222 = .ok (.getfield 191, 3) := by decide +kernel
theorem d_Md_balance_225 : decode prog_10_method_49_code 225 = .ok (.if_icmp .ge 20, 3) := by decide +kernel
theorem d_Md_balance_228 : decode prog_10_method_49_code 228 = .ok (.aload_n 0, 1) := by decide +kernel
theorem d_Md_balance_229 : decode prog_10_method_49_code 229 = .ok (.iconst 0, 1) := by decide +kernel
theorem d_Md_balance_230 : decode prog_10_method_49_code 230 = .ok (.aload_n 0, 1) := by decide +kernel
theorem d_Md_balance_231 : decode prog_10_method_49_code 231 = .ok (.getfield 74, 3) := by decide +kernel
theorem d_Md_balance_234 : decode prog_10_method_49_code 234 = .ok (.iload_n 2, 1) := by decide +kernel
theorem d_Md_balance_235 : decode prog_10_method_49_code 235 = .ok (.iaload, 1) := by decide +kernel
theorem d_Md_balance_236 : decode prog_10_method_49_code 236 = .ok (.invokevirtual 194, 3) := by decide +kernel
theorem d_Md_balance_239 : decode prog_10_method_49_code 239 = .ok (.iinc 2 1, 3) := by decide +kernel
theorem d_Md_balance_242 : decode prog_10_method_49_code 242 = .ok (.goto (-22), 3) := by decide +kernel
theorem d_Md_balance_245 : decode prog_10_method_49_code 245 = .ok (.iload_n 1, 1) := by decide +kernel
theorem d_Md_balance_246 : decode prog_10_method_49_code 246 = .ok (.ireturn, 1) := by decide +kernel
theorem d_Md_count_0 : decode prog_10_method_50_code 0 = .ok (.iload_n 1, 1) := by decide +kernel
theorem d_Md_count_1 : decode prog_10_method_50_code 1 = .ok (.ifCond .ne 10, 3) := by decide +kernel
theorem d_Md_count_4 : decode prog_10_method_50_code 4 = .ok (.aload_n 0, 1) := by decide +kernel
theorem d_Md_count_5 : decode prog_10_method_50_code 5 = .ok (.getfield 77, 3) := by decide +kernel
theorem d_Md_count_8 : decode prog_10_method_50_code 8 = .ok (.goto 29, 3) := by decide +kernel
theorem d_Md_count_11 : decode prog_10_method_50_code 11 = .ok (.iload_n 1, 1) := by decide +kernel
theorem d_Md_count_12 : decode prog_10_method_50_code 12 = .ok (.iconst 1, 1) := by decide +kernel
theorem d_Md_count_13 : decode prog_10_method_50_code 13 = .ok (.if_icmp .ne 10, 3) := by decide +kernel
theorem d_Md_count_16 : decode prog_10_method_50_code 16 = .ok (.aload_n 0, 1) := by decide +kernel
theorem d_Md_count_17 : decode prog_10_method_50_code 17 = .ok (.getfield 163, 3) := by decide +kernel
theorem d_Md_count_20 : decode prog_10_method_50_code 20 = .ok (.goto 17, 3) := by decide +kernel
theorem d_Md_count_23 : decode prog_10_method_50_code 23 = .ok (.iload_n 1, 1) := by decide +kernel
theorem d_Md_count_24 : decode prog_10_method_50_code 24 = .ok (.iconst 2, 1) := by decide +kernel
theorem d_Md_count_25 : decode prog_10_method_50_code 25 = .ok (.if_icmp .ne 10, 3) := by decide +kernel
theorem d_Md_count_28 : decode prog_10_method_50_code 28 = .ok (.aload_n 0, 1) := by decide +kernel
theorem d_Md_count_29 : decode prog_10_method_50_code 29 = .ok (.getfield 160, 3) := by decide +kernel
theorem d_Md_count_32 : decode prog_10_method_50_code 32 = .ok (.goto 5, 3) := by decide +kernel
theorem d_Md_count_35 : decode prog_10_method_50_code 35 = .ok (.bipush (-2), 2) := by decide +kernel
theorem d_Md_count_37 : decode prog_10_method_50_code 37 = .ok (.ireturn, 1) := by decide +kernel
