theorem d_Md_sayPlace_34 : decode prog_10_method_40_code 34 = .ok (.iload_n 1, 1) := by decide +kernel
theorem d_Md_sayPlace_35 : decode prog_10_method_40_code 35 = .ok (.iconst 4, 1) := by decide +kernel
theorem d_Md_sayPlace_36 : decode prog_10_method_40_code 36 = .ok (.if_icmp .le 8, 3) := by decide +kernel
theorem d_Md_sayPlace_39 : decode prog_10_method_40_code 39 = .ok (.aload_n 0, 1) := by decide +kernel
theorem d_Md_sayPlace_40 : decode prog_10_method_40_code 40 = .ok (.iload_n 3, 1) := by decide +kernel
theorem d_Md_sayPlace_41 : decode prog_10_method_40_code 41 = .ok (.invokevirtual 169, 3) := by decide +kernel
theorem d_Md_sayPlace_44 : decode prog_10_method_40_code 44 = .ok (.iconst 0, 1) := by decide +kernel
theorem d_Md_sayPlace_45 : decode prog_10_method_40_code 45 = .ok (.istore 5, 2) := by decide +kernel
theorem d_Md_sayPlace_47 : decode prog_10_method_40_code 47 = .ok (.iload 5, 2) := by decide +kernel
theorem d_Md_sayPlace_49 : decode prog_10_method_40_code 49 = .ok (.iload_n 1, 1) := by decide +kernel
theorem d_Md_sayPlace_50 : decode prog_10_method_40_code 50 = .ok (.iconst 5, 1) := by decide +kernel
theorem d_Md_sayPlace_51 : decode prog_10_method_40_code 51 = .ok (.irem, 1) := by decide +kernel
theorem d_Md_sayPlace_52 : decode prog_10_method_40_code 52 = .ok (.if_icmp .ge 14, 3) := by decide +kernel
theorem d_Md_sayPlace_55 : decode prog_10_method_40_code 55 = .ok (.aload_n 0, 1) := by decide +kernel
theorem d_Md_sayPlace_56 : decode prog_10_method_40_code 56 = .ok (.iload_n 2, 1) := by decide +kernel
theorem d_Md_sayPlace_57 : decode prog_10_method_40_code 57 = .ok (.invokevirtual 169, 3) := by decide +kernel
theorem d_Md_sayPlace_60 : decode prog_10_method_40_code 60 = .ok (.iinc 5 1, 3) := by decide +kernel
theorem d_Md_sayPlace_63 : decode prog_10_method_40_code 63 = .ok (.goto (-16), 3) := by decide +kernel
theorem d_Md_sayPlace_66 : decode prog_10_method_40_code 66 = .ok (.return_, 1) := by decide +kernel
theorem d_Md_sayRoman_0 : decode prog_10_method_41_code 0 = .ok (.iconst 0, 1) := by decide +kernel
theorem d_Md_sayRoman_1 : decode prog_10_method_41_code 1 = .ok (.istore_n 2, 1) := by decide +kernel
theorem d_Md_sayRoman_2 : decode prog_10_method_41_code 2 = .ok (.iload_n 2, 1) := by decide +kernel
theorem d_Md_sayRoman_3 : decode prog_10_method_41_code 3 = .ok (.iload_n 1, 1) := by decide +kernel
theorem d_Md_sayRoman_4 : decode prog_10_method_41_code 4 = .ok (.sipush 1000, 3) := by decide +kernel
theorem d_Md_sayRoman_7 : decode prog_10_method_41_code 7 = .ok (.idiv, 1) := by decide +kernel
theorem d_Md_sayRoman_8 : decode prog_10_method_41_code 8 = .ok (.if_icmp .ge 15, 3) := by decide +kernel
theorem d_Md_sayRoman_11 : decode prog_10_method_41_code 11 = .ok (.aload_n 0, 1) := by decide +kernel
theorem d_Md_sayRoman_12 : decode prog_10_method_41_code 12 = .ok (.bipush 109, 2) := by decide +kernel
theorem d_Md_sayRoman_14 : decode prog_10_method_41_code 14 = .ok (.invokevirtual 169, 3) := by decide +kernel
theorem d_Md_sayRoman_17 : decode prog_10_method_41_code 17 = .ok (.iinc 2 1, 3) := by decide +kernel
theorem d_Md_sayRoman_20 : decode prog_10_method_41_code 20 = .ok (.goto (-18), 3) := by decide +kernel
theorem d_Md_sayRoman_23 : decode prog_10_method_41_code 23 = .ok (.aload_n 0, 1) := by decide +kernel
theorem d_Md_sayRoman_24 : decode prog_10_method_41_code 24 = .ok (.iload_n 1, 1) := by decide +kernel
theorem d_Md_sayRoman_25 : decode prog_10_method_41_code 25 = .ok (.bipush 100, 2) := by decide +kernel
theorem d_Md_sayRoman_27 : decode prog_10_method_41_code 27 = .ok (.idiv, 1) := by decide +kernel
theorem d_Md_sayRoman_28 : decode prog_10_method_41_code 28 = .ok (.bipush 10, 2) := by decide +kernel
theorem d_Md_sayRoman_30 : decode prog_10_method_41_code 30 = .ok (.irem, 1) := by decide +kernel
theorem d_Md_sayRoman_31 : decode prog_10_method_41_code 31 = .ok (.bipush 99, 2) := by decide +kernel
theorem d_Md_sayRoman_33 : decode prog_10_method_41_code 33 = .ok (.bipush 100, 2) := by decide +kernel
theorem d_Md_sayRoman_35 : decode prog_10_method_41_code 35 = .ok (.bipush 109, 2) := by decide +kernel
theorem d_Md_sayRoman_37 : decode prog_10_method_41_code 37 = .ok (.invokevirtual 172, 3) := by decide +kernel
theorem d_Md_sayRoman_40 : decode prog_10_method_41_code 40 = .ok (.aload_n 0, 1) := by decide +kernel
theorem d_Md_sayRoman_41 : decode prog_10_method_41_code 41 = .ok (.iload_n 1, 1) := by decide +kernel
theorem d_Md_sayRoman_42 : decode prog_10_method_41_code 42 = .ok (.bipush 10, 2) := by decide +kernel
theorem d_Md_sayRoman_44 : decode prog_10_method_41_code 44 = .ok (.idiv, 1) := by decide +kernel
theorem d_Md_sayRoman_45 : decode prog_10_method_41_code 45 = .ok (.bipush 10, 2) := by decide +kernel
theorem d_Md_sayRoman_47 : decode prog_10_method_41_code 47 = .ok (.irem, 1) := by decide +kernel
theorem d_Md_sayRoman_48 : decode prog_10_method_41_code 48 = .ok (.bipush 120, 2) := by decide +kernel
theorem d_Md_sayRoman_50 : decode prog_10_method_41_code 50 = .ok (.bipush 108, 2) := by decide +kernel
theorem d_Md_sayRoman_52 : decode prog_10_method_41_code 52 = .ok (.bipush 99, 2) := by decide +kernel
theorem d_Md_sayRoman_54 : decode prog_10_method_41_code 54 = .ok (.invokevirtual 172, 3) := by decide +kernel
theorem d_Md_sayRoman_57 : decode prog_10_method_41_code 57 = .ok (.aload_n 0, 1) := by decide +kernel
theorem d_Md_sayRoman_58 : decode prog_10_method_41_code 58 = .ok (.iload_n 1, 1) := by decide +kernel
theorem d_Md_sayRoman_59 : decode prog_10_method_41_code 59 = .ok (.bipush 10, 2) := by decide +kernel
theorem d_Md_sayRoman_61 : decode prog_10_method_41_code 61 = .ok (.irem, 1) := by decide +kernel
theorem d_Md_sayRoman_62 : decode prog_10_method_41_code 62 = .ok (.bipush 105, 2) := by decide +kernel
theorem d_Md_sayRoman_64 : decode prog_10_method_41_code 64 = .ok (.bipush 118, 2) := by decide +kernel
theorem d_Md_sayRoman_66 : decode prog_10_method_41_code 66 = .ok (.bipush 120, 2) := by decide +kernel
theorem d_Md_sayRoman_68 : decode prog_10_method_41_code 68 = .ok (.invokevirtual 172, 3) := by decide +kernel
theorem d_Md_sayRoman_71 : decode prog_10_method_41_code 71 = .ok (.return_, 1) := by decide +kernel
theorem d_Md_sayLabel_0 : decode prog_10_method_42_code 0 = .ok (.aload_n 0, 1) := by decide +kernel
theorem d_Md_sayLabel_1 : decode prog_10_method_42_code 1 = .ok (.iconst 0, 1) := by decide +kernel
theorem d_Md_sayLabel_2 : decode prog_10_method_42_code 2 = .ok (.putfield 166, 3) := by decide +kernel
theorem d_Md_sayLabel_5 : decode prog_10_method_42_code 5 = .ok (.iconst (-1), 1) := by decide +kernel
theorem d_Md_sayLabel_6 : decode prog_10_method_42_code 6 = .ok (.istore_n 2, 1) := by decide +kernel
theorem d_Md_sayLabel_7 : decode prog_10_method_42_code 7 = .ok (.iconst 0, 1) := by decide +kernel
theorem d_Md_sayLabel_8 : decode prog_10_method_42_code 8 = .ok (.istore_n 3, 1) := by decide +kernel
theorem d_Md_sayLabel_9 : decode prog_10_method_42_code 9 = .ok (.iload_n 3, 1) := by decide +kernel
theorem d_Md_sayLabel_10 : decode prog_10_method_42_code 10 = .ok (.aload_n 0, 1) := by decide +kernel
theorem d_Md_sayLabel_11 : decode prog_10_method_42_code 11 = .ok (.getfield 163, 3) := by decide +kernel
theorem d_Md_sayLabel_14 : decode prog_10_method_42_code 14 = .ok (.if_icmp .ge 56, 3) := by decide +kernel
theorem d_Md_sayLabel_17 : decode prog_10_method_42_code 17 = .ok (.aload_n 0, 1) := by decide +kernel
theorem d_Md_sayLabel_18 : decode prog_10_method_42_code 18 = .ok (.getfield 56, 3) := by decide +kernel
theorem d_Md_sayLabel_21 : decode prog_10_method_42_code 21 = .ok (.iload_n 3, 1) := by decide +kernel
theorem d_Md_sayLabel_22 : decode prog_10_method_42_code 22 = .ok (.iaload, 1) := by decide +kernel
theorem d_Md_sayLabel_23 : decode prog_10_method_42_code 23 = .ok (.iload_n 1, 1) := by decide +kernel
theorem d_Md_sayLabel_24 : decode prog_10_method_42_code 24 = .ok (.if_icmp .gt 26, 3) := by decide +kernel
theorem d_Md_sayLabel_27 : decode prog_10_method_42_code 27 = .ok (.iload_n 2, 1) := by decide +kernel
theorem d_Md_sayLabel_28 : decode prog_10_method_42_code 28 = .ok (.ifCond .lt 18, 3) := by decide +kernel
theorem d_Md_sayLabel_31 : decode prog_10_method_42_code 31 = .ok (.aload_n 0, 1) := by decide +kernel
theorem d_Md_sayLabel_32 : decode prog_10_method_42_code 32 = .ok (.getfield 56, 3) := by decide +kernel
theorem d_Md_sayLabel_35 : decode prog_10_method_42_code 35 = .ok (.iload_n 3, 1) := by decide +kernel
theorem d_Md_sayLabel_36 : decode prog_10_method_42_code 36 = .ok (.iaload, 1) := by decide +kernel
theorem d_Md_sayLabel_37 : decode prog_10_method_42_code 37 = .ok (.aload_n 0, 1) := by decide +kernel
theorem d_Md_sayLabel_38 : decode prog_10_method_42_code 38 = .ok (.getfield 56, 3) := by decide +kernel
theorem d_Md_sayLabel_41 : decode prog_10_method_42_code 41 = .ok (.iload_n 2, 1) := by decide +kernel
theorem d_Md_sayLabel_42 : decode prog_10_method_42_code 42 = .ok (.iaload, 1) := by decide +kernel
theorem d_Md_sayLabel_43 : decode prog_10_method_42_code 43 = .ok (.if_icmp .le 7, 3) := by decide +kernel
theorem d_Md_sayLabel_46 : decode prog_10_method_42_code 46 = .ok (.iconst 1, 1) := by decide +kernel
theorem d_Md_sayLabel_47 : decode prog_10_method_42_code 47 = .ok (.goto 4, 3) := by decide +kernel
theorem d_Md_sayLabel_50 : decode prog_10_method_42_code 50 = .ok (.iconst 0, 1) := by decide +kernel
theorem d_Md_sayLabel_51 : decode prog_10_method_42_code 51 = .ok (.istore 4, 2) := by decide +kernel
theorem d_Md_sayLabel_53 : decode prog_10_method_42_code 53 = .ok (.iload 4, 2) := by decide +kernel
theorem d_Md_sayLabel_55 : decode prog_10_method_42_code 55 = .ok (.ifCond .eq 7, 3) := by decide +kernel
theorem d_Md_sayLabel_58 : decode prog_10_method_42_code 58 = .ok (.iload_n 3, 1) := by decide +kernel
theorem d_Md_sayLabel_59 : decode prog_10_method_42_code 59 = .ok (.goto 4, 3) := by decide +kernel
theorem d_Md_sayLabel_62 : decode prog_10_method_42_code 62 = .ok (.iload_n 2, 1) := by decide +kernel
theorem d_Md_sayLabel_63 : decode prog_10_method_42_code 63 = .ok (.istore_n 2, 1) := by decide +kernel
theorem d_Md_sayLabel_64 : decode prog_10_method_42_code 64 = .ok (.iinc 3 1, 3) := by decide +kernel
theorem d_Md_sayLabel_67 : decode prog_10_method_42_code 67 = .ok (.goto (-58), 3) := by decide +kernel
theorem d_Md_sayLabel_70 : decode prog_10_method_42_code 70 = .ok (.iload_n 2, 1) := by decide +kernel
theorem d_Md_sayLabel_71 : decode prog_10_method_42_code 71 = .ok (.ifCond .ge 9, 3) := by decide +kernel
theorem d_Md_sayLabel_74 : decode prog_10_method_42_code 74 = .ok (.iload_n 1, 1) := by decide +kernel
theorem d_Md_sayLabel_75 : decode prog_10_method_42_code 75 = .ok (.iconst 1, 1) := by decide +kernel
theorem d_Md_sayLabel_76 : decode prog_10_method_42_code 76 = .ok (.iadd, 1) := by decide +kernel
theorem d_Md_sayLabel_77 : decode prog_10_method_42_code 77 = .ok (.goto 18, 3) := by decide +kernel
theorem d_Md_sayLabel_80 : decode prog_10_method_42_code 80 = .ok (.aload_n 0, 1) := by decide +kernel
theorem d_Md_sayLabel_81 : decode prog_10_method_42_code 81 = .ok (.getfield 62, 3) := by decide +kernel
theorem d_Md_sayLabel_84 : decode prog_10_method_42_code 84 = .ok (.iload_n 2, 1) := by decide +kernel
theorem d_Md_sayLabel_85 : decode prog_10_method_42_code 85 = .ok (.iaload, 1) := by decide +kernel
theorem d_Md_sayLabel_86 : decode prog_10_method_42_code 86 = .ok (.iload_n 1, 1) := by decide +kernel
theorem d_Md_sayLabel_87 : decode prog_10_method_42_code 87 = .ok (.iadd, 1) := by decide +kernel
theorem d_Md_sayLabel_88 : decode prog_10_method_42_code 88 = .ok (.aload_n 0, 1) := by decide +kernel
theorem d_Md_sayLabel_89 : decode prog_10_method_42_code 89 = .ok (.getfield 56, 3) := by decide +kernel
theorem d_Md_sayLabel_92 : decode prog_10_method_42_code 92 = .ok (.iload_n 2, 1) := by decide +kernel
theorem d_Md_sayLabel_93 : decode prog_10_method_42_code 93 = .ok (.iaload, 1) := by decide +kernel
theorem d_Md_sayLabel_94 : decode prog_10_method_42_code 94 = .ok (.isub, 1) := by decide +kernel
theorem d_Md_sayLabel_95 : decode prog_10_method_42_code 95 = .ok (.istore_n 3, 1) := by decide +kernel
theorem d_Md_sayLabel_96 : decode prog_10_method_42_code 96 = .ok (.iload_n 2, 1) := by decide +kernel
theorem d_Md_sayLabel_97 : decode prog_10_method_42_code 97 = .ok (.ifCond .ge 7, 3) := by decide +kernel
theorem d_Md_sayLabel_100 : decode prog_10_method_42_code 100 = .ok (.iconst 0, 1) := by decide +kernel
theorem d_Md_sayLabel_101 : decode prog_10_method_42_code 101 = .ok (.goto 9, 3) := by decide +kernel
theorem d_Md_sayLabel_104 : decode prog_10_method_42_code 104 = .ok (.aload_n 0, 1) := by decide +kernel
theorem d_Md_sayLabel_105 : decode prog_10_method_42_code 105 = .ok (.getfield 59, 3) := by decide +kernel
theorem d_Md_sayLabel_108 : decode prog_10_method_42_code 108 = .ok (.iload_n 2, 1) := by decide +kernel
theorem d_Md_sayLabel_109 : decode prog_10_method_42_code 109 = .ok (.iaload, 1) := by decide +kernel
theorem d_Md_sayLabel_110 : decode prog_10_method_42_code 110 = .ok (.istore 4, 2) := by decide +kernel
theorem d_Md_sayLabel_112 : decode prog_10_method_42_code 112 = .ok (.iload 4, 2) := by decide +kernel
theorem d_Md_sayLabel_114 : decode prog_10_method_42_code 114 = .ok (.ifCond .ne 11, 3) := by decide +kernel
theorem d_Md_sayLabel_117 : decode prog_10_method_42_code 117 = .ok (.aload_n 0, 1) := by decide +kernel
theorem d_Md_sayLabel_118 : decode prog_10_method_42_code 118 = .ok (.iload_n 3, 1) := by decide +kernel
theorem d_Md_sayLabel_119 : decode prog_10_method_42_code 119 = .ok (.invokevirtual 176, 3) := by decide +kernel
theorem d_Md_sayLabel_122 : decode prog_10_method_42_code 122 = .ok (.goto 50, 3) := by decide +kernel
theorem d_Md_sayLabel_125 : decode prog_10_method_42_code 125 = .ok (.iload 4, 2) := by decide +kernel
theorem d_Md_sayLabel_127 : decode prog_10_method_42_code 127 = .ok (.iconst 1, 1) := by decide +kernel
theorem d_Md_sayLabel_128 : decode prog_10_method_42_code 128 = .ok (.if_icmp .ne 11, 3) := by decide +kernel
theorem d_Md_sayLabel_131 : decode prog_10_method_42_code 131 = .ok (.aload_n 0, 1) := by decide +kernel
theorem d_Md_sayLabel_132 : decode prog_10_method_42_code 132 = .ok (.iload_n 3, 1) := by decide +kernel
theorem d_Md_sayLabel_133 : decode prog_10_method_42_code 133 = .ok (.invokevirtual 179, 3) := by decide +kernel
theorem d_Md_sayLabel_136 : decode prog_10_method_42_code 136 = .ok (.goto 36, 3) := by decide +kernel
theorem d_Md_sayLabel_139 : decode prog_10_method_42_code 139 = .ok (.iconst 0, 1) := by decide +kernel
theorem d_Md_sayLabel_140 : decode prog_10_method_42_code 140 = .ok (.istore 5, 2) := by decide +kernel
theorem d_Md_sayLabel_142 : decode prog_10_method_42_code 142 = .ok (.iload 5, 2) := by decide +kernel
theorem d_Md_sayLabel_144 : decode prog_10_method_42_code 144 = .ok (.iload_n 3, 1) := by decide +kernel
theorem d_Md_sayLabel_145 : decode prog_10_method_42_code 145 = .ok (.iconst 1, 1) := by decide +kernel
theorem d_Md_sayLabel_146 : decode prog_10_method_42_code 146 = .ok (.isub, 1) := by decide +kernel
theorem d_Md_sayLabel_147 : decode prog_10_method_42_code 147 = .ok (.bipush 26, 2) := by decide +kernel
theorem d_Md_sayLabel_149 : decode prog_10_method_42_code 149 = .ok (.idiv, 1) := by decide +kernel
theorem d_Md_sayLabel_150 : decode prog_10_method_42_code 150 = .ok (.if_icmp .gt 22, 3) := by decide +kernel
theorem d_Md_sayLabel_153 : decode prog_10_method_42_code 153 = .ok (.aload_n 0, 1) := by decide +kernel
theorem d_Md_sayLabel_154 : decode prog_10_method_42_code 154 = .ok (.bipush 97, 2) := by decide +kernel
theorem d_Md_sayLabel_156 : decode prog_10_method_42_code 156 = .ok (.iload_n 3, 1) := by decide +kernel
theorem d_Md_sayLabel_157 : decode prog_10_method_42_code 157 = .ok (.iconst 1, 1) := by decide +kernel
theorem d_Md_sayLabel_158 : decode prog_10_method_42_code 158 = .ok (.isub, 1) := by decide +kernel
theorem d_Md_sayLabel_159 : decode prog_10_method_42_code 159 = .ok (.bipush 26, 2) := by decide +kernel
theorem d_Md_sayLabel_161 : decode prog_10_method_42_code 161 = .ok (.irem, 1) := by decide +kernel
theorem d_Md_sayLabel_162 : decode prog_10_method_42_code 162 = .ok (.iadd, 1) := by decide +kernel
theorem d_Md_sayLabel_163 : decode prog_10_method_42_code 163 = .ok (.invokevirtual 169, 3) := by decide +kernel
theorem d_Md_sayLabel_166 : decode prog_10_method_42_code 166 = .ok (.iinc 5 1, 3) := by decide +kernel
theorem d_Md_sayLabel_169 : decode prog_10_method_42_code 169 = .ok (.goto (-27), 3) := by decide +kernel
theorem d_Md_sayLabel_172 : decode prog_10_method_42_code 172 = .ok (.return_, 1) := by decide +kernel
theorem d_Md_text_0 : decode prog_10_method_43_code 0 = .ok (.aload_n 0, 1) := by decide +kernel
theorem d_Md_text_1 : decode prog_10_method_43_code 1 = .ok (.invokevirtual 124, 3) := by decide +kernel
theorem d_Md_text_4 : decode prog_10_method_43_code 4 = .ok (.iload_n 1, 1) := by decide +kernel
theorem d_Md_text_5 : decode prog_10_method_43_code 5 = .ok (.iconst 0, 1) := by decide +kernel
theorem d_Md_text_6 : decode prog_10_method_43_code 6 = .ok (.aload_n 0, 1) := by decide +kernel
theorem d_Md_text_7 : decode prog_10_method_43_code 7 = .ok (.getfield 105, 3) := by decide +kernel
theorem d_Md_text_10 : decode prog_10_method_43_code 10 = .ok (.iconst 1, 1) := by decide +kernel
theorem d_Md_text_11 : decode prog_10_method_43_code 11 = .ok (.isub, 1) := by decide +kernel
theorem d_Md_text_12 : decode prog_10_method_43_code 12 = .ok (.invokestatic 96, 3) := by decide +kernel
theorem d_Md_text_15 : decode prog_10_method_43_code 15 = .ok (.ifCond .ne 5, 3) := by decide +kernel
theorem d_Md_text_18 : decode prog_10_method_43_code 18 = .ok (.iconst (-1), 1) := by decide +kernel
theorem d_Md_text_19 : decode prog_10_method_43_code 19 = .ok (.ireturn, 1) := by decide +kernel
theorem d_Md_text_20 : decode prog_10_method_43_code 20 = .ok (.aload_n 0, 1) := by decide +kernel
theorem d_Md_text_21 : decode prog_10_method_43_code 21 = .ok (.iload_n 1, 1) := by decide +kernel
theorem d_Md_text_22 : decode prog_10_method_43_code 22 = .ok (.invokevirtual 182, 3) := by decide +kernel
theorem d_Md_text_25 : decode prog_10_method_43_code 25 = .ok (.iload_n 2, 1) := by decide +kernel
theorem d_Md_text_26 : decode prog_10_method_43_code 26 = .ok (.iconst 0, 1) := by decide +kernel
theorem d_Md_text_27 : decode prog_10_method_43_code 27 = .ok (.aload_n 0, 1) := by decide +kernel
theorem d_Md_text_28 : decode prog_10_method_43_code 28 = .ok (.getfield 166, 3) := by decide +kernel
theorem d_Md_text_31 : decode prog_10_method_43_code 31 = .ok (.iconst 1, 1) := by decide +kernel
theorem d_Md_text_32 : decode prog_10_method_43_code 32 = .ok (.isub, 1) := by decide +kernel
theorem d_Md_text_33 : decode prog_10_method_43_code 33 = .ok (.invokestatic 96, 3) := by decide +kernel
theorem d_Md_text_36 : decode prog_10_method_43_code 36 = .ok (.ifCond .eq 12, 3) := by decide +kernel
theorem d_Md_text_39 : decode prog_10_method_43_code 39 = .ok (.aload_n 0, 1) := by decide +kernel
theorem d_Md_text_40 : decode prog_10_method_43_code 40 = .ok (.getfield 71, 3) := by decide +kernel
theorem d_Md_text_43 : decode prog_10_method_43_code 43 = .ok (.iload_n 2, 1) := by decide +kernel
theorem d_Md_text_44 : decode prog_10_method_43_code 44 = .ok (.iaload, 1) := by decide +kernel
theorem d_Md_text_45 : decode prog_10_method_43_code 45 = .ok (.goto 4, 3) := by decide +kernel
theorem d_Md_text_48 : decode prog_10_method_43_code 48 = .ok (.iconst (-1), 1) := by decide +kernel
theorem d_Md_text_49 : decode prog_10_method_43_code 49 = .ok (.ireturn, 1) := by decide +kernel
theorem d_Md_named_0 : decode prog_10_method_44_code 0 = .ok (.iconst (-1), 1) := by decide +kernel
theorem d_Md_named_1 : decode prog_10_method_44_code 1 = .ok (.istore_n 2, 1) := by decide +kernel
theorem d_Md_named_2 : decode prog_10_method_44_code 2 = .ok (.iconst 0, 1) := by decide +kernel
theorem d_Md_named_3 : decode prog_10_method_44_code 3 = .ok (.istore_n 3, 1) := by decide +kernel
theorem d_Md_named_4 : decode prog_10_method_44_code 4 = .ok (.iload_n 3, 1) := by decide +kernel
theorem d_Md_named_5 : decode prog_10_method_44_code 5 = .ok (.aload_n 0, 1) := by decide +kernel
theorem d_Md_named_6 : decode prog_10_method_44_code 6 = .ok (.getfield 160, 3) := by decide +kernel
theorem d_Md_named_9 : decode prog_10_method_44_code 9 = .ok (.if_icmp .ge 25, 3) := by decide +kernel
theorem d_Md_named_12 : decode prog_10_method_44_code 12 = .ok (.aload_n 0, 1) := by decide +kernel
theorem d_Md_named_13 : decode prog_10_method_44_code 13 = .ok (.getfield 65, 3) := by decide +kernel
theorem d_Md_named_16 : decode prog_10_method_44_code 16 = .ok (.iload_n 3, 1) := by decide +kernel
theorem d_Md_named_17 : decode prog_10_method_44_code 17 = .ok (.iaload, 1) := by decide +kernel
theorem d_Md_named_18 : decode prog_10_method_44_code 18 = .ok (.iload_n 1, 1) := by decide +kernel
theorem d_Md_named_19 : decode prog_10_method_44_code 19 = .ok (.if_icmp .ne 7, 3) := by decide +kernel
theorem d_Md_named_22 : decode prog_10_method_44_code 22 = .ok (.iload_n 3, 1) := by decide +kernel
theorem d_Md_named_23 : decode prog_10_method_44_code 23 = .ok (.goto 4, 3) := by decide +kernel
theorem d_Md_named_26 : decode prog_10_method_44_code 26 = .ok (.iload_n 2, 1) := by decide +kernel
theorem d_Md_named_27 : decode prog_10_method_44_code 27 = .ok (.istore_n 2, 1) := by decide +kernel
theorem d_Md_named_28 : decode prog_10_method_44_code 28 = .ok (.iinc 3 1, 3) := by decide +kernel
theorem d_Md_named_31 : decode prog_10_method_44_code 31 = .ok (.goto (-27), 3) := by decide +kernel
theorem d_Md_named_34 : decode prog_10_method_44_code 34 = .ok (.iload_n 2, 1) := by decide +kernel
theorem d_Md_named_35 : decode prog_10_method_44_code 35 = .ok (.ireturn, 1) := by decide +kernel
theorem d_Md_name_0 : decode prog_10_method_45_code 0 = .ok (.aload_n 0, 1) := by decide +kernel
theorem d_Md_name_1 : decode prog_10_method_45_code 1 = .ok (.iload_n 2, 1) := by decide +kernel
theorem d_Md_name_2 : decode prog_10_method_45_code 2 = .ok (.invokevirtual 127, 3) := by decide +kernel
theorem d_Md_name_5 : decode prog_10_method_45_code 5 = .ok (.ifCond .ge 5, 3) := by decide +kernel
theorem d_Md_name_8 : decode prog_10_method_45_code 8 = .ok (.iconst (-1), 1) := by decide +kernel
theorem d_Md_name_9 : decode prog_10_method_45_code 9 = .ok (.ireturn, 1) := by decide +kernel
theorem d_Md_name_10 : decode prog_10_method_45_code 10 = .ok (.iload_n 1, 1) := by decide +kernel
theorem d_Md_name_11 : decode prog_10_method_45_code 11 = .ok (.iconst 0, 1) := by decide +kernel
theorem d_Md_name_12 : decode prog_10_method_45_code 12 = .ok (.sipush 9999, 3) := by decide +kernel
theorem d_Md_name_15 : decode prog_10_method_45_code 15 = .ok (.invokestatic 96, 3) := by decide +kernel
theorem d_Md_name_18 : decode prog_10_method_45_code 18 = .ok (.ifCond .ne 6, 3) := by decide +kernel
theorem d_Md_name_21 : decode prog_10_method_45_code 21 = .ok (.bipush (-2), 2) := by decide +kernel
theorem d_Md_name_23 : decode prog_10_method_45_code 23 = .ok (.ireturn, 1) := by decide +kernel
theorem d_Md_name_24 : decode prog_10_method_45_code 24 = .ok (.aload_n 0, 1) := by decide +kernel
theorem d_Md_name_25 : decode prog_10_method_45_code 25 = .ok (.iload_n 1, 1) := by decide +kernel
theorem d_Md_name_26 : decode prog_10_method_45_code 26 = .ok (.invokevirtual 185, 3) := by decide +kernel
theorem d_Md_name_29 : decode prog_10_method_45_code 29 = .ok (.ifCond .lt 6, 3) := by decide +kernel
theorem d_Md_name_32 : decode prog_10_method_45_code 32 = .ok (.bipush (-3), 2) := by decide +kernel
theorem d_Md_name_34 : decode prog_10_method_45_code 34 = .ok (.ireturn, 1) := by decide +kernel
theorem d_Md_name_35 : decode prog_10_method_45_code 35 = .ok (.aload_n 0, 1) := by decide +kernel
theorem d_Md_name_36 : decode prog_10_method_45_code 36 = .ok (.getfield 160, 3) := by decide +kernel
theorem d_Md_name_39 : decode prog_10_method_45_code 39 = .ok (.bipush 60, 2) := by decide +kernel
theorem d_Md_name_41 : decode prog_10_method_45_code 41 = .ok (.if_icmp .ne 6, 3) := by decide +kernel
theorem d_Md_name_44 : decode prog_10_method_45_code 44 = .ok (.bipush (-4), 2) := by decide +kernel
theorem d_Md_name_46 : decode prog_10_method_45_code 46 = .ok (.ireturn, 1) := by decide +kernel
theorem d_Md_name_47 : decode prog_10_method_45_code 47 = .ok (.aload_n 0, 1) := by decide +kernel
theorem d_Md_name_48 : decode prog_10_method_45_code 48 = .ok (.getfield 65, 3) := by decide +kernel
theorem d_Md_name_51 : decode prog_10_method_45_code 51 = .ok (.aload_n 0, 1) := by decide +kernel
theorem d_Md_name_52 : decode prog_10_method_45_code 52 = .ok (.getfield 160, 3) := by decide +kernel
theorem d_Md_name_55 : decode prog_10_method_45_code 55 = .ok (.iload_n 1, 1) := by decide +kernel
theorem d_Md_name_56 : decode prog_10_method_45_code 56 = .ok (.iastore, 1) := by decide +kernel
theorem d_Md_name_57 : decode prog_10_method_45_code 57 = .ok (.aload_n 0, 1) := by decide +kernel
theorem d_Md_name_58 : decode prog_10_method_45_code 58 = .ok (.getfield 68, 3) := by decide +kernel
theorem d_Md_name_61 : decode prog_10_method_45_code 61 = .ok (.aload_n 0, 1) := by decide +kernel
theorem d_Md_name_62 : decode prog_10_method_45_code 62 = .ok (.getfield 160, 3) := by decide +kernel
theorem d_Md_name_65 : decode prog_10_method_45_code 65 = .ok (.iload_n 2, 1) := by decide +kernel
theorem d_Md_name_66 : decode prog_10_method_45_code 66 = .ok (.iastore, 1) := by decide +kernel
theorem d_Md_name_67 : decode prog_10_method_45_code 67 = .ok (.aload_n 0, 1) := by decide +kernel
theorem d_Md_name_68 : decode prog_10_method_45_code 68 = .ok (.dup, 1) := by decide +kernel
theorem d_Md_name_69 : decode prog_10_method_45_code 69 = .ok (.getfield 160, 3) := by decide +kernel
theorem d_Md_name_72 : decode prog_10_method_45_code 72 = .ok (.iconst 1, 1) := by decide +kernel
theorem d_Md_name_73 : decode prog_10_method_45_code 73 = .ok (.iadd, 1) := by decide +kernel
theorem d_Md_name_74 : decode prog_10_method_45_code 74 = .ok (.putfield 160, 3) := by decide +kernel
theorem d_Md_name_77 : decode prog_10_method_45_code 77 = .ok (.aload_n 0, 1) := by decide +kernel
theorem d_Md_name_78 : decode prog_10_method_45_code 78 = .ok (.getfield 160, 3) := by decide +kernel
theorem d_Md_name_81 : decode prog_10_method_45_code 81 = .ok (.ireturn, 1) := by decide +kernel
theorem d_Md_look_0 : decode prog_10_method_46_code 0 = .ok (.aload_n 0, 1) := by decide +kernel
theorem d_Md_look_1 : decode prog_10_method_46_code 1 = .ok (.iload_n 1, 1) := by decide +kernel
theorem d_Md_look_2 : decode prog_10_method_46_code 2 = .ok (.invokevirtual 185, 3) := by decide +kernel
theorem d_Md_look_5 : decode prog_10_method_46_code 5 = .ok (.istore_n 2, 1) := by decide +kernel
theorem d_Md_look_6 : decode prog_10_method_46_code 6 = .ok (.iload_n 2, 1) := by decide +kernel
theorem d_Md_look_7 : decode prog_10_method_46_code 7 = .ok (.ifCond .ge 7, 3) := by decide +kernel
theorem d_Md_look_10 : decode prog_10_method_46_code 10 = .ok (.iconst (-1), 1) := by decide +kernel
theorem d_Md_look_11 : decode prog_10_method_46_code 11 = .ok (.goto 9, 3) := by decide +kernel
theorem d_Md_look_14 : decode prog_10_method_46_code 14 = .ok (.aload_n 0, 1) := by decide +kernel
theorem d_Md_look_15 : decode prog_10_method_46_code 15 = .ok (.getfield 68, 3) := by decide +kernel
theorem d_Md_look_18 : decode prog_10_method_46_code 18 = .ok (.iload_n 2, 1) := by decide +kernel
theorem d_Md_look_19 : decode prog_10_method_46_code 19 = .ok (.iaload, 1) := by decide +kernel
theorem d_Md_look_20 : decode prog_10_method_46_code 20 = .ok (.ireturn, 1) := by decide +kernel
theorem d_Md_needed_0 : decode prog_10_method_47_code 0 = .ok (.iconst 0, 1) := by decide +kernel
theorem d_Md_needed_1 : decode prog_10_method_47_code 1 = .ok (.istore_n 1, 1) := by decide +kernel
theorem d_Md_needed_2 : decode prog_10_method_47_code 2 = .ok (.iload_n 0, 1) := by decide +kernel
theorem d_Md_needed_3 : decode prog_10_method_47_code 3 = .ok (.istore_n 2, 1) := by decide +kernel
theorem d_Md_needed_4 : decode prog_10_method_47_code 4 = .ok (.iload_n 2, 1) := by decide +kernel
theorem d_Md_needed_5 : decode prog_10_method_47_code 5 = .ok (.iconst 4, 1) := by decide +kernel
theorem d_Md_needed_6 : decode prog_10_method_47_code 6 = .ok (.if_icmp .le 16, 3) := by decide +kernel
theorem d_Md_needed_9 : decode prog_10_method_47_code 9 = .ok (.iload_n 2, 1) := by decide +kernel
theorem d_Md_needed_10 : decode prog_10_method_47_code 10 = .ok (.iconst 3, 1) := by decide +kernel
theorem d_Md_needed_11 : decode prog_10_method_47_code 11 = .ok (.iadd, 1) := by decide +kernel
theorem d_Md_needed_12 : decode prog_10_method_47_code 12 = .ok (.iconst 4, 1) := by decide +kernel
theorem d_Md_needed_13 : decode prog_10_method_47_code 13 = .ok (.idiv, 1) := by decide +kernel
theorem d_Md_needed_14 : decode prog_10_method_47_code 14 = .ok (.istore_n 2, 1) := by decide +kernel
theorem d_Md_needed_15 : decode prog_10_method_47_code 15 = .ok (.iload_n 1, 1) := by decide +kernel
theorem d_Md_needed_16 : decode prog_10_method_47_code 16 = .ok (.iload_n 2, 1) := by decide +kernel
theorem d_Md_needed_17 : decode prog_10_method_47_code 17 = .ok (.iadd, 1) := by decide +kernel
theorem d_Md_needed_18 : decode prog_10_method_47_code 18 = .ok (.istore_n 1, 1) := by decide +kernel
theorem d_Md_needed_19 : decode prog_10_method_47_code 19 = .ok (.goto (-15), 3) := by decide +kernel
theorem d_Md_needed_22 : decode prog_10_method_47_code 22 = .ok (.iload_n 1, 1) := by decide +kernel
theorem d_Md_needed_23 : decode prog_10_method_47_code 23 = .ok (.ireturn, 1) := by decide +kernel
theorem d_Md_hang_0 : decode prog_10_method_48_code 0 = .ok (.aload_n 0, 1) := by decide +kernel
theorem d_Md_hang_1 : decode prog_10_method_48_code 1 = .ok (.iload_n 1, 1) := by decide +kernel
theorem d_Md_hang_2 : decode prog_10_method_48_code 2 = .ok (.iload_n 2, 1) := by decide +kernel
theorem d_Md_hang_3 : decode prog_10_method_48_code 3 = .ok (.invokevirtual 92, 3) := by decide +kernel
theorem d_Md_hang_6 : decode prog_10_method_48_code 6 = .ok (.aload_n 0, 1) := by decide +kernel
theorem d_Md_hang_7 : decode prog_10_method_48_code 7 = .ok (.getfield 13, 3) := by decide +kernel
theorem d_Md_hang_10 : decode prog_10_method_48_code 10 = .ok (.iload_n 2, 1) := by decide +kernel
theorem d_Md_hang_11 : decode prog_10_method_48_code 11 = .ok (.iload_n 1, 1) := by decide +kernel
theorem d_Md_hang_12 : decode prog_10_method_48_code 12 = .ok (.iastore, 1) := by decide +kernel
theorem d_Md_hang_13 : decode prog_10_method_48_code 13 = .ok (.aload_n 0, 1) := by decide +kernel
theorem d_Md_hang_14 : decode prog_10_method_48_code 14 = .ok (.getfield 17, 3) := by decide +kernel
theorem d_Md_hang_17 : decode prog_10_method_48_code 17 = .ok (.iload_n 1, 1) := by decide +kernel
theorem d_Md_hang_18 : decode prog_10_method_48_code 18 = .ok (.dup2, 1) := by decide +kernel
theorem d_Md_hang_19 : decode prog_10_method_48_code 19 = .ok (.iaload, 1) := by decide +kernel
theorem d_Md_hang_20 : decode prog_10_method_48_code 20 = .ok (.aload_n 0, 1) := by decide +kernel
theorem d_Md_hang_21 : decode prog_10_method_48_code 21 = .ok (.getfield 7, 3) := by decide +kernel
theorem d_Md_hang_24 : decode prog_10_method_48_code 24 = .ok (.iload_n 2, 1) := by decide +kernel
theorem d_Md_hang_25 : decode prog_10_method_48_code 25 = .ok (.baload, 1) := by decide +kernel
theorem d_Md_hang_26 : decode prog_10_method_48_code 26 = .ok (.ifCond .eq 7, 3) := by decide +kernel
theorem d_Md_hang_29 : decode prog_10_method_48_code 29 = .ok (.iconst 1, 1) := by decide +kernel
theorem d_Md_hang_30 : decode prog_10_method_48_code 30 = .ok (.goto 9, 3) := by decide +kernel
theorem d_Md_hang_33 : decode prog_10_method_48_code 33 = .ok (.aload_n 0, 1) := by decide +kernel
theorem d_Md_hang_34 : decode prog_10_method_48_code 34 = .ok (.getfield 17, 3) := by decide +kernel
theorem d_Md_hang_37 : decode prog_10_method_48_code 37 = .ok (.iload_n 2, 1) := by decide +kernel
theorem d_Md_hang_38 : decode prog_10_method_48_code 38 = .ok (.iaload, 1) := by decide +kernel
theorem d_Md_hang_39 : decode prog_10_method_48_code 39 = .ok (.iadd, 1) := by decide +kernel
theorem d_Md_hang_40 : decode prog_10_method_48_code 40 = .ok (.iastore, 1) := by decide +kernel
theorem d_Md_hang_41 : decode prog_10_method_48_code 41 = .ok (.return_, 1) := by decide +kernel
theorem d_Md_balance_0 : decode prog_10_method_49_code 0 = .ok (.aload_n 0, 1) := by decide +kernel
theorem d_Md_balance_1 : decode prog_10_method_49_code 1 = .ok (.invokevirtual 124, 3) := by decide +kernel
theorem d_Md_balance_4 : decode prog_10_method_49_code 4 = .ok (.aload_n 0, 1) := by decide +kernel
theorem d_Md_balance_5 : decode prog_10_method_49_code 5 = .ok (.getfield 105, 3) := by decide +kernel
theorem d_Md_balance_8 : decode prog_10_method_49_code 8 = .ok (.ifCond .ne 6, 3) := by decide +kernel
theorem d_Md_balance_11 : decode prog_10_method_49_code 11 = .ok (.bipush (-3), 2) := by decide +kernel
theorem d_Md_balance_13 : decode prog_10_method_49_code 13 = .ok (.ireturn, 1) := by decide +kernel
theorem d_Md_balance_14 : decode prog_10_method_49_code 14 = .ok (.aload_n 0, 1) := by decide +kernel
theorem d_Md_balance_15 : decode prog_10_method_49_code 15 = .ok (.getfield 105, 3) := by decide +kernel
theorem d_Md_balance_18 : decode prog_10_method_49_code 18 = .ok (.invokestatic 188, 3) := by decide +kernel
theorem d_Md_balance_21 : decode prog_10_method_49_code 21 = .ok (.istore_n 1, 1) := by decide +kernel
theorem d_Md_balance_22 : decode prog_10_method_49_code 22 = .ok (.aload_n 0, 1) := by decide +kernel
theorem d_Md_balance_23 : decode prog_10_method_49_code 23 = .ok (.getfield 77, 3) := by decide +kernel
theorem d_Md_balance_26 : decode prog_10_method_49_code 26 = .ok (.iload_n 1, 1) := by decide +kernel
theorem d_Md_balance_27 : decode prog_10_method_49_code 27 = .ok (.iadd, 1) := by decide +kernel
theorem d_Md_balance_28 : decode prog_10_method_49_code 28 = .ok (.sipush 200, 3) := by decide +kernel
theorem d_Md_balance_31 : decode prog_10_method_49_code 31 = .ok (.if_icmp .le 6, 3) := by decide +kernel
theorem d_Md_balance_34 : decode prog_10_method_49_code 34 = .ok (.bipush (-4), 2) := by decide +kernel
theorem d_Md_balance_36 : decode prog_10_method_49_code 36 = .ok (.ireturn, 1) := by decide +kernel
theorem d_Md_balance_37 : decode prog_10_method_49_code 37 = .ok (.aload_n 0, 1) := by decide +kernel
theorem d_Md_balance_38 : decode prog_10_method_49_code 38 = .ok (.aload_n 0, 1) := by decide +kernel
theorem d_Md_balance_39 : decode prog_10_method_49_code 39 = .ok (.getfield 105, 3) := by decide +kernel
theorem d_Md_balance_42 : decode prog_10_method_49_code 42 = .ok (.putfield 191, 3) := by decide +kernel
theorem d_Md_balance_45 : decode prog_10_method_49_code 45 = .ok (.iconst 0, 1) := by decide +kernel
theorem d_Md_balance_46 : decode prog_10_method_49_code 46 = .ok (.istore_n 2, 1) := by decide +kernel
theorem d_Md_balance_47 : decode prog_10_method_49_code 47 = .ok (.iload_n 2, 1) := by decide +kernel
theorem d_Md_balance_48 : decode prog_10_method_49_code 48 = .ok (.aload_n 0, 1) := by decide +kernel
theorem d_Md_balance_49 : decode prog_10_method_49_code 49 = .ok (.getfield 105, 3) := by decide +kernel
theorem d_Md_balance_52 : decode prog_10_method_49_code 52 = .ok (.if_icmp .ge 31, 3) := by decide +kernel
theorem d_Md_balance_55 : decode prog_10_method_49_code 55 = .ok (.aload_n 0, 1) := by decide +kernel
theorem d_Md_balance_56 : decode prog_10_method_49_code 56 = .ok (.getfield 74, 3) := by decide +kernel
theorem d_Md_balance_59 : decode prog_10_method_49_code 59 = .ok (.iload_n 2, 1) := by decide +kernel
theorem d_Md_balance_60 : decode prog_10_method_49_code 60 = .ok (.aload_n 0, 1) := by decide +kernel
theorem d_Md_balance_61 : decode prog_10_method_49_code 61 = .ok (.getfield 38, 3) := by decide +kernel
theorem d_Md_balance_64 : decode prog_10_method_49_code 64 = .ok (.iload_n 2, 1) := by decide +kernel
theorem d_Md_balance_65 : decode prog_10_method_49_code 65 = .ok (.iaload, 1) := by decide +kernel
theorem d_Md_balance_66 : decode prog_10_method_49_code 66 = .ok (.iastore, 1) := by decide +kernel
theorem d_Md_balance_67 : decode prog_10_method_49_code 67 = .ok (.aload_n 0, 1) := by decide +kernel
theorem d_Md_balance_68 : decode prog_10_method_49_code 68 = .ok (.aload_n 0, 1) := by decide +kernel
theorem d_Md_balance_69 : decode prog_10_method_49_code 69 = .ok (.getfield 38, 3) := by decide +kernel
theorem d_Md_balance_72 : decode prog_10_method_49_code 72 = .ok (.iload_n 2, 1) := by decide +kernel
theorem d_Md_balance_73 : decode prog_10_method_49_code 73 = .ok (.iaload, 1) := by decide +kernel
theorem d_Md_balance_74 : decode prog_10_method_49_code 74 = .ok (.invokevirtual 150, 3) := by decide +kernel
theorem d_Md_balance_77 : decode prog_10_method_49_code 77 = .ok (.iinc 2 1, 3) := by decide +kernel
theorem d_Md_balance_80 : decode prog_10_method_49_code 80 = .ok (.goto (-33), 3) := by decide +kernel
theorem d_Md_balance_83 : decode prog_10_method_49_code 83 = .ok (.iconst 0, 1) := by decide +kernel
theorem d_Md_balance_84 : decode prog_10_method_49_code 84 = .ok (.istore_n 2, 1) := by decide +kernel
theorem d_Md_balance_85 : decode prog_10_method_49_code 85 = .ok (.iload_n 2, 1) := by decide +kernel
theorem d_Md_balance_86 : decode prog_10_method_49_code 86 = .ok (.aload_n 0, 1) := by decide +kernel
theorem d_Md_balance_87 : decode prog_10_method_49_code 87 = .ok (.getfield 77, 3) := by decide +kernel
theorem d_Md_balance_90 : decode prog_10_method_49_code 90 = .ok (.if_icmp .ge 23, 3) := by decide +kernel
theorem d_Md_balance_93 : decode prog_10_method_49_code 93 = .ok (.aload_n 0, 1) := by decide +kernel
theorem d_Md_balance_94 : decode prog_10_method_49_code 94 = .ok (.getfield 20, 3) := by decide +kernel
theorem d_Md_balance_97 : decode prog_10_method_49_code 97 = .ok (.iload_n 2, 1) := by decide +kernel
theorem d_Md_balance_98 : decode prog_10_method_49_code 98 = .ok (.iconst 0, 1) := by decide +kernel
theorem d_Md_balance_99 : decode prog_10_method_49_code 99 = .ok (.iastore, 1) := by decide +kernel
theorem d_Md_balance_100 : decode prog_10_method_49_code 100 = .ok (.aload_n 0, 1) := by decide +kernel
theorem d_Md_balance_101 : decode prog_10_method_49_code 101 = .ok (.getfield 13, 3) := by decide +kernel
theorem d_Md_balance_104 : decode prog_10_method_49_code 104 = .ok (.iload_n 2, 1) := by decide +kernel
theorem d_Md_balance_105 : decode prog_10_method_49_code 105 = .ok (.iconst (-1), 1) := by decide +kernel
theorem d_Md_balance_106 : decode prog_10_method_49_code 106 = .ok (.iastore, 1) := by decide +kernel
theorem d_Md_balance_107 : decode prog_10_method_49_code 107 = .ok (.iinc 2 1, 3) := by decide +kernel
theorem d_Md_balance_110 : decode prog_10_method_49_code 110 = .ok (.goto (-25), 3) := by decide +kernel
theorem d_Md_balance_113 : decode prog_10_method_49_code 113 = .ok (.aload_n 0, 1) := by decide +kernel
theorem d_Md_balance_114 : decode prog_10_method_49_code 114 = .ok (.getfield 191, 3) := by decide +kernel
theorem d_Md_balance_117 : decode prog_10_method_49_code 117 = .ok (.iconst 4, 1) := by decide +kernel
theorem d_Md_balance_118 : decode prog_10_method_49_code 118 = .ok (.if_icmp .le 93, 3) := by decide +kernel
theorem d_Md_balance_121 : decode prog_10_method_49_code 121 = .ok (.iconst 0, 1) := by decide +kernel
theorem d_Md_balance_122 : decode prog_10_method_49_code 122 = .ok (.istore_n 2, 1) := by decide +kernel
theorem d_Md_balance_123 : decode prog_10_method_49_code 123 = .ok (.iconst 0, 1) := by decide +kernel
theorem d_Md_balance_124 : decode prog_10_method_49_code 124 = .ok (.istore_n 3, 1) := by decide +kernel
theorem d_Md_balance_125 : decode prog_10_method_49_code 125 = .ok (.iload_n 3, 1) := by decide +kernel
theorem d_Md_balance_126 : decode prog_10_method_49_code 126 = .ok (.aload_n 0, 1) := by decide +kernel
theorem d_Md_balance_127 : decode prog_10_method_49_code 127 = .ok (.getfield 191, 3) := by decide +kernel
theorem d_Md_balance_130 : decode prog_10_method_49_code 130 = .ok (.if_icmp .ge 66, 3) := by decide +kernel
theorem d_Md_balance_133 : decode prog_10_method_49_code 133 = .ok (.iload_n 3, 1) := by decide +kernel
theorem d_Md_balance_134 : decode prog_10_method_49_code 134 = .ok (.iconst 4, 1) := by decide +kernel
theorem d_Md_balance_135 : decode prog_10_method_49_code 135 = .ok (.irem, 1) := by decide +kernel
theorem d_Md_balance_136 : decode prog_10_method_49_code 136 = .ok (.ifCond .ne 11, 3) := by decide +kernel
theorem d_Md_balance_139 : decode prog_10_method_49_code 139 = .ok (.aload_n 0, 1) := by decide +kernel
theorem d_Md_balance_140 : decode prog_10_method_49_code 140 = .ok (.iconst 0, 1) := by decide +kernel
theorem d_Md_balance_141 : decode prog_10_method_49_code 141 = .ok (.iconst (-1), 1) := by decide +kernel
theorem d_Md_balance_142 : decode prog_10_method_49_code 142 = .ok (.iconst 0, 1) := by decide +kernel
theorem d_Md_balance_143 : decode prog_10_method_49_code 143 = .ok (.invokevirtual 88, 3) := by decide +kernel
theorem d_Md_balance_146 : decode prog_10_method_49_code 146 = .ok (.pop, 1) := by decide +kernel
theorem d_Md_balance_147 : decode prog_10_method_49_code 147 = .ok (.aload_n 0, 1) := by decide +kernel
theorem d_Md_balance_148 : decode prog_10_method_49_code 148 = .ok (.aload_n 0, 1) := by decide +kernel
theorem d_Md_balance_149 : decode prog_10_method_49_code 149 = .ok (.getfield 77, 3) := by decide +kernel
theorem d_Md_balance_152 : decode prog_10_method_49_code 152 = .ok (.iconst 1, 1) := by decide +kernel
theorem d_Md_balance_153 : decode prog_10_method_49_code 153 = .ok (.isub, 1) := by decide +kernel
theorem d_Md_balance_154 : decode prog_10_method_49_code 154 = .ok (.aload_n 0, 1) := by decide +kernel
theorem d_Md_balance_155 : decode prog_10_method_49_code 155 = .ok (.getfield 74, 3) := by decide +kernel
theorem d_Md_balance_158 : decode prog_10_method_49_code 158 = .ok (.iload_n 3, 1) := by decide +kernel
theorem d_Md_balance_159 : decode prog_10_method_49_code 159 = .ok (.iaload, 1) := by decide +kernel
theorem d_Md_balance_160 : decode prog_10_method_49_code 160 = .ok (.invokevirtual 194, 3) := by decide +kernel
theorem d_Md_balance_163 : decode prog_10_method_49_code 163 = .ok (.aload_n 0, 1) := by decide +kernel
theorem d_Md_balance_164 : decode prog_10_method_49_code 164 = .ok (.getfield 74, 3) := by decide +kernel
theorem d_Md_balance_167 : decode prog_10_method_49_code 167 = .ok (.iload_n 2, 1) := by decide +kernel
theorem d_Md_balance_168 : decode prog_10_method_49_code 168 = .ok (.aload_n 0, 1) := by decide +kernel
theorem d_Md_balance_169 : decode prog_10_method_49_code 169 = .ok (.getfield 77, 3) := by decide +kernel
theorem d_Md_balance_172 : decode prog_10_method_49_code 172 = .ok (.iconst 1, 1) := by decide +kernel
theorem d_Md_balance_173 : decode prog_10_method_49_code 173 = .ok (.isub, 1) := by decide +kernel
theorem d_Md_balance_174 : decode prog_10_method_49_code 174 = .ok (.iastore, 1) := by decide +kernel
theorem d_Md_balance_175 : decode prog_10_method_49_code 175 = .ok (.iload_n 3, 1) := by decide +kernel
theorem d_Md_balance_176 : decode prog_10_method_49_code 176 = .ok (.iconst 4, 1) := by decide +kernel
theorem d_Md_balance_177 : decode prog_10_method_49_code 177 = .ok (.irem, 1) := by decide +kernel
theorem d_Md_balance_178 : decode prog_10_method_49_code 178 = .ok (.iconst 3, 1) := by decide +kernel
theorem d_Md_balance_179 : decode prog_10_method_49_code 179 = .ok (.if_icmp .ne 9, 3) := by decide +kernel
theorem d_Md_balance_182 : decode prog_10_method_49_code 182 = .ok (.iload_n 2, 1) := by decide +kernel
theorem d_Md_balance_183 : decode prog_10_method_49_code 183 = .ok (.iconst 1, 1) := by decide +kernel
theorem d_Md_balance_184 : decode prog_10_method_49_code 184 = .ok (.iadd, 1) := by decide +kernel
theorem d_Md_balance_185 : decode prog_10_method_49_code 185 = .ok (.goto 4, 3) := by decide +kernel
theorem d_Md_balance_188 : decode prog_10_method_49_code 188 = .ok (.iload_n 2, 1) := by decide +kernel
theorem d_Md_balance_189 : decode prog_10_method_49_code 189 = .ok (.istore_n 2, 1) := by decide +kernel
theorem d_Md_balance_190 : decode prog_10_method_49_code 190 = .ok (.iinc 3 1, 3) := by decide +kernel
theorem d_Md_balance_193 : decode prog_10_method_49_code 193 = .ok (.goto (-68), 3) := by decide +kernel
theorem d_Md_balance_196 : decode prog_10_method_49_code 196 = .ok (.aload_n 0, 1) := by decide +kernel
theorem d_Md_balance_197 : decode prog_10_method_49_code 197 = .ok (.aload_n 0, 1) := by decide +kernel
theorem d_Md_balance_198 : decode prog_10_method_49_code 198 = .ok (.getfield 191, 3) := by decide +kernel
theorem d_Md_balance_201 : decode prog_10_method_49_code 201 = .ok (.iconst 3, 1) := by decide +kernel
theorem d_Md_balance_202 : decode prog_10_method_49_code 202 = .ok (.iadd, 1) := by decide +kernel
theorem d_Md_balance_203 : decode prog_10_method_49_code 203 = .ok (.iconst 4, 1) := by decide +kernel
theorem d_Md_balance_204 : decode prog_10_method_49_code 204 = .ok (.idiv, 1) := by decide +kernel
theorem d_Md_balance_205 : decode prog_10_method_49_code 205 = .ok (.putfield 191, 3) := by decide +kernel
theorem d_Md_balance_208 : decode prog_10_method_49_code 208 = .ok (.goto (-95), 3) := by decide +kernel
theorem d_Md_balance_211 : decode prog_10_method_49_code 211 = .ok (.aload_n 0, 1) := by decide +kernel
theorem d_Md_balance_212 : decode prog_10_method_49_code 212 = .ok (.getfield 17, 3) := by decide +kernel
theorem d_Md_balance_215 : decode prog_10_method_49_code 215 = .ok (.iconst 0, 1) := by decide +kernel
theorem d_Md_balance_216 : decode prog_10_method_49_code 216 = .ok (.iconst 0, 1) := by decide +kernel
theorem d_Md_balance_217 : decode prog_10_method_49_code 217 = .ok (.iastore, 1) := by decide +kernel
theorem d_Md_balance_218 : decode prog_10_method_49_code 218 = .ok (.iconst 0, 1) := by decide +kernel
theorem d_Md_balance_219 : decode prog_10_method_49_code 219 = .ok (.istore_n 2, 1) := by decide +kernel
theorem d_Md_balance_220 : decode prog_10_method_49_code 220 = .ok (.iload_n 2, 1) := by decide +kernel
theorem d_Md_balance_221 : decode prog_10_method_49_code 221 = .ok (.aload_n 0, 1) := by decide +kernel
theorem d_Md_balance_222 : decode prog_10_method_49_code 222 = .ok (.getfield 191, 3) := by decide +kernel
theorem d_Md_balance_225 : decode prog_10_method_49_code 225 = .ok (.if_icmp .ge 20, 3) := by decide +kernel
theorem d_Md_balance_228 : decode prog_10_method_49_code 228 = .ok (.aload_n 0, 1) := by decide +kernel
theorem d_Md_balance_229 : decode prog_10_method_49_code 229 = .ok (.iconst 0, 1) := by decide +kernel
theorem d_Md_balance_230 : decode prog_10_method_49_code 230 = .ok (.aload_n 0, 1) := by decide +kernel
theorem d_Md_balance_231 : decode prog_10_method_49_code 231 = .ok (.getfield 74, 3) := by decide +kernel
theorem d_Md_balance_234 : decode prog_10_method_49_code 234 = .ok (.iload_n 2, 1) := by decide +kernel
theorem d_Md_balance_235 : decode prog_10_method_49_code 235 = .ok (.iaload, 1) := by decide +kernel
theorem d_Md_balance_236 : decode prog_10_method_49_code 236 = .ok (.invokevirtual 194, 3) := by decide +kernel
theorem d_Md_balance_239 : decode prog_10_method_49_code 239 = .ok (.iinc 2 1, 3) := by decide +kernel
theorem d_Md_balance_242 : decode prog_10_method_49_code 242 = .ok (.goto (-22), 3) := by decide +kernel
theorem d_Md_balance_245 : decode prog_10_method_49_code 245 = .ok (.iload_n 1, 1) := by decide +kernel
theorem d_Md_balance_246 : decode prog_10_method_49_code 246 = .ok (.ireturn, 1) := by decide +kernel
theorem d_Md_count_0 : decode prog_10_method_50_code 0 = .ok (.iload_n 1, 1) := by decide +kernel
theorem d_Md_count_1 : decode prog_10_method_50_code 1 = .ok (.ifCond .ne 10, 3) := by decide +kernel
theorem d_Md_count_4 : decode prog_10_method_50_code 4 = .ok (.aload_n 0, 1) := by decide +kernel
theorem d_Md_count_5 : decode prog_10_method_50_code 5 = .ok (.getfield 77, 3) := by decide +kernel
theorem d_Md_count_8 : decode prog_10_method_50_code 8 = .ok (.goto 29, 3) := by decide +kernel
theorem d_Md_count_11 : decode prog_10_method_50_code 11 = .ok (.iload_n 1, 1) := by decide +kernel
theorem d_Md_count_12 : decode prog_10_method_50_code 12 = .ok (.iconst 1, 1) := by decide +kernel
theorem d_Md_count_13 : decode prog_10_method_50_code 13 = .ok (.if_icmp .ne 10, 3) := by decide +kernel
theorem d_Md_count_16 : decode prog_10_method_50_code 16 = .ok (.aload_n 0, 1) := by decide +kernel
theorem d_Md_count_17 : decode prog_10_method_50_code 17 = .ok (.getfield 163, 3) := by decide +kernel
theorem d_Md_count_20 : decode prog_10_method_50_code 20 = .ok (.goto 17, 3) := by decide +kernel
theorem d_Md_count_23 : decode prog_10_method_50_code 23 = .ok (.iload_n 1, 1) := by decide +kernel
theorem d_Md_count_24 : decode prog_10_method_50_code 24 = .ok (.iconst 2, 1) := by decide +kernel
theorem d_Md_count_25 : decode prog_10_method_50_code 25 = .ok (.if_icmp .ne 10, 3) := by decide +kernel
theorem d_Md_count_28 : decode prog_10_method_50_code 28 = .ok (.aload_n 0, 1) := by decide +kernel
theorem d_Md_count_29 : decode prog_10_method_50_code 29 = .ok (.getfield 160, 3) := by decide +kernel
theorem d_Md_count_32 : decode prog_10_method_50_code 32 = .ok (.goto 5, 3) := by decide +kernel
theorem d_Md_count_35 : decode prog_10_method_50_code 35 = .ok (.bipush (-2), 2) := by decide +kernel
theorem d_Md_count_37 : decode prog_10_method_50_code 37 = .ok (.ireturn, 1) := by decide +kernel
theorem d_Items_init_0 : decode prog_3_method_1_code 0 = .ok (.aload_n 0, 1) := by decide +kernel
theorem d_Items_init_1 : decode prog_3_method_1_code 1 = .ok (.invokespecial 3, 3) := by decide +kernel
theorem d_Items_init_4 : decode prog_3_method_1_code 4 = .ok (.aload_n 0, 1) := by decide +kernel
theorem d_Items_init_5 : decode prog_3_method_1_code 5 = .ok (.sipush 200, 3) := by decide +kernel
theorem d_Items_init_8 : decode prog_3_method_1_code 8 = .ok (.newarray .boolean, 2) := by decide +kernel
theorem d_Items_init_10 : decode prog_3_method_1_code 10 = .ok (.putfield 9, 3) := by decide +kernel
theorem d_Items_init_13 : decode prog_3_method_1_code 13 = .ok (.aload_n 0, 1) := by decide +kernel
theorem d_Items_init_14 : decode prog_3_method_1_code 14 = .ok (.sipush 200, 3) := by decide +kernel
theorem d_Items_init_17 : decode prog_3_method_1_code 17 = .ok (.newarray .int, 2) := by decide +kernel
theorem d_Items_init_19 : decode prog_3_method_1_code 19 = .ok (.putfield 15, 3) := by decide +kernel
theorem d_Items_init_22 : decode prog_3_method_1_code 22 = .ok (.aload_n 0, 1) := by decide +kernel
theorem d_Items_init_23 : decode prog_3_method_1_code 23 = .ok (.sipush 200, 3) := by decide +kernel
theorem d_Items_init_26 : decode prog_3_method_1_code 26 = .ok (.newarray .int, 2) := by decide +kernel
theorem d_Items_init_28 : decode prog_3_method_1_code 28 = .ok (.putfield 19, 3) := by decide +kernel
theorem d_Items_init_31 : decode prog_3_method_1_code 31 = .ok (.aload_n 0, 1) := by decide +kernel
theorem d_Items_init_32 : decode prog_3_method_1_code 32 = .ok (.sipush 200, 3) := by decide +kernel
theorem d_Items_init_35 : decode prog_3_method_1_code 35 = .ok (.newarray .int, 2) := by decide +kernel
theorem d_Items_init_37 : decode prog_3_method_1_code 37 = .ok (.putfield 22, 3) := by decide +kernel
theorem d_Items_init_40 : decode prog_3_method_1_code 40 = .ok (.aload_n 0, 1) := by decide +kernel
theorem d_Items_init_41 : decode prog_3_method_1_code 41 = .ok (.sipush 8000, 3) := by decide +kernel
theorem d_Items_init_44 : decode prog_3_method_1_code 44 = .ok (.newarray .int, 2) := by decide +kernel
theorem d_Items_init_46 : decode prog_3_method_1_code 46 = .ok (.putfield 25, 3) := by decide +kernel
theorem d_Items_init_49 : decode prog_3_method_1_code 49 = .ok (.aload_n 0, 1) := by decide +kernel
theorem d_Items_init_50 : decode prog_3_method_1_code 50 = .ok (.sipush 800, 3) := by decide +kernel
theorem d_Items_init_53 : decode prog_3_method_1_code 53 = .ok (.newarray .int, 2) := by decide +kernel
theorem d_Items_init_55 : decode prog_3_method_1_code 55 = .ok (.putfield 28, 3) := by decide +kernel
theorem d_Items_init_58 : decode prog_3_method_1_code 58 = .ok (.aload_n 0, 1) := by decide +kernel
theorem d_Items_init_59 : decode prog_3_method_1_code 59 = .ok (.getfield 28, 3) := by decide +kernel
theorem d_Items_init_62 : decode prog_3_method_1_code 62 = .ok (.iconst (-1), 1) := by decide +kernel
theorem d_Items_init_63 : decode prog_3_method_1_code 63 = .ok (.invokestatic 31, 3) := by decide +kernel
theorem d_Items_init_66 : decode prog_3_method_1_code 66 = .ok (.return_, 1) := by decide +kernel
theorem d_Walk_init_0 : decode prog_8_method_1_code 0 = .ok (.aload_n 0, 1) := by decide +kernel
theorem d_Walk_init_1 : decode prog_8_method_1_code 1 = .ok (.invokespecial 3, 3) := by decide +kernel
theorem d_Walk_init_4 : decode prog_8_method_1_code 4 = .ok (.aload_n 0, 1) := by decide +kernel
theorem d_Walk_init_5 : decode prog_8_method_1_code 5 = .ok (.sipush 200, 3) := by decide +kernel
theorem d_Walk_init_8 : decode prog_8_method_1_code 8 = .ok (.newarray .boolean, 2) := by decide +kernel
theorem d_Walk_init_10 : decode prog_8_method_1_code 10 = .ok (.putfield 9, 3) := by decide +kernel
theorem d_Walk_init_13 : decode prog_8_method_1_code 13 = .ok (.aload_n 0, 1) := by decide +kernel
theorem d_Walk_init_14 : decode prog_8_method_1_code 14 = .ok (.sipush 200, 3) := by decide +kernel
theorem d_Walk_init_17 : decode prog_8_method_1_code 17 = .ok (.newarray .int, 2) := by decide +kernel
theorem d_Walk_init_19 : decode prog_8_method_1_code 19 = .ok (.putfield 15, 3) := by decide +kernel
theorem d_Walk_init_22 : decode prog_8_method_1_code 22 = .ok (.aload_n 0, 1) := by decide +kernel
theorem d_Walk_init_23 : decode prog_8_method_1_code 23 = .ok (.sipush 200, 3) := by decide +kernel
theorem d_Walk_init_26 : decode prog_8_method_1_code 26 = .ok (.newarray .int, 2) := by decide +kernel
theorem d_Walk_init_28 : decode prog_8_method_1_code 28 = .ok (.putfield 19, 3) := by decide +kernel
theorem d_Walk_init_31 : decode prog_8_method_1_code 31 = .ok (.aload_n 0, 1) := by decide +kernel
theorem d_Walk_init_32 : decode prog_8_method_1_code 32 = .ok (.aload_n 1, 1) := by decide +kernel
theorem d_Walk_init_33 : decode prog_8_method_1_code 33 = .ok (.putfield 22, 3) := by decide +kernel
theorem d_Walk_init_36 : decode prog_8_method_1_code 36 = .ok (.return_, 1) := by decide +kernel
theorem d_Order_init_0 : decode prog_7_method_1_code 0 = .ok (.aload_n 0, 1) := by decide +kernel
theorem d_Order_init_1 : decode prog_7_method_1_code 1 = .ok (.aload_n 1, 1) := by decide +kernel
theorem d_Order_init_2 : decode prog_7_method_1_code 2 = .ok (.invokespecial 3, 3) := by decide +kernel
theorem d_Order_init_5 : decode prog_7_method_1_code 5 = .ok (.aload_n 0, 1) := by decide +kernel
theorem d_Order_init_6 : decode prog_7_method_1_code 6 = .ok (.sipush 200, 3) := by decide +kernel
theorem d_Order_init_9 : decode prog_7_method_1_code 9 = .ok (.newarray .int, 2) := by decide +kernel
theorem d_Order_init_11 : decode prog_7_method_1_code 11 = .ok (.putfield 9, 3) := by decide +kernel
theorem d_Order_init_14 : decode prog_7_method_1_code 14 = .ok (.aload_n 0, 1) := by decide +kernel
theorem d_Order_init_15 : decode prog_7_method_1_code 15 = .ok (.sipush 200, 3) := by decide +kernel
theorem d_Order_init_18 : decode prog_7_method_1_code 18 = .ok (.newarray .int, 2) := by decide +kernel
theorem d_Order_init_20 : decode prog_7_method_1_code 20 = .ok (.putfield 15, 3) := by decide +kernel
theorem d_Order_init_23 : decode prog_7_method_1_code 23 = .ok (.aload_n 0, 1) := by decide +kernel
theorem d_Order_init_24 : decode prog_7_method_1_code 24 = .ok (.sipush 200, 3) := by decide +kernel
theorem d_Order_init_27 : decode prog_7_method_1_code 27 = .ok (.newarray .int, 2) := by decide +kernel
theorem d_Order_init_29 : decode prog_7_method_1_code 29 = .ok (.putfield 18, 3) := by decide +kernel
theorem d_Order_init_32 : decode prog_7_method_1_code 32 = .ok (.aload_n 0, 1) := by decide +kernel
theorem d_Order_init_33 : decode prog_7_method_1_code 33 = .ok (.sipush 200, 3) := by decide +kernel
theorem d_Order_init_36 : decode prog_7_method_1_code 36 = .ok (.newarray .int, 2) := by decide +kernel
theorem d_Order_init_38 : decode prog_7_method_1_code 38 = .ok (.putfield 21, 3) := by decide +kernel
theorem d_Order_init_41 : decode prog_7_method_1_code 41 = .ok (.aload_n 0, 1) := by decide +kernel
theorem d_Order_init_42 : decode prog_7_method_1_code 42 = .ok (.iconst (-1), 1) := by decide +kernel
theorem d_Order_init_43 : decode prog_7_method_1_code 43 = .ok (.putfield 24, 3) := by decide +kernel
theorem d_Order_init_46 : decode prog_7_method_1_code 46 = .ok (.return_, 1) := by decide +kernel
theorem d_Mender_init_0 : decode prog_5_method_1_code 0 = .ok (.aload_n 0, 1) := by decide +kernel
theorem d_Mender_init_1 : decode prog_5_method_1_code 1 = .ok (.aload_n 1, 1) := by decide +kernel
theorem d_Mender_init_2 : decode prog_5_method_1_code 2 = .ok (.invokespecial 3, 3) := by decide +kernel
theorem d_Mender_init_5 : decode prog_5_method_1_code 5 = .ok (.aload_n 0, 1) := by decide +kernel
theorem d_Mender_init_6 : decode prog_5_method_1_code 6 = .ok (.bipush 100, 2) := by decide +kernel
theorem d_Mender_init_8 : decode prog_5_method_1_code 8 = .ok (.newarray .int, 2) := by decide +kernel
theorem d_Mender_init_10 : decode prog_5_method_1_code 10 = .ok (.putfield 11, 3) := by decide +kernel
theorem d_Mender_init_13 : decode prog_5_method_1_code 13 = .ok (.aload_n 0, 1) := by decide +kernel
theorem d_Mender_init_14 : decode prog_5_method_1_code 14 = .ok (.bipush 100, 2) := by decide +kernel
theorem d_Mender_init_16 : decode prog_5_method_1_code 16 = .ok (.newarray .int, 2) := by decide +kernel
theorem d_Mender_init_18 : decode prog_5_method_1_code 18 = .ok (.putfield 15, 3) := by decide +kernel
theorem d_Mender_init_21 : decode prog_5_method_1_code 21 = .ok (.aload_n 0, 1) := by decide +kernel
theorem d_Mender_init_22 : decode prog_5_method_1_code 22 = .ok (.sipush 200, 3) := by decide +kernel
theorem d_Mender_init_25 : decode prog_5_method_1_code 25 = .ok (.newarray .int, 2) := by decide +kernel
theorem d_Mender_init_27 : decode prog_5_method_1_code 27 = .ok (.putfield 18, 3) := by decide +kernel
theorem d_Mender_init_30 : decode prog_5_method_1_code 30 = .ok (.return_, 1) := by decide +kernel
theorem d_Bal_init_0 : decode prog_2_method_1_code 0 = .ok (.aload_n 0, 1) := by decide +kernel
theorem d_Bal_init_1 : decode prog_2_method_1_code 1 = .ok (.invokespecial 3, 3) := by decide +kernel
theorem d_Bal_init_4 : decode prog_2_method_1_code 4 = .ok (.aload_n 0, 1) := by decide +kernel
theorem d_Bal_init_5 : decode prog_2_method_1_code 5 = .ok (.sipush 200, 3) := by decide +kernel
theorem d_Bal_init_8 : decode prog_2_method_1_code 8 = .ok (.newarray .int, 2) := by decide +kernel
theorem d_Bal_init_10 : decode prog_2_method_1_code 10 = .ok (.putfield 9, 3) := by decide +kernel
theorem d_Bal_init_13 : decode prog_2_method_1_code 13 = .ok (.aload_n 0, 1) := by decide +kernel
theorem d_Bal_init_14 : decode prog_2_method_1_code 14 = .ok (.aload_n 1, 1) := by decide +kernel
theorem d_Bal_init_15 : decode prog_2_method_1_code 15 = .ok (.putfield 15, 3) := by decide +kernel
theorem d_Bal_init_18 : decode prog_2_method_1_code 18 = .ok (.return_, 1) := by decide +kernel
theorem d_Labels_init_0 : decode prog_4_method_1_code 0 = .ok (.aload_n 0, 1) := by decide +kernel
theorem d_Labels_init_1 : decode prog_4_method_1_code 1 = .ok (.invokespecial 3, 3) := by decide +kernel
theorem d_Labels_init_4 : decode prog_4_method_1_code 4 = .ok (.aload_n 0, 1) := by decide +kernel
theorem d_Labels_init_5 : decode prog_4_method_1_code 5 = .ok (.bipush 20, 2) := by decide +kernel
theorem d_Labels_init_7 : decode prog_4_method_1_code 7 = .ok (.newarray .int, 2) := by decide +kernel
theorem d_Labels_init_9 : decode prog_4_method_1_code 9 = .ok (.putfield 11, 3) := by decide +kernel
theorem d_Labels_init_12 : decode prog_4_method_1_code 12 = .ok (.aload_n 0, 1) := by decide +kernel
theorem d_Labels_init_13 : decode prog_4_method_1_code 13 = .ok (.bipush 20, 2) := by decide +kernel
theorem d_Labels_init_15 : decode prog_4_method_1_code 15 = .ok (.newarray .int, 2) := by decide +kernel
theorem d_Labels_init_17 : decode prog_4_method_1_code 17 = .ok (.putfield 15, 3) := by decide +kernel
theorem d_Labels_init_20 : decode prog_4_method_1_code 20 = .ok (.aload_n 0, 1) := by decide +kernel
theorem d_Labels_init_21 : decode prog_4_method_1_code 21 = .ok (.bipush 20, 2) := by decide +kernel
theorem d_Labels_init_23 : decode prog_4_method_1_code 23 = .ok (.newarray .int, 2) := by decide +kernel
theorem d_Labels_init_25 : decode prog_4_method_1_code 25 = .ok (.putfield 18, 3) := by decide +kernel
theorem d_Labels_init_28 : decode prog_4_method_1_code 28 = .ok (.aload_n 0, 1) := by decide +kernel
theorem d_Labels_init_29 : decode prog_4_method_1_code 29 = .ok (.bipush 64, 2) := by decide +kernel
theorem d_Labels_init_31 : decode prog_4_method_1_code 31 = .ok (.newarray .char, 2) := by decide +kernel
theorem d_Labels_init_33 : decode prog_4_method_1_code 33 = .ok (.putfield 21, 3) := by decide +kernel
theorem d_Labels_init_36 : decode prog_4_method_1_code 36 = .ok (.return_, 1) := by decide +kernel
theorem d_Names_init_0 : decode prog_6_method_1_code 0 = .ok (.aload_n 0, 1) := by decide +kernel
theorem d_Names_init_1 : decode prog_6_method_1_code 1 = .ok (.invokespecial 3, 3) := by decide +kernel
theorem d_Names_init_4 : decode prog_6_method_1_code 4 = .ok (.aload_n 0, 1) := by decide +kernel
theorem d_Names_init_5 : decode prog_6_method_1_code 5 = .ok (.bipush 60, 2) := by decide +kernel
theorem d_Names_init_7 : decode prog_6_method_1_code 7 = .ok (.newarray .int, 2) := by decide +kernel
theorem d_Names_init_9 : decode prog_6_method_1_code 9 = .ok (.putfield 11, 3) := by decide +kernel
theorem d_Names_init_12 : decode prog_6_method_1_code 12 = .ok (.aload_n 0, 1) := by decide +kernel
theorem d_Names_init_13 : decode prog_6_method_1_code 13 = .ok (.bipush 60, 2) := by decide +kernel
theorem d_Names_init_15 : decode prog_6_method_1_code 15 = .ok (.newarray .int, 2) := by decide +kernel
theorem d_Names_init_17 : decode prog_6_method_1_code 17 = .ok (.putfield 15, 3) := by decide +kernel
theorem d_Names_init_20 : decode prog_6_method_1_code 20 = .ok (.return_, 1) := by decide +kernel
theorem d_PT_init_0 : decode prog_1_method_1_code 0 = .ok (.aload_n 0, 1) := by decide +kernel
theorem d_PT_init_1 : decode prog_1_method_1_code 1 = .ok (.invokespecial 1, 3) := by decide +kernel
theorem d_PT_init_4 : decode prog_1_method_1_code 4 = .ok (.aload_n 0, 1) := by decide +kernel
theorem d_PT_init_5 : decode prog_1_method_1_code 5 = .ok (.new 7, 3) := by decide +kernel
theorem d_PT_init_8 : decode prog_1_method_1_code 8 = .ok (.dup, 1) := by decide +kernel
theorem d_PT_init_9 : decode prog_1_method_1_code 9 = .ok (.invokespecial 9, 3) := by decide +kernel
theorem d_PT_init_12 : decode prog_1_method_1_code 12 = .ok (.putfield 10, 3) := by decide +kernel
theorem d_PT_init_15 : decode prog_1_method_1_code 15 = .ok (.aload_n 0, 1) := by decide +kernel
theorem d_PT_init_16 : decode prog_1_method_1_code 16 = .ok (.new 16, 3) := by decide +kernel
theorem d_PT_init_19 : decode prog_1_method_1_code 19 = .ok (.dup, 1) := by decide +kernel
theorem d_PT_init_20 : decode prog_1_method_1_code 20 = .ok (.aload_n 0, 1) := by decide +kernel
theorem d_PT_init_21 : decode prog_1_method_1_code 21 = .ok (.getfield 10, 3) := by decide +kernel
theorem d_PT_init_24 : decode prog_1_method_1_code 24 = .ok (.invokespecial 18, 3) := by decide +kernel
theorem d_PT_init_27 : decode prog_1_method_1_code 27 = .ok (.putfield 21, 3) := by decide +kernel
theorem d_PT_init_30 : decode prog_1_method_1_code 30 = .ok (.aload_n 0, 1) := by decide +kernel
theorem d_PT_init_31 : decode prog_1_method_1_code 31 = .ok (.new 25, 3) := by decide +kernel
theorem d_PT_init_34 : decode prog_1_method_1_code 34 = .ok (.dup, 1) := by decide +kernel
theorem d_PT_init_35 : decode prog_1_method_1_code 35 = .ok (.aload_n 0, 1) := by decide +kernel
theorem d_PT_init_36 : decode prog_1_method_1_code 36 = .ok (.getfield 10, 3) := by decide +kernel
theorem d_PT_init_39 : decode prog_1_method_1_code 39 = .ok (.invokespecial 27, 3) := by decide +kernel
theorem d_PT_init_42 : decode prog_1_method_1_code 42 = .ok (.putfield 28, 3) := by decide +kernel
theorem d_PT_init_45 : decode prog_1_method_1_code 45 = .ok (.aload_n 0, 1) := by decide +kernel
theorem d_PT_init_46 : decode prog_1_method_1_code 46 = .ok (.new 32, 3) := by decide +kernel
theorem d_PT_init_49 : decode prog_1_method_1_code 49 = .ok (.dup, 1) := by decide +kernel
theorem d_PT_init_50 : decode prog_1_method_1_code 50 = .ok (.aload_n 0, 1) := by decide +kernel
theorem d_PT_init_51 : decode prog_1_method_1_code 51 = .ok (.getfield 10, 3) := by decide +kernel
theorem d_PT_init_54 : decode prog_1_method_1_code 54 = .ok (.invokespecial 34, 3) := by decide +kernel
theorem d_PT_init_57 : decode prog_1_method_1_code 57 = .ok (.putfield 35, 3) := by decide +kernel
theorem d_PT_init_60 : decode prog_1_method_1_code 60 = .ok (.aload_n 0, 1) := by decide +kernel
theorem d_PT_init_61 : decode prog_1_method_1_code 61 = .ok (.new 39, 3) := by decide +kernel
theorem d_PT_init_64 : decode prog_1_method_1_code 64 = .ok (.dup, 1) := by decide +kernel
theorem d_PT_init_65 : decode prog_1_method_1_code 65 = .ok (.invokespecial 41, 3) := by decide +kernel
theorem d_PT_init_68 : decode prog_1_method_1_code 68 = .ok (.putfield 42, 3) := by decide +kernel
theorem d_PT_init_71 : decode prog_1_method_1_code 71 = .ok (.aload_n 0, 1) := by decide +kernel
theorem d_PT_init_72 : decode prog_1_method_1_code 72 = .ok (.new 46, 3) := by decide +kernel
theorem d_PT_init_75 : decode prog_1_method_1_code 75 = .ok (.dup, 1) := by decide +kernel
theorem d_PT_init_76 : decode prog_1_method_1_code 76 = .ok (.invokespecial 48, 3) := by decide +kernel
theorem d_PT_init_79 : decode prog_1_method_1_code 79 = .ok (.putfield 49, 3) := by decide +kernel
theorem d_PT_init_82 : decode prog_1_method_1_code 82 = .ok (.return_, 1) := by decide +kernel
theorem d_Md_init_0 : decode prog_10_method_1_code 0 = .ok (.aload_n 0, 1) := by decide +kernel
theorem d_Md_init_1 : decode prog_10_method_1_code 1 = .ok (.invokespecial 1, 3) := by decide +kernel
theorem d_Md_init_4 : decode prog_10_method_1_code 4 = .ok (.aload_n 0, 1) := by decide +kernel
theorem d_Md_init_5 : decode prog_10_method_1_code 5 = .ok (.sipush 200, 3) := by decide +kernel
theorem d_Md_init_8 : decode prog_10_method_1_code 8 = .ok (.newarray .boolean, 2) := by decide +kernel
theorem d_Md_init_10 : decode prog_10_method_1_code 10 = .ok (.putfield 7, 3) := by decide +kernel
theorem d_Md_init_13 : decode prog_10_method_1_code 13 = .ok (.aload_n 0, 1) := by decide +kernel
theorem d_Md_init_14 : decode prog_10_method_1_code 14 = .ok (.sipush 200, 3) := by decide +kernel
theorem d_Md_init_17 : decode prog_10_method_1_code 17 = .ok (.newarray .int, 2) := by decide +kernel
theorem d_Md_init_19 : decode prog_10_method_1_code 19 = .ok (.putfield 13, 3) := by decide +kernel
theorem d_Md_init_22 : decode prog_10_method_1_code 22 = .ok (.aload_n 0, 1) := by decide +kernel
theorem d_Md_init_23 : decode prog_10_method_1_code 23 = .ok (.sipush 200, 3) := by decide +kernel
theorem d_Md_init_26 : decode prog_10_method_1_code 26 = .ok (.newarray .int, 2) := by decide +kernel
theorem d_Md_init_28 : decode prog_10_method_1_code 28 = .ok (.putfield 17, 3) := by decide +kernel
theorem d_Md_init_31 : decode prog_10_method_1_code 31 = .ok (.aload_n 0, 1) := by decide +kernel
theorem d_Md_init_32 : decode prog_10_method_1_code 32 = .ok (.sipush 200, 3) := by decide +kernel
theorem d_Md_init_35 : decode prog_10_method_1_code 35 = .ok (.newarray .int, 2) := by decide +kernel
theorem d_Md_init_37 : decode prog_10_method_1_code 37 = .ok (.putfield 20, 3) := by decide +kernel
theorem d_Md_init_40 : decode prog_10_method_1_code 40 = .ok (.aload_n 0, 1) := by decide +kernel
theorem d_Md_init_41 : decode prog_10_method_1_code 41 = .ok (.sipush 8000, 3) := by decide +kernel
theorem d_Md_init_44 : decode prog_10_method_1_code 44 = .ok (.newarray .int, 2) := by decide +kernel
theorem d_Md_init_46 : decode prog_10_method_1_code 46 = .ok (.putfield 23, 3) := by decide +kernel
theorem d_Md_init_49 : decode prog_10_method_1_code 49 = .ok (.aload_n 0, 1) := by decide +kernel
theorem d_Md_init_50 : decode prog_10_method_1_code 50 = .ok (.sipush 800, 3) := by decide +kernel
theorem d_Md_init_53 : decode prog_10_method_1_code 53 = .ok (.newarray .int, 2) := by decide +kernel
theorem d_Md_init_55 : decode prog_10_method_1_code 55 = .ok (.putfield 26, 3) := by decide +kernel
theorem d_Md_init_58 : decode prog_10_method_1_code 58 = .ok (.aload_n 0, 1) := by decide +kernel
theorem d_Md_init_59 : decode prog_10_method_1_code 59 = .ok (.sipush 201, 3) := by decide +kernel
theorem d_Md_init_62 : decode prog_10_method_1_code 62 = .ok (.newarray .int, 2) := by decide +kernel
theorem d_Md_init_64 : decode prog_10_method_1_code 64 = .ok (.putfield 29, 3) := by decide +kernel
theorem d_Md_init_67 : decode prog_10_method_1_code 67 = .ok (.aload_n 0, 1) := by decide +kernel
theorem d_Md_init_68 : decode prog_10_method_1_code 68 = .ok (.sipush 201, 3) := by decide +kernel
theorem d_Md_init_71 : decode prog_10_method_1_code 71 = .ok (.newarray .int, 2) := by decide +kernel
theorem d_Md_init_73 : decode prog_10_method_1_code 73 = .ok (.putfield 32, 3) := by decide +kernel
theorem d_Md_init_76 : decode prog_10_method_1_code 76 = .ok (.aload_n 0, 1) := by decide +kernel
theorem d_Md_init_77 : decode prog_10_method_1_code 77 = .ok (.sipush 200, 3) := by decide +kernel
theorem d_Md_init_80 : decode prog_10_method_1_code 80 = .ok (.newarray .boolean, 2) := by decide +kernel
theorem d_Md_init_82 : decode prog_10_method_1_code 82 = .ok (.putfield 35, 3) := by decide +kernel
theorem d_Md_init_85 : decode prog_10_method_1_code 85 = .ok (.aload_n 0, 1) := by decide +kernel
theorem d_Md_init_86 : decode prog_10_method_1_code 86 = .ok (.sipush 200, 3) := by decide +kernel
theorem d_Md_init_89 : decode prog_10_method_1_code 89 = .ok (.newarray .int, 2) := by decide +kernel
theorem d_Md_init_91 : decode prog_10_method_1_code 91 = .ok (.putfield 38, 3) := by decide +kernel
theorem d_Md_init_94 : decode prog_10_method_1_code 94 = .ok (.aload_n 0, 1) := by decide +kernel
theorem d_Md_init_95 : decode prog_10_method_1_code 95 = .ok (.sipush 200, 3) := by decide +kernel
theorem d_Md_init_98 : decode prog_10_method_1_code 98 = .ok (.newarray .int, 2) := by decide +kernel
theorem d_Md_init_100 : decode prog_10_method_1_code 100 = .ok (.putfield 41, 3) := by decide +kernel
theorem d_Md_init_103 : decode prog_10_method_1_code 103 = .ok (.aload_n 0, 1) := by decide +kernel
theorem d_Md_init_104 : decode prog_10_method_1_code 104 = .ok (.sipush 200, 3) := by decide +kernel
theorem d_Md_init_107 : decode prog_10_method_1_code 107 = .ok (.newarray .int, 2) := by decide +kernel
theorem d_Md_init_109 : decode prog_10_method_1_code 109 = .ok (.putfield 44, 3) := by decide +kernel
theorem d_Md_init_112 : decode prog_10_method_1_code 112 = .ok (.aload_n 0, 1) := by decide +kernel
theorem d_Md_init_113 : decode prog_10_method_1_code 113 = .ok (.sipush 201, 3) := by decide +kernel
theorem d_Md_init_116 : decode prog_10_method_1_code 116 = .ok (.newarray .int, 2) := by decide +kernel
theorem d_Md_init_118 : decode prog_10_method_1_code 118 = .ok (.putfield 47, 3) := by decide +kernel
theorem d_Md_init_121 : decode prog_10_method_1_code 121 = .ok (.aload_n 0, 1) := by decide +kernel
theorem d_Md_init_122 : decode prog_10_method_1_code 122 = .ok (.bipush 100, 2) := by decide +kernel
theorem d_Md_init_124 : decode prog_10_method_1_code 124 = .ok (.newarray .int, 2) := by decide +kernel
theorem d_Md_init_126 : decode prog_10_method_1_code 126 = .ok (.putfield 50, 3) := by decide +kernel
theorem d_Md_init_129 : decode prog_10_method_1_code 129 = .ok (.aload_n 0, 1) := by decide +kernel
theorem d_Md_init_130 : decode prog_10_method_1_code 130 = .ok (.bipush 100, 2) := by decide +kernel
theorem d_Md_init_132 : decode prog_10_method_1_code 132 = .ok (.newarray .int, 2) := by decide +kernel
theorem d_Md_init_134 : decode prog_10_method_1_code 134 = .ok (.putfield 53, 3) := by decide +kernel
theorem d_Md_init_137 : decode prog_10_method_1_code 137 = .ok (.aload_n 0, 1) := by decide +kernel
theorem d_Md_init_138 : decode prog_10_method_1_code 138 = .ok (.bipush 20, 2) := by decide +kernel
theorem d_Md_init_140 : decode prog_10_method_1_code 140 = .ok (.newarray .int, 2) := by decide +kernel
theorem d_Md_init_142 : decode prog_10_method_1_code 142 = .ok (.putfield 56, 3) := by decide +kernel
theorem d_Md_init_145 : decode prog_10_method_1_code 145 = .ok (.aload_n 0, 1) := by decide +kernel
theorem d_Md_init_146 : decode prog_10_method_1_code 146 = .ok (.bipush 20, 2) := by decide +kernel
theorem d_Md_init_148 : decode prog_10_method_1_code 148 = .ok (.newarray .int, 2) := by decide +kernel
theorem d_Md_init_150 : decode prog_10_method_1_code 150 = .ok (.putfield 59, 3) := by decide +kernel
theorem d_Md_init_153 : decode prog_10_method_1_code 153 = .ok (.aload_n 0, 1) := by decide +kernel
theorem d_Md_init_154 : decode prog_10_method_1_code 154 = .ok (.bipush 20, 2) := by decide +kernel
theorem d_Md_init_156 : decode prog_10_method_1_code 156 = .ok (.newarray .int, 2) := by decide +kernel
theorem d_Md_init_158 : decode prog_10_method_1_code 158 = .ok (.putfield 62, 3) := by decide +kernel
theorem d_Md_init_161 : decode prog_10_method_1_code 161 = .ok (.aload_n 0, 1) := by decide +kernel
theorem d_Md_init_162 : decode prog_10_method_1_code 162 = .ok (.bipush 60, 2) := by decide +kernel
theorem d_Md_init_164 : decode prog_10_method_1_code 164 = .ok (.newarray .int, 2) := by decide +kernel
theorem d_Md_init_166 : decode prog_10_method_1_code 166 = .ok (.putfield 65, 3) := by decide +kernel
theorem d_Md_init_169 : decode prog_10_method_1_code 169 = .ok (.aload_n 0, 1) := by decide +kernel
theorem d_Md_init_170 : decode prog_10_method_1_code 170 = .ok (.bipush 60, 2) := by decide +kernel
theorem d_Md_init_172 : decode prog_10_method_1_code 172 = .ok (.newarray .int, 2) := by decide +kernel
theorem d_Md_init_174 : decode prog_10_method_1_code 174 = .ok (.putfield 68, 3) := by decide +kernel
theorem d_Md_init_177 : decode prog_10_method_1_code 177 = .ok (.aload_n 0, 1) := by decide +kernel
theorem d_Md_init_178 : decode prog_10_method_1_code 178 = .ok (.bipush 60, 2) := by decide +kernel
theorem d_Md_init_180 : decode prog_10_method_1_code 180 = .ok (.newarray .int, 2) := by decide +kernel
theorem d_Md_init_182 : decode prog_10_method_1_code 182 = .ok (.putfield 71, 3) := by decide +kernel
theorem d_Md_init_185 : decode prog_10_method_1_code 185 = .ok (.aload_n 0, 1) := by decide +kernel
theorem d_Md_init_186 : decode prog_10_method_1_code 186 = .ok (.sipush 200, 3) := by decide +kernel
theorem d_Md_init_189 : decode prog_10_method_1_code 189 = .ok (.newarray .int, 2) := by decide +kernel
theorem d_Md_init_191 : decode prog_10_method_1_code 191 = .ok (.putfield 74, 3) := by decide +kernel
theorem d_Md_init_194 : decode prog_10_method_1_code 194 = .ok (.return_, 1) := by decide +kernel
theorem d_Law_law_0 : decode code 0 = .ok (.new 7, 3) := by decide +kernel
theorem d_Law_law_3 : decode code 3 = .ok (.dup, 1) := by decide +kernel
theorem d_Law_law_4 : decode code 4 = .ok (.invokespecial 9, 3) := by decide +kernel
theorem d_Law_law_7 : decode code 7 = .ok (.astore_n 1, 1) := by decide +kernel
theorem d_Law_law_8 : decode code 8 = .ok (.new 10, 3) := by decide +kernel
theorem d_Law_law_11 : decode code 11 = .ok (.dup, 1) := by decide +kernel
theorem d_Law_law_12 : decode code 12 = .ok (.invokespecial 12, 3) := by decide +kernel
theorem d_Law_law_15 : decode code 15 = .ok (.astore_n 2, 1) := by decide +kernel
theorem d_Law_law_16 : decode code 16 = .ok (.iconst 0, 1) := by decide +kernel
theorem d_Law_law_17 : decode code 17 = .ok (.istore_n 3, 1) := by decide +kernel
theorem d_Law_law_18 : decode code 18 = .ok (.iload_n 3, 1) := by decide +kernel
theorem d_Law_law_19 : decode code 19 = .ok (.aload_n 0, 1) := by decide +kernel
theorem d_Law_law_20 : decode code 20 = .ok (.arraylength, 1) := by decide +kernel
theorem d_Law_law_21 : decode code 21 = .ok (.iconst 4, 1) := by decide +kernel
theorem d_Law_law_22 : decode code 22 = .ok (.isub, 1) := by decide +kernel
theorem d_Law_law_23 : decode code 23 = .ok (.if_icmp .gt 671, 3) := by decide +kernel
theorem d_Law_law_26 : decode code 26 = .ok (.aload_n 0, 1) := by decide +kernel
theorem d_Law_law_27 : decode code 27 = .ok (.iload_n 3, 1) := by decide +kernel
theorem d_Law_law_28 : decode code 28 = .ok (.iaload, 1) := by decide +kernel
theorem d_Law_law_29 : decode code 29 = .ok (.bipush 31, 2) := by decide +kernel
theorem d_Law_law_31 : decode code 31 = .ok (.iand, 1) := by decide +kernel
theorem d_Law_law_32 : decode code 32 = .ok (.tableswitch 656 0 19 #[96, 129, 152, 185, 228, 261, 274, 297, 330, 363, 376, 409, 442, 465, 488, 531, 564, 597, 620, 633], 96) := by decide +kernel
theorem d_Law_law_128 : decode code 128 = .ok (.aload_n 1, 1) := by decide +kernel
theorem d_Law_law_129 : decode code 129 = .ok (.aload_n 0, 1) := by decide +kernel
theorem d_Law_law_130 : decode code 130 = .ok (.iload_n 3, 1) := by decide +kernel
theorem d_Law_law_131 : decode code 131 = .ok (.iconst 1, 1) := by decide +kernel
theorem d_Law_law_132 : decode code 132 = .ok (.iadd, 1) := by decide +kernel
theorem d_Law_law_133 : decode code 133 = .ok (.iaload, 1) := by decide +kernel
theorem d_Law_law_134 : decode code 134 = .ok (.aload_n 0, 1) := by decide +kernel
theorem d_Law_law_135 : decode code 135 = .ok (.iload_n 3, 1) := by decide +kernel
theorem d_Law_law_136 : decode code 136 = .ok (.iconst 2, 1) := by decide +kernel
theorem d_Law_law_137 : decode code 137 = .ok (.iadd, 1) := by decide +kernel
theorem d_Law_law_138 : decode code 138 = .ok (.iaload, 1) := by decide +kernel
theorem d_Law_law_139 : decode code 139 = .ok (.invokevirtual 13, 3) := by decide +kernel
theorem d_Law_law_142 : decode code 142 = .ok (.aload_n 2, 1) := by decide +kernel
theorem d_Law_law_143 : decode code 143 = .ok (.aload_n 0, 1) := by decide +kernel
theorem d_Law_law_144 : decode code 144 = .ok (.iload_n 3, 1) := by decide +kernel
theorem d_Law_law_145 : decode code 145 = .ok (.iconst 1, 1) := by decide +kernel
theorem d_Law_law_146 : decode code 146 = .ok (.iadd, 1) := by decide +kernel
theorem d_Law_law_147 : decode code 147 = .ok (.iaload, 1) := by decide +kernel
theorem d_Law_law_148 : decode code 148 = .ok (.aload_n 0, 1) := by decide +kernel
theorem d_Law_law_149 : decode code 149 = .ok (.iload_n 3, 1) := by decide +kernel
theorem d_Law_law_150 : decode code 150 = .ok (.iconst 2, 1) := by decide +kernel
theorem d_Law_law_151 : decode code 151 = .ok (.iadd, 1) := by decide +kernel
theorem d_Law_law_152 : decode code 152 = .ok (.iaload, 1) := by decide +kernel
theorem d_Law_law_153 : decode code 153 = .ok (.invokevirtual 17, 3) := by decide +kernel
theorem d_Law_law_156 : decode code 156 = .ok (.if_icmp .eq 532, 3) := by decide +kernel
theorem d_Law_law_159 : decode code 159 = .ok (.iconst 0, 1) := by decide +kernel
theorem d_Law_law_160 : decode code 160 = .ok (.ireturn, 1) := by decide +kernel
theorem d_Law_law_161 : decode code 161 = .ok (.aload_n 1, 1) := by decide +kernel
theorem d_Law_law_162 : decode code 162 = .ok (.aload_n 0, 1) := by decide +kernel
theorem d_Law_law_163 : decode code 163 = .ok (.iload_n 3, 1) := by decide +kernel
theorem d_Law_law_164 : decode code 164 = .ok (.iconst 1, 1) := by decide +kernel
theorem d_Law_law_165 : decode code 165 = .ok (.iadd, 1) := by decide +kernel
theorem d_Law_law_166 : decode code 166 = .ok (.iaload, 1) := by decide +kernel
theorem d_Law_law_167 : decode code 167 = .ok (.invokevirtual 18, 3) := by decide +kernel
theorem d_Law_law_170 : decode code 170 = .ok (.aload_n 2, 1) := by decide +kernel
theorem d_Law_law_171 : decode code 171 = .ok (.aload_n 0, 1) := by decide +kernel
theorem d_Law_law_172 : decode code 172 = .ok (.iload_n 3, 1) := by decide +kernel
theorem d_Law_law_173 : decode code 173 = .ok (.iconst 1, 1) := by decide +kernel
theorem d_Law_law_174 : decode code 174 = .ok (.iadd, 1) := by decide +kernel
theorem d_Law_law_175 : decode code 175 = .ok (.iaload, 1) := by decide +kernel
theorem d_Law_law_176 : decode code 176 = .ok (.invokevirtual 22, 3) := by decide +kernel
theorem d_Law_law_179 : decode code 179 = .ok (.if_icmp .eq 509, 3) := by decide +kernel
theorem d_Law_law_182 : decode code 182 = .ok (.iconst 0, 1) := by decide +kernel
theorem d_Law_law_183 : decode code 183 = .ok (.ireturn, 1) := by decide +kernel
theorem d_Law_law_184 : decode code 184 = .ok (.aload_n 1, 1) := by decide +kernel
theorem d_Law_law_185 : decode code 185 = .ok (.aload_n 0, 1) := by decide +kernel
theorem d_Law_law_186 : decode code 186 = .ok (.iload_n 3, 1) := by decide +kernel
theorem d_Law_law_187 : decode code 187 = .ok (.iconst 1, 1) := by decide +kernel
theorem d_Law_law_188 : decode code 188 = .ok (.iadd, 1) := by decide +kernel
theorem d_Law_law_189 : decode code 189 = .ok (.iaload, 1) := by decide +kernel
theorem d_Law_law_190 : decode code 190 = .ok (.aload_n 0, 1) := by decide +kernel
theorem d_Law_law_191 : decode code 191 = .ok (.iload_n 3, 1) := by decide +kernel
theorem d_Law_law_192 : decode code 192 = .ok (.iconst 2, 1) := by decide +kernel
theorem d_Law_law_193 : decode code 193 = .ok (.iadd, 1) := by decide +kernel
theorem d_Law_law_194 : decode code 194 = .ok (.iaload, 1) := by decide +kernel
theorem d_Law_law_195 : decode code 195 = .ok (.invokevirtual 23, 3) := by decide +kernel
theorem d_Law_law_198 : decode code 198 = .ok (.aload_n 2, 1) := by decide +kernel
theorem d_Law_law_199 : decode code 199 = .ok (.aload_n 0, 1) := by decide +kernel
theorem d_Law_law_200 : decode code 200 = .ok (.iload_n 3, 1) := by decide +kernel
theorem d_Law_law_201 : decode code 201 = .ok (.iconst 1, 1) := by decide +kernel
theorem d_Law_law_202 : decode code 202 = .ok (.iadd, 1) := by decide +kernel
theorem d_Law_law_203 : decode code 203 = .ok (.iaload, 1) := by decide +kernel
theorem d_Law_law_204 : decode code 204 = .ok (.aload_n 0, 1) := by decide +kernel
theorem d_Law_law_205 : decode code 205 = .ok (.iload_n 3, 1) := by decide +kernel
theorem d_Law_law_206 : decode code 206 = .ok (.iconst 2, 1) := by decide +kernel
theorem d_Law_law_207 : decode code 207 = .ok (.iadd, 1) := by decide +kernel
theorem d_Law_law_208 : decode code 208 = .ok (.iaload, 1) := by decide +kernel
theorem d_Law_law_209 : decode code 209 = .ok (.invokevirtual 26, 3) := by decide +kernel
theorem d_Law_law_212 : decode code 212 = .ok (.if_icmp .eq 476, 3) := by decide +kernel
theorem d_Law_law_215 : decode code 215 = .ok (.iconst 0, 1) := by decide +kernel
theorem d_Law_law_216 : decode code 216 = .ok (.ireturn, 1) := by decide +kernel
theorem d_Law_law_217 : decode code 217 = .ok (.aload_n 1, 1) := by decide +kernel
theorem d_Law_law_218 : decode code 218 = .ok (.aload_n 0, 1) := by decide +kernel
theorem d_Law_law_219 : decode code 219 = .ok (.iload_n 3, 1) := by decide +kernel
theorem d_Law_law_220 : decode code 220 = .ok (.iconst 1, 1) := by decide +kernel
theorem d_Law_law_221 : decode code 221 = .ok (.iadd, 1) := by decide +kernel
theorem d_Law_law_222 : decode code 222 = .ok (.iaload, 1) := by decide +kernel
theorem d_Law_law_223 : decode code 223 = .ok (.aload_n 0, 1) := by decide +kernel
theorem d_Law_law_224 : decode code 224 = .ok (.iload_n 3, 1) := by decide +kernel
theorem d_Law_law_225 : decode code 225 = .ok (.iconst 2, 1) := by decide +kernel
theorem d_Law_law_226 : decode code 226 = .ok (.iadd, 1) := by decide +kernel
theorem d_Law_law_227 : decode code 227 = .ok (.iaload, 1) := by decide +kernel
theorem d_Law_law_228 : decode code 228 = .ok (.aload_n 0, 1) := by decide +kernel
theorem d_Law_law_229 : decode code 229 = .ok (.iload_n 3, 1) := by decide +kernel
theorem d_Law_law_230 : decode code 230 = .ok (.iconst 3, 1) := by decide +kernel
theorem d_Law_law_231 : decode code 231 = .ok (.iadd, 1) := by decide +kernel
theorem d_Law_law_232 : decode code 232 = .ok (.iaload, 1) := by decide +kernel
theorem d_Law_law_233 : decode code 233 = .ok (.invokevirtual 27, 3) := by decide +kernel
theorem d_Law_law_236 : decode code 236 = .ok (.aload_n 2, 1) := by decide +kernel
theorem d_Law_law_237 : decode code 237 = .ok (.aload_n 0, 1) := by decide +kernel
theorem d_Law_law_238 : decode code 238 = .ok (.iload_n 3, 1) := by decide +kernel
theorem d_Law_law_239 : decode code 239 = .ok (.iconst 1, 1) := by decide +kernel
theorem d_Law_law_240 : decode code 240 = .ok (.iadd, 1) := by decide +kernel
theorem d_Law_law_241 : decode code 241 = .ok (.iaload, 1) := by decide +kernel
theorem d_Law_law_242 : decode code 242 = .ok (.aload_n 0, 1) := by decide +kernel
theorem d_Law_law_243 : decode code 243 = .ok (.iload_n 3, 1) := by decide +kernel
theorem d_Law_law_244 : decode code 244 = .ok (.iconst 2, 1) := by decide +kernel
theorem d_Law_law_245 : decode code 245 = .ok (.iadd, 1) := by decide +kernel
theorem d_Law_law_246 : decode code 246 = .ok (.iaload, 1) := by decide +kernel
theorem d_Law_law_247 : decode code 247 = .ok (.aload_n 0, 1) := by decide +kernel
theorem d_Law_law_248 : decode code 248 = .ok (.iload_n 3, 1) := by decide +kernel
theorem d_Law_law_249 : decode code 249 = .ok (.iconst 3, 1) := by decide +kernel
theorem d_Law_law_250 : decode code 250 = .ok (.iadd, 1) := by decide +kernel
theorem d_Law_law_251 : decode code 251 = .ok (.iaload, 1) := by decide +kernel
theorem d_Law_law_252 : decode code 252 = .ok (.invokevirtual 31, 3) := by decide +kernel
theorem d_Law_law_255 : decode code 255 = .ok (.if_icmp .eq 433, 3) := by decide +kernel
theorem d_Law_law_258 : decode code 258 = .ok (.iconst 0, 1) := by decide +kernel
theorem d_Law_law_259 : decode code 259 = .ok (.ireturn, 1) := by decide +kernel
theorem d_Law_law_260 : decode code 260 = .ok (.aload_n 1, 1) := by decide +kernel
theorem d_Law_law_261 : decode code 261 = .ok (.aload_n 0, 1) := by decide +kernel
theorem d_Law_law_262 : decode code 262 = .ok (.iload_n 3, 1) := by decide +kernel
theorem d_Law_law_263 : decode code 263 = .ok (.iconst 1, 1) := by decide +kernel
theorem d_Law_law_264 : decode code 264 = .ok (.iadd, 1) := by decide +kernel
theorem d_Law_law_265 : decode code 265 = .ok (.iaload, 1) := by decide +kernel
theorem d_Law_law_266 : decode code 266 = .ok (.aload_n 0, 1) := by decide +kernel
theorem d_Law_law_267 : decode code 267 = .ok (.iload_n 3, 1) := by decide +kernel
theorem d_Law_law_268 : decode code 268 = .ok (.iconst 2, 1) := by decide +kernel
theorem d_Law_law_269 : decode code 269 = .ok (.iadd, 1) := by decide +kernel
theorem d_Law_law_270 : decode code 270 = .ok (.iaload, 1) := by decide +kernel
theorem d_Law_law_271 : decode code 271 = .ok (.invokevirtual 32, 3) := by decide +kernel
theorem d_Law_law_274 : decode code 274 = .ok (.aload_n 2, 1) := by decide +kernel
theorem d_Law_law_275 : decode code 275 = .ok (.aload_n 0, 1) := by decide +kernel
theorem d_Law_law_276 : decode code 276 = .ok (.iload_n 3, 1) := by decide +kernel
theorem d_Law_law_277 : decode code 277 = .ok (.iconst 1, 1) := by decide +kernel
theorem d_Law_law_278 : decode code 278 = .ok (.iadd, 1) := by decide +kernel
theorem d_Law_law_279 : decode code 279 = .ok (.iaload, 1) := by decide +kernel
theorem d_Law_law_280 : decode code 280 = .ok (.aload_n 0, 1) := by decide +kernel
theorem d_Law_law_281 : decode code 281 = .ok (.iload_n 3, 1) := by decide +kernel
theorem d_Law_law_282 : decode code 282 = .ok (.iconst 2, 1) := by decide +kernel
theorem d_Law_law_283 : decode code 283 = .ok (.iadd, 1) := by decide +kernel
theorem d_Law_law_284 : decode code 284 = .ok (.iaload, 1) := by decide +kernel
theorem d_Law_law_285 : decode code 285 = .ok (.invokevirtual 35, 3) := by decide +kernel
theorem d_Law_law_288 : decode code 288 = .ok (.if_icmp .eq 400, 3) := by decide +kernel
theorem d_Law_law_291 : decode code 291 = .ok (.iconst 0, 1) := by decide +kernel
