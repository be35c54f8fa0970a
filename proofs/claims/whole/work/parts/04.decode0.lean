theorem d_Items_size_0 : decode prog_3_method_2_code 0 = .ok (.aload_n 0, 1) := by decide +kernel
theorem d_Items_size_1 : decode prog_3_method_2_code 1 = .ok (.getfield 37, 3) := by decide +kernel
theorem d_Items_size_4 : decode prog_3_method_2_code 4 = .ok (.ireturn, 1) := by decide +kernel
theorem d_Items_add_0 : decode prog_3_method_8_code 0 = .ok (.aload_n 0, 1) := by decide +kernel
theorem d_Items_add_1 : decode prog_3_method_8_code 1 = .ok (.getfield 37, 3) := by decide +kernel
theorem d_Items_add_4 : decode prog_3_method_8_code 4 = .ok (.sipush 200, 3) := by decide +kernel
theorem d_Items_add_7 : decode prog_3_method_8_code 7 = .ok (.if_icmp .lt 5, 3) := by decide +kernel
theorem d_Items_add_10 : decode prog_3_method_8_code 10 = .ok (.iconst (-1), 1) := by decide +kernel
theorem d_Items_add_11 : decode prog_3_method_8_code 11 = .ok (.ireturn, 1) := by decide +kernel
theorem d_Items_add_12 : decode prog_3_method_8_code 12 = .ok (.aload_n 0, 1) := by decide +kernel
theorem d_Items_add_13 : decode prog_3_method_8_code 13 = .ok (.getfield 37, 3) := by decide +kernel
theorem d_Items_add_16 : decode prog_3_method_8_code 16 = .ok (.istore 4, 2) := by decide +kernel
theorem d_Items_add_18 : decode prog_3_method_8_code 18 = .ok (.aload_n 0, 1) := by decide +kernel
theorem d_Items_add_19 : decode prog_3_method_8_code 19 = .ok (.dup, 1) := by decide +kernel
theorem d_Items_add_20 : decode prog_3_method_8_code 20 = .ok (.getfield 37, 3) := by decide +kernel
theorem d_Items_add_23 : decode prog_3_method_8_code 23 = .ok (.iconst 1, 1) := by decide +kernel
theorem d_Items_add_24 : decode prog_3_method_8_code 24 = .ok (.iadd, 1) := by decide +kernel
theorem d_Items_add_25 : decode prog_3_method_8_code 25 = .ok (.putfield 37, 3) := by decide +kernel
theorem d_Items_add_28 : decode prog_3_method_8_code 28 = .ok (.aload_n 0, 1) := by decide +kernel
theorem d_Items_add_29 : decode prog_3_method_8_code 29 = .ok (.getfield 9, 3) := by decide +kernel
theorem d_Items_add_32 : decode prog_3_method_8_code 32 = .ok (.iload 4, 2) := by decide +kernel
theorem d_Items_add_34 : decode prog_3_method_8_code 34 = .ok (.iload_n 1, 1) := by decide +kernel
theorem d_Items_add_35 : decode prog_3_method_8_code 35 = .ok (.bastore, 1) := by decide +kernel
theorem d_Items_add_36 : decode prog_3_method_8_code 36 = .ok (.aload_n 0, 1) := by decide +kernel
theorem d_Items_add_37 : decode prog_3_method_8_code 37 = .ok (.getfield 15, 3) := by decide +kernel
theorem d_Items_add_40 : decode prog_3_method_8_code 40 = .ok (.iload 4, 2) := by decide +kernel
theorem d_Items_add_42 : decode prog_3_method_8_code 42 = .ok (.iload_n 2, 1) := by decide +kernel
theorem d_Items_add_43 : decode prog_3_method_8_code 43 = .ok (.iastore, 1) := by decide +kernel
theorem d_Items_add_44 : decode prog_3_method_8_code 44 = .ok (.aload_n 0, 1) := by decide +kernel
theorem d_Items_add_45 : decode prog_3_method_8_code 45 = .ok (.getfield 19, 3) := by decide +kernel
theorem d_Items_add_48 : decode prog_3_method_8_code 48 = .ok (.iload 4, 2) := by decide +kernel
theorem d_Items_add_50 : decode prog_3_method_8_code 50 = .ok (.iload_n 3, 1) := by decide +kernel
theorem d_Items_add_51 : decode prog_3_method_8_code 51 = .ok (.iastore, 1) := by decide +kernel
theorem d_Items_add_52 : decode prog_3_method_8_code 52 = .ok (.iload 4, 2) := by decide +kernel
theorem d_Items_add_54 : decode prog_3_method_8_code 54 = .ok (.ireturn, 1) := by decide +kernel
theorem d_Items_isNode_0 : decode prog_3_method_7_code 0 = .ok (.iload_n 1, 1) := by decide +kernel
theorem d_Items_isNode_1 : decode prog_3_method_7_code 1 = .ok (.ifCond .lt 24, 3) := by decide +kernel
theorem d_Items_isNode_4 : decode prog_3_method_7_code 4 = .ok (.iload_n 1, 1) := by decide +kernel
theorem d_Items_isNode_5 : decode prog_3_method_7_code 5 = .ok (.aload_n 0, 1) := by decide +kernel
theorem d_Items_isNode_6 : decode prog_3_method_7_code 6 = .ok (.getfield 37, 3) := by decide +kernel
theorem d_Items_isNode_9 : decode prog_3_method_7_code 9 = .ok (.if_icmp .ge 16, 3) := by decide +kernel
theorem d_Items_isNode_12 : decode prog_3_method_7_code 12 = .ok (.aload_n 0, 1) := by decide +kernel
theorem d_Items_isNode_13 : decode prog_3_method_7_code 13 = .ok (.getfield 9, 3) := by decide +kernel
theorem d_Items_isNode_16 : decode prog_3_method_7_code 16 = .ok (.iload_n 1, 1) := by decide +kernel
theorem d_Items_isNode_17 : decode prog_3_method_7_code 17 = .ok (.baload, 1) := by decide +kernel
theorem d_Items_isNode_18 : decode prog_3_method_7_code 18 = .ok (.ifCond .ne 7, 3) := by decide +kernel
theorem d_Items_isNode_21 : decode prog_3_method_7_code 21 = .ok (.iconst 1, 1) := by decide +kernel
theorem d_Items_isNode_22 : decode prog_3_method_7_code 22 = .ok (.goto 4, 3) := by decide +kernel
theorem d_Items_isNode_25 : decode prog_3_method_7_code 25 = .ok (.iconst 0, 1) := by decide +kernel
theorem d_Items_isNode_26 : decode prog_3_method_7_code 26 = .ok (.ireturn, 1) := by decide +kernel
theorem d_Items_isFull_0 : decode prog_3_method_4_code 0 = .ok (.aload_n 0, 1) := by decide +kernel
theorem d_Items_isFull_1 : decode prog_3_method_4_code 1 = .ok (.getfield 37, 3) := by decide +kernel
theorem d_Items_isFull_4 : decode prog_3_method_4_code 4 = .ok (.sipush 200, 3) := by decide +kernel
theorem d_Items_isFull_7 : decode prog_3_method_4_code 7 = .ok (.if_icmp .lt 7, 3) := by decide +kernel
theorem d_Items_isFull_10 : decode prog_3_method_4_code 10 = .ok (.iconst 1, 1) := by decide +kernel
theorem d_Items_isFull_11 : decode prog_3_method_4_code 11 = .ok (.goto 4, 3) := by decide +kernel
theorem d_Items_isFull_14 : decode prog_3_method_4_code 14 = .ok (.iconst 0, 1) := by decide +kernel
theorem d_Items_isFull_15 : decode prog_3_method_4_code 15 = .ok (.ireturn, 1) := by decide +kernel
theorem d_Items_isKnown_0 : decode prog_3_method_5_code 0 = .ok (.iload_n 1, 1) := by decide +kernel
theorem d_Items_isKnown_1 : decode prog_3_method_5_code 1 = .ok (.ifCond .lt 15, 3) := by decide +kernel
theorem d_Items_isKnown_4 : decode prog_3_method_5_code 4 = .ok (.iload_n 1, 1) := by decide +kernel
theorem d_Items_isKnown_5 : decode prog_3_method_5_code 5 = .ok (.aload_n 0, 1) := by decide +kernel
theorem d_Items_isKnown_6 : decode prog_3_method_5_code 6 = .ok (.getfield 37, 3) := by decide +kernel
theorem d_Items_isKnown_9 : decode prog_3_method_5_code 9 = .ok (.if_icmp .ge 7, 3) := by decide +kernel
theorem d_Items_isKnown_12 : decode prog_3_method_5_code 12 = .ok (.iconst 1, 1) := by decide +kernel
theorem d_Items_isKnown_13 : decode prog_3_method_5_code 13 = .ok (.goto 4, 3) := by decide +kernel
theorem d_Items_isKnown_16 : decode prog_3_method_5_code 16 = .ok (.iconst 0, 1) := by decide +kernel
theorem d_Items_isKnown_17 : decode prog_3_method_5_code 17 = .ok (.ireturn, 1) := by decide +kernel
theorem d_Items_kidCountOf_0 : decode prog_3_method_13_code 0 = .ok (.aload_n 0, 1) := by decide +kernel
theorem d_Items_kidCountOf_1 : decode prog_3_method_13_code 1 = .ok (.iload_n 1, 1) := by decide +kernel
theorem d_Items_kidCountOf_2 : decode prog_3_method_13_code 2 = .ok (.invokevirtual 44, 3) := by decide +kernel
theorem d_Items_kidCountOf_5 : decode prog_3_method_13_code 5 = .ok (.ifCond .eq 12, 3) := by decide +kernel
theorem d_Items_kidCountOf_8 : decode prog_3_method_13_code 8 = .ok (.aload_n 0, 1) := by decide +kernel
theorem d_Items_kidCountOf_9 : decode prog_3_method_13_code 9 = .ok (.getfield 22, 3) := by decide +kernel
theorem d_Items_kidCountOf_12 : decode prog_3_method_13_code 12 = .ok (.iload_n 1, 1) := by decide +kernel
theorem d_Items_kidCountOf_13 : decode prog_3_method_13_code 13 = .ok (.iaload, 1) := by decide +kernel
theorem d_Items_kidCountOf_14 : decode prog_3_method_13_code 14 = .ok (.goto 4, 3) := by decide +kernel
theorem d_Items_kidCountOf_17 : decode prog_3_method_13_code 17 = .ok (.iconst 0, 1) := by decide +kernel
theorem d_Items_kidCountOf_18 : decode prog_3_method_13_code 18 = .ok (.ireturn, 1) := by decide +kernel
theorem d_Items_hasNoSlotLeft_0 : decode prog_3_method_14_code 0 = .ok (.aload_n 0, 1) := by decide +kernel
theorem d_Items_hasNoSlotLeft_1 : decode prog_3_method_14_code 1 = .ok (.iload_n 1, 1) := by decide +kernel
theorem d_Items_hasNoSlotLeft_2 : decode prog_3_method_14_code 2 = .ok (.invokevirtual 48, 3) := by decide +kernel
theorem d_Items_hasNoSlotLeft_5 : decode prog_3_method_14_code 5 = .ok (.bipush 40, 2) := by decide +kernel
theorem d_Items_hasNoSlotLeft_7 : decode prog_3_method_14_code 7 = .ok (.if_icmp .lt 7, 3) := by decide +kernel
theorem d_Items_hasNoSlotLeft_10 : decode prog_3_method_14_code 10 = .ok (.iconst 1, 1) := by decide +kernel
theorem d_Items_hasNoSlotLeft_11 : decode prog_3_method_14_code 11 = .ok (.goto 4, 3) := by decide +kernel
theorem d_Items_hasNoSlotLeft_14 : decode prog_3_method_14_code 14 = .ok (.iconst 0, 1) := by decide +kernel
theorem d_Items_hasNoSlotLeft_15 : decode prog_3_method_14_code 15 = .ok (.ireturn, 1) := by decide +kernel
theorem d_Items_insertKid_0 : decode prog_3_method_19_code 0 = .ok (.aload_n 0, 1) := by decide +kernel
theorem d_Items_insertKid_1 : decode prog_3_method_19_code 1 = .ok (.iload_n 1, 1) := by decide +kernel
theorem d_Items_insertKid_2 : decode prog_3_method_19_code 2 = .ok (.invokevirtual 60, 3) := by decide +kernel
theorem d_Items_insertKid_5 : decode prog_3_method_19_code 5 = .ok (.ifCond .eq 28, 3) := by decide +kernel
theorem d_Items_insertKid_8 : decode prog_3_method_19_code 8 = .ok (.iload_n 2, 1) := by decide +kernel
theorem d_Items_insertKid_9 : decode prog_3_method_19_code 9 = .ok (.ifCond .lt 24, 3) := by decide +kernel
theorem d_Items_insertKid_12 : decode prog_3_method_19_code 12 = .ok (.iload_n 2, 1) := by decide +kernel
theorem d_Items_insertKid_13 : decode prog_3_method_19_code 13 = .ok (.aload_n 0, 1) := by decide +kernel
theorem d_Items_insertKid_14 : decode prog_3_method_19_code 14 = .ok (.getfield 22, 3) := by decide +kernel
theorem d_Items_insertKid_17 : decode prog_3_method_19_code 17 = .ok (.iload_n 1, 1) := by decide +kernel
theorem d_Items_insertKid_18 : decode prog_3_method_19_code 18 = .ok (.iaload, 1) := by decide +kernel
theorem d_Items_insertKid_19 : decode prog_3_method_19_code 19 = .ok (.if_icmp .gt 14, 3) := by decide +kernel
theorem d_Items_insertKid_22 : decode prog_3_method_19_code 22 = .ok (.aload_n 0, 1) := by decide +kernel
theorem d_Items_insertKid_23 : decode prog_3_method_19_code 23 = .ok (.getfield 22, 3) := by decide +kernel
theorem d_Items_insertKid_26 : decode prog_3_method_19_code 26 = .ok (.iload_n 1, 1) := by decide +kernel
theorem d_Items_insertKid_27 : decode prog_3_method_19_code 27 = .ok (.iaload, 1) := by decide +kernel
theorem d_Items_insertKid_28 : decode prog_3_method_19_code 28 = .ok (.bipush 40, 2) := by decide +kernel
theorem d_Items_insertKid_30 : decode prog_3_method_19_code 30 = .ok (.if_icmp .lt 4, 3) := by decide +kernel
theorem d_Items_insertKid_33 : decode prog_3_method_19_code 33 = .ok (.return_, 1) := by decide +kernel
theorem d_Items_insertKid_34 : decode prog_3_method_19_code 34 = .ok (.iload_n 1, 1) := by decide +kernel
theorem d_Items_insertKid_35 : decode prog_3_method_19_code 35 = .ok (.bipush 40, 2) := by decide +kernel
theorem d_Items_insertKid_37 : decode prog_3_method_19_code 37 = .ok (.imul, 1) := by decide +kernel
theorem d_Items_insertKid_38 : decode prog_3_method_19_code 38 = .ok (.istore 4, 2) := by decide +kernel
theorem d_Items_insertKid_40 : decode prog_3_method_19_code 40 = .ok (.aload_n 0, 1) := by decide +kernel
theorem d_Items_insertKid_41 : decode prog_3_method_19_code 41 = .ok (.getfield 22, 3) := by decide +kernel
theorem d_Items_insertKid_44 : decode prog_3_method_19_code 44 = .ok (.iload_n 1, 1) := by decide +kernel
theorem d_Items_insertKid_45 : decode prog_3_method_19_code 45 = .ok (.iaload, 1) := by decide +kernel
theorem d_Items_insertKid_46 : decode prog_3_method_19_code 46 = .ok (.istore 5, 2) := by decide +kernel
theorem d_Items_insertKid_48 : decode prog_3_method_19_code 48 = .ok (.iload 5, 2) := by decide +kernel
theorem d_Items_insertKid_50 : decode prog_3_method_19_code 50 = .ok (.iload_n 2, 1) := by decide +kernel
theorem d_Items_insertKid_51 : decode prog_3_method_19_code 51 = .ok (.if_icmp .le 31, 3) := by decide +kernel
theorem d_Items_insertKid_54 : decode prog_3_method_19_code 54 = .ok (.aload_n 0, 1) := by decide +kernel
theorem d_Items_insertKid_55 : decode prog_3_method_19_code 55 = .ok (.getfield 25, 3) := by decide +kernel
theorem d_Items_insertKid_58 : decode prog_3_method_19_code 58 = .ok (.iload 4, 2) := by decide +kernel
theorem d_Items_insertKid_60 : decode prog_3_method_19_code 60 = .ok (.iload 5, 2) := by decide +kernel
theorem d_Items_insertKid_62 : decode prog_3_method_19_code 62 = .ok (.iadd, 1) := by decide +kernel
theorem d_Items_insertKid_63 : decode prog_3_method_19_code 63 = .ok (.aload_n 0, 1) := by decide +kernel
theorem d_Items_insertKid_64 : decode prog_3_method_19_code 64 = .ok (.getfield 25, 3) := by decide +kernel
theorem d_Items_insertKid_67 : decode prog_3_method_19_code 67 = .ok (.iload 4, 2) := by decide +kernel
theorem d_Items_insertKid_69 : decode prog_3_method_19_code 69 = .ok (.iload 5, 2) := by decide +kernel
theorem d_Items_insertKid_71 : decode prog_3_method_19_code 71 = .ok (.iadd, 1) := by decide +kernel
theorem d_Items_insertKid_72 : decode prog_3_method_19_code 72 = .ok (.iconst 1, 1) := by decide +kernel
theorem d_Items_insertKid_73 : decode prog_3_method_19_code 73 = .ok (.isub, 1) := by decide +kernel
theorem d_Items_insertKid_74 : decode prog_3_method_19_code 74 = .ok (.iaload, 1) := by decide +kernel
theorem d_Items_insertKid_75 : decode prog_3_method_19_code 75 = .ok (.iastore, 1) := by decide +kernel
theorem d_Items_insertKid_76 : decode prog_3_method_19_code 76 = .ok (.iinc 5 (-1), 3) := by decide +kernel
theorem d_Items_insertKid_79 : decode prog_3_method_19_code 79 = .ok (.goto (-31), 3) := by decide +kernel
theorem d_Items_insertKid_82 : decode prog_3_method_19_code 82 = .ok (.aload_n 0, 1) := by decide +kernel
theorem d_Items_insertKid_83 : decode prog_3_method_19_code 83 = .ok (.getfield 25, 3) := by decide +kernel
theorem d_Items_insertKid_86 : decode prog_3_method_19_code 86 = .ok (.iload 4, 2) := by decide +kernel
theorem d_Items_insertKid_88 : decode prog_3_method_19_code 88 = .ok (.iload_n 2, 1) := by decide +kernel
theorem d_Items_insertKid_89 : decode prog_3_method_19_code 89 = .ok (.iadd, 1) := by decide +kernel
theorem d_Items_insertKid_90 : decode prog_3_method_19_code 90 = .ok (.iload_n 3, 1) := by decide +kernel
theorem d_Items_insertKid_91 : decode prog_3_method_19_code 91 = .ok (.iastore, 1) := by decide +kernel
theorem d_Items_insertKid_92 : decode prog_3_method_19_code 92 = .ok (.aload_n 0, 1) := by decide +kernel
theorem d_Items_insertKid_93 : decode prog_3_method_19_code 93 = .ok (.getfield 22, 3) := by decide +kernel
theorem d_Items_insertKid_96 : decode prog_3_method_19_code 96 = .ok (.iload_n 1, 1) := by decide +kernel
theorem d_Items_insertKid_97 : decode prog_3_method_19_code 97 = .ok (.dup2, 1) := by decide +kernel
theorem d_Items_insertKid_98 : decode prog_3_method_19_code 98 = .ok (.iaload, 1) := by decide +kernel
theorem d_Items_insertKid_99 : decode prog_3_method_19_code 99 = .ok (.iconst 1, 1) := by decide +kernel
theorem d_Items_insertKid_100 : decode prog_3_method_19_code 100 = .ok (.iadd, 1) := by decide +kernel
theorem d_Items_insertKid_101 : decode prog_3_method_19_code 101 = .ok (.iastore, 1) := by decide +kernel
theorem d_Items_insertKid_102 : decode prog_3_method_19_code 102 = .ok (.aload_n 0, 1) := by decide +kernel
theorem d_Items_insertKid_103 : decode prog_3_method_19_code 103 = .ok (.dup, 1) := by decide +kernel
theorem d_Items_insertKid_104 : decode prog_3_method_19_code 104 = .ok (.getfield 41, 3) := by decide +kernel
theorem d_Items_insertKid_107 : decode prog_3_method_19_code 107 = .ok (.iconst 1, 1) := by decide +kernel
theorem d_Items_insertKid_108 : decode prog_3_method_19_code 108 = .ok (.iadd, 1) := by decide +kernel
theorem d_Items_insertKid_109 : decode prog_3_method_19_code 109 = .ok (.putfield 41, 3) := by decide +kernel
theorem d_Items_insertKid_112 : decode prog_3_method_19_code 112 = .ok (.return_, 1) := by decide +kernel
theorem d_Items_appendKid_0 : decode prog_3_method_18_code 0 = .ok (.aload_n 0, 1) := by decide +kernel
theorem d_Items_appendKid_1 : decode prog_3_method_18_code 1 = .ok (.iload_n 1, 1) := by decide +kernel
theorem d_Items_appendKid_2 : decode prog_3_method_18_code 2 = .ok (.aload_n 0, 1) := by decide +kernel
theorem d_Items_appendKid_3 : decode prog_3_method_18_code 3 = .ok (.iload_n 1, 1) := by decide +kernel
theorem d_Items_appendKid_4 : decode prog_3_method_18_code 4 = .ok (.invokevirtual 48, 3) := by decide +kernel
theorem d_Items_appendKid_7 : decode prog_3_method_18_code 7 = .ok (.iload_n 2, 1) := by decide +kernel
theorem d_Items_appendKid_8 : decode prog_3_method_18_code 8 = .ok (.invokevirtual 56, 3) := by decide +kernel
theorem d_Items_appendKid_11 : decode prog_3_method_18_code 11 = .ok (.return_, 1) := by decide +kernel
theorem d_PT_addLast_0 : decode prog_1_method_4_code 0 = .ok (.aload_n 0, 1) := by decide +kernel
theorem d_PT_addLast_1 : decode prog_1_method_4_code 1 = .ok (.getfield 10, 3) := by decide +kernel
theorem d_PT_addLast_4 : decode prog_1_method_4_code 4 = .ok (.iload_n 1, 1) := by decide +kernel
theorem d_PT_addLast_5 : decode prog_1_method_4_code 5 = .ok (.invokevirtual 65, 3) := by decide +kernel
theorem d_PT_addLast_8 : decode prog_1_method_4_code 8 = .ok (.ifCond .ne 5, 3) := by decide +kernel
theorem d_PT_addLast_11 : decode prog_1_method_4_code 11 = .ok (.iconst (-1), 1) := by decide +kernel
theorem d_PT_addLast_12 : decode prog_1_method_4_code 12 = .ok (.ireturn, 1) := by decide +kernel
theorem d_PT_addLast_13 : decode prog_1_method_4_code 13 = .ok (.aload_n 0, 1) := by decide +kernel
theorem d_PT_addLast_14 : decode prog_1_method_4_code 14 = .ok (.getfield 10, 3) := by decide +kernel
theorem d_PT_addLast_17 : decode prog_1_method_4_code 17 = .ok (.invokevirtual 69, 3) := by decide +kernel
theorem d_PT_addLast_20 : decode prog_1_method_4_code 20 = .ok (.ifCond .ne 14, 3) := by decide +kernel
theorem d_PT_addLast_23 : decode prog_1_method_4_code 23 = .ok (.aload_n 0, 1) := by decide +kernel
theorem d_PT_addLast_24 : decode prog_1_method_4_code 24 = .ok (.getfield 10, 3) := by decide +kernel
theorem d_PT_addLast_27 : decode prog_1_method_4_code 27 = .ok (.iload_n 1, 1) := by decide +kernel
theorem d_PT_addLast_28 : decode prog_1_method_4_code 28 = .ok (.invokevirtual 73, 3) := by decide +kernel
theorem d_PT_addLast_31 : decode prog_1_method_4_code 31 = .ok (.ifCond .eq 6, 3) := by decide +kernel
theorem d_PT_addLast_34 : decode prog_1_method_4_code 34 = .ok (.bipush (-4), 2) := by decide +kernel
theorem d_PT_addLast_36 : decode prog_1_method_4_code 36 = .ok (.ireturn, 1) := by decide +kernel
theorem d_PT_addLast_37 : decode prog_1_method_4_code 37 = .ok (.aload_n 0, 1) := by decide +kernel
theorem d_PT_addLast_38 : decode prog_1_method_4_code 38 = .ok (.getfield 10, 3) := by decide +kernel
theorem d_PT_addLast_41 : decode prog_1_method_4_code 41 = .ok (.iload_n 2, 1) := by decide +kernel
theorem d_PT_addLast_42 : decode prog_1_method_4_code 42 = .ok (.iload_n 1, 1) := by decide +kernel
theorem d_PT_addLast_43 : decode prog_1_method_4_code 43 = .ok (.iload_n 3, 1) := by decide +kernel
theorem d_PT_addLast_44 : decode prog_1_method_4_code 44 = .ok (.invokevirtual 57, 3) := by decide +kernel
theorem d_PT_addLast_47 : decode prog_1_method_4_code 47 = .ok (.istore 4, 2) := by decide +kernel
theorem d_PT_addLast_49 : decode prog_1_method_4_code 49 = .ok (.aload_n 0, 1) := by decide +kernel
theorem d_PT_addLast_50 : decode prog_1_method_4_code 50 = .ok (.getfield 10, 3) := by decide +kernel
theorem d_PT_addLast_53 : decode prog_1_method_4_code 53 = .ok (.iload_n 1, 1) := by decide +kernel
theorem d_PT_addLast_54 : decode prog_1_method_4_code 54 = .ok (.iload 4, 2) := by decide +kernel
theorem d_PT_addLast_56 : decode prog_1_method_4_code 56 = .ok (.invokevirtual 76, 3) := by decide +kernel
theorem d_PT_addLast_59 : decode prog_1_method_4_code 59 = .ok (.iload 4, 2) := by decide +kernel
theorem d_PT_addLast_61 : decode prog_1_method_4_code 61 = .ok (.ireturn, 1) := by decide +kernel
theorem d_PT_node_0 : decode prog_1_method_2_code 0 = .ok (.aload_n 0, 1) := by decide +kernel
theorem d_PT_node_1 : decode prog_1_method_2_code 1 = .ok (.getfield 10, 3) := by decide +kernel
theorem d_PT_node_4 : decode prog_1_method_2_code 4 = .ok (.invokevirtual 53, 3) := by decide +kernel
theorem d_PT_node_7 : decode prog_1_method_2_code 7 = .ok (.ifCond .ne 23, 3) := by decide +kernel
theorem d_PT_node_10 : decode prog_1_method_2_code 10 = .ok (.iload_n 1, 1) := by decide +kernel
theorem d_PT_node_11 : decode prog_1_method_2_code 11 = .ok (.iconst (-1), 1) := by decide +kernel
theorem d_PT_node_12 : decode prog_1_method_2_code 12 = .ok (.if_icmp .ne 16, 3) := by decide +kernel
theorem d_PT_node_15 : decode prog_1_method_2_code 15 = .ok (.aload_n 0, 1) := by decide +kernel
theorem d_PT_node_16 : decode prog_1_method_2_code 16 = .ok (.getfield 10, 3) := by decide +kernel
theorem d_PT_node_19 : decode prog_1_method_2_code 19 = .ok (.iconst 0, 1) := by decide +kernel
theorem d_PT_node_20 : decode prog_1_method_2_code 20 = .ok (.iconst (-1), 1) := by decide +kernel
theorem d_PT_node_21 : decode prog_1_method_2_code 21 = .ok (.iload_n 2, 1) := by decide +kernel
theorem d_PT_node_22 : decode prog_1_method_2_code 22 = .ok (.invokevirtual 57, 3) := by decide +kernel
theorem d_PT_node_25 : decode prog_1_method_2_code 25 = .ok (.goto 4, 3) := by decide +kernel
theorem d_PT_node_28 : decode prog_1_method_2_code 28 = .ok (.iconst (-1), 1) := by decide +kernel
theorem d_PT_node_29 : decode prog_1_method_2_code 29 = .ok (.ireturn, 1) := by decide +kernel
theorem d_PT_node_30 : decode prog_1_method_2_code 30 = .ok (.aload_n 0, 1) := by decide +kernel
theorem d_PT_node_31 : decode prog_1_method_2_code 31 = .ok (.iload_n 1, 1) := by decide +kernel
theorem d_PT_node_32 : decode prog_1_method_2_code 32 = .ok (.iconst 0, 1) := by decide +kernel
theorem d_PT_node_33 : decode prog_1_method_2_code 33 = .ok (.iload_n 2, 1) := by decide +kernel
theorem d_PT_node_34 : decode prog_1_method_2_code 34 = .ok (.invokevirtual 61, 3) := by decide +kernel
theorem d_PT_node_37 : decode prog_1_method_2_code 37 = .ok (.ireturn, 1) := by decide +kernel
theorem d_PT_page_0 : decode prog_1_method_3_code 0 = .ok (.aload_n 0, 1) := by decide +kernel
theorem d_PT_page_1 : decode prog_1_method_3_code 1 = .ok (.iload_n 1, 1) := by decide +kernel
theorem d_PT_page_2 : decode prog_1_method_3_code 2 = .ok (.iconst 1, 1) := by decide +kernel
theorem d_PT_page_3 : decode prog_1_method_3_code 3 = .ok (.iconst 0, 1) := by decide +kernel
theorem d_PT_page_4 : decode prog_1_method_3_code 4 = .ok (.invokevirtual 61, 3) := by decide +kernel
theorem d_PT_page_7 : decode prog_1_method_3_code 7 = .ok (.ireturn, 1) := by decide +kernel
theorem d_PT_list_0 : decode prog_1_method_5_code 0 = .ok (.aload_n 0, 1) := by decide +kernel
theorem d_PT_list_1 : decode prog_1_method_5_code 1 = .ok (.getfield 10, 3) := by decide +kernel
theorem d_PT_list_4 : decode prog_1_method_5_code 4 = .ok (.iload_n 1, 1) := by decide +kernel
theorem d_PT_list_5 : decode prog_1_method_5_code 5 = .ok (.invokevirtual 65, 3) := by decide +kernel
theorem d_PT_list_8 : decode prog_1_method_5_code 8 = .ok (.ifCond .eq 14, 3) := by decide +kernel
theorem d_PT_list_11 : decode prog_1_method_5_code 11 = .ok (.aload_n 0, 1) := by decide +kernel
theorem d_PT_list_12 : decode prog_1_method_5_code 12 = .ok (.getfield 10, 3) := by decide +kernel
theorem d_PT_list_15 : decode prog_1_method_5_code 15 = .ok (.iload_n 2, 1) := by decide +kernel
theorem d_PT_list_16 : decode prog_1_method_5_code 16 = .ok (.invokevirtual 80, 3) := by decide +kernel
theorem d_PT_list_19 : decode prog_1_method_5_code 19 = .ok (.ifCond .ne 5, 3) := by decide +kernel
theorem d_PT_list_22 : decode prog_1_method_5_code 22 = .ok (.iconst (-1), 1) := by decide +kernel
theorem d_PT_list_23 : decode prog_1_method_5_code 23 = .ok (.ireturn, 1) := by decide +kernel
theorem d_PT_list_24 : decode prog_1_method_5_code 24 = .ok (.aload_n 0, 1) := by decide +kernel
theorem d_PT_list_25 : decode prog_1_method_5_code 25 = .ok (.getfield 10, 3) := by decide +kernel
theorem d_PT_list_28 : decode prog_1_method_5_code 28 = .ok (.iload_n 1, 1) := by decide +kernel
theorem d_PT_list_29 : decode prog_1_method_5_code 29 = .ok (.invokevirtual 73, 3) := by decide +kernel
theorem d_PT_list_32 : decode prog_1_method_5_code 32 = .ok (.ifCond .eq 6, 3) := by decide +kernel
theorem d_PT_list_35 : decode prog_1_method_5_code 35 = .ok (.bipush (-4), 2) := by decide +kernel
theorem d_PT_list_37 : decode prog_1_method_5_code 37 = .ok (.ireturn, 1) := by decide +kernel
theorem d_PT_list_38 : decode prog_1_method_5_code 38 = .ok (.aload_n 0, 1) := by decide +kernel
theorem d_PT_list_39 : decode prog_1_method_5_code 39 = .ok (.getfield 10, 3) := by decide +kernel
theorem d_PT_list_42 : decode prog_1_method_5_code 42 = .ok (.iload_n 1, 1) := by decide +kernel
theorem d_PT_list_43 : decode prog_1_method_5_code 43 = .ok (.iload_n 2, 1) := by decide +kernel
theorem d_PT_list_44 : decode prog_1_method_5_code 44 = .ok (.invokevirtual 76, 3) := by decide +kernel
theorem d_PT_list_47 : decode prog_1_method_5_code 47 = .ok (.aload_n 0, 1) := by decide +kernel
theorem d_PT_list_48 : decode prog_1_method_5_code 48 = .ok (.getfield 10, 3) := by decide +kernel
theorem d_PT_list_51 : decode prog_1_method_5_code 51 = .ok (.iload_n 1, 1) := by decide +kernel
theorem d_PT_list_52 : decode prog_1_method_5_code 52 = .ok (.invokevirtual 83, 3) := by decide +kernel
theorem d_PT_list_55 : decode prog_1_method_5_code 55 = .ok (.ireturn, 1) := by decide +kernel
theorem d_PT_isKey_0 : decode prog_1_method_8_code 0 = .ok (.iload_n 0, 1) := by decide +kernel
theorem d_PT_isKey_1 : decode prog_1_method_8_code 1 = .ok (.ifCond .lt 12, 3) := by decide +kernel
theorem d_PT_isKey_4 : decode prog_1_method_8_code 4 = .ok (.iload_n 0, 1) := by decide +kernel
theorem d_PT_isKey_5 : decode prog_1_method_8_code 5 = .ok (.iconst 4, 1) := by decide +kernel
theorem d_PT_isKey_6 : decode prog_1_method_8_code 6 = .ok (.if_icmp .ge 7, 3) := by decide +kernel
theorem d_PT_isKey_9 : decode prog_1_method_8_code 9 = .ok (.iconst 1, 1) := by decide +kernel
theorem d_PT_isKey_10 : decode prog_1_method_8_code 10 = .ok (.goto 4, 3) := by decide +kernel
theorem d_PT_isKey_13 : decode prog_1_method_8_code 13 = .ok (.iconst 0, 1) := by decide +kernel
theorem d_PT_isKey_14 : decode prog_1_method_8_code 14 = .ok (.ireturn, 1) := by decide +kernel
theorem d_Items_setOwnValue_0 : decode prog_3_method_25_code 0 = .ok (.aload_n 0, 1) := by decide +kernel
theorem d_Items_setOwnValue_1 : decode prog_3_method_25_code 1 = .ok (.iload_n 1, 1) := by decide +kernel
theorem d_Items_setOwnValue_2 : decode prog_3_method_25_code 2 = .ok (.invokevirtual 44, 3) := by decide +kernel
theorem d_Items_setOwnValue_5 : decode prog_3_method_25_code 5 = .ok (.ifCond .eq 21, 3) := by decide +kernel
theorem d_Items_setOwnValue_8 : decode prog_3_method_25_code 8 = .ok (.iload_n 2, 1) := by decide +kernel
theorem d_Items_setOwnValue_9 : decode prog_3_method_25_code 9 = .ok (.invokestatic 71, 3) := by decide +kernel
theorem d_Items_setOwnValue_12 : decode prog_3_method_25_code 12 = .ok (.ifCond .eq 14, 3) := by decide +kernel
theorem d_Items_setOwnValue_15 : decode prog_3_method_25_code 15 = .ok (.aload_n 0, 1) := by decide +kernel
theorem d_Items_setOwnValue_16 : decode prog_3_method_25_code 16 = .ok (.getfield 28, 3) := by decide +kernel
theorem d_Items_setOwnValue_19 : decode prog_3_method_25_code 19 = .ok (.iload_n 1, 1) := by decide +kernel
theorem d_Items_setOwnValue_20 : decode prog_3_method_25_code 20 = .ok (.iconst 4, 1) := by decide +kernel
theorem d_Items_setOwnValue_21 : decode prog_3_method_25_code 21 = .ok (.imul, 1) := by decide +kernel
theorem d_Items_setOwnValue_22 : decode prog_3_method_25_code 22 = .ok (.iload_n 2, 1) := by decide +kernel
theorem d_Items_setOwnValue_23 : decode prog_3_method_25_code 23 = .ok (.iadd, 1) := by decide +kernel
theorem d_Items_setOwnValue_24 : decode prog_3_method_25_code 24 = .ok (.iload_n 3, 1) := by decide +kernel
theorem d_Items_setOwnValue_25 : decode prog_3_method_25_code 25 = .ok (.iastore, 1) := by decide +kernel
theorem d_Items_setOwnValue_26 : decode prog_3_method_25_code 26 = .ok (.return_, 1) := by decide +kernel
theorem d_PT_inherit_0 : decode prog_1_method_6_code 0 = .ok (.aload_n 0, 1) := by decide +kernel
theorem d_PT_inherit_1 : decode prog_1_method_6_code 1 = .ok (.getfield 10, 3) := by decide +kernel
theorem d_PT_inherit_4 : decode prog_1_method_6_code 4 = .ok (.iload_n 1, 1) := by decide +kernel
theorem d_PT_inherit_5 : decode prog_1_method_6_code 5 = .ok (.invokevirtual 80, 3) := by decide +kernel
theorem d_PT_inherit_8 : decode prog_1_method_6_code 8 = .ok (.ifCond .ne 5, 3) := by decide +kernel
theorem d_PT_inherit_11 : decode prog_1_method_6_code 11 = .ok (.iconst (-1), 1) := by decide +kernel
theorem d_PT_inherit_12 : decode prog_1_method_6_code 12 = .ok (.ireturn, 1) := by decide +kernel
theorem d_PT_inherit_13 : decode prog_1_method_6_code 13 = .ok (.iload_n 2, 1) := by decide +kernel
theorem d_PT_inherit_14 : decode prog_1_method_6_code 14 = .ok (.invokestatic 87, 3) := by decide +kernel
theorem d_PT_inherit_17 : decode prog_1_method_6_code 17 = .ok (.ifCond .eq 14, 3) := by decide +kernel
theorem d_PT_inherit_20 : decode prog_1_method_6_code 20 = .ok (.iload_n 3, 1) := by decide +kernel
theorem d_PT_inherit_21 : decode prog_1_method_6_code 21 = .ok (.iconst (-1), 1) := by decide +kernel
theorem d_PT_inherit_22 : decode prog_1_method_6_code 22 = .ok (.if_icmp .lt 9, 3) := by decide +kernel
theorem d_PT_inherit_25 : decode prog_1_method_6_code 25 = .ok (.iload_n 3, 1) := by decide +kernel
theorem d_PT_inherit_26 : decode prog_1_method_6_code 26 = .ok (.ldc 90, 2) := by decide +kernel
theorem d_PT_inherit_28 : decode prog_1_method_6_code 28 = .ok (.if_icmp .le 6, 3) := by decide +kernel
theorem d_PT_inherit_31 : decode prog_1_method_6_code 31 = .ok (.bipush (-2), 2) := by decide +kernel
theorem d_PT_inherit_33 : decode prog_1_method_6_code 33 = .ok (.ireturn, 1) := by decide +kernel
theorem d_PT_inherit_34 : decode prog_1_method_6_code 34 = .ok (.aload_n 0, 1) := by decide +kernel
theorem d_PT_inherit_35 : decode prog_1_method_6_code 35 = .ok (.getfield 10, 3) := by decide +kernel
theorem d_PT_inherit_38 : decode prog_1_method_6_code 38 = .ok (.iload_n 1, 1) := by decide +kernel
theorem d_PT_inherit_39 : decode prog_1_method_6_code 39 = .ok (.iload_n 2, 1) := by decide +kernel
theorem d_PT_inherit_40 : decode prog_1_method_6_code 40 = .ok (.iload_n 3, 1) := by decide +kernel
theorem d_PT_inherit_41 : decode prog_1_method_6_code 41 = .ok (.invokevirtual 91, 3) := by decide +kernel
theorem d_PT_inherit_44 : decode prog_1_method_6_code 44 = .ok (.iconst 1, 1) := by decide +kernel
theorem d_PT_inherit_45 : decode prog_1_method_6_code 45 = .ok (.ireturn, 1) := by decide +kernel
theorem d_Items_isPage_0 : decode prog_3_method_6_code 0 = .ok (.iload_n 1, 1) := by decide +kernel
theorem d_Items_isPage_1 : decode prog_3_method_6_code 1 = .ok (.ifCond .lt 24, 3) := by decide +kernel
theorem d_Items_isPage_4 : decode prog_3_method_6_code 4 = .ok (.iload_n 1, 1) := by decide +kernel
theorem d_Items_isPage_5 : decode prog_3_method_6_code 5 = .ok (.aload_n 0, 1) := by decide +kernel
theorem d_Items_isPage_6 : decode prog_3_method_6_code 6 = .ok (.getfield 37, 3) := by decide +kernel
theorem d_Items_isPage_9 : decode prog_3_method_6_code 9 = .ok (.if_icmp .ge 16, 3) := by decide +kernel
theorem d_Items_isPage_12 : decode prog_3_method_6_code 12 = .ok (.aload_n 0, 1) := by decide +kernel
theorem d_Items_isPage_13 : decode prog_3_method_6_code 13 = .ok (.getfield 9, 3) := by decide +kernel
theorem d_Items_isPage_16 : decode prog_3_method_6_code 16 = .ok (.iload_n 1, 1) := by decide +kernel
theorem d_Items_isPage_17 : decode prog_3_method_6_code 17 = .ok (.baload, 1) := by decide +kernel
theorem d_Items_isPage_18 : decode prog_3_method_6_code 18 = .ok (.ifCond .eq 7, 3) := by decide +kernel
theorem d_Items_isPage_21 : decode prog_3_method_6_code 21 = .ok (.iconst 1, 1) := by decide +kernel
theorem d_Items_isPage_22 : decode prog_3_method_6_code 22 = .ok (.goto 4, 3) := by decide +kernel
theorem d_Items_isPage_25 : decode prog_3_method_6_code 25 = .ok (.iconst 0, 1) := by decide +kernel
theorem d_Items_isPage_26 : decode prog_3_method_6_code 26 = .ok (.ireturn, 1) := by decide +kernel
theorem d_Items_valueOf_0 : decode prog_3_method_26_code 0 = .ok (.iload_n 2, 1) := by decide +kernel
theorem d_Items_valueOf_1 : decode prog_3_method_26_code 1 = .ok (.invokestatic 71, 3) := by decide +kernel
theorem d_Items_valueOf_4 : decode prog_3_method_26_code 4 = .ok (.ifCond .ne 5, 3) := by decide +kernel
theorem d_Items_valueOf_7 : decode prog_3_method_26_code 7 = .ok (.iconst (-1), 1) := by decide +kernel
theorem d_Items_valueOf_8 : decode prog_3_method_26_code 8 = .ok (.ireturn, 1) := by decide +kernel
theorem d_Items_valueOf_9 : decode prog_3_method_26_code 9 = .ok (.iload_n 1, 1) := by decide +kernel
theorem d_Items_valueOf_10 : decode prog_3_method_26_code 10 = .ok (.istore_n 3, 1) := by decide +kernel
theorem d_Items_valueOf_11 : decode prog_3_method_26_code 11 = .ok (.iconst 0, 1) := by decide +kernel
theorem d_Items_valueOf_12 : decode prog_3_method_26_code 12 = .ok (.istore 4, 2) := by decide +kernel
theorem d_Items_valueOf_14 : decode prog_3_method_26_code 14 = .ok (.iload 4, 2) := by decide +kernel
theorem d_Items_valueOf_16 : decode prog_3_method_26_code 16 = .ok (.sipush 200, 3) := by decide +kernel
theorem d_Items_valueOf_19 : decode prog_3_method_26_code 19 = .ok (.if_icmp .ge 45, 3) := by decide +kernel
theorem d_Items_valueOf_22 : decode prog_3_method_26_code 22 = .ok (.aload_n 0, 1) := by decide +kernel
theorem d_Items_valueOf_23 : decode prog_3_method_26_code 23 = .ok (.iload_n 3, 1) := by decide +kernel
theorem d_Items_valueOf_24 : decode prog_3_method_26_code 24 = .ok (.invokevirtual 44, 3) := by decide +kernel
theorem d_Items_valueOf_27 : decode prog_3_method_26_code 27 = .ok (.ifCond .eq 37, 3) := by decide +kernel
theorem d_Items_valueOf_30 : decode prog_3_method_26_code 30 = .ok (.aload_n 0, 1) := by decide +kernel
theorem d_Items_valueOf_31 : decode prog_3_method_26_code 31 = .ok (.getfield 28, 3) := by decide +kernel
theorem d_Items_valueOf_34 : decode prog_3_method_26_code 34 = .ok (.iload_n 3, 1) := by decide +kernel
theorem d_Items_valueOf_35 : decode prog_3_method_26_code 35 = .ok (.iconst 4, 1) := by decide +kernel
theorem d_Items_valueOf_36 : decode prog_3_method_26_code 36 = .ok (.imul, 1) := by decide +kernel
theorem d_Items_valueOf_37 : decode prog_3_method_26_code 37 = .ok (.iload_n 2, 1) := by decide +kernel
theorem d_Items_valueOf_38 : decode prog_3_method_26_code 38 = .ok (.iadd, 1) := by decide +kernel
theorem d_Items_valueOf_39 : decode prog_3_method_26_code 39 = .ok (.iaload, 1) := by decide +kernel
theorem d_Items_valueOf_40 : decode prog_3_method_26_code 40 = .ok (.istore 5, 2) := by decide +kernel
theorem d_Items_valueOf_42 : decode prog_3_method_26_code 42 = .ok (.iload 5, 2) := by decide +kernel
theorem d_Items_valueOf_44 : decode prog_3_method_26_code 44 = .ok (.iconst (-1), 1) := by decide +kernel
theorem d_Items_valueOf_45 : decode prog_3_method_26_code 45 = .ok (.if_icmp .eq 6, 3) := by decide +kernel
theorem d_Items_valueOf_48 : decode prog_3_method_26_code 48 = .ok (.iload 5, 2) := by decide +kernel
theorem d_Items_valueOf_50 : decode prog_3_method_26_code 50 = .ok (.ireturn, 1) := by decide +kernel
theorem d_Items_valueOf_51 : decode prog_3_method_26_code 51 = .ok (.aload_n 0, 1) := by decide +kernel
theorem d_Items_valueOf_52 : decode prog_3_method_26_code 52 = .ok (.getfield 15, 3) := by decide +kernel
theorem d_Items_valueOf_55 : decode prog_3_method_26_code 55 = .ok (.iload_n 3, 1) := by decide +kernel
theorem d_Items_valueOf_56 : decode prog_3_method_26_code 56 = .ok (.iaload, 1) := by decide +kernel
theorem d_Items_valueOf_57 : decode prog_3_method_26_code 57 = .ok (.istore_n 3, 1) := by decide +kernel
theorem d_Items_valueOf_58 : decode prog_3_method_26_code 58 = .ok (.iinc 4 1, 3) := by decide +kernel
theorem d_Items_valueOf_61 : decode prog_3_method_26_code 61 = .ok (.goto (-47), 3) := by decide +kernel
theorem d_Items_valueOf_64 : decode prog_3_method_26_code 64 = .ok (.iconst (-1), 1) := by decide +kernel
theorem d_Items_valueOf_65 : decode prog_3_method_26_code 65 = .ok (.ireturn, 1) := by decide +kernel
theorem d_PT_of_0 : decode prog_1_method_7_code 0 = .ok (.aload_n 0, 1) := by decide +kernel
theorem d_PT_of_1 : decode prog_1_method_7_code 1 = .ok (.getfield 10, 3) := by decide +kernel
theorem d_PT_of_4 : decode prog_1_method_7_code 4 = .ok (.iload_n 1, 1) := by decide +kernel
theorem d_PT_of_5 : decode prog_1_method_7_code 5 = .ok (.invokevirtual 95, 3) := by decide +kernel
theorem d_PT_of_8 : decode prog_1_method_7_code 8 = .ok (.ifCond .ne 5, 3) := by decide +kernel
theorem d_PT_of_11 : decode prog_1_method_7_code 11 = .ok (.iconst (-1), 1) := by decide +kernel
theorem d_PT_of_12 : decode prog_1_method_7_code 12 = .ok (.ireturn, 1) := by decide +kernel
theorem d_PT_of_13 : decode prog_1_method_7_code 13 = .ok (.iload_n 2, 1) := by decide +kernel
theorem d_PT_of_14 : decode prog_1_method_7_code 14 = .ok (.invokestatic 87, 3) := by decide +kernel
theorem d_PT_of_17 : decode prog_1_method_7_code 17 = .ok (.ifCond .eq 15, 3) := by decide +kernel
theorem d_PT_of_20 : decode prog_1_method_7_code 20 = .ok (.aload_n 0, 1) := by decide +kernel
theorem d_PT_of_21 : decode prog_1_method_7_code 21 = .ok (.getfield 10, 3) := by decide +kernel
theorem d_PT_of_24 : decode prog_1_method_7_code 24 = .ok (.iload_n 1, 1) := by decide +kernel
theorem d_PT_of_25 : decode prog_1_method_7_code 25 = .ok (.iload_n 2, 1) := by decide +kernel
theorem d_PT_of_26 : decode prog_1_method_7_code 26 = .ok (.invokevirtual 98, 3) := by decide +kernel
theorem d_PT_of_29 : decode prog_1_method_7_code 29 = .ok (.goto 5, 3) := by decide +kernel
theorem d_PT_of_32 : decode prog_1_method_7_code 32 = .ok (.bipush (-2), 2) := by decide +kernel
theorem d_PT_of_34 : decode prog_1_method_7_code 34 = .ok (.ireturn, 1) := by decide +kernel
theorem d_Items_version_0 : decode prog_3_method_3_code 0 = .ok (.aload_n 0, 1) := by decide +kernel
theorem d_Items_version_1 : decode prog_3_method_3_code 1 = .ok (.getfield 41, 3) := by decide +kernel
theorem d_Items_version_4 : decode prog_3_method_3_code 4 = .ok (.ireturn, 1) := by decide +kernel
theorem d_Arr_fill_0 : decode prog_15_method_103_code 0 = .ok (.iconst 0, 1) := by decide +kernel
theorem d_Arr_fill_1 : decode prog_15_method_103_code 1 = .ok (.istore_n 2, 1) := by decide +kernel
theorem d_Arr_fill_2 : decode prog_15_method_103_code 2 = .ok (.aload_n 0, 1) := by decide +kernel
theorem d_Arr_fill_3 : decode prog_15_method_103_code 3 = .ok (.arraylength, 1) := by decide +kernel
theorem d_Arr_fill_4 : decode prog_15_method_103_code 4 = .ok (.istore_n 3, 1) := by decide +kernel
theorem d_Arr_fill_5 : decode prog_15_method_103_code 5 = .ok (.iload_n 2, 1) := by decide +kernel
theorem d_Arr_fill_6 : decode prog_15_method_103_code 6 = .ok (.iload_n 3, 1) := by decide +kernel
theorem d_Arr_fill_7 : decode prog_15_method_103_code 7 = .ok (.if_icmp .ge 13, 3) := by decide +kernel
theorem d_Arr_fill_10 : decode prog_15_method_103_code 10 = .ok (.aload_n 0, 1) := by decide +kernel
theorem d_Arr_fill_11 : decode prog_15_method_103_code 11 = .ok (.iload_n 2, 1) := by decide +kernel
theorem d_Arr_fill_12 : decode prog_15_method_103_code 12 = .ok (.iload_n 1, 1) := by decide +kernel
theorem d_Arr_fill_13 : decode prog_15_method_103_code 13 = .ok (.iastore, 1) := by decide +kernel
theorem d_Arr_fill_14 : decode prog_15_method_103_code 14 = .ok (.iinc 2 1, 3) := by decide +kernel
theorem d_Arr_fill_17 : decode prog_15_method_103_code 17 = .ok (.goto (-12), 3) := by decide +kernel
theorem d_Arr_fill_20 : decode prog_15_method_103_code 20 = .ok (.return_, 1) := by decide +kernel
theorem d_Walk_enter_0 : decode prog_8_method_8_code 0 = .ok (.aload_n 0, 1) := by decide +kernel
theorem d_Walk_enter_1 : decode prog_8_method_8_code 1 = .ok (.getfield 26, 3) := by decide +kernel
theorem d_Walk_enter_4 : decode prog_8_method_8_code 4 = .ok (.sipush 200, 3) := by decide +kernel
theorem d_Walk_enter_7 : decode prog_8_method_8_code 7 = .ok (.if_icmp .ge 33, 3) := by decide +kernel
theorem d_Walk_enter_10 : decode prog_8_method_8_code 10 = .ok (.aload_n 0, 1) := by decide +kernel
theorem d_Walk_enter_11 : decode prog_8_method_8_code 11 = .ok (.getfield 15, 3) := by decide +kernel
theorem d_Walk_enter_14 : decode prog_8_method_8_code 14 = .ok (.aload_n 0, 1) := by decide +kernel
theorem d_Walk_enter_15 : decode prog_8_method_8_code 15 = .ok (.getfield 26, 3) := by decide +kernel
theorem d_Walk_enter_18 : decode prog_8_method_8_code 18 = .ok (.iload_n 1, 1) := by decide +kernel
theorem d_Walk_enter_19 : decode prog_8_method_8_code 19 = .ok (.iastore, 1) := by decide +kernel
theorem d_Walk_enter_20 : decode prog_8_method_8_code 20 = .ok (.aload_n 0, 1) := by decide +kernel
theorem d_Walk_enter_21 : decode prog_8_method_8_code 21 = .ok (.getfield 19, 3) := by decide +kernel
theorem d_Walk_enter_24 : decode prog_8_method_8_code 24 = .ok (.aload_n 0, 1) := by decide +kernel
theorem d_Walk_enter_25 : decode prog_8_method_8_code 25 = .ok (.getfield 26, 3) := by decide +kernel
theorem d_Walk_enter_28 : decode prog_8_method_8_code 28 = .ok (.iconst 0, 1) := by decide +kernel
theorem d_Walk_enter_29 : decode prog_8_method_8_code 29 = .ok (.iastore, 1) := by decide +kernel
theorem d_Walk_enter_30 : decode prog_8_method_8_code 30 = .ok (.aload_n 0, 1) := by decide +kernel
theorem d_Walk_enter_31 : decode prog_8_method_8_code 31 = .ok (.dup, 1) := by decide +kernel
theorem d_Walk_enter_32 : decode prog_8_method_8_code 32 = .ok (.getfield 26, 3) := by decide +kernel
theorem d_Walk_enter_35 : decode prog_8_method_8_code 35 = .ok (.iconst 1, 1) := by decide +kernel
theorem d_Walk_enter_36 : decode prog_8_method_8_code 36 = .ok (.iadd, 1) := by decide +kernel
theorem d_Walk_enter_37 : decode prog_8_method_8_code 37 = .ok (.putfield 26, 3) := by decide +kernel
theorem d_Walk_enter_40 : decode prog_8_method_8_code 40 = .ok (.return_, 1) := by decide +kernel
theorem d_Items_hasSlot_0 : decode prog_3_method_16_code 0 = .ok (.iload_n 1, 1) := by decide +kernel
theorem d_Items_hasSlot_1 : decode prog_3_method_16_code 1 = .ok (.ifCond .lt 29, 3) := by decide +kernel
theorem d_Items_hasSlot_4 : decode prog_3_method_16_code 4 = .ok (.iload_n 1, 1) := by decide +kernel
theorem d_Items_hasSlot_5 : decode prog_3_method_16_code 5 = .ok (.aload_n 0, 1) := by decide +kernel
theorem d_Items_hasSlot_6 : decode prog_3_method_16_code 6 = .ok (.getfield 37, 3) := by decide +kernel
theorem d_Items_hasSlot_9 : decode prog_3_method_16_code 9 = .ok (.if_icmp .ge 21, 3) := by decide +kernel
theorem d_Items_hasSlot_12 : decode prog_3_method_16_code 12 = .ok (.iload_n 2, 1) := by decide +kernel
theorem d_Items_hasSlot_13 : decode prog_3_method_16_code 13 = .ok (.ifCond .lt 17, 3) := by decide +kernel
theorem d_Items_hasSlot_16 : decode prog_3_method_16_code 16 = .ok (.iload_n 2, 1) := by decide +kernel
theorem d_Items_hasSlot_17 : decode prog_3_method_16_code 17 = .ok (.aload_n 0, 1) := by decide +kernel
theorem d_Items_hasSlot_18 : decode prog_3_method_16_code 18 = .ok (.getfield 22, 3) := by decide +kernel
theorem d_Items_hasSlot_21 : decode prog_3_method_16_code 21 = .ok (.iload_n 1, 1) := by decide +kernel
theorem d_Items_hasSlot_22 : decode prog_3_method_16_code 22 = .ok (.iaload, 1) := by decide +kernel
theorem d_Items_hasSlot_23 : decode prog_3_method_16_code 23 = .ok (.if_icmp .ge 7, 3) := by decide +kernel
theorem d_Items_hasSlot_26 : decode prog_3_method_16_code 26 = .ok (.iconst 1, 1) := by decide +kernel
theorem d_Items_hasSlot_27 : decode prog_3_method_16_code 27 = .ok (.goto 4, 3) := by decide +kernel
theorem d_Items_hasSlot_30 : decode prog_3_method_16_code 30 = .ok (.iconst 0, 1) := by decide +kernel
theorem d_Items_hasSlot_31 : decode prog_3_method_16_code 31 = .ok (.ireturn, 1) := by decide +kernel
theorem d_Items_kidAt_0 : decode prog_3_method_15_code 0 = .ok (.aload_n 0, 1) := by decide +kernel
theorem d_Items_kidAt_1 : decode prog_3_method_15_code 1 = .ok (.iload_n 1, 1) := by decide +kernel
theorem d_Items_kidAt_2 : decode prog_3_method_15_code 2 = .ok (.iload_n 2, 1) := by decide +kernel
theorem d_Items_kidAt_3 : decode prog_3_method_15_code 3 = .ok (.invokevirtual 52, 3) := by decide +kernel
theorem d_Items_kidAt_6 : decode prog_3_method_15_code 6 = .ok (.ifCond .eq 17, 3) := by decide +kernel
theorem d_Items_kidAt_9 : decode prog_3_method_15_code 9 = .ok (.aload_n 0, 1) := by decide +kernel
theorem d_Items_kidAt_10 : decode prog_3_method_15_code 10 = .ok (.getfield 25, 3) := by decide +kernel
theorem d_Items_kidAt_13 : decode prog_3_method_15_code 13 = .ok (.iload_n 1, 1) := by decide +kernel
theorem d_Items_kidAt_14 : decode prog_3_method_15_code 14 = .ok (.bipush 40, 2) := by decide +kernel
theorem d_Items_kidAt_16 : decode prog_3_method_15_code 16 = .ok (.imul, 1) := by decide +kernel
theorem d_Items_kidAt_17 : decode prog_3_method_15_code 17 = .ok (.iload_n 2, 1) := by decide +kernel
theorem d_Items_kidAt_18 : decode prog_3_method_15_code 18 = .ok (.iadd, 1) := by decide +kernel
theorem d_Items_kidAt_19 : decode prog_3_method_15_code 19 = .ok (.iaload, 1) := by decide +kernel
theorem d_Items_kidAt_20 : decode prog_3_method_15_code 20 = .ok (.goto 4, 3) := by decide +kernel
theorem d_Items_kidAt_23 : decode prog_3_method_15_code 23 = .ok (.iconst (-1), 1) := by decide +kernel
theorem d_Items_kidAt_24 : decode prog_3_method_15_code 24 = .ok (.ireturn, 1) := by decide +kernel
theorem d_Walk_meetPageAgain_0 : decode prog_8_method_4_code 0 = .ok (.iconst 1, 1) := by decide +kernel
theorem d_Walk_meetPageAgain_1 : decode prog_8_method_4_code 1 = .ok (.ireturn, 1) := by decide +kernel
theorem d_Walk_meetNodeAgain_0 : decode prog_8_method_3_code 0 = .ok (.iconst 1, 1) := by decide +kernel
theorem d_Walk_meetNodeAgain_1 : decode prog_8_method_3_code 1 = .ok (.ireturn, 1) := by decide +kernel
theorem d_Order_meetFirst_0 : decode prog_7_method_3_code 0 = .ok (.aload_n 0, 1) := by decide +kernel
theorem d_Order_meetFirst_1 : decode prog_7_method_3_code 1 = .ok (.getfield 28, 3) := by decide +kernel
theorem d_Order_meetFirst_4 : decode prog_7_method_3_code 4 = .ok (.iload_n 3, 1) := by decide +kernel
theorem d_Order_meetFirst_5 : decode prog_7_method_3_code 5 = .ok (.invokevirtual 51, 3) := by decide +kernel
theorem d_Order_meetFirst_8 : decode prog_7_method_3_code 8 = .ok (.ifCond .eq 57, 3) := by decide +kernel
theorem d_Order_meetFirst_11 : decode prog_7_method_3_code 11 = .ok (.aload_n 0, 1) := by decide +kernel
theorem d_Order_meetFirst_12 : decode prog_7_method_3_code 12 = .ok (.getfield 38, 3) := by decide +kernel
theorem d_Order_meetFirst_15 : decode prog_7_method_3_code 15 = .ok (.sipush 200, 3) := by decide +kernel
theorem d_Order_meetFirst_18 : decode prog_7_method_3_code 18 = .ok (.if_icmp .ge 47, 3) := by decide +kernel
theorem d_Order_meetFirst_21 : decode prog_7_method_3_code 21 = .ok (.aload_n 0, 1) := by decide +kernel
theorem d_Order_meetFirst_22 : decode prog_7_method_3_code 22 = .ok (.getfield 9, 3) := by decide +kernel
theorem d_Order_meetFirst_25 : decode prog_7_method_3_code 25 = .ok (.aload_n 0, 1) := by decide +kernel
theorem d_Order_meetFirst_26 : decode prog_7_method_3_code 26 = .ok (.getfield 38, 3) := by decide +kernel
theorem d_Order_meetFirst_29 : decode prog_7_method_3_code 29 = .ok (.iload_n 3, 1) := by decide +kernel
theorem d_Order_meetFirst_30 : decode prog_7_method_3_code 30 = .ok (.iastore, 1) := by decide +kernel
theorem d_Order_meetFirst_31 : decode prog_7_method_3_code 31 = .ok (.aload_n 0, 1) := by decide +kernel
theorem d_Order_meetFirst_32 : decode prog_7_method_3_code 32 = .ok (.getfield 15, 3) := by decide +kernel
theorem d_Order_meetFirst_35 : decode prog_7_method_3_code 35 = .ok (.iload_n 3, 1) := by decide +kernel
theorem d_Order_meetFirst_36 : decode prog_7_method_3_code 36 = .ok (.aload_n 0, 1) := by decide +kernel
theorem d_Order_meetFirst_37 : decode prog_7_method_3_code 37 = .ok (.getfield 38, 3) := by decide +kernel
theorem d_Order_meetFirst_40 : decode prog_7_method_3_code 40 = .ok (.iastore, 1) := by decide +kernel
theorem d_Order_meetFirst_41 : decode prog_7_method_3_code 41 = .ok (.aload_n 0, 1) := by decide +kernel
theorem d_Order_meetFirst_42 : decode prog_7_method_3_code 42 = .ok (.getfield 18, 3) := by decide +kernel
theorem d_Order_meetFirst_45 : decode prog_7_method_3_code 45 = .ok (.iload_n 3, 1) := by decide +kernel
theorem d_Order_meetFirst_46 : decode prog_7_method_3_code 46 = .ok (.iload_n 1, 1) := by decide +kernel
theorem d_Order_meetFirst_47 : decode prog_7_method_3_code 47 = .ok (.iastore, 1) := by decide +kernel
theorem d_Order_meetFirst_48 : decode prog_7_method_3_code 48 = .ok (.aload_n 0, 1) := by decide +kernel
theorem d_Order_meetFirst_49 : decode prog_7_method_3_code 49 = .ok (.getfield 21, 3) := by decide +kernel
theorem d_Order_meetFirst_52 : decode prog_7_method_3_code 52 = .ok (.iload_n 3, 1) := by decide +kernel
theorem d_Order_meetFirst_53 : decode prog_7_method_3_code 53 = .ok (.iload_n 2, 1) := by decide +kernel
theorem d_Order_meetFirst_54 : decode prog_7_method_3_code 54 = .ok (.iastore, 1) := by decide +kernel
theorem d_Order_meetFirst_55 : decode prog_7_method_3_code 55 = .ok (.aload_n 0, 1) := by decide +kernel
theorem d_Order_meetFirst_56 : decode prog_7_method_3_code 56 = .ok (.dup, 1) := by decide +kernel
theorem d_Order_meetFirst_57 : decode prog_7_method_3_code 57 = .ok (.getfield 38, 3) := by decide +kernel
theorem d_Order_meetFirst_60 : decode prog_7_method_3_code 60 = .ok (.iconst 1, 1) := by decide +kernel
theorem d_Order_meetFirst_61 : decode prog_7_method_3_code 61 = .ok (.iadd, 1) := by decide +kernel
theorem d_Order_meetFirst_62 : decode prog_7_method_3_code 62 = .ok (.putfield 38, 3) := by decide +kernel
theorem d_Order_meetFirst_65 : decode prog_7_method_3_code 65 = .ok (.return_, 1) := by decide +kernel
theorem d_Walk_meet_0 : decode prog_8_method_7_code 0 = .ok (.aload_n 0, 1) := by decide +kernel
theorem d_Walk_meet_1 : decode prog_8_method_7_code 1 = .ok (.getfield 22, 3) := by decide +kernel
theorem d_Walk_meet_4 : decode prog_8_method_7_code 4 = .ok (.iload_n 3, 1) := by decide +kernel
theorem d_Walk_meet_5 : decode prog_8_method_7_code 5 = .ok (.invokevirtual 55, 3) := by decide +kernel
theorem d_Walk_meet_8 : decode prog_8_method_7_code 8 = .ok (.istore 4, 2) := by decide +kernel
theorem d_Walk_meet_10 : decode prog_8_method_7_code 10 = .ok (.aload_n 0, 1) := by decide +kernel
theorem d_Walk_meet_11 : decode prog_8_method_7_code 11 = .ok (.getfield 9, 3) := by decide +kernel
theorem d_Walk_meet_14 : decode prog_8_method_7_code 14 = .ok (.iload_n 3, 1) := by decide +kernel
theorem d_Walk_meet_15 : decode prog_8_method_7_code 15 = .ok (.baload, 1) := by decide +kernel
theorem d_Walk_meet_16 : decode prog_8_method_7_code 16 = .ok (.ifCond .eq 40, 3) := by decide +kernel
theorem d_Walk_meet_19 : decode prog_8_method_7_code 19 = .ok (.iload 4, 2) := by decide +kernel
theorem d_Walk_meet_21 : decode prog_8_method_7_code 21 = .ok (.ifCond .eq 13, 3) := by decide +kernel
theorem d_Walk_meet_24 : decode prog_8_method_7_code 24 = .ok (.aload_n 0, 1) := by decide +kernel
theorem d_Walk_meet_25 : decode prog_8_method_7_code 25 = .ok (.iload_n 1, 1) := by decide +kernel
theorem d_Walk_meet_26 : decode prog_8_method_7_code 26 = .ok (.iload_n 2, 1) := by decide +kernel
theorem d_Walk_meet_27 : decode prog_8_method_7_code 27 = .ok (.iload_n 3, 1) := by decide +kernel
theorem d_Walk_meet_28 : decode prog_8_method_7_code 28 = .ok (.invokevirtual 58, 3) := by decide +kernel
theorem d_Walk_meet_31 : decode prog_8_method_7_code 31 = .ok (.goto 10, 3) := by decide +kernel
theorem d_Walk_meet_34 : decode prog_8_method_7_code 34 = .ok (.aload_n 0, 1) := by decide +kernel
theorem d_Walk_meet_35 : decode prog_8_method_7_code 35 = .ok (.iload_n 1, 1) := by decide +kernel
theorem d_Walk_meet_36 : decode prog_8_method_7_code 36 = .ok (.iload_n 2, 1) := by decide +kernel
theorem d_Walk_meet_37 : decode prog_8_method_7_code 37 = .ok (.iload_n 3, 1) := by decide +kernel
theorem d_Walk_meet_38 : decode prog_8_method_7_code 38 = .ok (.invokevirtual 62, 3) := by decide +kernel
theorem d_Walk_meet_41 : decode prog_8_method_7_code 41 = .ok (.istore 5, 2) := by decide +kernel
theorem d_Walk_meet_43 : decode prog_8_method_7_code 43 = .ok (.iload 5, 2) := by decide +kernel
theorem d_Walk_meet_45 : decode prog_8_method_7_code 45 = .ok (.ifCond .eq 9, 3) := by decide +kernel
theorem d_Walk_meet_48 : decode prog_8_method_7_code 48 = .ok (.iload_n 2, 1) := by decide +kernel
theorem d_Walk_meet_49 : decode prog_8_method_7_code 49 = .ok (.iconst 1, 1) := by decide +kernel
theorem d_Walk_meet_50 : decode prog_8_method_7_code 50 = .ok (.iadd, 1) := by decide +kernel
theorem d_Walk_meet_51 : decode prog_8_method_7_code 51 = .ok (.goto 4, 3) := by decide +kernel
theorem d_Walk_meet_54 : decode prog_8_method_7_code 54 = .ok (.iload_n 2, 1) := by decide +kernel
theorem d_Walk_meet_55 : decode prog_8_method_7_code 55 = .ok (.ireturn, 1) := by decide +kernel
theorem d_Walk_meet_56 : decode prog_8_method_7_code 56 = .ok (.aload_n 0, 1) := by decide +kernel
theorem d_Walk_meet_57 : decode prog_8_method_7_code 57 = .ok (.iload_n 1, 1) := by decide +kernel
theorem d_Walk_meet_58 : decode prog_8_method_7_code 58 = .ok (.iload_n 2, 1) := by decide +kernel
theorem d_Walk_meet_59 : decode prog_8_method_7_code 59 = .ok (.iload_n 3, 1) := by decide +kernel
theorem d_Walk_meet_60 : decode prog_8_method_7_code 60 = .ok (.invokevirtual 65, 3) := by decide +kernel
theorem d_Walk_meet_63 : decode prog_8_method_7_code 63 = .ok (.aload_n 0, 1) := by decide +kernel
theorem d_Walk_meet_64 : decode prog_8_method_7_code 64 = .ok (.getfield 9, 3) := by decide +kernel
theorem d_Walk_meet_67 : decode prog_8_method_7_code 67 = .ok (.iload_n 3, 1) := by decide +kernel
theorem d_Walk_meet_68 : decode prog_8_method_7_code 68 = .ok (.iconst 1, 1) := by decide +kernel
theorem d_Walk_meet_69 : decode prog_8_method_7_code 69 = .ok (.bastore, 1) := by decide +kernel
theorem d_Walk_meet_70 : decode prog_8_method_7_code 70 = .ok (.iload 4, 2) := by decide +kernel
theorem d_Walk_meet_72 : decode prog_8_method_7_code 72 = .ok (.ifCond .ne 8, 3) := by decide +kernel
theorem d_Walk_meet_75 : decode prog_8_method_7_code 75 = .ok (.aload_n 0, 1) := by decide +kernel
theorem d_Walk_meet_76 : decode prog_8_method_7_code 76 = .ok (.iload_n 3, 1) := by decide +kernel
theorem d_Walk_meet_77 : decode prog_8_method_7_code 77 = .ok (.invokevirtual 36, 3) := by decide +kernel
theorem d_Walk_meet_80 : decode prog_8_method_7_code 80 = .ok (.iload_n 2, 1) := by decide +kernel
theorem d_Walk_meet_81 : decode prog_8_method_7_code 81 = .ok (.iconst 1, 1) := by decide +kernel
theorem d_Walk_meet_82 : decode prog_8_method_7_code 82 = .ok (.iadd, 1) := by decide +kernel
theorem d_Walk_meet_83 : decode prog_8_method_7_code 83 = .ok (.ireturn, 1) := by decide +kernel
theorem d_Walk_leave_0 : decode prog_8_method_5_code 0 = .ok (.return_, 1) := by decide +kernel
theorem d_Walk_walkAll_0 : decode prog_8_method_6_code 0 = .ok (.iconst 0, 1) := by decide +kernel
theorem d_Walk_walkAll_1 : decode prog_8_method_6_code 1 = .ok (.istore_n 1, 1) := by decide +kernel
theorem d_Walk_walkAll_2 : decode prog_8_method_6_code 2 = .ok (.iload_n 1, 1) := by decide +kernel
theorem d_Walk_walkAll_3 : decode prog_8_method_6_code 3 = .ok (.sipush 200, 3) := by decide +kernel
theorem d_Walk_walkAll_6 : decode prog_8_method_6_code 6 = .ok (.if_icmp .ge 16, 3) := by decide +kernel
theorem d_Walk_walkAll_9 : decode prog_8_method_6_code 9 = .ok (.aload_n 0, 1) := by decide +kernel
theorem d_Walk_walkAll_10 : decode prog_8_method_6_code 10 = .ok (.getfield 9, 3) := by decide +kernel
theorem d_Walk_walkAll_13 : decode prog_8_method_6_code 13 = .ok (.iload_n 1, 1) := by decide +kernel
theorem d_Walk_walkAll_14 : decode prog_8_method_6_code 14 = .ok (.iconst 0, 1) := by decide +kernel
theorem d_Walk_walkAll_15 : decode prog_8_method_6_code 15 = .ok (.bastore, 1) := by decide +kernel
theorem d_Walk_walkAll_16 : decode prog_8_method_6_code 16 = .ok (.iinc 1 1, 3) := by decide +kernel
theorem d_Walk_walkAll_19 : decode prog_8_method_6_code 19 = .ok (.goto (-17), 3) := by decide +kernel
theorem d_Walk_walkAll_22 : decode prog_8_method_6_code 22 = .ok (.aload_n 0, 1) := by decide +kernel
theorem d_Walk_walkAll_23 : decode prog_8_method_6_code 23 = .ok (.iconst 0, 1) := by decide +kernel
theorem d_Walk_walkAll_24 : decode prog_8_method_6_code 24 = .ok (.putfield 26, 3) := by decide +kernel
theorem d_Walk_walkAll_27 : decode prog_8_method_6_code 27 = .ok (.aload_n 0, 1) := by decide +kernel
theorem d_Walk_walkAll_28 : decode prog_8_method_6_code 28 = .ok (.getfield 22, 3) := by decide +kernel
theorem d_Walk_walkAll_31 : decode prog_8_method_6_code 31 = .ok (.invokevirtual 30, 3) := by decide +kernel
theorem d_Walk_walkAll_34 : decode prog_8_method_6_code 34 = .ok (.ifCond .le 15, 3) := by decide +kernel
theorem d_Walk_walkAll_37 : decode prog_8_method_6_code 37 = .ok (.aload_n 0, 1) := by decide +kernel
theorem d_Walk_walkAll_38 : decode prog_8_method_6_code 38 = .ok (.getfield 9, 3) := by decide +kernel
theorem d_Walk_walkAll_41 : decode prog_8_method_6_code 41 = .ok (.iconst 0, 1) := by decide +kernel
theorem d_Walk_walkAll_42 : decode prog_8_method_6_code 42 = .ok (.iconst 1, 1) := by decide +kernel
theorem d_Walk_walkAll_43 : decode prog_8_method_6_code 43 = .ok (.bastore, 1) := by decide +kernel
theorem d_Walk_walkAll_44 : decode prog_8_method_6_code 44 = .ok (.aload_n 0, 1) := by decide +kernel
theorem d_Walk_walkAll_45 : decode prog_8_method_6_code 45 = .ok (.iconst 0, 1) := by decide +kernel
theorem d_Walk_walkAll_46 : decode prog_8_method_6_code 46 = .ok (.invokevirtual 36, 3) := by decide +kernel
theorem d_Walk_walkAll_49 : decode prog_8_method_6_code 49 = .ok (.iconst 0, 1) := by decide +kernel
theorem d_Walk_walkAll_50 : decode prog_8_method_6_code 50 = .ok (.istore_n 1, 1) := by decide +kernel
theorem d_Walk_walkAll_51 : decode prog_8_method_6_code 51 = .ok (.iload_n 1, 1) := by decide +kernel
theorem d_Walk_walkAll_52 : decode prog_8_method_6_code 52 = .ok (.sipush 8200, 3) := by decide +kernel
theorem d_Walk_walkAll_55 : decode prog_8_method_6_code 55 = .ok (.if_icmp .ge 95, 3) := by decide +kernel
theorem d_Walk_walkAll_58 : decode prog_8_method_6_code 58 = .ok (.aload_n 0, 1) := by decide +kernel
theorem d_Walk_walkAll_59 : decode prog_8_method_6_code 59 = .ok (.getfield 26, 3) := by decide +kernel
theorem d_Walk_walkAll_62 : decode prog_8_method_6_code 62 = .ok (.ifCond .le 88, 3) := by decide +kernel
theorem d_Walk_walkAll_65 : decode prog_8_method_6_code 65 = .ok (.aload_n 0, 1) := by decide +kernel
theorem d_Walk_walkAll_66 : decode prog_8_method_6_code 66 = .ok (.getfield 26, 3) := by decide +kernel
theorem d_Walk_walkAll_69 : decode prog_8_method_6_code 69 = .ok (.iconst 1, 1) := by decide +kernel
theorem d_Walk_walkAll_70 : decode prog_8_method_6_code 70 = .ok (.isub, 1) := by decide +kernel
theorem d_Walk_walkAll_71 : decode prog_8_method_6_code 71 = .ok (.istore_n 2, 1) := by decide +kernel
theorem d_Walk_walkAll_72 : decode prog_8_method_6_code 72 = .ok (.aload_n 0, 1) := by decide +kernel
theorem d_Walk_walkAll_73 : decode prog_8_method_6_code 73 = .ok (.getfield 15, 3) := by decide +kernel
theorem d_Walk_walkAll_76 : decode prog_8_method_6_code 76 = .ok (.iload_n 2, 1) := by decide +kernel
theorem d_Walk_walkAll_77 : decode prog_8_method_6_code 77 = .ok (.iaload, 1) := by decide +kernel
theorem d_Walk_walkAll_78 : decode prog_8_method_6_code 78 = .ok (.istore_n 3, 1) := by decide +kernel
theorem d_Walk_walkAll_79 : decode prog_8_method_6_code 79 = .ok (.aload_n 0, 1) := by decide +kernel
theorem d_Walk_walkAll_80 : decode prog_8_method_6_code 80 = .ok (.getfield 19, 3) := by decide +kernel
theorem d_Walk_walkAll_83 : decode prog_8_method_6_code 83 = .ok (.iload_n 2, 1) := by decide +kernel
theorem d_Walk_walkAll_84 : decode prog_8_method_6_code 84 = .ok (.iaload, 1) := by decide +kernel
theorem d_Walk_walkAll_85 : decode prog_8_method_6_code 85 = .ok (.istore 4, 2) := by decide +kernel
theorem d_Walk_walkAll_87 : decode prog_8_method_6_code 87 = .ok (.aload_n 0, 1) := by decide +kernel
theorem d_Walk_walkAll_88 : decode prog_8_method_6_code 88 = .ok (.getfield 22, 3) := by decide +kernel
theorem d_Walk_walkAll_91 : decode prog_8_method_6_code 91 = .ok (.iload_n 3, 1) := by decide +kernel
theorem d_Walk_walkAll_92 : decode prog_8_method_6_code 92 = .ok (.iload 4, 2) := by decide +kernel
theorem d_Walk_walkAll_94 : decode prog_8_method_6_code 94 = .ok (.invokevirtual 40, 3) := by decide +kernel
theorem d_Walk_walkAll_97 : decode prog_8_method_6_code 97 = .ok (.istore 5, 2) := by decide +kernel
theorem d_Walk_walkAll_99 : decode prog_8_method_6_code 99 = .ok (.aload_n 0, 1) := by decide +kernel
theorem d_Walk_walkAll_100 : decode prog_8_method_6_code 100 = .ok (.getfield 22, 3) := by decide +kernel
theorem d_Walk_walkAll_103 : decode prog_8_method_6_code 103 = .ok (.iload 5, 2) := by decide +kernel
theorem d_Walk_walkAll_105 : decode prog_8_method_6_code 105 = .ok (.invokevirtual 44, 3) := by decide +kernel
theorem d_Walk_walkAll_108 : decode prog_8_method_6_code 108 = .ok (.ifCond .eq 21, 3) := by decide +kernel
theorem d_Walk_walkAll_111 : decode prog_8_method_6_code 111 = .ok (.aload_n 0, 1) := by decide +kernel
theorem d_Walk_walkAll_112 : decode prog_8_method_6_code 112 = .ok (.getfield 19, 3) := by decide +kernel
theorem d_Walk_walkAll_115 : decode prog_8_method_6_code 115 = .ok (.iload_n 2, 1) := by decide +kernel
theorem d_Walk_walkAll_116 : decode prog_8_method_6_code 116 = .ok (.aload_n 0, 1) := by decide +kernel
theorem d_Walk_walkAll_117 : decode prog_8_method_6_code 117 = .ok (.iload_n 3, 1) := by decide +kernel
theorem d_Walk_walkAll_118 : decode prog_8_method_6_code 118 = .ok (.iload 4, 2) := by decide +kernel
theorem d_Walk_walkAll_120 : decode prog_8_method_6_code 120 = .ok (.iload 5, 2) := by decide +kernel
theorem d_Walk_walkAll_122 : decode prog_8_method_6_code 122 = .ok (.invokevirtual 48, 3) := by decide +kernel
theorem d_Walk_walkAll_125 : decode prog_8_method_6_code 125 = .ok (.iastore, 1) := by decide +kernel
theorem d_Walk_walkAll_126 : decode prog_8_method_6_code 126 = .ok (.goto 18, 3) := by decide +kernel
theorem d_Walk_walkAll_129 : decode prog_8_method_6_code 129 = .ok (.aload_n 0, 1) := by decide +kernel
theorem d_Walk_walkAll_130 : decode prog_8_method_6_code 130 = .ok (.iload_n 3, 1) := by decide +kernel
theorem d_Walk_walkAll_131 : decode prog_8_method_6_code 131 = .ok (.invokevirtual 52, 3) := by decide +kernel
theorem d_Walk_walkAll_134 : decode prog_8_method_6_code 134 = .ok (.aload_n 0, 1) := by decide +kernel
theorem d_Walk_walkAll_135 : decode prog_8_method_6_code 135 = .ok (.dup, 1) := by decide +kernel
theorem d_Walk_walkAll_136 : decode prog_8_method_6_code 136 = .ok (.getfield 26, 3) := by decide +kernel
theorem d_Walk_walkAll_139 : decode prog_8_method_6_code 139 = .ok (.iconst 1, 1) := by decide +kernel
theorem d_Walk_walkAll_140 : decode prog_8_method_6_code 140 = .ok (.isub, 1) := by decide +kernel
theorem d_Walk_walkAll_141 : decode prog_8_method_6_code 141 = .ok (.putfield 26, 3) := by decide +kernel
theorem d_Walk_walkAll_144 : decode prog_8_method_6_code 144 = .ok (.iinc 1 1, 3) := by decide +kernel
theorem d_Walk_walkAll_147 : decode prog_8_method_6_code 147 = .ok (.goto (-96), 3) := by decide +kernel
theorem d_Walk_walkAll_150 : decode prog_8_method_6_code 150 = .ok (.return_, 1) := by decide +kernel
theorem d_Order_refresh_0 : decode prog_7_method_2_code 0 = .ok (.aload_n 0, 1) := by decide +kernel
theorem d_Order_refresh_1 : decode prog_7_method_2_code 1 = .ok (.getfield 24, 3) := by decide +kernel
theorem d_Order_refresh_4 : decode prog_7_method_2_code 4 = .ok (.aload_n 0, 1) := by decide +kernel
theorem d_Order_refresh_5 : decode prog_7_method_2_code 5 = .ok (.getfield 28, 3) := by decide +kernel
theorem d_Order_refresh_8 : decode prog_7_method_2_code 8 = .ok (.invokevirtual 32, 3) := by decide +kernel
theorem d_Order_refresh_11 : decode prog_7_method_2_code 11 = .ok (.if_icmp .ne 4, 3) := by decide +kernel
theorem d_Order_refresh_14 : decode prog_7_method_2_code 14 = .ok (.return_, 1) := by decide +kernel
theorem d_Order_refresh_15 : decode prog_7_method_2_code 15 = .ok (.aload_n 0, 1) := by decide +kernel
theorem d_Order_refresh_16 : decode prog_7_method_2_code 16 = .ok (.iconst 0, 1) := by decide +kernel
theorem d_Order_refresh_17 : decode prog_7_method_2_code 17 = .ok (.putfield 38, 3) := by decide +kernel
theorem d_Order_refresh_20 : decode prog_7_method_2_code 20 = .ok (.aload_n 0, 1) := by decide +kernel
theorem d_Order_refresh_21 : decode prog_7_method_2_code 21 = .ok (.getfield 15, 3) := by decide +kernel
theorem d_Order_refresh_24 : decode prog_7_method_2_code 24 = .ok (.iconst (-1), 1) := by decide +kernel
theorem d_Order_refresh_25 : decode prog_7_method_2_code 25 = .ok (.invokestatic 41, 3) := by decide +kernel
theorem d_Order_refresh_28 : decode prog_7_method_2_code 28 = .ok (.aload_n 0, 1) := by decide +kernel
theorem d_Order_refresh_29 : decode prog_7_method_2_code 29 = .ok (.invokevirtual 47, 3) := by decide +kernel
theorem d_Order_refresh_32 : decode prog_7_method_2_code 32 = .ok (.aload_n 0, 1) := by decide +kernel
theorem d_Order_refresh_33 : decode prog_7_method_2_code 33 = .ok (.aload_n 0, 1) := by decide +kernel
theorem d_Order_refresh_34 : decode prog_7_method_2_code 34 = .ok (.getfield 28, 3) := by decide +kernel
theorem d_Order_refresh_37 : decode prog_7_method_2_code 37 = .ok (.invokevirtual 32, 3) := by decide +kernel
theorem d_Order_refresh_40 : decode prog_7_method_2_code 40 = .ok (.putfield 24, 3) := by decide +kernel
theorem d_Order_refresh_43 : decode prog_7_method_2_code 43 = .ok (.return_, 1) := by decide +kernel
theorem d_Order_size_0 : decode prog_7_method_4_code 0 = .ok (.aload_n 0, 1) := by decide +kernel
theorem d_Order_size_1 : decode prog_7_method_4_code 1 = .ok (.invokevirtual 55, 3) := by decide +kernel
theorem d_Order_size_4 : decode prog_7_method_4_code 4 = .ok (.aload_n 0, 1) := by decide +kernel
theorem d_Order_size_5 : decode prog_7_method_4_code 5 = .ok (.getfield 38, 3) := by decide +kernel
theorem d_Order_size_8 : decode prog_7_method_4_code 8 = .ok (.ireturn, 1) := by decide +kernel
theorem d_PT_pages_0 : decode prog_1_method_9_code 0 = .ok (.aload_n 0, 1) := by decide +kernel
theorem d_PT_pages_1 : decode prog_1_method_9_code 1 = .ok (.getfield 21, 3) := by decide +kernel
theorem d_PT_pages_4 : decode prog_1_method_9_code 4 = .ok (.invokevirtual 102, 3) := by decide +kernel
theorem d_PT_pages_7 : decode prog_1_method_9_code 7 = .ok (.ireturn, 1) := by decide +kernel
theorem d_Order_pageAt_0 : decode prog_7_method_5_code 0 = .ok (.aload_n 0, 1) := by decide +kernel
theorem d_Order_pageAt_1 : decode prog_7_method_5_code 1 = .ok (.invokevirtual 55, 3) := by decide +kernel
theorem d_Order_pageAt_4 : decode prog_7_method_5_code 4 = .ok (.iload_n 1, 1) := by decide +kernel
theorem d_Order_pageAt_5 : decode prog_7_method_5_code 5 = .ok (.ifCond .lt 20, 3) := by decide +kernel
theorem d_Order_pageAt_8 : decode prog_7_method_5_code 8 = .ok (.iload_n 1, 1) := by decide +kernel
theorem d_Order_pageAt_9 : decode prog_7_method_5_code 9 = .ok (.aload_n 0, 1) := by decide +kernel
theorem d_Order_pageAt_10 : decode prog_7_method_5_code 10 = .ok (.getfield 38, 3) := by decide +kernel
theorem d_Order_pageAt_13 : decode prog_7_method_5_code 13 = .ok (.if_icmp .ge 12, 3) := by decide +kernel
theorem d_Order_pageAt_16 : decode prog_7_method_5_code 16 = .ok (.aload_n 0, 1) := by decide +kernel
theorem d_Order_pageAt_17 : decode prog_7_method_5_code 17 = .ok (.getfield 9, 3) := by decide +kernel
theorem d_Order_pageAt_20 : decode prog_7_method_5_code 20 = .ok (.iload_n 1, 1) := by decide +kernel
theorem d_Order_pageAt_21 : decode prog_7_method_5_code 21 = .ok (.iaload, 1) := by decide +kernel
theorem d_Order_pageAt_22 : decode prog_7_method_5_code 22 = .ok (.goto 4, 3) := by decide +kernel
theorem d_Order_pageAt_25 : decode prog_7_method_5_code 25 = .ok (.iconst (-1), 1) := by decide +kernel
theorem d_Order_pageAt_26 : decode prog_7_method_5_code 26 = .ok (.ireturn, 1) := by decide +kernel
theorem d_PT_at_0 : decode prog_1_method_10_code 0 = .ok (.aload_n 0, 1) := by decide +kernel
theorem d_PT_at_1 : decode prog_1_method_10_code 1 = .ok (.getfield 21, 3) := by decide +kernel
theorem d_PT_at_4 : decode prog_1_method_10_code 4 = .ok (.iload_n 1, 1) := by decide +kernel
theorem d_PT_at_5 : decode prog_1_method_10_code 5 = .ok (.invokevirtual 103, 3) := by decide +kernel
theorem d_PT_at_8 : decode prog_1_method_10_code 8 = .ok (.ireturn, 1) := by decide +kernel
theorem d_Items_parentOf_0 : decode prog_3_method_9_code 0 = .ok (.aload_n 0, 1) := by decide +kernel
theorem d_Items_parentOf_1 : decode prog_3_method_9_code 1 = .ok (.iload_n 1, 1) := by decide +kernel
theorem d_Items_parentOf_2 : decode prog_3_method_9_code 2 = .ok (.invokevirtual 44, 3) := by decide +kernel
theorem d_Items_parentOf_5 : decode prog_3_method_9_code 5 = .ok (.ifCond .eq 12, 3) := by decide +kernel
theorem d_Items_parentOf_8 : decode prog_3_method_9_code 8 = .ok (.aload_n 0, 1) := by decide +kernel
theorem d_Items_parentOf_9 : decode prog_3_method_9_code 9 = .ok (.getfield 15, 3) := by decide +kernel
theorem d_Items_parentOf_12 : decode prog_3_method_9_code 12 = .ok (.iload_n 1, 1) := by decide +kernel
theorem d_Items_parentOf_13 : decode prog_3_method_9_code 13 = .ok (.iaload, 1) := by decide +kernel
theorem d_Items_parentOf_14 : decode prog_3_method_9_code 14 = .ok (.goto 4, 3) := by decide +kernel
theorem d_Items_parentOf_17 : decode prog_3_method_9_code 17 = .ok (.iconst (-1), 1) := by decide +kernel
theorem d_Items_parentOf_18 : decode prog_3_method_9_code 18 = .ok (.ireturn, 1) := by decide +kernel
theorem d_Items_countOf_0 : decode prog_3_method_11_code 0 = .ok (.aload_n 0, 1) := by decide +kernel
theorem d_Items_countOf_1 : decode prog_3_method_11_code 1 = .ok (.iload_n 1, 1) := by decide +kernel
theorem d_Items_countOf_2 : decode prog_3_method_11_code 2 = .ok (.invokevirtual 44, 3) := by decide +kernel
theorem d_Items_countOf_5 : decode prog_3_method_11_code 5 = .ok (.ifCond .eq 12, 3) := by decide +kernel
theorem d_Items_countOf_8 : decode prog_3_method_11_code 8 = .ok (.aload_n 0, 1) := by decide +kernel
theorem d_Items_countOf_9 : decode prog_3_method_11_code 9 = .ok (.getfield 19, 3) := by decide +kernel
theorem d_Items_countOf_12 : decode prog_3_method_11_code 12 = .ok (.iload_n 1, 1) := by decide +kernel
theorem d_Items_countOf_13 : decode prog_3_method_11_code 13 = .ok (.iaload, 1) := by decide +kernel
theorem d_Items_countOf_14 : decode prog_3_method_11_code 14 = .ok (.goto 4, 3) := by decide +kernel
theorem d_Items_countOf_17 : decode prog_3_method_11_code 17 = .ok (.iconst 0, 1) := by decide +kernel
theorem d_Items_countOf_18 : decode prog_3_method_11_code 18 = .ok (.ireturn, 1) := by decide +kernel
theorem d_Order_isTaken_0 : decode prog_7_method_10_code 0 = .ok (.iload_n 1, 1) := by decide +kernel
theorem d_Order_isTaken_1 : decode prog_7_method_10_code 1 = .ok (.ifCond .lt 24, 3) := by decide +kernel
theorem d_Order_isTaken_4 : decode prog_7_method_10_code 4 = .ok (.iload_n 1, 1) := by decide +kernel
theorem d_Order_isTaken_5 : decode prog_7_method_10_code 5 = .ok (.sipush 200, 3) := by decide +kernel
theorem d_Order_isTaken_8 : decode prog_7_method_10_code 8 = .ok (.if_icmp .ge 17, 3) := by decide +kernel
theorem d_Order_isTaken_11 : decode prog_7_method_10_code 11 = .ok (.aload_n 0, 1) := by decide +kernel
theorem d_Order_isTaken_12 : decode prog_7_method_10_code 12 = .ok (.getfield 15, 3) := by decide +kernel
theorem d_Order_isTaken_15 : decode prog_7_method_10_code 15 = .ok (.iload_n 1, 1) := by decide +kernel
theorem d_Order_isTaken_16 : decode prog_7_method_10_code 16 = .ok (.iaload, 1) := by decide +kernel
theorem d_Order_isTaken_17 : decode prog_7_method_10_code 17 = .ok (.iconst (-1), 1) := by decide +kernel
theorem d_Order_isTaken_18 : decode prog_7_method_10_code 18 = .ok (.if_icmp .eq 7, 3) := by decide +kernel
theorem d_Order_isTaken_21 : decode prog_7_method_10_code 21 = .ok (.iconst 1, 1) := by decide +kernel
theorem d_Order_isTaken_22 : decode prog_7_method_10_code 22 = .ok (.goto 4, 3) := by decide +kernel
theorem d_Order_isTaken_25 : decode prog_7_method_10_code 25 = .ok (.iconst 0, 1) := by decide +kernel
theorem d_Order_isTaken_26 : decode prog_7_method_10_code 26 = .ok (.ireturn, 1) := by decide +kernel
theorem d_Order_placeOf_0 : decode prog_7_method_7_code 0 = .ok (.aload_n 0, 1) := by decide +kernel
theorem d_Order_placeOf_1 : decode prog_7_method_7_code 1 = .ok (.invokevirtual 55, 3) := by decide +kernel
theorem d_Order_placeOf_4 : decode prog_7_method_7_code 4 = .ok (.aload_n 0, 1) := by decide +kernel
theorem d_Order_placeOf_5 : decode prog_7_method_7_code 5 = .ok (.iload_n 1, 1) := by decide +kernel
theorem d_Order_placeOf_6 : decode prog_7_method_7_code 6 = .ok (.invokevirtual 58, 3) := by decide +kernel
theorem d_Order_placeOf_9 : decode prog_7_method_7_code 9 = .ok (.ifCond .eq 12, 3) := by decide +kernel
theorem d_Order_placeOf_12 : decode prog_7_method_7_code 12 = .ok (.aload_n 0, 1) := by decide +kernel
theorem d_Order_placeOf_13 : decode prog_7_method_7_code 13 = .ok (.getfield 15, 3) := by decide +kernel
theorem d_Order_placeOf_16 : decode prog_7_method_7_code 16 = .ok (.iload_n 1, 1) := by decide +kernel
theorem d_Order_placeOf_17 : decode prog_7_method_7_code 17 = .ok (.iaload, 1) := by decide +kernel
theorem d_Order_placeOf_18 : decode prog_7_method_7_code 18 = .ok (.goto 4, 3) := by decide +kernel
theorem d_Order_placeOf_21 : decode prog_7_method_7_code 21 = .ok (.iconst (-1), 1) := by decide +kernel
theorem d_Order_placeOf_22 : decode prog_7_method_7_code 22 = .ok (.ireturn, 1) := by decide +kernel
theorem d_PT_about_0 : decode prog_1_method_11_code 0 = .ok (.aload_n 0, 1) := by decide +kernel
theorem d_PT_about_1 : decode prog_1_method_11_code 1 = .ok (.getfield 10, 3) := by decide +kernel
theorem d_PT_about_4 : decode prog_1_method_11_code 4 = .ok (.iload_n 1, 1) := by decide +kernel
theorem d_PT_about_5 : decode prog_1_method_11_code 5 = .ok (.invokevirtual 80, 3) := by decide +kernel
theorem d_PT_about_8 : decode prog_1_method_11_code 8 = .ok (.ifCond .ne 5, 3) := by decide +kernel
theorem d_PT_about_11 : decode prog_1_method_11_code 11 = .ok (.iconst (-1), 1) := by decide +kernel
theorem d_PT_about_12 : decode prog_1_method_11_code 12 = .ok (.ireturn, 1) := by decide +kernel
theorem d_PT_about_13 : decode prog_1_method_11_code 13 = .ok (.iload_n 2, 1) := by decide +kernel
theorem d_PT_about_14 : decode prog_1_method_11_code 14 = .ok (.tableswitch 87 0 4 #[34, 51, 60, 69, 78], 34) := by decide +kernel
theorem d_PT_about_48 : decode prog_1_method_11_code 48 = .ok (.aload_n 0, 1) := by decide +kernel
theorem d_PT_about_49 : decode prog_1_method_11_code 49 = .ok (.getfield 10, 3) := by decide +kernel
theorem d_PT_about_52 : decode prog_1_method_11_code 52 = .ok (.iload_n 1, 1) := by decide +kernel
theorem d_PT_about_53 : decode prog_1_method_11_code 53 = .ok (.invokevirtual 95, 3) := by decide +kernel
theorem d_PT_about_56 : decode prog_1_method_11_code 56 = .ok (.ifCond .eq 7, 3) := by decide +kernel
theorem d_PT_about_59 : decode prog_1_method_11_code 59 = .ok (.iconst 1, 1) := by decide +kernel
theorem d_PT_about_60 : decode prog_1_method_11_code 60 = .ok (.goto 4, 3) := by decide +kernel
theorem d_PT_about_63 : decode prog_1_method_11_code 63 = .ok (.iconst 0, 1) := by decide +kernel
theorem d_PT_about_64 : decode prog_1_method_11_code 64 = .ok (.ireturn, 1) := by decide +kernel
theorem d_PT_about_65 : decode prog_1_method_11_code 65 = .ok (.aload_n 0, 1) := by decide +kernel
theorem d_PT_about_66 : decode prog_1_method_11_code 66 = .ok (.getfield 10, 3) := by decide +kernel
theorem d_PT_about_69 : decode prog_1_method_11_code 69 = .ok (.iload_n 1, 1) := by decide +kernel
theorem d_PT_about_70 : decode prog_1_method_11_code 70 = .ok (.invokevirtual 106, 3) := by decide +kernel
theorem d_PT_about_73 : decode prog_1_method_11_code 73 = .ok (.ireturn, 1) := by decide +kernel
theorem d_PT_about_74 : decode prog_1_method_11_code 74 = .ok (.aload_n 0, 1) := by decide +kernel
theorem d_PT_about_75 : decode prog_1_method_11_code 75 = .ok (.getfield 10, 3) := by decide +kernel
theorem d_PT_about_78 : decode prog_1_method_11_code 78 = .ok (.iload_n 1, 1) := by decide +kernel
theorem d_PT_about_79 : decode prog_1_method_11_code 79 = .ok (.invokevirtual 83, 3) := by decide +kernel
theorem d_PT_about_82 : decode prog_1_method_11_code 82 = .ok (.ireturn, 1) := by decide +kernel
theorem d_PT_about_83 : decode prog_1_method_11_code 83 = .ok (.aload_n 0, 1) := by decide +kernel
theorem d_PT_about_84 : decode prog_1_method_11_code 84 = .ok (.getfield 10, 3) := by decide +kernel
theorem d_PT_about_87 : decode prog_1_method_11_code 87 = .ok (.iload_n 1, 1) := by decide +kernel
theorem d_PT_about_88 : decode prog_1_method_11_code 88 = .ok (.invokevirtual 109, 3) := by decide +kernel
theorem d_PT_about_91 : decode prog_1_method_11_code 91 = .ok (.ireturn, 1) := by decide +kernel
theorem d_PT_about_92 : decode prog_1_method_11_code 92 = .ok (.aload_n 0, 1) := by decide +kernel
theorem d_PT_about_93 : decode prog_1_method_11_code 93 = .ok (.getfield 21, 3) := by decide +kernel
theorem d_PT_about_96 : decode prog_1_method_11_code 96 = .ok (.iload_n 1, 1) := by decide +kernel
theorem d_PT_about_97 : decode prog_1_method_11_code 97 = .ok (.invokevirtual 112, 3) := by decide +kernel
theorem d_PT_about_100 : decode prog_1_method_11_code 100 = .ok (.ireturn, 1) := by decide +kernel
theorem d_PT_about_101 : decode prog_1_method_11_code 101 = .ok (.bipush (-2), 2) := by decide +kernel
theorem d_PT_about_103 : decode prog_1_method_11_code 103 = .ok (.ireturn, 1) := by decide +kernel
theorem d_PT_kid_0 : decode prog_1_method_12_code 0 = .ok (.aload_n 0, 1) := by decide +kernel
theorem d_PT_kid_1 : decode prog_1_method_12_code 1 = .ok (.getfield 10, 3) := by decide +kernel
theorem d_PT_kid_4 : decode prog_1_method_12_code 4 = .ok (.iload_n 1, 1) := by decide +kernel
theorem d_PT_kid_5 : decode prog_1_method_12_code 5 = .ok (.iload_n 2, 1) := by decide +kernel
theorem d_PT_kid_6 : decode prog_1_method_12_code 6 = .ok (.invokevirtual 115, 3) := by decide +kernel
theorem d_PT_kid_9 : decode prog_1_method_12_code 9 = .ok (.ireturn, 1) := by decide +kernel
theorem d_Items_dropKid_0 : decode prog_3_method_20_code 0 = .ok (.aload_n 0, 1) := by decide +kernel
theorem d_Items_dropKid_1 : decode prog_3_method_20_code 1 = .ok (.iload_n 1, 1) := by decide +kernel
theorem d_Items_dropKid_2 : decode prog_3_method_20_code 2 = .ok (.iload_n 2, 1) := by decide +kernel
theorem d_Items_dropKid_3 : decode prog_3_method_20_code 3 = .ok (.invokevirtual 52, 3) := by decide +kernel
theorem d_Items_dropKid_6 : decode prog_3_method_20_code 6 = .ok (.ifCond .ne 4, 3) := by decide +kernel
theorem d_Items_dropKid_9 : decode prog_3_method_20_code 9 = .ok (.return_, 1) := by decide +kernel
theorem d_Items_dropKid_10 : decode prog_3_method_20_code 10 = .ok (.iload_n 1, 1) := by decide +kernel
theorem d_Items_dropKid_11 : decode prog_3_method_20_code 11 = .ok (.bipush 40, 2) := by decide +kernel
theorem d_Items_dropKid_13 : decode prog_3_method_20_code 13 = .ok (.imul, 1) := by decide +kernel
theorem d_Items_dropKid_14 : decode prog_3_method_20_code 14 = .ok (.istore_n 3, 1) := by decide +kernel
theorem d_Items_dropKid_15 : decode prog_3_method_20_code 15 = .ok (.aload_n 0, 1) := by decide +kernel
theorem d_Items_dropKid_16 : decode prog_3_method_20_code 16 = .ok (.getfield 22, 3) := by decide +kernel
theorem d_Items_dropKid_19 : decode prog_3_method_20_code 19 = .ok (.iload_n 1, 1) := by decide +kernel
theorem d_Items_dropKid_20 : decode prog_3_method_20_code 20 = .ok (.dup2, 1) := by decide +kernel
theorem d_Items_dropKid_21 : decode prog_3_method_20_code 21 = .ok (.iaload, 1) := by decide +kernel
theorem d_Items_dropKid_22 : decode prog_3_method_20_code 22 = .ok (.iconst 1, 1) := by decide +kernel
theorem d_Items_dropKid_23 : decode prog_3_method_20_code 23 = .ok (.isub, 1) := by decide +kernel
theorem d_Items_dropKid_24 : decode prog_3_method_20_code 24 = .ok (.iastore, 1) := by decide +kernel
theorem d_Items_dropKid_25 : decode prog_3_method_20_code 25 = .ok (.iload_n 2, 1) := by decide +kernel
theorem d_Items_dropKid_26 : decode prog_3_method_20_code 26 = .ok (.istore 4, 2) := by decide +kernel
theorem d_Items_dropKid_28 : decode prog_3_method_20_code 28 = .ok (.iload 4, 2) := by decide +kernel
theorem d_Items_dropKid_30 : decode prog_3_method_20_code 30 = .ok (.aload_n 0, 1) := by decide +kernel
theorem d_Items_dropKid_31 : decode prog_3_method_20_code 31 = .ok (.getfield 22, 3) := by decide +kernel
theorem d_Items_dropKid_34 : decode prog_3_method_20_code 34 = .ok (.iload_n 1, 1) := by decide +kernel
theorem d_Items_dropKid_35 : decode prog_3_method_20_code 35 = .ok (.iaload, 1) := by decide +kernel
theorem d_Items_dropKid_36 : decode prog_3_method_20_code 36 = .ok (.if_icmp .ge 29, 3) := by decide +kernel
theorem d_Items_dropKid_39 : decode prog_3_method_20_code 39 = .ok (.aload_n 0, 1) := by decide +kernel
theorem d_Items_dropKid_40 : decode prog_3_method_20_code 40 = .ok (.getfield 25, 3) := by decide +kernel
theorem d_Items_dropKid_43 : decode prog_3_method_20_code 43 = .ok (.iload_n 3, 1) := by decide +kernel
theorem d_Items_dropKid_44 : decode prog_3_method_20_code 44 = .ok (.iload 4, 2) := by decide +kernel
theorem d_Items_dropKid_46 : decode prog_3_method_20_code 46 = .ok (.iadd, 1) := by decide +kernel
theorem d_Items_dropKid_47 : decode prog_3_method_20_code 47 = .ok (.aload_n 0, 1) := by decide +kernel
theorem d_Items_dropKid_48 : decode prog_3_method_20_code 48 = .ok (.getfield 25, 3) := by decide +kernel
theorem d_Items_dropKid_51 : decode prog_3_method_20_code 51 = .ok (.iload_n 3, 1) := by decide +kernel
theorem d_Items_dropKid_52 : decode prog_3_method_20_code 52 = .ok (.iload 4, 2) := by decide +kernel
theorem d_Items_dropKid_54 : decode prog_3_method_20_code 54 = .ok (.iadd, 1) := by decide +kernel
theorem d_Items_dropKid_55 : decode prog_3_method_20_code 55 = .ok (.iconst 1, 1) := by decide +kernel
theorem d_Items_dropKid_56 : decode prog_3_method_20_code 56 = .ok (.iadd, 1) := by decide +kernel
theorem d_Items_dropKid_57 : decode prog_3_method_20_code 57 = .ok (.iaload, 1) := by decide +kernel
theorem d_Items_dropKid_58 : decode prog_3_method_20_code 58 = .ok (.iastore, 1) := by decide +kernel
theorem d_Items_dropKid_59 : decode prog_3_method_20_code 59 = .ok (.iinc 4 1, 3) := by decide +kernel
theorem d_Items_dropKid_62 : decode prog_3_method_20_code 62 = .ok (.goto (-34), 3) := by decide +kernel
theorem d_Items_dropKid_65 : decode prog_3_method_20_code 65 = .ok (.aload_n 0, 1) := by decide +kernel
theorem d_Items_dropKid_66 : decode prog_3_method_20_code 66 = .ok (.dup, 1) := by decide +kernel
theorem d_Items_dropKid_67 : decode prog_3_method_20_code 67 = .ok (.getfield 41, 3) := by decide +kernel
theorem d_Items_dropKid_70 : decode prog_3_method_20_code 70 = .ok (.iconst 1, 1) := by decide +kernel
theorem d_Items_dropKid_71 : decode prog_3_method_20_code 71 = .ok (.iadd, 1) := by decide +kernel
theorem d_Items_dropKid_72 : decode prog_3_method_20_code 72 = .ok (.putfield 41, 3) := by decide +kernel
theorem d_Items_dropKid_75 : decode prog_3_method_20_code 75 = .ok (.return_, 1) := by decide +kernel
theorem d_Mender_tell_0 : decode prog_5_method_4_code 0 = .ok (.aload_n 0, 1) := by decide +kernel
theorem d_Mender_tell_1 : decode prog_5_method_4_code 1 = .ok (.getfield 21, 3) := by decide +kernel
theorem d_Mender_tell_4 : decode prog_5_method_4_code 4 = .ok (.bipush 100, 2) := by decide +kernel
theorem d_Mender_tell_6 : decode prog_5_method_4_code 6 = .ok (.if_icmp .ge 23, 3) := by decide +kernel
theorem d_Mender_tell_9 : decode prog_5_method_4_code 9 = .ok (.aload_n 0, 1) := by decide +kernel
theorem d_Mender_tell_10 : decode prog_5_method_4_code 10 = .ok (.getfield 11, 3) := by decide +kernel
theorem d_Mender_tell_13 : decode prog_5_method_4_code 13 = .ok (.aload_n 0, 1) := by decide +kernel
theorem d_Mender_tell_14 : decode prog_5_method_4_code 14 = .ok (.getfield 21, 3) := by decide +kernel
theorem d_Mender_tell_17 : decode prog_5_method_4_code 17 = .ok (.iload_n 1, 1) := by decide +kernel
theorem d_Mender_tell_18 : decode prog_5_method_4_code 18 = .ok (.iastore, 1) := by decide +kernel
theorem d_Mender_tell_19 : decode prog_5_method_4_code 19 = .ok (.aload_n 0, 1) := by decide +kernel
theorem d_Mender_tell_20 : decode prog_5_method_4_code 20 = .ok (.getfield 15, 3) := by decide +kernel
theorem d_Mender_tell_23 : decode prog_5_method_4_code 23 = .ok (.aload_n 0, 1) := by decide +kernel
theorem d_Mender_tell_24 : decode prog_5_method_4_code 24 = .ok (.getfield 21, 3) := by decide +kernel
theorem d_Mender_tell_27 : decode prog_5_method_4_code 27 = .ok (.iload_n 2, 1) := by decide +kernel
theorem d_Mender_tell_28 : decode prog_5_method_4_code 28 = .ok (.iastore, 1) := by decide +kernel
theorem d_Mender_tell_29 : decode prog_5_method_4_code 29 = .ok (.aload_n 0, 1) := by decide +kernel
theorem d_Mender_tell_30 : decode prog_5_method_4_code 30 = .ok (.dup, 1) := by decide +kernel
theorem d_Mender_tell_31 : decode prog_5_method_4_code 31 = .ok (.getfield 21, 3) := by decide +kernel
theorem d_Mender_tell_34 : decode prog_5_method_4_code 34 = .ok (.iconst 1, 1) := by decide +kernel
theorem d_Mender_tell_35 : decode prog_5_method_4_code 35 = .ok (.iadd, 1) := by decide +kernel
theorem d_Mender_tell_36 : decode prog_5_method_4_code 36 = .ok (.putfield 21, 3) := by decide +kernel
theorem d_Mender_tell_39 : decode prog_5_method_4_code 39 = .ok (.return_, 1) := by decide +kernel
theorem d_Items_copyOwnValues_0 : decode prog_3_method_28_code 0 = .ok (.aload_n 0, 1) := by decide +kernel
theorem d_Items_copyOwnValues_1 : decode prog_3_method_28_code 1 = .ok (.iload_n 1, 1) := by decide +kernel
theorem d_Items_copyOwnValues_2 : decode prog_3_method_28_code 2 = .ok (.invokevirtual 44, 3) := by decide +kernel
theorem d_Items_copyOwnValues_5 : decode prog_3_method_28_code 5 = .ok (.ifCond .eq 11, 3) := by decide +kernel
theorem d_Items_copyOwnValues_8 : decode prog_3_method_28_code 8 = .ok (.aload_n 0, 1) := by decide +kernel
theorem d_Items_copyOwnValues_9 : decode prog_3_method_28_code 9 = .ok (.iload_n 2, 1) := by decide +kernel
theorem d_Items_copyOwnValues_10 : decode prog_3_method_28_code 10 = .ok (.invokevirtual 44, 3) := by decide +kernel
theorem d_Items_copyOwnValues_13 : decode prog_3_method_28_code 13 = .ok (.ifCond .ne 4, 3) := by decide +kernel
theorem d_Items_copyOwnValues_16 : decode prog_3_method_28_code 16 = .ok (.return_, 1) := by decide +kernel
theorem d_Items_copyOwnValues_17 : decode prog_3_method_28_code 17 = .ok (.iconst 0, 1) := by decide +kernel
theorem d_Items_copyOwnValues_18 : decode prog_3_method_28_code 18 = .ok (.istore_n 3, 1) := by decide +kernel
theorem d_Items_copyOwnValues_19 : decode prog_3_method_28_code 19 = .ok (.iload_n 3, 1) := by decide +kernel
theorem d_Items_copyOwnValues_20 : decode prog_3_method_28_code 20 = .ok (.iconst 4, 1) := by decide +kernel
theorem d_Items_copyOwnValues_21 : decode prog_3_method_28_code 21 = .ok (.if_icmp .ge 29, 3) := by decide +kernel
theorem d_Items_copyOwnValues_24 : decode prog_3_method_28_code 24 = .ok (.aload_n 0, 1) := by decide +kernel
theorem d_Items_copyOwnValues_25 : decode prog_3_method_28_code 25 = .ok (.getfield 28, 3) := by decide +kernel
theorem d_Items_copyOwnValues_28 : decode prog_3_method_28_code 28 = .ok (.iload_n 2, 1) := by decide +kernel
theorem d_Items_copyOwnValues_29 : decode prog_3_method_28_code 29 = .ok (.iconst 4, 1) := by decide +kernel
theorem d_Items_copyOwnValues_30 : decode prog_3_method_28_code 30 = .ok (.imul, 1) := by decide +kernel
theorem d_Items_copyOwnValues_31 : decode prog_3_method_28_code 31 = .ok (.iload_n 3, 1) := by decide +kernel
theorem d_Items_copyOwnValues_32 : decode prog_3_method_28_code 32 = .ok (.iadd, 1) := by decide +kernel
theorem d_Items_copyOwnValues_33 : decode prog_3_method_28_code 33 = .ok (.aload_n 0, 1) := by decide +kernel
theorem d_Items_copyOwnValues_34 : decode prog_3_method_28_code 34 = .ok (.getfield 28, 3) := by decide +kernel
theorem d_Items_copyOwnValues_37 : decode prog_3_method_28_code 37 = .ok (.iload_n 1, 1) := by decide +kernel
theorem d_Items_copyOwnValues_38 : decode prog_3_method_28_code 38 = .ok (.iconst 4, 1) := by decide +kernel
theorem d_Items_copyOwnValues_39 : decode prog_3_method_28_code 39 = .ok (.imul, 1) := by decide +kernel
theorem d_Items_copyOwnValues_40 : decode prog_3_method_28_code 40 = .ok (.iload_n 3, 1) := by decide +kernel
theorem d_Items_copyOwnValues_41 : decode prog_3_method_28_code 41 = .ok (.iadd, 1) := by decide +kernel
theorem d_Items_copyOwnValues_42 : decode prog_3_method_28_code 42 = .ok (.iaload, 1) := by decide +kernel
theorem d_Items_copyOwnValues_43 : decode prog_3_method_28_code 43 = .ok (.iastore, 1) := by decide +kernel
theorem d_Items_copyOwnValues_44 : decode prog_3_method_28_code 44 = .ok (.iinc 3 1, 3) := by decide +kernel
theorem d_Items_copyOwnValues_47 : decode prog_3_method_28_code 47 = .ok (.goto (-28), 3) := by decide +kernel
theorem d_Items_copyOwnValues_50 : decode prog_3_method_28_code 50 = .ok (.return_, 1) := by decide +kernel
theorem d_Items_replaceKid_0 : decode prog_3_method_17_code 0 = .ok (.aload_n 0, 1) := by decide +kernel
theorem d_Items_replaceKid_1 : decode prog_3_method_17_code 1 = .ok (.iload_n 1, 1) := by decide +kernel
theorem d_Items_replaceKid_2 : decode prog_3_method_17_code 2 = .ok (.iload_n 2, 1) := by decide +kernel
theorem d_Items_replaceKid_3 : decode prog_3_method_17_code 3 = .ok (.invokevirtual 52, 3) := by decide +kernel
theorem d_Items_replaceKid_6 : decode prog_3_method_17_code 6 = .ok (.ifCond .eq 25, 3) := by decide +kernel
theorem d_Items_replaceKid_9 : decode prog_3_method_17_code 9 = .ok (.aload_n 0, 1) := by decide +kernel
theorem d_Items_replaceKid_10 : decode prog_3_method_17_code 10 = .ok (.getfield 25, 3) := by decide +kernel
theorem d_Items_replaceKid_13 : decode prog_3_method_17_code 13 = .ok (.iload_n 1, 1) := by decide +kernel
theorem d_Items_replaceKid_14 : decode prog_3_method_17_code 14 = .ok (.bipush 40, 2) := by decide +kernel
theorem d_Items_replaceKid_16 : decode prog_3_method_17_code 16 = .ok (.imul, 1) := by decide +kernel
theorem d_Items_replaceKid_17 : decode prog_3_method_17_code 17 = .ok (.iload_n 2, 1) := by decide +kernel
theorem d_Items_replaceKid_18 : decode prog_3_method_17_code 18 = .ok (.iadd, 1) := by decide +kernel
theorem d_Items_replaceKid_19 : decode prog_3_method_17_code 19 = .ok (.iload_n 3, 1) := by decide +kernel
theorem d_Items_replaceKid_20 : decode prog_3_method_17_code 20 = .ok (.iastore, 1) := by decide +kernel
theorem d_Items_replaceKid_21 : decode prog_3_method_17_code 21 = .ok (.aload_n 0, 1) := by decide +kernel
theorem d_Items_replaceKid_22 : decode prog_3_method_17_code 22 = .ok (.dup, 1) := by decide +kernel
theorem d_Items_replaceKid_23 : decode prog_3_method_17_code 23 = .ok (.getfield 41, 3) := by decide +kernel
theorem d_Items_replaceKid_26 : decode prog_3_method_17_code 26 = .ok (.iconst 1, 1) := by decide +kernel
