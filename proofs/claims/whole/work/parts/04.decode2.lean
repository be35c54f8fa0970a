theorem d_Bal_build_63 : decode prog_2_method_3_code 63 = .ok (.iload_n 3, 1) := by decide +kernel
theorem d_Bal_build_64 : decode prog_2_method_3_code 64 = .ok (.sipush 200, 3) := by decide +kernel
theorem d_Bal_build_67 : decode prog_2_method_3_code 67 = .ok (.if_icmp .ge 21, 3) := by decide +kernel
theorem d_Bal_build_70 : decode prog_2_method_3_code 70 = .ok (.aload_n 0, 1) := by decide +kernel
theorem d_Bal_build_71 : decode prog_2_method_3_code 71 = .ok (.getfield 25, 3) := by decide +kernel
theorem d_Bal_build_74 : decode prog_2_method_3_code 74 = .ok (.iconst 4, 1) := by decide +kernel
theorem d_Bal_build_75 : decode prog_2_method_3_code 75 = .ok (.if_icmp .le 13, 3) := by decide +kernel
theorem d_Bal_build_78 : decode prog_2_method_3_code 78 = .ok (.aload_n 0, 1) := by decide +kernel
theorem d_Bal_build_79 : decode prog_2_method_3_code 79 = .ok (.invokevirtual 38, 3) := by decide +kernel
theorem d_Bal_build_82 : decode prog_2_method_3_code 82 = .ok (.iinc 3 1, 3) := by decide +kernel
theorem d_Bal_build_85 : decode prog_2_method_3_code 85 = .ok (.goto (-22), 3) := by decide +kernel
theorem d_Bal_build_88 : decode prog_2_method_3_code 88 = .ok (.aload_n 0, 1) := by decide +kernel
theorem d_Bal_build_89 : decode prog_2_method_3_code 89 = .ok (.iconst 0, 1) := by decide +kernel
theorem d_Bal_build_90 : decode prog_2_method_3_code 90 = .ok (.iconst 0, 1) := by decide +kernel
theorem d_Bal_build_91 : decode prog_2_method_3_code 91 = .ok (.aload_n 0, 1) := by decide +kernel
theorem d_Bal_build_92 : decode prog_2_method_3_code 92 = .ok (.getfield 25, 3) := by decide +kernel
theorem d_Bal_build_95 : decode prog_2_method_3_code 95 = .ok (.invokevirtual 41, 3) := by decide +kernel
theorem d_Bal_build_98 : decode prog_2_method_3_code 98 = .ok (.return_, 1) := by decide +kernel
theorem d_PT_balance_0 : decode prog_1_method_22_code 0 = .ok (.aload_n 0, 1) := by decide +kernel
theorem d_PT_balance_1 : decode prog_1_method_22_code 1 = .ok (.getfield 21, 3) := by decide +kernel
theorem d_PT_balance_4 : decode prog_1_method_22_code 4 = .ok (.invokevirtual 102, 3) := by decide +kernel
theorem d_PT_balance_7 : decode prog_1_method_22_code 7 = .ok (.istore_n 1, 1) := by decide +kernel
theorem d_PT_balance_8 : decode prog_1_method_22_code 8 = .ok (.iload_n 1, 1) := by decide +kernel
theorem d_PT_balance_9 : decode prog_1_method_22_code 9 = .ok (.ifCond .ne 6, 3) := by decide +kernel
theorem d_PT_balance_12 : decode prog_1_method_22_code 12 = .ok (.bipush (-3), 2) := by decide +kernel
theorem d_PT_balance_14 : decode prog_1_method_22_code 14 = .ok (.ireturn, 1) := by decide +kernel
theorem d_PT_balance_15 : decode prog_1_method_22_code 15 = .ok (.iload_n 1, 1) := by decide +kernel
theorem d_PT_balance_16 : decode prog_1_method_22_code 16 = .ok (.invokestatic 170, 3) := by decide +kernel
theorem d_PT_balance_19 : decode prog_1_method_22_code 19 = .ok (.istore_n 2, 1) := by decide +kernel
theorem d_PT_balance_20 : decode prog_1_method_22_code 20 = .ok (.aload_n 0, 1) := by decide +kernel
theorem d_PT_balance_21 : decode prog_1_method_22_code 21 = .ok (.getfield 10, 3) := by decide +kernel
theorem d_PT_balance_24 : decode prog_1_method_22_code 24 = .ok (.invokevirtual 53, 3) := by decide +kernel
theorem d_PT_balance_27 : decode prog_1_method_22_code 27 = .ok (.iload_n 2, 1) := by decide +kernel
theorem d_PT_balance_28 : decode prog_1_method_22_code 28 = .ok (.iadd, 1) := by decide +kernel
theorem d_PT_balance_29 : decode prog_1_method_22_code 29 = .ok (.sipush 200, 3) := by decide +kernel
theorem d_PT_balance_32 : decode prog_1_method_22_code 32 = .ok (.if_icmp .le 6, 3) := by decide +kernel
theorem d_PT_balance_35 : decode prog_1_method_22_code 35 = .ok (.bipush (-4), 2) := by decide +kernel
theorem d_PT_balance_37 : decode prog_1_method_22_code 37 = .ok (.ireturn, 1) := by decide +kernel
theorem d_PT_balance_38 : decode prog_1_method_22_code 38 = .ok (.aload_n 0, 1) := by decide +kernel
theorem d_PT_balance_39 : decode prog_1_method_22_code 39 = .ok (.getfield 35, 3) := by decide +kernel
theorem d_PT_balance_42 : decode prog_1_method_22_code 42 = .ok (.aload_n 0, 1) := by decide +kernel
theorem d_PT_balance_43 : decode prog_1_method_22_code 43 = .ok (.getfield 21, 3) := by decide +kernel
theorem d_PT_balance_46 : decode prog_1_method_22_code 46 = .ok (.invokevirtual 173, 3) := by decide +kernel
theorem d_PT_balance_49 : decode prog_1_method_22_code 49 = .ok (.iload_n 1, 1) := by decide +kernel
theorem d_PT_balance_50 : decode prog_1_method_22_code 50 = .ok (.invokevirtual 177, 3) := by decide +kernel
theorem d_PT_balance_53 : decode prog_1_method_22_code 53 = .ok (.iload_n 2, 1) := by decide +kernel
theorem d_PT_balance_54 : decode prog_1_method_22_code 54 = .ok (.ireturn, 1) := by decide +kernel
theorem d_PT_count_0 : decode prog_1_method_23_code 0 = .ok (.iload_n 1, 1) := by decide +kernel
theorem d_PT_count_1 : decode prog_1_method_23_code 1 = .ok (.tableswitch 51 0 2 #[27, 35, 43], 27) := by decide +kernel
theorem d_PT_count_28 : decode prog_1_method_23_code 28 = .ok (.aload_n 0, 1) := by decide +kernel
theorem d_PT_count_29 : decode prog_1_method_23_code 29 = .ok (.getfield 10, 3) := by decide +kernel
theorem d_PT_count_32 : decode prog_1_method_23_code 32 = .ok (.invokevirtual 53, 3) := by decide +kernel
theorem d_PT_count_35 : decode prog_1_method_23_code 35 = .ok (.ireturn, 1) := by decide +kernel
theorem d_PT_count_36 : decode prog_1_method_23_code 36 = .ok (.aload_n 0, 1) := by decide +kernel
theorem d_PT_count_37 : decode prog_1_method_23_code 37 = .ok (.getfield 42, 3) := by decide +kernel
theorem d_PT_count_40 : decode prog_1_method_23_code 40 = .ok (.invokevirtual 156, 3) := by decide +kernel
theorem d_PT_count_43 : decode prog_1_method_23_code 43 = .ok (.ireturn, 1) := by decide +kernel
theorem d_PT_count_44 : decode prog_1_method_23_code 44 = .ok (.aload_n 0, 1) := by decide +kernel
theorem d_PT_count_45 : decode prog_1_method_23_code 45 = .ok (.getfield 49, 3) := by decide +kernel
theorem d_PT_count_48 : decode prog_1_method_23_code 48 = .ok (.invokevirtual 169, 3) := by decide +kernel
theorem d_PT_count_51 : decode prog_1_method_23_code 51 = .ok (.ireturn, 1) := by decide +kernel
theorem d_PT_count_52 : decode prog_1_method_23_code 52 = .ok (.bipush (-2), 2) := by decide +kernel
theorem d_PT_count_54 : decode prog_1_method_23_code 54 = .ok (.ireturn, 1) := by decide +kernel
theorem d_Md_isItem_0 : decode prog_10_method_3_code 0 = .ok (.iload_n 1, 1) := by decide +kernel
theorem d_Md_isItem_1 : decode prog_10_method_3_code 1 = .ok (.ifCond .lt 15, 3) := by decide +kernel
theorem d_Md_isItem_4 : decode prog_10_method_3_code 4 = .ok (.iload_n 1, 1) := by decide +kernel
theorem d_Md_isItem_5 : decode prog_10_method_3_code 5 = .ok (.aload_n 0, 1) := by decide +kernel
theorem d_Md_isItem_6 : decode prog_10_method_3_code 6 = .ok (.getfield 77, 3) := by decide +kernel
theorem d_Md_isItem_9 : decode prog_10_method_3_code 9 = .ok (.if_icmp .ge 7, 3) := by decide +kernel
theorem d_Md_isItem_12 : decode prog_10_method_3_code 12 = .ok (.iconst 1, 1) := by decide +kernel
theorem d_Md_isItem_13 : decode prog_10_method_3_code 13 = .ok (.goto 4, 3) := by decide +kernel
theorem d_Md_isItem_16 : decode prog_10_method_3_code 16 = .ok (.iconst 0, 1) := by decide +kernel
theorem d_Md_isItem_17 : decode prog_10_method_3_code 17 = .ok (.ireturn, 1) := by decide +kernel
theorem d_Md_isNode_0 : decode prog_10_method_4_code 0 = .ok (.aload_n 0, 1) := by decide +kernel
theorem d_Md_isNode_1 : decode prog_10_method_4_code 1 = .ok (.iload_n 1, 1) := by decide +kernel
theorem d_Md_isNode_2 : decode prog_10_method_4_code 2 = .ok (.invokevirtual 81, 3) := by decide +kernel
theorem d_Md_isNode_5 : decode prog_10_method_4_code 5 = .ok (.ifCond .eq 16, 3) := by decide +kernel
theorem d_Md_isNode_8 : decode prog_10_method_4_code 8 = .ok (.aload_n 0, 1) := by decide +kernel
theorem d_Md_isNode_9 : decode prog_10_method_4_code 9 = .ok (.getfield 7, 3) := by decide +kernel
theorem d_Md_isNode_12 : decode prog_10_method_4_code 12 = .ok (.iload_n 1, 1) := by decide +kernel
theorem d_Md_isNode_13 : decode prog_10_method_4_code 13 = .ok (.baload, 1) := by decide +kernel
theorem d_Md_isNode_14 : decode prog_10_method_4_code 14 = .ok (.ifCond .ne 7, 3) := by decide +kernel
theorem d_Md_isNode_17 : decode prog_10_method_4_code 17 = .ok (.iconst 1, 1) := by decide +kernel
theorem d_Md_isNode_18 : decode prog_10_method_4_code 18 = .ok (.goto 4, 3) := by decide +kernel
theorem d_Md_isNode_21 : decode prog_10_method_4_code 21 = .ok (.iconst 0, 1) := by decide +kernel
theorem d_Md_isNode_22 : decode prog_10_method_4_code 22 = .ok (.ireturn, 1) := by decide +kernel
theorem d_Md_made_0 : decode prog_10_method_6_code 0 = .ok (.aload_n 0, 1) := by decide +kernel
theorem d_Md_made_1 : decode prog_10_method_6_code 1 = .ok (.getfield 7, 3) := by decide +kernel
theorem d_Md_made_4 : decode prog_10_method_6_code 4 = .ok (.aload_n 0, 1) := by decide +kernel
theorem d_Md_made_5 : decode prog_10_method_6_code 5 = .ok (.getfield 77, 3) := by decide +kernel
theorem d_Md_made_8 : decode prog_10_method_6_code 8 = .ok (.iload_n 1, 1) := by decide +kernel
theorem d_Md_made_9 : decode prog_10_method_6_code 9 = .ok (.bastore, 1) := by decide +kernel
theorem d_Md_made_10 : decode prog_10_method_6_code 10 = .ok (.aload_n 0, 1) := by decide +kernel
theorem d_Md_made_11 : decode prog_10_method_6_code 11 = .ok (.getfield 13, 3) := by decide +kernel
theorem d_Md_made_14 : decode prog_10_method_6_code 14 = .ok (.aload_n 0, 1) := by decide +kernel
theorem d_Md_made_15 : decode prog_10_method_6_code 15 = .ok (.getfield 77, 3) := by decide +kernel
theorem d_Md_made_18 : decode prog_10_method_6_code 18 = .ok (.iload_n 2, 1) := by decide +kernel
theorem d_Md_made_19 : decode prog_10_method_6_code 19 = .ok (.iastore, 1) := by decide +kernel
theorem d_Md_made_20 : decode prog_10_method_6_code 20 = .ok (.aload_n 0, 1) := by decide +kernel
theorem d_Md_made_21 : decode prog_10_method_6_code 21 = .ok (.getfield 17, 3) := by decide +kernel
theorem d_Md_made_24 : decode prog_10_method_6_code 24 = .ok (.aload_n 0, 1) := by decide +kernel
theorem d_Md_made_25 : decode prog_10_method_6_code 25 = .ok (.getfield 77, 3) := by decide +kernel
theorem d_Md_made_28 : decode prog_10_method_6_code 28 = .ok (.iload_n 1, 1) := by decide +kernel
theorem d_Md_made_29 : decode prog_10_method_6_code 29 = .ok (.ifCond .eq 7, 3) := by decide +kernel
theorem d_Md_made_32 : decode prog_10_method_6_code 32 = .ok (.iconst 0, 1) := by decide +kernel
theorem d_Md_made_33 : decode prog_10_method_6_code 33 = .ok (.goto 4, 3) := by decide +kernel
theorem d_Md_made_36 : decode prog_10_method_6_code 36 = .ok (.iload_n 3, 1) := by decide +kernel
theorem d_Md_made_37 : decode prog_10_method_6_code 37 = .ok (.iastore, 1) := by decide +kernel
theorem d_Md_made_38 : decode prog_10_method_6_code 38 = .ok (.aload_n 0, 1) := by decide +kernel
theorem d_Md_made_39 : decode prog_10_method_6_code 39 = .ok (.getfield 20, 3) := by decide +kernel
theorem d_Md_made_42 : decode prog_10_method_6_code 42 = .ok (.aload_n 0, 1) := by decide +kernel
theorem d_Md_made_43 : decode prog_10_method_6_code 43 = .ok (.getfield 77, 3) := by decide +kernel
theorem d_Md_made_46 : decode prog_10_method_6_code 46 = .ok (.iconst 0, 1) := by decide +kernel
theorem d_Md_made_47 : decode prog_10_method_6_code 47 = .ok (.iastore, 1) := by decide +kernel
theorem d_Md_made_48 : decode prog_10_method_6_code 48 = .ok (.iconst 0, 1) := by decide +kernel
theorem d_Md_made_49 : decode prog_10_method_6_code 49 = .ok (.istore 4, 2) := by decide +kernel
theorem d_Md_made_51 : decode prog_10_method_6_code 51 = .ok (.iload 4, 2) := by decide +kernel
theorem d_Md_made_53 : decode prog_10_method_6_code 53 = .ok (.iconst 4, 1) := by decide +kernel
theorem d_Md_made_54 : decode prog_10_method_6_code 54 = .ok (.if_icmp .ge 24, 3) := by decide +kernel
theorem d_Md_made_57 : decode prog_10_method_6_code 57 = .ok (.aload_n 0, 1) := by decide +kernel
theorem d_Md_made_58 : decode prog_10_method_6_code 58 = .ok (.getfield 26, 3) := by decide +kernel
theorem d_Md_made_61 : decode prog_10_method_6_code 61 = .ok (.iconst 4, 1) := by decide +kernel
theorem d_Md_made_62 : decode prog_10_method_6_code 62 = .ok (.aload_n 0, 1) := by decide +kernel
theorem d_Md_made_63 : decode prog_10_method_6_code 63 = .ok (.getfield 77, 3) := by decide +kernel
theorem d_Md_made_66 : decode prog_10_method_6_code 66 = .ok (.imul, 1) := by decide +kernel
theorem d_Md_made_67 : decode prog_10_method_6_code 67 = .ok (.iload 4, 2) := by decide +kernel
theorem d_Md_made_69 : decode prog_10_method_6_code 69 = .ok (.iadd, 1) := by decide +kernel
theorem d_Md_made_70 : decode prog_10_method_6_code 70 = .ok (.iconst (-1), 1) := by decide +kernel
theorem d_Md_made_71 : decode prog_10_method_6_code 71 = .ok (.iastore, 1) := by decide +kernel
theorem d_Md_made_72 : decode prog_10_method_6_code 72 = .ok (.iinc 4 1, 3) := by decide +kernel
theorem d_Md_made_75 : decode prog_10_method_6_code 75 = .ok (.goto (-24), 3) := by decide +kernel
theorem d_Md_made_78 : decode prog_10_method_6_code 78 = .ok (.aload_n 0, 1) := by decide +kernel
theorem d_Md_made_79 : decode prog_10_method_6_code 79 = .ok (.dup, 1) := by decide +kernel
theorem d_Md_made_80 : decode prog_10_method_6_code 80 = .ok (.getfield 77, 3) := by decide +kernel
theorem d_Md_made_83 : decode prog_10_method_6_code 83 = .ok (.iconst 1, 1) := by decide +kernel
theorem d_Md_made_84 : decode prog_10_method_6_code 84 = .ok (.iadd, 1) := by decide +kernel
theorem d_Md_made_85 : decode prog_10_method_6_code 85 = .ok (.putfield 77, 3) := by decide +kernel
theorem d_Md_made_88 : decode prog_10_method_6_code 88 = .ok (.aload_n 0, 1) := by decide +kernel
theorem d_Md_made_89 : decode prog_10_method_6_code 89 = .ok (.getfield 77, 3) := by decide +kernel
theorem d_Md_made_92 : decode prog_10_method_6_code 92 = .ok (.iconst 1, 1) := by decide +kernel
theorem d_Md_made_93 : decode prog_10_method_6_code 93 = .ok (.isub, 1) := by decide +kernel
theorem d_Md_made_94 : decode prog_10_method_6_code 94 = .ok (.ireturn, 1) := by decide +kernel
theorem d_Md_append_0 : decode prog_10_method_7_code 0 = .ok (.aload_n 0, 1) := by decide +kernel
theorem d_Md_append_1 : decode prog_10_method_7_code 1 = .ok (.getfield 23, 3) := by decide +kernel
theorem d_Md_append_4 : decode prog_10_method_7_code 4 = .ok (.bipush 40, 2) := by decide +kernel
theorem d_Md_append_6 : decode prog_10_method_7_code 6 = .ok (.iload_n 1, 1) := by decide +kernel
theorem d_Md_append_7 : decode prog_10_method_7_code 7 = .ok (.imul, 1) := by decide +kernel
theorem d_Md_append_8 : decode prog_10_method_7_code 8 = .ok (.aload_n 0, 1) := by decide +kernel
theorem d_Md_append_9 : decode prog_10_method_7_code 9 = .ok (.getfield 20, 3) := by decide +kernel
theorem d_Md_append_12 : decode prog_10_method_7_code 12 = .ok (.iload_n 1, 1) := by decide +kernel
theorem d_Md_append_13 : decode prog_10_method_7_code 13 = .ok (.iaload, 1) := by decide +kernel
theorem d_Md_append_14 : decode prog_10_method_7_code 14 = .ok (.iadd, 1) := by decide +kernel
theorem d_Md_append_15 : decode prog_10_method_7_code 15 = .ok (.iload_n 2, 1) := by decide +kernel
theorem d_Md_append_16 : decode prog_10_method_7_code 16 = .ok (.iastore, 1) := by decide +kernel
theorem d_Md_append_17 : decode prog_10_method_7_code 17 = .ok (.aload_n 0, 1) := by decide +kernel
theorem d_Md_append_18 : decode prog_10_method_7_code 18 = .ok (.getfield 20, 3) := by decide +kernel
theorem d_Md_append_21 : decode prog_10_method_7_code 21 = .ok (.iload_n 1, 1) := by decide +kernel
theorem d_Md_append_22 : decode prog_10_method_7_code 22 = .ok (.dup2, 1) := by decide +kernel
theorem d_Md_append_23 : decode prog_10_method_7_code 23 = .ok (.iaload, 1) := by decide +kernel
theorem d_Md_append_24 : decode prog_10_method_7_code 24 = .ok (.iconst 1, 1) := by decide +kernel
theorem d_Md_append_25 : decode prog_10_method_7_code 25 = .ok (.iadd, 1) := by decide +kernel
theorem d_Md_append_26 : decode prog_10_method_7_code 26 = .ok (.iastore, 1) := by decide +kernel
theorem d_Md_append_27 : decode prog_10_method_7_code 27 = .ok (.return_, 1) := by decide +kernel
theorem d_Md_node_0 : decode prog_10_method_8_code 0 = .ok (.aload_n 0, 1) := by decide +kernel
theorem d_Md_node_1 : decode prog_10_method_8_code 1 = .ok (.getfield 77, 3) := by decide +kernel
theorem d_Md_node_4 : decode prog_10_method_8_code 4 = .ok (.ifCond .ne 16, 3) := by decide +kernel
theorem d_Md_node_7 : decode prog_10_method_8_code 7 = .ok (.iload_n 1, 1) := by decide +kernel
theorem d_Md_node_8 : decode prog_10_method_8_code 8 = .ok (.iconst (-1), 1) := by decide +kernel
theorem d_Md_node_9 : decode prog_10_method_8_code 9 = .ok (.if_icmp .ne 7, 3) := by decide +kernel
theorem d_Md_node_12 : decode prog_10_method_8_code 12 = .ok (.iconst 1, 1) := by decide +kernel
theorem d_Md_node_13 : decode prog_10_method_8_code 13 = .ok (.goto 12, 3) := by decide +kernel
theorem d_Md_node_16 : decode prog_10_method_8_code 16 = .ok (.iconst 0, 1) := by decide +kernel
theorem d_Md_node_17 : decode prog_10_method_8_code 17 = .ok (.goto 8, 3) := by decide +kernel
theorem d_Md_node_20 : decode prog_10_method_8_code 20 = .ok (.aload_n 0, 1) := by decide +kernel
theorem d_Md_node_21 : decode prog_10_method_8_code 21 = .ok (.iload_n 1, 1) := by decide +kernel
theorem d_Md_node_22 : decode prog_10_method_8_code 22 = .ok (.invokevirtual 85, 3) := by decide +kernel
theorem d_Md_node_25 : decode prog_10_method_8_code 25 = .ok (.istore_n 3, 1) := by decide +kernel
theorem d_Md_node_26 : decode prog_10_method_8_code 26 = .ok (.iload_n 3, 1) := by decide +kernel
theorem d_Md_node_27 : decode prog_10_method_8_code 27 = .ok (.ifCond .ne 5, 3) := by decide +kernel
theorem d_Md_node_30 : decode prog_10_method_8_code 30 = .ok (.iconst (-1), 1) := by decide +kernel
theorem d_Md_node_31 : decode prog_10_method_8_code 31 = .ok (.ireturn, 1) := by decide +kernel
theorem d_Md_node_32 : decode prog_10_method_8_code 32 = .ok (.aload_n 0, 1) := by decide +kernel
theorem d_Md_node_33 : decode prog_10_method_8_code 33 = .ok (.getfield 77, 3) := by decide +kernel
theorem d_Md_node_36 : decode prog_10_method_8_code 36 = .ok (.sipush 200, 3) := by decide +kernel
theorem d_Md_node_39 : decode prog_10_method_8_code 39 = .ok (.if_icmp .eq 21, 3) := by decide +kernel
theorem d_Md_node_42 : decode prog_10_method_8_code 42 = .ok (.aload_n 0, 1) := by decide +kernel
theorem d_Md_node_43 : decode prog_10_method_8_code 43 = .ok (.getfield 77, 3) := by decide +kernel
theorem d_Md_node_46 : decode prog_10_method_8_code 46 = .ok (.ifCond .le 17, 3) := by decide +kernel
theorem d_Md_node_49 : decode prog_10_method_8_code 49 = .ok (.aload_n 0, 1) := by decide +kernel
theorem d_Md_node_50 : decode prog_10_method_8_code 50 = .ok (.getfield 20, 3) := by decide +kernel
theorem d_Md_node_53 : decode prog_10_method_8_code 53 = .ok (.iload_n 1, 1) := by decide +kernel
theorem d_Md_node_54 : decode prog_10_method_8_code 54 = .ok (.iaload, 1) := by decide +kernel
theorem d_Md_node_55 : decode prog_10_method_8_code 55 = .ok (.bipush 40, 2) := by decide +kernel
theorem d_Md_node_57 : decode prog_10_method_8_code 57 = .ok (.if_icmp .ne 6, 3) := by decide +kernel
theorem d_Md_node_60 : decode prog_10_method_8_code 60 = .ok (.bipush (-4), 2) := by decide +kernel
theorem d_Md_node_62 : decode prog_10_method_8_code 62 = .ok (.ireturn, 1) := by decide +kernel
theorem d_Md_node_63 : decode prog_10_method_8_code 63 = .ok (.aload_n 0, 1) := by decide +kernel
theorem d_Md_node_64 : decode prog_10_method_8_code 64 = .ok (.iconst 0, 1) := by decide +kernel
theorem d_Md_node_65 : decode prog_10_method_8_code 65 = .ok (.iload_n 1, 1) := by decide +kernel
theorem d_Md_node_66 : decode prog_10_method_8_code 66 = .ok (.iload_n 2, 1) := by decide +kernel
theorem d_Md_node_67 : decode prog_10_method_8_code 67 = .ok (.invokevirtual 88, 3) := by decide +kernel
theorem d_Md_node_70 : decode prog_10_method_8_code 70 = .ok (.istore 4, 2) := by decide +kernel
theorem d_Md_node_72 : decode prog_10_method_8_code 72 = .ok (.iload 4, 2) := by decide +kernel
theorem d_Md_node_74 : decode prog_10_method_8_code 74 = .ok (.ifCond .le 10, 3) := by decide +kernel
theorem d_Md_node_77 : decode prog_10_method_8_code 77 = .ok (.aload_n 0, 1) := by decide +kernel
theorem d_Md_node_78 : decode prog_10_method_8_code 78 = .ok (.iload_n 1, 1) := by decide +kernel
theorem d_Md_node_79 : decode prog_10_method_8_code 79 = .ok (.iload 4, 2) := by decide +kernel
theorem d_Md_node_81 : decode prog_10_method_8_code 81 = .ok (.invokevirtual 92, 3) := by decide +kernel
theorem d_Md_node_84 : decode prog_10_method_8_code 84 = .ok (.iload 4, 2) := by decide +kernel
theorem d_Md_node_86 : decode prog_10_method_8_code 86 = .ok (.ireturn, 1) := by decide +kernel
theorem d_Md_page_0 : decode prog_10_method_9_code 0 = .ok (.aload_n 0, 1) := by decide +kernel
theorem d_Md_page_1 : decode prog_10_method_9_code 1 = .ok (.iload_n 1, 1) := by decide +kernel
theorem d_Md_page_2 : decode prog_10_method_9_code 2 = .ok (.invokevirtual 85, 3) := by decide +kernel
theorem d_Md_page_5 : decode prog_10_method_9_code 5 = .ok (.ifCond .ne 5, 3) := by decide +kernel
theorem d_Md_page_8 : decode prog_10_method_9_code 8 = .ok (.iconst (-1), 1) := by decide +kernel
theorem d_Md_page_9 : decode prog_10_method_9_code 9 = .ok (.ireturn, 1) := by decide +kernel
theorem d_Md_page_10 : decode prog_10_method_9_code 10 = .ok (.aload_n 0, 1) := by decide +kernel
theorem d_Md_page_11 : decode prog_10_method_9_code 11 = .ok (.getfield 77, 3) := by decide +kernel
theorem d_Md_page_14 : decode prog_10_method_9_code 14 = .ok (.sipush 200, 3) := by decide +kernel
theorem d_Md_page_17 : decode prog_10_method_9_code 17 = .ok (.if_icmp .eq 14, 3) := by decide +kernel
theorem d_Md_page_20 : decode prog_10_method_9_code 20 = .ok (.aload_n 0, 1) := by decide +kernel
theorem d_Md_page_21 : decode prog_10_method_9_code 21 = .ok (.getfield 20, 3) := by decide +kernel
theorem d_Md_page_24 : decode prog_10_method_9_code 24 = .ok (.iload_n 1, 1) := by decide +kernel
theorem d_Md_page_25 : decode prog_10_method_9_code 25 = .ok (.iaload, 1) := by decide +kernel
theorem d_Md_page_26 : decode prog_10_method_9_code 26 = .ok (.bipush 40, 2) := by decide +kernel
theorem d_Md_page_28 : decode prog_10_method_9_code 28 = .ok (.if_icmp .ne 6, 3) := by decide +kernel
theorem d_Md_page_31 : decode prog_10_method_9_code 31 = .ok (.bipush (-4), 2) := by decide +kernel
theorem d_Md_page_33 : decode prog_10_method_9_code 33 = .ok (.ireturn, 1) := by decide +kernel
theorem d_Md_page_34 : decode prog_10_method_9_code 34 = .ok (.aload_n 0, 1) := by decide +kernel
theorem d_Md_page_35 : decode prog_10_method_9_code 35 = .ok (.iconst 1, 1) := by decide +kernel
theorem d_Md_page_36 : decode prog_10_method_9_code 36 = .ok (.iload_n 1, 1) := by decide +kernel
theorem d_Md_page_37 : decode prog_10_method_9_code 37 = .ok (.iconst 0, 1) := by decide +kernel
theorem d_Md_page_38 : decode prog_10_method_9_code 38 = .ok (.invokevirtual 88, 3) := by decide +kernel
theorem d_Md_page_41 : decode prog_10_method_9_code 41 = .ok (.istore_n 2, 1) := by decide +kernel
theorem d_Md_page_42 : decode prog_10_method_9_code 42 = .ok (.aload_n 0, 1) := by decide +kernel
theorem d_Md_page_43 : decode prog_10_method_9_code 43 = .ok (.iload_n 1, 1) := by decide +kernel
theorem d_Md_page_44 : decode prog_10_method_9_code 44 = .ok (.iload_n 2, 1) := by decide +kernel
theorem d_Md_page_45 : decode prog_10_method_9_code 45 = .ok (.invokevirtual 92, 3) := by decide +kernel
theorem d_Md_page_48 : decode prog_10_method_9_code 48 = .ok (.iload_n 2, 1) := by decide +kernel
theorem d_Md_page_49 : decode prog_10_method_9_code 49 = .ok (.ireturn, 1) := by decide +kernel
theorem d_Md_list_0 : decode prog_10_method_10_code 0 = .ok (.aload_n 0, 1) := by decide +kernel
theorem d_Md_list_1 : decode prog_10_method_10_code 1 = .ok (.iload_n 1, 1) := by decide +kernel
theorem d_Md_list_2 : decode prog_10_method_10_code 2 = .ok (.invokevirtual 85, 3) := by decide +kernel
theorem d_Md_list_5 : decode prog_10_method_10_code 5 = .ok (.ifCond .eq 11, 3) := by decide +kernel
theorem d_Md_list_8 : decode prog_10_method_10_code 8 = .ok (.aload_n 0, 1) := by decide +kernel
theorem d_Md_list_9 : decode prog_10_method_10_code 9 = .ok (.iload_n 2, 1) := by decide +kernel
theorem d_Md_list_10 : decode prog_10_method_10_code 10 = .ok (.invokevirtual 81, 3) := by decide +kernel
theorem d_Md_list_13 : decode prog_10_method_10_code 13 = .ok (.ifCond .ne 5, 3) := by decide +kernel
theorem d_Md_list_16 : decode prog_10_method_10_code 16 = .ok (.iconst (-1), 1) := by decide +kernel
theorem d_Md_list_17 : decode prog_10_method_10_code 17 = .ok (.ireturn, 1) := by decide +kernel
theorem d_Md_list_18 : decode prog_10_method_10_code 18 = .ok (.aload_n 0, 1) := by decide +kernel
theorem d_Md_list_19 : decode prog_10_method_10_code 19 = .ok (.getfield 20, 3) := by decide +kernel
theorem d_Md_list_22 : decode prog_10_method_10_code 22 = .ok (.iload_n 1, 1) := by decide +kernel
theorem d_Md_list_23 : decode prog_10_method_10_code 23 = .ok (.iaload, 1) := by decide +kernel
theorem d_Md_list_24 : decode prog_10_method_10_code 24 = .ok (.bipush 40, 2) := by decide +kernel
theorem d_Md_list_26 : decode prog_10_method_10_code 26 = .ok (.if_icmp .ne 6, 3) := by decide +kernel
theorem d_Md_list_29 : decode prog_10_method_10_code 29 = .ok (.bipush (-4), 2) := by decide +kernel
theorem d_Md_list_31 : decode prog_10_method_10_code 31 = .ok (.ireturn, 1) := by decide +kernel
theorem d_Md_list_32 : decode prog_10_method_10_code 32 = .ok (.aload_n 0, 1) := by decide +kernel
theorem d_Md_list_33 : decode prog_10_method_10_code 33 = .ok (.iload_n 1, 1) := by decide +kernel
theorem d_Md_list_34 : decode prog_10_method_10_code 34 = .ok (.iload_n 2, 1) := by decide +kernel
theorem d_Md_list_35 : decode prog_10_method_10_code 35 = .ok (.invokevirtual 92, 3) := by decide +kernel
theorem d_Md_list_38 : decode prog_10_method_10_code 38 = .ok (.aload_n 0, 1) := by decide +kernel
theorem d_Md_list_39 : decode prog_10_method_10_code 39 = .ok (.getfield 20, 3) := by decide +kernel
theorem d_Md_list_42 : decode prog_10_method_10_code 42 = .ok (.iload_n 1, 1) := by decide +kernel
theorem d_Md_list_43 : decode prog_10_method_10_code 43 = .ok (.iaload, 1) := by decide +kernel
theorem d_Md_list_44 : decode prog_10_method_10_code 44 = .ok (.ireturn, 1) := by decide +kernel
theorem d_Md_within_0 : decode prog_10_method_5_code 0 = .ok (.iload_n 0, 1) := by decide +kernel
theorem d_Md_within_1 : decode prog_10_method_5_code 1 = .ok (.iload_n 1, 1) := by decide +kernel
theorem d_Md_within_2 : decode prog_10_method_5_code 2 = .ok (.if_icmp .lt 12, 3) := by decide +kernel
theorem d_Md_within_5 : decode prog_10_method_5_code 5 = .ok (.iload_n 0, 1) := by decide +kernel
theorem d_Md_within_6 : decode prog_10_method_5_code 6 = .ok (.iload_n 2, 1) := by decide +kernel
theorem d_Md_within_7 : decode prog_10_method_5_code 7 = .ok (.if_icmp .gt 7, 3) := by decide +kernel
theorem d_Md_within_10 : decode prog_10_method_5_code 10 = .ok (.iconst 1, 1) := by decide +kernel
theorem d_Md_within_11 : decode prog_10_method_5_code 11 = .ok (.goto 4, 3) := by decide +kernel
theorem d_Md_within_14 : decode prog_10_method_5_code 14 = .ok (.iconst 0, 1) := by decide +kernel
theorem d_Md_within_15 : decode prog_10_method_5_code 15 = .ok (.ireturn, 1) := by decide +kernel
theorem d_Md_inherit_0 : decode prog_10_method_11_code 0 = .ok (.aload_n 0, 1) := by decide +kernel
theorem d_Md_inherit_1 : decode prog_10_method_11_code 1 = .ok (.iload_n 1, 1) := by decide +kernel
theorem d_Md_inherit_2 : decode prog_10_method_11_code 2 = .ok (.invokevirtual 81, 3) := by decide +kernel
theorem d_Md_inherit_5 : decode prog_10_method_11_code 5 = .ok (.ifCond .ne 5, 3) := by decide +kernel
theorem d_Md_inherit_8 : decode prog_10_method_11_code 8 = .ok (.iconst (-1), 1) := by decide +kernel
theorem d_Md_inherit_9 : decode prog_10_method_11_code 9 = .ok (.ireturn, 1) := by decide +kernel
theorem d_Md_inherit_10 : decode prog_10_method_11_code 10 = .ok (.iload_n 2, 1) := by decide +kernel
theorem d_Md_inherit_11 : decode prog_10_method_11_code 11 = .ok (.iconst 0, 1) := by decide +kernel
theorem d_Md_inherit_12 : decode prog_10_method_11_code 12 = .ok (.iconst 3, 1) := by decide +kernel
theorem d_Md_inherit_13 : decode prog_10_method_11_code 13 = .ok (.invokestatic 96, 3) := by decide +kernel
theorem d_Md_inherit_16 : decode prog_10_method_11_code 16 = .ok (.ifCond .eq 13, 3) := by decide +kernel
theorem d_Md_inherit_19 : decode prog_10_method_11_code 19 = .ok (.iload_n 3, 1) := by decide +kernel
theorem d_Md_inherit_20 : decode prog_10_method_11_code 20 = .ok (.iconst (-1), 1) := by decide +kernel
theorem d_Md_inherit_21 : decode prog_10_method_11_code 21 = .ok (.ldc 100, 2) := by decide +kernel
theorem d_Md_inherit_23 : decode prog_10_method_11_code 23 = .ok (.invokestatic 96, 3) := by decide +kernel
theorem d_Md_inherit_26 : decode prog_10_method_11_code 26 = .ok (.ifCond .ne 6, 3) := by decide +kernel
theorem d_Md_inherit_29 : decode prog_10_method_11_code 29 = .ok (.bipush (-2), 2) := by decide +kernel
theorem d_Md_inherit_31 : decode prog_10_method_11_code 31 = .ok (.ireturn, 1) := by decide +kernel
theorem d_Md_inherit_32 : decode prog_10_method_11_code 32 = .ok (.aload_n 0, 1) := by decide +kernel
theorem d_Md_inherit_33 : decode prog_10_method_11_code 33 = .ok (.getfield 26, 3) := by decide +kernel
theorem d_Md_inherit_36 : decode prog_10_method_11_code 36 = .ok (.iconst 4, 1) := by decide +kernel
theorem d_Md_inherit_37 : decode prog_10_method_11_code 37 = .ok (.iload_n 1, 1) := by decide +kernel
theorem d_Md_inherit_38 : decode prog_10_method_11_code 38 = .ok (.imul, 1) := by decide +kernel
theorem d_Md_inherit_39 : decode prog_10_method_11_code 39 = .ok (.iload_n 2, 1) := by decide +kernel
theorem d_Md_inherit_40 : decode prog_10_method_11_code 40 = .ok (.iadd, 1) := by decide +kernel
theorem d_Md_inherit_41 : decode prog_10_method_11_code 41 = .ok (.iload_n 3, 1) := by decide +kernel
theorem d_Md_inherit_42 : decode prog_10_method_11_code 42 = .ok (.iastore, 1) := by decide +kernel
theorem d_Md_inherit_43 : decode prog_10_method_11_code 43 = .ok (.iconst 1, 1) := by decide +kernel
theorem d_Md_inherit_44 : decode prog_10_method_11_code 44 = .ok (.ireturn, 1) := by decide +kernel
theorem d_Md_valueOf_0 : decode prog_10_method_12_code 0 = .ok (.iload_n 1, 1) := by decide +kernel
theorem d_Md_valueOf_1 : decode prog_10_method_12_code 1 = .ok (.istore_n 3, 1) := by decide +kernel
theorem d_Md_valueOf_2 : decode prog_10_method_12_code 2 = .ok (.iconst 0, 1) := by decide +kernel
theorem d_Md_valueOf_3 : decode prog_10_method_12_code 3 = .ok (.istore 4, 2) := by decide +kernel
theorem d_Md_valueOf_5 : decode prog_10_method_12_code 5 = .ok (.iload_n 3, 1) := by decide +kernel
theorem d_Md_valueOf_6 : decode prog_10_method_12_code 6 = .ok (.ifCond .lt 38, 3) := by decide +kernel
theorem d_Md_valueOf_9 : decode prog_10_method_12_code 9 = .ok (.aload_n 0, 1) := by decide +kernel
theorem d_Md_valueOf_10 : decode prog_10_method_12_code 10 = .ok (.getfield 26, 3) := by decide +kernel
theorem d_Md_valueOf_13 : decode prog_10_method_12_code 13 = .ok (.iconst 4, 1) := by decide +kernel
theorem d_Md_valueOf_14 : decode prog_10_method_12_code 14 = .ok (.iload_n 3, 1) := by decide +kernel
theorem d_Md_valueOf_15 : decode prog_10_method_12_code 15 = .ok (.imul, 1) := by decide +kernel
theorem d_Md_valueOf_16 : decode prog_10_method_12_code 16 = .ok (.iload_n 2, 1) := by decide +kernel
theorem d_Md_valueOf_17 : decode prog_10_method_12_code 17 = .ok (.iadd, 1) := by decide +kernel
theorem d_Md_valueOf_18 : decode prog_10_method_12_code 18 = .ok (.iaload, 1) := by decide +kernel
theorem d_Md_valueOf_19 : decode prog_10_method_12_code 19 = .ok (.iconst (-1), 1) := by decide +kernel
theorem d_Md_valueOf_20 : decode prog_10_method_12_code 20 = .ok (.if_icmp .ne 24, 3) := by decide +kernel
theorem d_Md_valueOf_23 : decode prog_10_method_12_code 23 = .ok (.iload 4, 2) := by decide +kernel
theorem d_Md_valueOf_25 : decode prog_10_method_12_code 25 = .ok (.sipush 200, 3) := by decide +kernel
theorem d_Md_valueOf_28 : decode prog_10_method_12_code 28 = .ok (.if_icmp .ge 16, 3) := by decide +kernel
theorem d_Md_valueOf_31 : decode prog_10_method_12_code 31 = .ok (.aload_n 0, 1) := by decide +kernel
theorem d_Md_valueOf_32 : decode prog_10_method_12_code 32 = .ok (.getfield 13, 3) := by decide +kernel
theorem d_Md_valueOf_35 : decode prog_10_method_12_code 35 = .ok (.iload_n 3, 1) := by decide +kernel
theorem d_Md_valueOf_36 : decode prog_10_method_12_code 36 = .ok (.iaload, 1) := by decide +kernel
theorem d_Md_valueOf_37 : decode prog_10_method_12_code 37 = .ok (.istore_n 3, 1) := by decide +kernel
theorem d_Md_valueOf_38 : decode prog_10_method_12_code 38 = .ok (.iinc 4 1, 3) := by decide +kernel
theorem d_Md_valueOf_41 : decode prog_10_method_12_code 41 = .ok (.goto (-36), 3) := by decide +kernel
theorem d_Md_valueOf_44 : decode prog_10_method_12_code 44 = .ok (.iload_n 3, 1) := by decide +kernel
theorem d_Md_valueOf_45 : decode prog_10_method_12_code 45 = .ok (.ifCond .ge 7, 3) := by decide +kernel
theorem d_Md_valueOf_48 : decode prog_10_method_12_code 48 = .ok (.iconst (-1), 1) := by decide +kernel
theorem d_Md_valueOf_49 : decode prog_10_method_12_code 49 = .ok (.goto 13, 3) := by decide +kernel
theorem d_Md_valueOf_52 : decode prog_10_method_12_code 52 = .ok (.aload_n 0, 1) := by decide +kernel
theorem d_Md_valueOf_53 : decode prog_10_method_12_code 53 = .ok (.getfield 26, 3) := by decide +kernel
theorem d_Md_valueOf_56 : decode prog_10_method_12_code 56 = .ok (.iconst 4, 1) := by decide +kernel
theorem d_Md_valueOf_57 : decode prog_10_method_12_code 57 = .ok (.iload_n 3, 1) := by decide +kernel
theorem d_Md_valueOf_58 : decode prog_10_method_12_code 58 = .ok (.imul, 1) := by decide +kernel
theorem d_Md_valueOf_59 : decode prog_10_method_12_code 59 = .ok (.iload_n 2, 1) := by decide +kernel
theorem d_Md_valueOf_60 : decode prog_10_method_12_code 60 = .ok (.iadd, 1) := by decide +kernel
theorem d_Md_valueOf_61 : decode prog_10_method_12_code 61 = .ok (.iaload, 1) := by decide +kernel
theorem d_Md_valueOf_62 : decode prog_10_method_12_code 62 = .ok (.ireturn, 1) := by decide +kernel
theorem d_Md_of_0 : decode prog_10_method_13_code 0 = .ok (.aload_n 0, 1) := by decide +kernel
theorem d_Md_of_1 : decode prog_10_method_13_code 1 = .ok (.iload_n 1, 1) := by decide +kernel
theorem d_Md_of_2 : decode prog_10_method_13_code 2 = .ok (.invokevirtual 81, 3) := by decide +kernel
theorem d_Md_of_5 : decode prog_10_method_13_code 5 = .ok (.ifCond .eq 12, 3) := by decide +kernel
theorem d_Md_of_8 : decode prog_10_method_13_code 8 = .ok (.aload_n 0, 1) := by decide +kernel
theorem d_Md_of_9 : decode prog_10_method_13_code 9 = .ok (.getfield 7, 3) := by decide +kernel
theorem d_Md_of_12 : decode prog_10_method_13_code 12 = .ok (.iload_n 1, 1) := by decide +kernel
theorem d_Md_of_13 : decode prog_10_method_13_code 13 = .ok (.baload, 1) := by decide +kernel
theorem d_Md_of_14 : decode prog_10_method_13_code 14 = .ok (.ifCond .ne 5, 3) := by decide +kernel
theorem d_Md_of_17 : decode prog_10_method_13_code 17 = .ok (.iconst (-1), 1) := by decide +kernel
theorem d_Md_of_18 : decode prog_10_method_13_code 18 = .ok (.ireturn, 1) := by decide +kernel
theorem d_Md_of_19 : decode prog_10_method_13_code 19 = .ok (.iload_n 2, 1) := by decide +kernel
theorem d_Md_of_20 : decode prog_10_method_13_code 20 = .ok (.iconst 0, 1) := by decide +kernel
theorem d_Md_of_21 : decode prog_10_method_13_code 21 = .ok (.iconst 3, 1) := by decide +kernel
theorem d_Md_of_22 : decode prog_10_method_13_code 22 = .ok (.invokestatic 96, 3) := by decide +kernel
theorem d_Md_of_25 : decode prog_10_method_13_code 25 = .ok (.ifCond .eq 12, 3) := by decide +kernel
theorem d_Md_of_28 : decode prog_10_method_13_code 28 = .ok (.aload_n 0, 1) := by decide +kernel
theorem d_Md_of_29 : decode prog_10_method_13_code 29 = .ok (.iload_n 1, 1) := by decide +kernel
theorem d_Md_of_30 : decode prog_10_method_13_code 30 = .ok (.iload_n 2, 1) := by decide +kernel
theorem d_Md_of_31 : decode prog_10_method_13_code 31 = .ok (.invokevirtual 101, 3) := by decide +kernel
theorem d_Md_of_34 : decode prog_10_method_13_code 34 = .ok (.goto 5, 3) := by decide +kernel
theorem d_Md_of_37 : decode prog_10_method_13_code 37 = .ok (.bipush (-2), 2) := by decide +kernel
theorem d_Md_of_39 : decode prog_10_method_13_code 39 = .ok (.ireturn, 1) := by decide +kernel
theorem d_Md_goInto_0 : decode prog_10_method_15_code 0 = .ok (.aload_n 0, 1) := by decide +kernel
theorem d_Md_goInto_1 : decode prog_10_method_15_code 1 = .ok (.getfield 35, 3) := by decide +kernel
theorem d_Md_goInto_4 : decode prog_10_method_15_code 4 = .ok (.iload_n 1, 1) := by decide +kernel
theorem d_Md_goInto_5 : decode prog_10_method_15_code 5 = .ok (.iconst 1, 1) := by decide +kernel
theorem d_Md_goInto_6 : decode prog_10_method_15_code 6 = .ok (.bastore, 1) := by decide +kernel
theorem d_Md_goInto_7 : decode prog_10_method_15_code 7 = .ok (.aload_n 0, 1) := by decide +kernel
theorem d_Md_goInto_8 : decode prog_10_method_15_code 8 = .ok (.getfield 29, 3) := by decide +kernel
theorem d_Md_goInto_11 : decode prog_10_method_15_code 11 = .ok (.aload_n 0, 1) := by decide +kernel
theorem d_Md_goInto_12 : decode prog_10_method_15_code 12 = .ok (.getfield 108, 3) := by decide +kernel
theorem d_Md_goInto_15 : decode prog_10_method_15_code 15 = .ok (.iload_n 1, 1) := by decide +kernel
theorem d_Md_goInto_16 : decode prog_10_method_15_code 16 = .ok (.iastore, 1) := by decide +kernel
theorem d_Md_goInto_17 : decode prog_10_method_15_code 17 = .ok (.aload_n 0, 1) := by decide +kernel
theorem d_Md_goInto_18 : decode prog_10_method_15_code 18 = .ok (.getfield 32, 3) := by decide +kernel
theorem d_Md_goInto_21 : decode prog_10_method_15_code 21 = .ok (.aload_n 0, 1) := by decide +kernel
theorem d_Md_goInto_22 : decode prog_10_method_15_code 22 = .ok (.getfield 108, 3) := by decide +kernel
theorem d_Md_goInto_25 : decode prog_10_method_15_code 25 = .ok (.iconst 0, 1) := by decide +kernel
theorem d_Md_goInto_26 : decode prog_10_method_15_code 26 = .ok (.iastore, 1) := by decide +kernel
theorem d_Md_goInto_27 : decode prog_10_method_15_code 27 = .ok (.aload_n 0, 1) := by decide +kernel
theorem d_Md_goInto_28 : decode prog_10_method_15_code 28 = .ok (.getfield 47, 3) := by decide +kernel
theorem d_Md_goInto_31 : decode prog_10_method_15_code 31 = .ok (.aload_n 0, 1) := by decide +kernel
theorem d_Md_goInto_32 : decode prog_10_method_15_code 32 = .ok (.getfield 108, 3) := by decide +kernel
theorem d_Md_goInto_35 : decode prog_10_method_15_code 35 = .ok (.iconst 0, 1) := by decide +kernel
theorem d_Md_goInto_36 : decode prog_10_method_15_code 36 = .ok (.iastore, 1) := by decide +kernel
theorem d_Md_goInto_37 : decode prog_10_method_15_code 37 = .ok (.aload_n 0, 1) := by decide +kernel
theorem d_Md_goInto_38 : decode prog_10_method_15_code 38 = .ok (.dup, 1) := by decide +kernel
theorem d_Md_goInto_39 : decode prog_10_method_15_code 39 = .ok (.getfield 108, 3) := by decide +kernel
theorem d_Md_goInto_42 : decode prog_10_method_15_code 42 = .ok (.iconst 1, 1) := by decide +kernel
theorem d_Md_goInto_43 : decode prog_10_method_15_code 43 = .ok (.iadd, 1) := by decide +kernel
theorem d_Md_goInto_44 : decode prog_10_method_15_code 44 = .ok (.putfield 108, 3) := by decide +kernel
theorem d_Md_goInto_47 : decode prog_10_method_15_code 47 = .ok (.return_, 1) := by decide +kernel
theorem d_Md_begin_0 : decode prog_10_method_14_code 0 = .ok (.aload_n 0, 1) := by decide +kernel
theorem d_Md_begin_1 : decode prog_10_method_14_code 1 = .ok (.iconst 0, 1) := by decide +kernel
theorem d_Md_begin_2 : decode prog_10_method_14_code 2 = .ok (.putfield 105, 3) := by decide +kernel
theorem d_Md_begin_5 : decode prog_10_method_14_code 5 = .ok (.aload_n 0, 1) := by decide +kernel
theorem d_Md_begin_6 : decode prog_10_method_14_code 6 = .ok (.iconst 0, 1) := by decide +kernel
theorem d_Md_begin_7 : decode prog_10_method_14_code 7 = .ok (.putfield 108, 3) := by decide +kernel
theorem d_Md_begin_10 : decode prog_10_method_14_code 10 = .ok (.iconst 0, 1) := by decide +kernel
theorem d_Md_begin_11 : decode prog_10_method_14_code 11 = .ok (.istore_n 1, 1) := by decide +kernel
theorem d_Md_begin_12 : decode prog_10_method_14_code 12 = .ok (.iload_n 1, 1) := by decide +kernel
theorem d_Md_begin_13 : decode prog_10_method_14_code 13 = .ok (.aload_n 0, 1) := by decide +kernel
theorem d_Md_begin_14 : decode prog_10_method_14_code 14 = .ok (.getfield 77, 3) := by decide +kernel
theorem d_Md_begin_17 : decode prog_10_method_14_code 17 = .ok (.if_icmp .ge 16, 3) := by decide +kernel
theorem d_Md_begin_20 : decode prog_10_method_14_code 20 = .ok (.aload_n 0, 1) := by decide +kernel
theorem d_Md_begin_21 : decode prog_10_method_14_code 21 = .ok (.getfield 35, 3) := by decide +kernel
theorem d_Md_begin_24 : decode prog_10_method_14_code 24 = .ok (.iload_n 1, 1) := by decide +kernel
theorem d_Md_begin_25 : decode prog_10_method_14_code 25 = .ok (.iconst 0, 1) := by decide +kernel
theorem d_Md_begin_26 : decode prog_10_method_14_code 26 = .ok (.bastore, 1) := by decide +kernel
theorem d_Md_begin_27 : decode prog_10_method_14_code 27 = .ok (.iinc 1 1, 3) := by decide +kernel
theorem d_Md_begin_30 : decode prog_10_method_14_code 30 = .ok (.goto (-18), 3) := by decide +kernel
theorem d_Md_begin_33 : decode prog_10_method_14_code 33 = .ok (.aload_n 0, 1) := by decide +kernel
theorem d_Md_begin_34 : decode prog_10_method_14_code 34 = .ok (.getfield 77, 3) := by decide +kernel
theorem d_Md_begin_37 : decode prog_10_method_14_code 37 = .ok (.ifCond .le 8, 3) := by decide +kernel
theorem d_Md_begin_40 : decode prog_10_method_14_code 40 = .ok (.aload_n 0, 1) := by decide +kernel
theorem d_Md_begin_41 : decode prog_10_method_14_code 41 = .ok (.iconst 0, 1) := by decide +kernel
theorem d_Md_begin_42 : decode prog_10_method_14_code 42 = .ok (.invokevirtual 111, 3) := by decide +kernel
theorem d_Md_begin_45 : decode prog_10_method_14_code 45 = .ok (.return_, 1) := by decide +kernel
theorem d_Md_goUp_0 : decode prog_10_method_17_code 0 = .ok (.aload_n 0, 1) := by decide +kernel
theorem d_Md_goUp_1 : decode prog_10_method_17_code 1 = .ok (.dup, 1) := by decide +kernel
theorem d_Md_goUp_2 : decode prog_10_method_17_code 2 = .ok (.getfield 108, 3) := by decide +kernel
theorem d_Md_goUp_5 : decode prog_10_method_17_code 5 = .ok (.iconst 1, 1) := by decide +kernel
theorem d_Md_goUp_6 : decode prog_10_method_17_code 6 = .ok (.isub, 1) := by decide +kernel
theorem d_Md_goUp_7 : decode prog_10_method_17_code 7 = .ok (.putfield 108, 3) := by decide +kernel
theorem d_Md_goUp_10 : decode prog_10_method_17_code 10 = .ok (.aload_n 0, 1) := by decide +kernel
theorem d_Md_goUp_11 : decode prog_10_method_17_code 11 = .ok (.getfield 108, 3) := by decide +kernel
theorem d_Md_goUp_14 : decode prog_10_method_17_code 14 = .ok (.ifCond .le 26, 3) := by decide +kernel
theorem d_Md_goUp_17 : decode prog_10_method_17_code 17 = .ok (.aload_n 0, 1) := by decide +kernel
theorem d_Md_goUp_18 : decode prog_10_method_17_code 18 = .ok (.getfield 47, 3) := by decide +kernel
theorem d_Md_goUp_21 : decode prog_10_method_17_code 21 = .ok (.aload_n 0, 1) := by decide +kernel
theorem d_Md_goUp_22 : decode prog_10_method_17_code 22 = .ok (.getfield 108, 3) := by decide +kernel
theorem d_Md_goUp_25 : decode prog_10_method_17_code 25 = .ok (.iconst 1, 1) := by decide +kernel
theorem d_Md_goUp_26 : decode prog_10_method_17_code 26 = .ok (.isub, 1) := by decide +kernel
theorem d_Md_goUp_27 : decode prog_10_method_17_code 27 = .ok (.dup2, 1) := by decide +kernel
theorem d_Md_goUp_28 : decode prog_10_method_17_code 28 = .ok (.iaload, 1) := by decide +kernel
theorem d_Md_goUp_29 : decode prog_10_method_17_code 29 = .ok (.aload_n 0, 1) := by decide +kernel
theorem d_Md_goUp_30 : decode prog_10_method_17_code 30 = .ok (.getfield 47, 3) := by decide +kernel
theorem d_Md_goUp_33 : decode prog_10_method_17_code 33 = .ok (.aload_n 0, 1) := by decide +kernel
theorem d_Md_goUp_34 : decode prog_10_method_17_code 34 = .ok (.getfield 108, 3) := by decide +kernel
theorem d_Md_goUp_37 : decode prog_10_method_17_code 37 = .ok (.iaload, 1) := by decide +kernel
theorem d_Md_goUp_38 : decode prog_10_method_17_code 38 = .ok (.iadd, 1) := by decide +kernel
theorem d_Md_goUp_39 : decode prog_10_method_17_code 39 = .ok (.iastore, 1) := by decide +kernel
theorem d_Md_goUp_40 : decode prog_10_method_17_code 40 = .ok (.return_, 1) := by decide +kernel
theorem d_Md_takePage_0 : decode prog_10_method_16_code 0 = .ok (.aload_n 0, 1) := by decide +kernel
theorem d_Md_takePage_1 : decode prog_10_method_16_code 1 = .ok (.getfield 35, 3) := by decide +kernel
theorem d_Md_takePage_4 : decode prog_10_method_16_code 4 = .ok (.iload_n 1, 1) := by decide +kernel
theorem d_Md_takePage_5 : decode prog_10_method_16_code 5 = .ok (.iconst 1, 1) := by decide +kernel
theorem d_Md_takePage_6 : decode prog_10_method_16_code 6 = .ok (.bastore, 1) := by decide +kernel
theorem d_Md_takePage_7 : decode prog_10_method_16_code 7 = .ok (.aload_n 0, 1) := by decide +kernel
theorem d_Md_takePage_8 : decode prog_10_method_16_code 8 = .ok (.getfield 38, 3) := by decide +kernel
theorem d_Md_takePage_11 : decode prog_10_method_16_code 11 = .ok (.aload_n 0, 1) := by decide +kernel
theorem d_Md_takePage_12 : decode prog_10_method_16_code 12 = .ok (.getfield 105, 3) := by decide +kernel
theorem d_Md_takePage_15 : decode prog_10_method_16_code 15 = .ok (.iload_n 1, 1) := by decide +kernel
theorem d_Md_takePage_16 : decode prog_10_method_16_code 16 = .ok (.iastore, 1) := by decide +kernel
theorem d_Md_takePage_17 : decode prog_10_method_16_code 17 = .ok (.aload_n 0, 1) := by decide +kernel
theorem d_Md_takePage_18 : decode prog_10_method_16_code 18 = .ok (.getfield 41, 3) := by decide +kernel
theorem d_Md_takePage_21 : decode prog_10_method_16_code 21 = .ok (.aload_n 0, 1) := by decide +kernel
theorem d_Md_takePage_22 : decode prog_10_method_16_code 22 = .ok (.getfield 105, 3) := by decide +kernel
theorem d_Md_takePage_25 : decode prog_10_method_16_code 25 = .ok (.aload_n 0, 1) := by decide +kernel
theorem d_Md_takePage_26 : decode prog_10_method_16_code 26 = .ok (.getfield 29, 3) := by decide +kernel
theorem d_Md_takePage_29 : decode prog_10_method_16_code 29 = .ok (.aload_n 0, 1) := by decide +kernel
theorem d_Md_takePage_30 : decode prog_10_method_16_code 30 = .ok (.getfield 108, 3) := by decide +kernel
theorem d_Md_takePage_33 : decode prog_10_method_16_code 33 = .ok (.iconst 1, 1) := by decide +kernel
theorem d_Md_takePage_34 : decode prog_10_method_16_code 34 = .ok (.isub, 1) := by decide +kernel
theorem d_Md_takePage_35 : decode prog_10_method_16_code 35 = .ok (.iaload, 1) := by decide +kernel
theorem d_Md_takePage_36 : decode prog_10_method_16_code 36 = .ok (.iastore, 1) := by decide +kernel
theorem d_Md_takePage_37 : decode prog_10_method_16_code 37 = .ok (.aload_n 0, 1) := by decide +kernel
theorem d_Md_takePage_38 : decode prog_10_method_16_code 38 = .ok (.getfield 44, 3) := by decide +kernel
theorem d_Md_takePage_41 : decode prog_10_method_16_code 41 = .ok (.aload_n 0, 1) := by decide +kernel
theorem d_Md_takePage_42 : decode prog_10_method_16_code 42 = .ok (.getfield 105, 3) := by decide +kernel
theorem d_Md_takePage_45 : decode prog_10_method_16_code 45 = .ok (.aload_n 0, 1) := by decide +kernel
theorem d_Md_takePage_46 : decode prog_10_method_16_code 46 = .ok (.getfield 32, 3) := by decide +kernel
theorem d_Md_takePage_49 : decode prog_10_method_16_code 49 = .ok (.aload_n 0, 1) := by decide +kernel
theorem d_Md_takePage_50 : decode prog_10_method_16_code 50 = .ok (.getfield 108, 3) := by decide +kernel
theorem d_Md_takePage_53 : decode prog_10_method_16_code 53 = .ok (.iconst 1, 1) := by decide +kernel
theorem d_Md_takePage_54 : decode prog_10_method_16_code 54 = .ok (.isub, 1) := by decide +kernel
theorem d_Md_takePage_55 : decode prog_10_method_16_code 55 = .ok (.iaload, 1) := by decide +kernel
theorem d_Md_takePage_56 : decode prog_10_method_16_code 56 = .ok (.iastore, 1) := by decide +kernel
theorem d_Md_takePage_57 : decode prog_10_method_16_code 57 = .ok (.aload_n 0, 1) := by decide +kernel
theorem d_Md_takePage_58 : decode prog_10_method_16_code 58 = .ok (.dup, 1) := by decide +kernel
theorem d_Md_takePage_59 : decode prog_10_method_16_code 59 = .ok (.getfield 105, 3) := by decide +kernel
theorem d_Md_takePage_62 : decode prog_10_method_16_code 62 = .ok (.iconst 1, 1) := by decide +kernel
theorem d_Md_takePage_63 : decode prog_10_method_16_code 63 = .ok (.iadd, 1) := by decide +kernel
theorem d_Md_takePage_64 : decode prog_10_method_16_code 64 = .ok (.putfield 105, 3) := by decide +kernel
theorem d_Md_takePage_67 : decode prog_10_method_16_code 67 = .ok (.aload_n 0, 1) := by decide +kernel
theorem d_Md_takePage_68 : decode prog_10_method_16_code 68 = .ok (.getfield 47, 3) := by decide +kernel
theorem d_Md_takePage_71 : decode prog_10_method_16_code 71 = .ok (.aload_n 0, 1) := by decide +kernel
theorem d_Md_takePage_72 : decode prog_10_method_16_code 72 = .ok (.getfield 108, 3) := by decide +kernel
theorem d_Md_takePage_75 : decode prog_10_method_16_code 75 = .ok (.iconst 1, 1) := by decide +kernel
theorem d_Md_takePage_76 : decode prog_10_method_16_code 76 = .ok (.isub, 1) := by decide +kernel
theorem d_Md_takePage_77 : decode prog_10_method_16_code 77 = .ok (.dup2, 1) := by decide +kernel
theorem d_Md_takePage_78 : decode prog_10_method_16_code 78 = .ok (.iaload, 1) := by decide +kernel
theorem d_Md_takePage_79 : decode prog_10_method_16_code 79 = .ok (.iconst 1, 1) := by decide +kernel
theorem d_Md_takePage_80 : decode prog_10_method_16_code 80 = .ok (.iadd, 1) := by decide +kernel
theorem d_Md_takePage_81 : decode prog_10_method_16_code 81 = .ok (.iastore, 1) := by decide +kernel
theorem d_Md_takePage_82 : decode prog_10_method_16_code 82 = .ok (.return_, 1) := by decide +kernel
theorem d_Md_walk_0 : decode prog_10_method_18_code 0 = .ok (.aload_n 0, 1) := by decide +kernel
theorem d_Md_walk_1 : decode prog_10_method_18_code 1 = .ok (.invokevirtual 115, 3) := by decide +kernel
theorem d_Md_walk_4 : decode prog_10_method_18_code 4 = .ok (.aload_n 0, 1) := by decide +kernel
theorem d_Md_walk_5 : decode prog_10_method_18_code 5 = .ok (.getfield 108, 3) := by decide +kernel
theorem d_Md_walk_8 : decode prog_10_method_18_code 8 = .ok (.ifCond .le 124, 3) := by decide +kernel
theorem d_Md_walk_11 : decode prog_10_method_18_code 11 = .ok (.aload_n 0, 1) := by decide +kernel
theorem d_Md_walk_12 : decode prog_10_method_18_code 12 = .ok (.getfield 29, 3) := by decide +kernel
theorem d_Md_walk_15 : decode prog_10_method_18_code 15 = .ok (.aload_n 0, 1) := by decide +kernel
theorem d_Md_walk_16 : decode prog_10_method_18_code 16 = .ok (.getfield 108, 3) := by decide +kernel
theorem d_Md_walk_19 : decode prog_10_method_18_code 19 = .ok (.iconst 1, 1) := by decide +kernel
theorem d_Md_walk_20 : decode prog_10_method_18_code 20 = .ok (.isub, 1) := by decide +kernel
theorem d_Md_walk_21 : decode prog_10_method_18_code 21 = .ok (.iaload, 1) := by decide +kernel
theorem d_Md_walk_22 : decode prog_10_method_18_code 22 = .ok (.istore_n 1, 1) := by decide +kernel
theorem d_Md_walk_23 : decode prog_10_method_18_code 23 = .ok (.aload_n 0, 1) := by decide +kernel
theorem d_Md_walk_24 : decode prog_10_method_18_code 24 = .ok (.getfield 32, 3) := by decide +kernel
theorem d_Md_walk_27 : decode prog_10_method_18_code 27 = .ok (.aload_n 0, 1) := by decide +kernel
theorem d_Md_walk_28 : decode prog_10_method_18_code 28 = .ok (.getfield 108, 3) := by decide +kernel
theorem d_Md_walk_31 : decode prog_10_method_18_code 31 = .ok (.iconst 1, 1) := by decide +kernel
theorem d_Md_walk_32 : decode prog_10_method_18_code 32 = .ok (.isub, 1) := by decide +kernel
theorem d_Md_walk_33 : decode prog_10_method_18_code 33 = .ok (.iaload, 1) := by decide +kernel
theorem d_Md_walk_34 : decode prog_10_method_18_code 34 = .ok (.aload_n 0, 1) := by decide +kernel
theorem d_Md_walk_35 : decode prog_10_method_18_code 35 = .ok (.getfield 20, 3) := by decide +kernel
theorem d_Md_walk_38 : decode prog_10_method_18_code 38 = .ok (.iload_n 1, 1) := by decide +kernel
theorem d_Md_walk_39 : decode prog_10_method_18_code 39 = .ok (.iaload, 1) := by decide +kernel
theorem d_Md_walk_40 : decode prog_10_method_18_code 40 = .ok (.if_icmp .ne 10, 3) := by decide +kernel
theorem d_Md_walk_43 : decode prog_10_method_18_code 43 = .ok (.aload_n 0, 1) := by decide +kernel
theorem d_Md_walk_44 : decode prog_10_method_18_code 44 = .ok (.invokevirtual 118, 3) := by decide +kernel
theorem d_Md_walk_47 : decode prog_10_method_18_code 47 = .ok (.goto (-43), 3) := by decide +kernel
theorem d_Md_walk_50 : decode prog_10_method_18_code 50 = .ok (.aload_n 0, 1) := by decide +kernel
theorem d_Md_walk_51 : decode prog_10_method_18_code 51 = .ok (.getfield 23, 3) := by decide +kernel
theorem d_Md_walk_54 : decode prog_10_method_18_code 54 = .ok (.bipush 40, 2) := by decide +kernel
theorem d_Md_walk_56 : decode prog_10_method_18_code 56 = .ok (.iload_n 1, 1) := by decide +kernel
theorem d_Md_walk_57 : decode prog_10_method_18_code 57 = .ok (.imul, 1) := by decide +kernel
theorem d_Md_walk_58 : decode prog_10_method_18_code 58 = .ok (.aload_n 0, 1) := by decide +kernel
theorem d_Md_walk_59 : decode prog_10_method_18_code 59 = .ok (.getfield 32, 3) := by decide +kernel
theorem d_Md_walk_62 : decode prog_10_method_18_code 62 = .ok (.aload_n 0, 1) := by decide +kernel
theorem d_Md_walk_63 : decode prog_10_method_18_code 63 = .ok (.getfield 108, 3) := by decide +kernel
theorem d_Md_walk_66 : decode prog_10_method_18_code 66 = .ok (.iconst 1, 1) := by decide +kernel
theorem d_Md_walk_67 : decode prog_10_method_18_code 67 = .ok (.isub, 1) := by decide +kernel
theorem d_Md_walk_68 : decode prog_10_method_18_code 68 = .ok (.iaload, 1) := by decide +kernel
theorem d_Md_walk_69 : decode prog_10_method_18_code 69 = .ok (.iadd, 1) := by decide +kernel
theorem d_Md_walk_70 : decode prog_10_method_18_code 70 = .ok (.iaload, 1) := by decide +kernel
theorem d_Md_walk_71 : decode prog_10_method_18_code 71 = .ok (.istore_n 2, 1) := by decide +kernel
theorem d_Md_walk_72 : decode prog_10_method_18_code 72 = .ok (.aload_n 0, 1) := by decide +kernel
theorem d_Md_walk_73 : decode prog_10_method_18_code 73 = .ok (.getfield 108, 3) := by decide +kernel
theorem d_Md_walk_76 : decode prog_10_method_18_code 76 = .ok (.iconst 1, 1) := by decide +kernel
theorem d_Md_walk_77 : decode prog_10_method_18_code 77 = .ok (.isub, 1) := by decide +kernel
theorem d_Md_walk_78 : decode prog_10_method_18_code 78 = .ok (.istore_n 3, 1) := by decide +kernel
theorem d_Md_walk_79 : decode prog_10_method_18_code 79 = .ok (.aload_n 0, 1) := by decide +kernel
theorem d_Md_walk_80 : decode prog_10_method_18_code 80 = .ok (.getfield 35, 3) := by decide +kernel
theorem d_Md_walk_83 : decode prog_10_method_18_code 83 = .ok (.iload_n 2, 1) := by decide +kernel
theorem d_Md_walk_84 : decode prog_10_method_18_code 84 = .ok (.baload, 1) := by decide +kernel
theorem d_Md_walk_85 : decode prog_10_method_18_code 85 = .ok (.ifCond .ne 20, 3) := by decide +kernel
theorem d_Md_walk_88 : decode prog_10_method_18_code 88 = .ok (.aload_n 0, 1) := by decide +kernel
theorem d_Md_walk_89 : decode prog_10_method_18_code 89 = .ok (.getfield 7, 3) := by decide +kernel
theorem d_Md_walk_92 : decode prog_10_method_18_code 92 = .ok (.iload_n 2, 1) := by decide +kernel
theorem d_Md_walk_93 : decode prog_10_method_18_code 93 = .ok (.baload, 1) := by decide +kernel
theorem d_Md_walk_94 : decode prog_10_method_18_code 94 = .ok (.ifCond .eq 11, 3) := by decide +kernel
theorem d_Md_walk_97 : decode prog_10_method_18_code 97 = .ok (.aload_n 0, 1) := by decide +kernel
theorem d_Md_walk_98 : decode prog_10_method_18_code 98 = .ok (.iload_n 2, 1) := by decide +kernel
theorem d_Md_walk_99 : decode prog_10_method_18_code 99 = .ok (.invokevirtual 121, 3) := by decide +kernel
theorem d_Md_walk_102 : decode prog_10_method_18_code 102 = .ok (.goto 17, 3) := by decide +kernel
theorem d_Md_walk_105 : decode prog_10_method_18_code 105 = .ok (.aload_n 0, 1) := by decide +kernel
theorem d_Md_walk_106 : decode prog_10_method_18_code 106 = .ok (.getfield 35, 3) := by decide +kernel
theorem d_Md_walk_109 : decode prog_10_method_18_code 109 = .ok (.iload_n 2, 1) := by decide +kernel
theorem d_Md_walk_110 : decode prog_10_method_18_code 110 = .ok (.baload, 1) := by decide +kernel
theorem d_Md_walk_111 : decode prog_10_method_18_code 111 = .ok (.ifCond .ne 8, 3) := by decide +kernel
theorem d_Md_walk_114 : decode prog_10_method_18_code 114 = .ok (.aload_n 0, 1) := by decide +kernel
theorem d_Md_walk_115 : decode prog_10_method_18_code 115 = .ok (.iload_n 2, 1) := by decide +kernel
theorem d_Md_walk_116 : decode prog_10_method_18_code 116 = .ok (.invokevirtual 111, 3) := by decide +kernel
theorem d_Md_walk_119 : decode prog_10_method_18_code 119 = .ok (.aload_n 0, 1) := by decide +kernel
theorem d_Md_walk_120 : decode prog_10_method_18_code 120 = .ok (.getfield 32, 3) := by decide +kernel
theorem d_Md_walk_123 : decode prog_10_method_18_code 123 = .ok (.iload_n 3, 1) := by decide +kernel
theorem d_Md_walk_124 : decode prog_10_method_18_code 124 = .ok (.dup2, 1) := by decide +kernel
theorem d_Md_walk_125 : decode prog_10_method_18_code 125 = .ok (.iaload, 1) := by decide +kernel
theorem d_Md_walk_126 : decode prog_10_method_18_code 126 = .ok (.iconst 1, 1) := by decide +kernel
theorem d_Md_walk_127 : decode prog_10_method_18_code 127 = .ok (.iadd, 1) := by decide +kernel
theorem d_Md_walk_128 : decode prog_10_method_18_code 128 = .ok (.iastore, 1) := by decide +kernel
theorem d_Md_walk_129 : decode prog_10_method_18_code 129 = .ok (.goto (-125), 3) := by decide +kernel
theorem d_Md_walk_132 : decode prog_10_method_18_code 132 = .ok (.return_, 1) := by decide +kernel
theorem d_Md_pages_0 : decode prog_10_method_20_code 0 = .ok (.aload_n 0, 1) := by decide +kernel
theorem d_Md_pages_1 : decode prog_10_method_20_code 1 = .ok (.invokevirtual 124, 3) := by decide +kernel
theorem d_Md_pages_4 : decode prog_10_method_20_code 4 = .ok (.aload_n 0, 1) := by decide +kernel
theorem d_Md_pages_5 : decode prog_10_method_20_code 5 = .ok (.getfield 105, 3) := by decide +kernel
theorem d_Md_pages_8 : decode prog_10_method_20_code 8 = .ok (.ireturn, 1) := by decide +kernel
theorem d_Md_at_0 : decode prog_10_method_21_code 0 = .ok (.aload_n 0, 1) := by decide +kernel
theorem d_Md_at_1 : decode prog_10_method_21_code 1 = .ok (.invokevirtual 124, 3) := by decide +kernel
theorem d_Md_at_4 : decode prog_10_method_21_code 4 = .ok (.iload_n 1, 1) := by decide +kernel
theorem d_Md_at_5 : decode prog_10_method_21_code 5 = .ok (.iconst 0, 1) := by decide +kernel
theorem d_Md_at_6 : decode prog_10_method_21_code 6 = .ok (.aload_n 0, 1) := by decide +kernel
theorem d_Md_at_7 : decode prog_10_method_21_code 7 = .ok (.getfield 105, 3) := by decide +kernel
theorem d_Md_at_10 : decode prog_10_method_21_code 10 = .ok (.iconst 1, 1) := by decide +kernel
theorem d_Md_at_11 : decode prog_10_method_21_code 11 = .ok (.isub, 1) := by decide +kernel
theorem d_Md_at_12 : decode prog_10_method_21_code 12 = .ok (.invokestatic 96, 3) := by decide +kernel
theorem d_Md_at_15 : decode prog_10_method_21_code 15 = .ok (.ifCond .eq 12, 3) := by decide +kernel
theorem d_Md_at_18 : decode prog_10_method_21_code 18 = .ok (.aload_n 0, 1) := by decide +kernel
theorem d_Md_at_19 : decode prog_10_method_21_code 19 = .ok (.getfield 38, 3) := by decide +kernel
theorem d_Md_at_22 : decode prog_10_method_21_code 22 = .ok (.iload_n 1, 1) := by decide +kernel
theorem d_Md_at_23 : decode prog_10_method_21_code 23 = .ok (.iaload, 1) := by decide +kernel
theorem d_Md_at_24 : decode prog_10_method_21_code 24 = .ok (.goto 4, 3) := by decide +kernel
theorem d_Md_at_27 : decode prog_10_method_21_code 27 = .ok (.iconst (-1), 1) := by decide +kernel
theorem d_Md_at_28 : decode prog_10_method_21_code 28 = .ok (.ireturn, 1) := by decide +kernel
theorem d_Md_placeOf_0 : decode prog_10_method_19_code 0 = .ok (.aload_n 0, 1) := by decide +kernel
theorem d_Md_placeOf_1 : decode prog_10_method_19_code 1 = .ok (.invokevirtual 124, 3) := by decide +kernel
theorem d_Md_placeOf_4 : decode prog_10_method_19_code 4 = .ok (.iconst (-1), 1) := by decide +kernel
theorem d_Md_placeOf_5 : decode prog_10_method_19_code 5 = .ok (.istore_n 2, 1) := by decide +kernel
theorem d_Md_placeOf_6 : decode prog_10_method_19_code 6 = .ok (.iconst 0, 1) := by decide +kernel
theorem d_Md_placeOf_7 : decode prog_10_method_19_code 7 = .ok (.istore_n 3, 1) := by decide +kernel
theorem d_Md_placeOf_8 : decode prog_10_method_19_code 8 = .ok (.iload_n 3, 1) := by decide +kernel
theorem d_Md_placeOf_9 : decode prog_10_method_19_code 9 = .ok (.aload_n 0, 1) := by decide +kernel
theorem d_Md_placeOf_10 : decode prog_10_method_19_code 10 = .ok (.getfield 105, 3) := by decide +kernel
theorem d_Md_placeOf_13 : decode prog_10_method_19_code 13 = .ok (.if_icmp .ge 25, 3) := by decide +kernel
theorem d_Md_placeOf_16 : decode prog_10_method_19_code 16 = .ok (.aload_n 0, 1) := by decide +kernel
theorem d_Md_placeOf_17 : decode prog_10_method_19_code 17 = .ok (.getfield 38, 3) := by decide +kernel
theorem d_Md_placeOf_20 : decode prog_10_method_19_code 20 = .ok (.iload_n 3, 1) := by decide +kernel
theorem d_Md_placeOf_21 : decode prog_10_method_19_code 21 = .ok (.iaload, 1) := by decide +kernel
theorem d_Md_placeOf_22 : decode prog_10_method_19_code 22 = .ok (.iload_n 1, 1) := by decide +kernel
theorem d_Md_placeOf_23 : decode prog_10_method_19_code 23 = .ok (.if_icmp .ne 7, 3) := by decide +kernel
theorem d_Md_placeOf_26 : decode prog_10_method_19_code 26 = .ok (.iload_n 3, 1) := by decide +kernel
theorem d_Md_placeOf_27 : decode prog_10_method_19_code 27 = .ok (.goto 4, 3) := by decide +kernel
theorem d_Md_placeOf_30 : decode prog_10_method_19_code 30 = .ok (.iload_n 2, 1) := by decide +kernel
theorem d_Md_placeOf_31 : decode prog_10_method_19_code 31 = .ok (.istore_n 2, 1) := by decide +kernel
theorem d_Md_placeOf_32 : decode prog_10_method_19_code 32 = .ok (.iinc 3 1, 3) := by decide +kernel
theorem d_Md_placeOf_35 : decode prog_10_method_19_code 35 = .ok (.goto (-27), 3) := by decide +kernel
theorem d_Md_placeOf_38 : decode prog_10_method_19_code 38 = .ok (.iload_n 2, 1) := by decide +kernel
theorem d_Md_placeOf_39 : decode prog_10_method_19_code 39 = .ok (.ireturn, 1) := by decide +kernel
theorem d_Md_about_0 : decode prog_10_method_22_code 0 = .ok (.aload_n 0, 1) := by decide +kernel
theorem d_Md_about_1 : decode prog_10_method_22_code 1 = .ok (.iload_n 1, 1) := by decide +kernel
theorem d_Md_about_2 : decode prog_10_method_22_code 2 = .ok (.invokevirtual 81, 3) := by decide +kernel
theorem d_Md_about_5 : decode prog_10_method_22_code 5 = .ok (.ifCond .ne 5, 3) := by decide +kernel
theorem d_Md_about_8 : decode prog_10_method_22_code 8 = .ok (.iconst (-1), 1) := by decide +kernel
theorem d_Md_about_9 : decode prog_10_method_22_code 9 = .ok (.ireturn, 1) := by decide +kernel
theorem d_Md_about_10 : decode prog_10_method_22_code 10 = .ok (.iload_n 2, 1) := by decide +kernel
theorem d_Md_about_11 : decode prog_10_method_22_code 11 = .ok (.tableswitch 75 0 4 #[33, 48, 55, 62, 69], 33) := by decide +kernel
theorem d_Md_about_44 : decode prog_10_method_22_code 44 = .ok (.aload_n 0, 1) := by decide +kernel
theorem d_Md_about_45 : decode prog_10_method_22_code 45 = .ok (.getfield 7, 3) := by decide +kernel
theorem d_Md_about_48 : decode prog_10_method_22_code 48 = .ok (.iload_n 1, 1) := by decide +kernel
theorem d_Md_about_49 : decode prog_10_method_22_code 49 = .ok (.baload, 1) := by decide +kernel
theorem d_Md_about_50 : decode prog_10_method_22_code 50 = .ok (.ifCond .eq 7, 3) := by decide +kernel
theorem d_Md_about_53 : decode prog_10_method_22_code 53 = .ok (.iconst 1, 1) := by decide +kernel
theorem d_Md_about_54 : decode prog_10_method_22_code 54 = .ok (.goto 4, 3) := by decide +kernel
theorem d_Md_about_57 : decode prog_10_method_22_code 57 = .ok (.iconst 0, 1) := by decide +kernel
theorem d_Md_about_58 : decode prog_10_method_22_code 58 = .ok (.ireturn, 1) := by decide +kernel
theorem d_Md_about_59 : decode prog_10_method_22_code 59 = .ok (.aload_n 0, 1) := by decide +kernel
theorem d_Md_about_60 : decode prog_10_method_22_code 60 = .ok (.getfield 13, 3) := by decide +kernel
theorem d_Md_about_63 : decode prog_10_method_22_code 63 = .ok (.iload_n 1, 1) := by decide +kernel
theorem d_Md_about_64 : decode prog_10_method_22_code 64 = .ok (.iaload, 1) := by decide +kernel
theorem d_Md_about_65 : decode prog_10_method_22_code 65 = .ok (.ireturn, 1) := by decide +kernel
theorem d_Md_about_66 : decode prog_10_method_22_code 66 = .ok (.aload_n 0, 1) := by decide +kernel
theorem d_Md_about_67 : decode prog_10_method_22_code 67 = .ok (.getfield 20, 3) := by decide +kernel
theorem d_Md_about_70 : decode prog_10_method_22_code 70 = .ok (.iload_n 1, 1) := by decide +kernel
theorem d_Md_about_71 : decode prog_10_method_22_code 71 = .ok (.iaload, 1) := by decide +kernel
theorem d_Md_about_72 : decode prog_10_method_22_code 72 = .ok (.ireturn, 1) := by decide +kernel
theorem d_Md_about_73 : decode prog_10_method_22_code 73 = .ok (.aload_n 0, 1) := by decide +kernel
theorem d_Md_about_74 : decode prog_10_method_22_code 74 = .ok (.getfield 17, 3) := by decide +kernel
theorem d_Md_about_77 : decode prog_10_method_22_code 77 = .ok (.iload_n 1, 1) := by decide +kernel
theorem d_Md_about_78 : decode prog_10_method_22_code 78 = .ok (.iaload, 1) := by decide +kernel
theorem d_Md_about_79 : decode prog_10_method_22_code 79 = .ok (.ireturn, 1) := by decide +kernel
theorem d_Md_about_80 : decode prog_10_method_22_code 80 = .ok (.aload_n 0, 1) := by decide +kernel
theorem d_Md_about_81 : decode prog_10_method_22_code 81 = .ok (.iload_n 1, 1) := by decide +kernel
theorem d_Md_about_82 : decode prog_10_method_22_code 82 = .ok (.invokevirtual 127, 3) := by decide +kernel
theorem d_Md_about_85 : decode prog_10_method_22_code 85 = .ok (.ireturn, 1) := by decide +kernel
theorem d_Md_about_86 : decode prog_10_method_22_code 86 = .ok (.bipush (-2), 2) := by decide +kernel
theorem d_Md_about_88 : decode prog_10_method_22_code 88 = .ok (.ireturn, 1) := by decide +kernel
theorem d_Md_kid_0 : decode prog_10_method_23_code 0 = .ok (.aload_n 0, 1) := by decide +kernel
theorem d_Md_kid_1 : decode prog_10_method_23_code 1 = .ok (.iload_n 1, 1) := by decide +kernel
theorem d_Md_kid_2 : decode prog_10_method_23_code 2 = .ok (.invokevirtual 85, 3) := by decide +kernel
theorem d_Md_kid_5 : decode prog_10_method_23_code 5 = .ok (.ifCond .eq 33, 3) := by decide +kernel
theorem d_Md_kid_8 : decode prog_10_method_23_code 8 = .ok (.iload_n 2, 1) := by decide +kernel
theorem d_Md_kid_9 : decode prog_10_method_23_code 9 = .ok (.iconst 0, 1) := by decide +kernel
theorem d_Md_kid_10 : decode prog_10_method_23_code 10 = .ok (.aload_n 0, 1) := by decide +kernel
theorem d_Md_kid_11 : decode prog_10_method_23_code 11 = .ok (.getfield 20, 3) := by decide +kernel
theorem d_Md_kid_14 : decode prog_10_method_23_code 14 = .ok (.iload_n 1, 1) := by decide +kernel
theorem d_Md_kid_15 : decode prog_10_method_23_code 15 = .ok (.iaload, 1) := by decide +kernel
theorem d_Md_kid_16 : decode prog_10_method_23_code 16 = .ok (.iconst 1, 1) := by decide +kernel
theorem d_Md_kid_17 : decode prog_10_method_23_code 17 = .ok (.isub, 1) := by decide +kernel
theorem d_Md_kid_18 : decode prog_10_method_23_code 18 = .ok (.invokestatic 96, 3) := by decide +kernel
theorem d_Md_kid_21 : decode prog_10_method_23_code 21 = .ok (.ifCond .eq 17, 3) := by decide +kernel
theorem d_Md_kid_24 : decode prog_10_method_23_code 24 = .ok (.aload_n 0, 1) := by decide +kernel
theorem d_Md_kid_25 : decode prog_10_method_23_code 25 = .ok (.getfield 23, 3) := by decide +kernel
theorem d_Md_kid_28 : decode prog_10_method_23_code 28 = .ok (.bipush 40, 2) := by decide +kernel
theorem d_Md_kid_30 : decode prog_10_method_23_code 30 = .ok (.iload_n 1, 1) := by decide +kernel
theorem d_Md_kid_31 : decode prog_10_method_23_code 31 = .ok (.imul, 1) := by decide +kernel
theorem d_Md_kid_32 : decode prog_10_method_23_code 32 = .ok (.iload_n 2, 1) := by decide +kernel
theorem d_Md_kid_33 : decode prog_10_method_23_code 33 = .ok (.iadd, 1) := by decide +kernel
theorem d_Md_kid_34 : decode prog_10_method_23_code 34 = .ok (.iaload, 1) := by decide +kernel
theorem d_Md_kid_35 : decode prog_10_method_23_code 35 = .ok (.goto 4, 3) := by decide +kernel
theorem d_Md_kid_38 : decode prog_10_method_23_code 38 = .ok (.iconst (-1), 1) := by decide +kernel
theorem d_Md_kid_39 : decode prog_10_method_23_code 39 = .ok (.ireturn, 1) := by decide +kernel
theorem d_Md_tell_0 : decode prog_10_method_24_code 0 = .ok (.aload_n 0, 1) := by decide +kernel
theorem d_Md_tell_1 : decode prog_10_method_24_code 1 = .ok (.getfield 131, 3) := by decide +kernel
theorem d_Md_tell_4 : decode prog_10_method_24_code 4 = .ok (.bipush 100, 2) := by decide +kernel
theorem d_Md_tell_6 : decode prog_10_method_24_code 6 = .ok (.if_icmp .ge 23, 3) := by decide +kernel
theorem d_Md_tell_9 : decode prog_10_method_24_code 9 = .ok (.aload_n 0, 1) := by decide +kernel
theorem d_Md_tell_10 : decode prog_10_method_24_code 10 = .ok (.getfield 50, 3) := by decide +kernel
theorem d_Md_tell_13 : decode prog_10_method_24_code 13 = .ok (.aload_n 0, 1) := by decide +kernel
theorem d_Md_tell_14 : decode prog_10_method_24_code 14 = .ok (.getfield 131, 3) := by decide +kernel
theorem d_Md_tell_17 : decode prog_10_method_24_code 17 = .ok (.iload_n 1, 1) := by decide +kernel
theorem d_Md_tell_18 : decode prog_10_method_24_code 18 = .ok (.iastore, 1) := by decide +kernel
theorem d_Md_tell_19 : decode prog_10_method_24_code 19 = .ok (.aload_n 0, 1) := by decide +kernel
theorem d_Md_tell_20 : decode prog_10_method_24_code 20 = .ok (.getfield 53, 3) := by decide +kernel
theorem d_Md_tell_23 : decode prog_10_method_24_code 23 = .ok (.aload_n 0, 1) := by decide +kernel
theorem d_Md_tell_24 : decode prog_10_method_24_code 24 = .ok (.getfield 131, 3) := by decide +kernel
theorem d_Md_tell_27 : decode prog_10_method_24_code 27 = .ok (.iload_n 2, 1) := by decide +kernel
theorem d_Md_tell_28 : decode prog_10_method_24_code 28 = .ok (.iastore, 1) := by decide +kernel
theorem d_Md_tell_29 : decode prog_10_method_24_code 29 = .ok (.aload_n 0, 1) := by decide +kernel
theorem d_Md_tell_30 : decode prog_10_method_24_code 30 = .ok (.dup, 1) := by decide +kernel
theorem d_Md_tell_31 : decode prog_10_method_24_code 31 = .ok (.getfield 131, 3) := by decide +kernel
theorem d_Md_tell_34 : decode prog_10_method_24_code 34 = .ok (.iconst 1, 1) := by decide +kernel
theorem d_Md_tell_35 : decode prog_10_method_24_code 35 = .ok (.iadd, 1) := by decide +kernel
theorem d_Md_tell_36 : decode prog_10_method_24_code 36 = .ok (.putfield 131, 3) := by decide +kernel
theorem d_Md_tell_39 : decode prog_10_method_24_code 39 = .ok (.return_, 1) := by decide +kernel
theorem d_Md_isOnWay_0 : decode prog_10_method_26_code 0 = .ok (.iconst 0, 1) := by decide +kernel
theorem d_Md_isOnWay_1 : decode prog_10_method_26_code 1 = .ok (.istore_n 2, 1) := by decide +kernel
theorem d_Md_isOnWay_2 : decode prog_10_method_26_code 2 = .ok (.iconst 0, 1) := by decide +kernel
theorem d_Md_isOnWay_3 : decode prog_10_method_26_code 3 = .ok (.istore_n 3, 1) := by decide +kernel
theorem d_Md_isOnWay_4 : decode prog_10_method_26_code 4 = .ok (.iload_n 3, 1) := by decide +kernel
theorem d_Md_isOnWay_5 : decode prog_10_method_26_code 5 = .ok (.aload_n 0, 1) := by decide +kernel
theorem d_Md_isOnWay_6 : decode prog_10_method_26_code 6 = .ok (.getfield 108, 3) := by decide +kernel
theorem d_Md_isOnWay_9 : decode prog_10_method_26_code 9 = .ok (.if_icmp .ge 29, 3) := by decide +kernel
theorem d_Md_isOnWay_12 : decode prog_10_method_26_code 12 = .ok (.iload_n 2, 1) := by decide +kernel
theorem d_Md_isOnWay_13 : decode prog_10_method_26_code 13 = .ok (.ifCond .ne 13, 3) := by decide +kernel
theorem d_Md_isOnWay_16 : decode prog_10_method_26_code 16 = .ok (.aload_n 0, 1) := by decide +kernel
theorem d_Md_isOnWay_17 : decode prog_10_method_26_code 17 = .ok (.getfield 29, 3) := by decide +kernel
theorem d_Md_isOnWay_20 : decode prog_10_method_26_code 20 = .ok (.iload_n 3, 1) := by decide +kernel
theorem d_Md_isOnWay_21 : decode prog_10_method_26_code 21 = .ok (.iaload, 1) := by decide +kernel
theorem d_Md_isOnWay_22 : decode prog_10_method_26_code 22 = .ok (.iload_n 1, 1) := by decide +kernel
theorem d_Md_isOnWay_23 : decode prog_10_method_26_code 23 = .ok (.if_icmp .ne 7, 3) := by decide +kernel
theorem d_Md_isOnWay_26 : decode prog_10_method_26_code 26 = .ok (.iconst 1, 1) := by decide +kernel
theorem d_Md_isOnWay_27 : decode prog_10_method_26_code 27 = .ok (.goto 4, 3) := by decide +kernel
theorem d_Md_isOnWay_30 : decode prog_10_method_26_code 30 = .ok (.iconst 0, 1) := by decide +kernel
theorem d_Md_isOnWay_31 : decode prog_10_method_26_code 31 = .ok (.istore_n 2, 1) := by decide +kernel
theorem d_Md_isOnWay_32 : decode prog_10_method_26_code 32 = .ok (.iinc 3 1, 3) := by decide +kernel
theorem d_Md_isOnWay_35 : decode prog_10_method_26_code 35 = .ok (.goto (-31), 3) := by decide +kernel
theorem d_Md_isOnWay_38 : decode prog_10_method_26_code 38 = .ok (.iload_n 2, 1) := by decide +kernel
theorem d_Md_isOnWay_39 : decode prog_10_method_26_code 39 = .ok (.ireturn, 1) := by decide +kernel
theorem d_Md_takeOff_0 : decode prog_10_method_25_code 0 = .ok (.aload_n 0, 1) := by decide +kernel
theorem d_Md_takeOff_1 : decode prog_10_method_25_code 1 = .ok (.getfield 20, 3) := by decide +kernel
theorem d_Md_takeOff_4 : decode prog_10_method_25_code 4 = .ok (.iload_n 1, 1) := by decide +kernel
theorem d_Md_takeOff_5 : decode prog_10_method_25_code 5 = .ok (.dup2, 1) := by decide +kernel
theorem d_Md_takeOff_6 : decode prog_10_method_25_code 6 = .ok (.iaload, 1) := by decide +kernel
theorem d_Md_takeOff_7 : decode prog_10_method_25_code 7 = .ok (.iconst 1, 1) := by decide +kernel
theorem d_Md_takeOff_8 : decode prog_10_method_25_code 8 = .ok (.isub, 1) := by decide +kernel
theorem d_Md_takeOff_9 : decode prog_10_method_25_code 9 = .ok (.iastore, 1) := by decide +kernel
theorem d_Md_takeOff_10 : decode prog_10_method_25_code 10 = .ok (.iload_n 2, 1) := by decide +kernel
theorem d_Md_takeOff_11 : decode prog_10_method_25_code 11 = .ok (.istore_n 3, 1) := by decide +kernel
theorem d_Md_takeOff_12 : decode prog_10_method_25_code 12 = .ok (.iload_n 3, 1) := by decide +kernel
theorem d_Md_takeOff_13 : decode prog_10_method_25_code 13 = .ok (.aload_n 0, 1) := by decide +kernel
theorem d_Md_takeOff_14 : decode prog_10_method_25_code 14 = .ok (.getfield 20, 3) := by decide +kernel
theorem d_Md_takeOff_17 : decode prog_10_method_25_code 17 = .ok (.iload_n 1, 1) := by decide +kernel
theorem d_Md_takeOff_18 : decode prog_10_method_25_code 18 = .ok (.iaload, 1) := by decide +kernel
theorem d_Md_takeOff_19 : decode prog_10_method_25_code 19 = .ok (.if_icmp .ge 33, 3) := by decide +kernel
theorem d_Md_takeOff_22 : decode prog_10_method_25_code 22 = .ok (.aload_n 0, 1) := by decide +kernel
theorem d_Md_takeOff_23 : decode prog_10_method_25_code 23 = .ok (.getfield 23, 3) := by decide +kernel
theorem d_Md_takeOff_26 : decode prog_10_method_25_code 26 = .ok (.bipush 40, 2) := by decide +kernel
theorem d_Md_takeOff_28 : decode prog_10_method_25_code 28 = .ok (.iload_n 1, 1) := by decide +kernel
theorem d_Md_takeOff_29 : decode prog_10_method_25_code 29 = .ok (.imul, 1) := by decide +kernel
theorem d_Md_takeOff_30 : decode prog_10_method_25_code 30 = .ok (.iload_n 3, 1) := by decide +kernel
theorem d_Md_takeOff_31 : decode prog_10_method_25_code 31 = .ok (.iadd, 1) := by decide +kernel
theorem d_Md_takeOff_32 : decode prog_10_method_25_code 32 = .ok (.aload_n 0, 1) := by decide +kernel
theorem d_Md_takeOff_33 : decode prog_10_method_25_code 33 = .ok (.getfield 23, 3) := by decide +kernel
theorem d_Md_takeOff_36 : decode prog_10_method_25_code 36 = .ok (.bipush 40, 2) := by decide +kernel
theorem d_Md_takeOff_38 : decode prog_10_method_25_code 38 = .ok (.iload_n 1, 1) := by decide +kernel
theorem d_Md_takeOff_39 : decode prog_10_method_25_code 39 = .ok (.imul, 1) := by decide +kernel
theorem d_Md_takeOff_40 : decode prog_10_method_25_code 40 = .ok (.iload_n 3, 1) := by decide +kernel
theorem d_Md_takeOff_41 : decode prog_10_method_25_code 41 = .ok (.iadd, 1) := by decide +kernel
theorem d_Md_takeOff_42 : decode prog_10_method_25_code 42 = .ok (.iconst 1, 1) := by decide +kernel
theorem d_Md_takeOff_43 : decode prog_10_method_25_code 43 = .ok (.iadd, 1) := by decide +kernel
theorem d_Md_takeOff_44 : decode prog_10_method_25_code 44 = .ok (.iaload, 1) := by decide +kernel
theorem d_Md_takeOff_45 : decode prog_10_method_25_code 45 = .ok (.iastore, 1) := by decide +kernel
theorem d_Md_takeOff_46 : decode prog_10_method_25_code 46 = .ok (.iinc 3 1, 3) := by decide +kernel
theorem d_Md_takeOff_49 : decode prog_10_method_25_code 49 = .ok (.goto (-37), 3) := by decide +kernel
theorem d_Md_takeOff_52 : decode prog_10_method_25_code 52 = .ok (.return_, 1) := by decide +kernel
theorem d_Md_mendKid_0 : decode prog_10_method_27_code 0 = .ok (.aload_n 0, 1) := by decide +kernel
theorem d_Md_mendKid_1 : decode prog_10_method_27_code 1 = .ok (.getfield 23, 3) := by decide +kernel
theorem d_Md_mendKid_4 : decode prog_10_method_27_code 4 = .ok (.bipush 40, 2) := by decide +kernel
theorem d_Md_mendKid_6 : decode prog_10_method_27_code 6 = .ok (.iload_n 1, 1) := by decide +kernel
theorem d_Md_mendKid_7 : decode prog_10_method_27_code 7 = .ok (.imul, 1) := by decide +kernel
theorem d_Md_mendKid_8 : decode prog_10_method_27_code 8 = .ok (.iload_n 2, 1) := by decide +kernel
theorem d_Md_mendKid_9 : decode prog_10_method_27_code 9 = .ok (.iadd, 1) := by decide +kernel
theorem d_Md_mendKid_10 : decode prog_10_method_27_code 10 = .ok (.iaload, 1) := by decide +kernel
theorem d_Md_mendKid_11 : decode prog_10_method_27_code 11 = .ok (.istore_n 3, 1) := by decide +kernel
theorem d_Md_mendKid_12 : decode prog_10_method_27_code 12 = .ok (.aload_n 0, 1) := by decide +kernel
theorem d_Md_mendKid_13 : decode prog_10_method_27_code 13 = .ok (.getfield 7, 3) := by decide +kernel
theorem d_Md_mendKid_16 : decode prog_10_method_27_code 16 = .ok (.iload_n 3, 1) := by decide +kernel
theorem d_Md_mendKid_17 : decode prog_10_method_27_code 17 = .ok (.baload, 1) := by decide +kernel
theorem d_Md_mendKid_18 : decode prog_10_method_27_code 18 = .ok (.ifCond .ne 29, 3) := by decide +kernel
theorem d_Md_mendKid_21 : decode prog_10_method_27_code 21 = .ok (.aload_n 0, 1) := by decide +kernel
theorem d_Md_mendKid_22 : decode prog_10_method_27_code 22 = .ok (.aload_n 0, 1) := by decide +kernel
theorem d_Md_mendKid_23 : decode prog_10_method_27_code 23 = .ok (.iload_n 3, 1) := by decide +kernel
theorem d_Md_mendKid_24 : decode prog_10_method_27_code 24 = .ok (.invokevirtual 134, 3) := by decide +kernel
theorem d_Md_mendKid_27 : decode prog_10_method_27_code 27 = .ok (.ifCond .eq 7, 3) := by decide +kernel
theorem d_Md_mendKid_30 : decode prog_10_method_27_code 30 = .ok (.iconst 1, 1) := by decide +kernel
theorem d_Md_mendKid_31 : decode prog_10_method_27_code 31 = .ok (.goto 4, 3) := by decide +kernel
theorem d_Md_mendKid_34 : decode prog_10_method_27_code 34 = .ok (.iconst 2, 1) := by decide +kernel
theorem d_Md_mendKid_35 : decode prog_10_method_27_code 35 = .ok (.iload_n 3, 1) := by decide +kernel
theorem d_Md_mendKid_36 : decode prog_10_method_27_code 36 = .ok (.invokevirtual 137, 3) := by decide +kernel
theorem d_Md_mendKid_39 : decode prog_10_method_27_code 39 = .ok (.aload_n 0, 1) := by decide +kernel
theorem d_Md_mendKid_40 : decode prog_10_method_27_code 40 = .ok (.iload_n 1, 1) := by decide +kernel
theorem d_Md_mendKid_41 : decode prog_10_method_27_code 41 = .ok (.iload_n 2, 1) := by decide +kernel
theorem d_Md_mendKid_42 : decode prog_10_method_27_code 42 = .ok (.invokevirtual 140, 3) := by decide +kernel
theorem d_Md_mendKid_45 : decode prog_10_method_27_code 45 = .ok (.iconst 0, 1) := by decide +kernel
theorem d_Md_mendKid_46 : decode prog_10_method_27_code 46 = .ok (.ireturn, 1) := by decide +kernel
theorem d_Md_mendKid_47 : decode prog_10_method_27_code 47 = .ok (.aload_n 0, 1) := by decide +kernel
theorem d_Md_mendKid_48 : decode prog_10_method_27_code 48 = .ok (.getfield 77, 3) := by decide +kernel
theorem d_Md_mendKid_51 : decode prog_10_method_27_code 51 = .ok (.sipush 200, 3) := by decide +kernel
theorem d_Md_mendKid_54 : decode prog_10_method_27_code 54 = .ok (.if_icmp .ne 17, 3) := by decide +kernel
theorem d_Md_mendKid_57 : decode prog_10_method_27_code 57 = .ok (.aload_n 0, 1) := by decide +kernel
theorem d_Md_mendKid_58 : decode prog_10_method_27_code 58 = .ok (.iconst 5, 1) := by decide +kernel
theorem d_Md_mendKid_59 : decode prog_10_method_27_code 59 = .ok (.iload_n 3, 1) := by decide +kernel
theorem d_Md_mendKid_60 : decode prog_10_method_27_code 60 = .ok (.invokevirtual 137, 3) := by decide +kernel
theorem d_Md_mendKid_63 : decode prog_10_method_27_code 63 = .ok (.aload_n 0, 1) := by decide +kernel
theorem d_Md_mendKid_64 : decode prog_10_method_27_code 64 = .ok (.iload_n 1, 1) := by decide +kernel
theorem d_Md_mendKid_65 : decode prog_10_method_27_code 65 = .ok (.iload_n 2, 1) := by decide +kernel
theorem d_Md_mendKid_66 : decode prog_10_method_27_code 66 = .ok (.invokevirtual 140, 3) := by decide +kernel
theorem d_Md_mendKid_69 : decode prog_10_method_27_code 69 = .ok (.iconst 0, 1) := by decide +kernel
theorem d_Md_mendKid_70 : decode prog_10_method_27_code 70 = .ok (.ireturn, 1) := by decide +kernel
theorem d_Md_mendKid_71 : decode prog_10_method_27_code 71 = .ok (.aload_n 0, 1) := by decide +kernel
theorem d_Md_mendKid_72 : decode prog_10_method_27_code 72 = .ok (.iconst 3, 1) := by decide +kernel
theorem d_Md_mendKid_73 : decode prog_10_method_27_code 73 = .ok (.iload_n 3, 1) := by decide +kernel
theorem d_Md_mendKid_74 : decode prog_10_method_27_code 74 = .ok (.invokevirtual 137, 3) := by decide +kernel
theorem d_Md_mendKid_77 : decode prog_10_method_27_code 77 = .ok (.aload_n 0, 1) := by decide +kernel
theorem d_Md_mendKid_78 : decode prog_10_method_27_code 78 = .ok (.iconst 1, 1) := by decide +kernel
theorem d_Md_mendKid_79 : decode prog_10_method_27_code 79 = .ok (.iload_n 1, 1) := by decide +kernel
theorem d_Md_mendKid_80 : decode prog_10_method_27_code 80 = .ok (.iconst 0, 1) := by decide +kernel
theorem d_Md_mendKid_81 : decode prog_10_method_27_code 81 = .ok (.invokevirtual 88, 3) := by decide +kernel
theorem d_Md_mendKid_84 : decode prog_10_method_27_code 84 = .ok (.istore 4, 2) := by decide +kernel
theorem d_Md_mendKid_86 : decode prog_10_method_27_code 86 = .ok (.iconst 0, 1) := by decide +kernel
theorem d_Md_mendKid_87 : decode prog_10_method_27_code 87 = .ok (.istore 5, 2) := by decide +kernel
theorem d_Md_mendKid_89 : decode prog_10_method_27_code 89 = .ok (.iload 5, 2) := by decide +kernel
theorem d_Md_mendKid_91 : decode prog_10_method_27_code 91 = .ok (.iconst 4, 1) := by decide +kernel
theorem d_Md_mendKid_92 : decode prog_10_method_27_code 92 = .ok (.if_icmp .ge 32, 3) := by decide +kernel
theorem d_Md_mendKid_95 : decode prog_10_method_27_code 95 = .ok (.aload_n 0, 1) := by decide +kernel
theorem d_Md_mendKid_96 : decode prog_10_method_27_code 96 = .ok (.getfield 26, 3) := by decide +kernel
theorem d_Md_mendKid_99 : decode prog_10_method_27_code 99 = .ok (.iconst 4, 1) := by decide +kernel
theorem d_Md_mendKid_100 : decode prog_10_method_27_code 100 = .ok (.iload 4, 2) := by decide +kernel
theorem d_Md_mendKid_102 : decode prog_10_method_27_code 102 = .ok (.imul, 1) := by decide +kernel
theorem d_Md_mendKid_103 : decode prog_10_method_27_code 103 = .ok (.iload 5, 2) := by decide +kernel
theorem d_Md_mendKid_105 : decode prog_10_method_27_code 105 = .ok (.iadd, 1) := by decide +kernel
theorem d_Md_mendKid_106 : decode prog_10_method_27_code 106 = .ok (.aload_n 0, 1) := by decide +kernel
theorem d_Md_mendKid_107 : decode prog_10_method_27_code 107 = .ok (.getfield 26, 3) := by decide +kernel
theorem d_Md_mendKid_110 : decode prog_10_method_27_code 110 = .ok (.iconst 4, 1) := by decide +kernel
theorem d_Md_mendKid_111 : decode prog_10_method_27_code 111 = .ok (.iload_n 3, 1) := by decide +kernel
theorem d_Md_mendKid_112 : decode prog_10_method_27_code 112 = .ok (.imul, 1) := by decide +kernel
theorem d_Md_mendKid_113 : decode prog_10_method_27_code 113 = .ok (.iload 5, 2) := by decide +kernel
theorem d_Md_mendKid_115 : decode prog_10_method_27_code 115 = .ok (.iadd, 1) := by decide +kernel
theorem d_Md_mendKid_116 : decode prog_10_method_27_code 116 = .ok (.iaload, 1) := by decide +kernel
theorem d_Md_mendKid_117 : decode prog_10_method_27_code 117 = .ok (.iastore, 1) := by decide +kernel
theorem d_Md_mendKid_118 : decode prog_10_method_27_code 118 = .ok (.iinc 5 1, 3) := by decide +kernel
theorem d_Md_mendKid_121 : decode prog_10_method_27_code 121 = .ok (.goto (-32), 3) := by decide +kernel
theorem d_Md_mendKid_124 : decode prog_10_method_27_code 124 = .ok (.aload_n 0, 1) := by decide +kernel
theorem d_Md_mendKid_125 : decode prog_10_method_27_code 125 = .ok (.getfield 35, 3) := by decide +kernel
theorem d_Md_mendKid_128 : decode prog_10_method_27_code 128 = .ok (.iload 4, 2) := by decide +kernel
theorem d_Md_mendKid_130 : decode prog_10_method_27_code 130 = .ok (.iconst 0, 1) := by decide +kernel
theorem d_Md_mendKid_131 : decode prog_10_method_27_code 131 = .ok (.bastore, 1) := by decide +kernel
theorem d_Md_mendKid_132 : decode prog_10_method_27_code 132 = .ok (.aload_n 0, 1) := by decide +kernel
theorem d_Md_mendKid_133 : decode prog_10_method_27_code 133 = .ok (.getfield 23, 3) := by decide +kernel
theorem d_Md_mendKid_136 : decode prog_10_method_27_code 136 = .ok (.bipush 40, 2) := by decide +kernel
theorem d_Md_mendKid_138 : decode prog_10_method_27_code 138 = .ok (.iload_n 1, 1) := by decide +kernel
theorem d_Md_mendKid_139 : decode prog_10_method_27_code 139 = .ok (.imul, 1) := by decide +kernel
theorem d_Md_mendKid_140 : decode prog_10_method_27_code 140 = .ok (.iload_n 2, 1) := by decide +kernel
theorem d_Md_mendKid_141 : decode prog_10_method_27_code 141 = .ok (.iadd, 1) := by decide +kernel
theorem d_Md_mendKid_142 : decode prog_10_method_27_code 142 = .ok (.iload 4, 2) := by decide +kernel
theorem d_Md_mendKid_144 : decode prog_10_method_27_code 144 = .ok (.iastore, 1) := by decide +kernel
theorem d_Md_mendKid_145 : decode prog_10_method_27_code 145 = .ok (.iconst 1, 1) := by decide +kernel
theorem d_Md_mendKid_146 : decode prog_10_method_27_code 146 = .ok (.ireturn, 1) := by decide +kernel
theorem d_Md_mend_0 : decode prog_10_method_28_code 0 = .ok (.aload_n 0, 1) := by decide +kernel
theorem d_Md_mend_1 : decode prog_10_method_28_code 1 = .ok (.iconst 0, 1) := by decide +kernel
theorem d_Md_mend_2 : decode prog_10_method_28_code 2 = .ok (.putfield 131, 3) := by decide +kernel
theorem d_Md_mend_5 : decode prog_10_method_28_code 5 = .ok (.aload_n 0, 1) := by decide +kernel
theorem d_Md_mend_6 : decode prog_10_method_28_code 6 = .ok (.invokevirtual 115, 3) := by decide +kernel
theorem d_Md_mend_9 : decode prog_10_method_28_code 9 = .ok (.aload_n 0, 1) := by decide +kernel
theorem d_Md_mend_10 : decode prog_10_method_28_code 10 = .ok (.getfield 108, 3) := by decide +kernel
theorem d_Md_mend_13 : decode prog_10_method_28_code 13 = .ok (.ifCond .le 174, 3) := by decide +kernel
theorem d_Md_mend_16 : decode prog_10_method_28_code 16 = .ok (.aload_n 0, 1) := by decide +kernel
theorem d_Md_mend_17 : decode prog_10_method_28_code 17 = .ok (.getfield 108, 3) := by decide +kernel
theorem d_Md_mend_20 : decode prog_10_method_28_code 20 = .ok (.iconst 1, 1) := by decide +kernel
theorem d_Md_mend_21 : decode prog_10_method_28_code 21 = .ok (.isub, 1) := by decide +kernel
theorem d_Md_mend_22 : decode prog_10_method_28_code 22 = .ok (.istore_n 1, 1) := by decide +kernel
theorem d_Md_mend_23 : decode prog_10_method_28_code 23 = .ok (.aload_n 0, 1) := by decide +kernel
theorem d_Md_mend_24 : decode prog_10_method_28_code 24 = .ok (.getfield 29, 3) := by decide +kernel
theorem d_Md_mend_27 : decode prog_10_method_28_code 27 = .ok (.iload_n 1, 1) := by decide +kernel
theorem d_Md_mend_28 : decode prog_10_method_28_code 28 = .ok (.iaload, 1) := by decide +kernel
theorem d_Md_mend_29 : decode prog_10_method_28_code 29 = .ok (.istore_n 2, 1) := by decide +kernel
theorem d_Md_mend_30 : decode prog_10_method_28_code 30 = .ok (.aload_n 0, 1) := by decide +kernel
theorem d_Md_mend_31 : decode prog_10_method_28_code 31 = .ok (.getfield 32, 3) := by decide +kernel
theorem d_Md_mend_34 : decode prog_10_method_28_code 34 = .ok (.iload_n 1, 1) := by decide +kernel
theorem d_Md_mend_35 : decode prog_10_method_28_code 35 = .ok (.iaload, 1) := by decide +kernel
theorem d_Md_mend_36 : decode prog_10_method_28_code 36 = .ok (.aload_n 0, 1) := by decide +kernel
theorem d_Md_mend_37 : decode prog_10_method_28_code 37 = .ok (.getfield 20, 3) := by decide +kernel
theorem d_Md_mend_40 : decode prog_10_method_28_code 40 = .ok (.iload_n 2, 1) := by decide +kernel
theorem d_Md_mend_41 : decode prog_10_method_28_code 41 = .ok (.iaload, 1) := by decide +kernel
theorem d_Md_mend_42 : decode prog_10_method_28_code 42 = .ok (.if_icmp .ne 43, 3) := by decide +kernel
theorem d_Md_mend_45 : decode prog_10_method_28_code 45 = .ok (.aload_n 0, 1) := by decide +kernel
theorem d_Md_mend_46 : decode prog_10_method_28_code 46 = .ok (.getfield 17, 3) := by decide +kernel
theorem d_Md_mend_49 : decode prog_10_method_28_code 49 = .ok (.iload_n 2, 1) := by decide +kernel
theorem d_Md_mend_50 : decode prog_10_method_28_code 50 = .ok (.iaload, 1) := by decide +kernel
theorem d_Md_mend_51 : decode prog_10_method_28_code 51 = .ok (.aload_n 0, 1) := by decide +kernel
