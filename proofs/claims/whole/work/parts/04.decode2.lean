theorem d_Names_isName_16 : decode prog_6_method_2_code 16 = .ok (.ireturn, 1) := by decide +kernel
theorem d_Names_pageOf_0 : decode prog_6_method_4_code 0 = .ok (.iconst 0, 1) := by decide +kernel
theorem d_Names_pageOf_1 : decode prog_6_method_4_code 1 = .ok (.istore_n 2, 1) := by decide +kernel
theorem d_Names_pageOf_2 : decode prog_6_method_4_code 2 = .ok (.iload_n 2, 1) := by decide +kernel
theorem d_Names_pageOf_3 : decode prog_6_method_4_code 3 = .ok (.aload_n 0, 1) := by decide +kernel
theorem d_Names_pageOf_4 : decode prog_6_method_4_code 4 = .ok (.getfield 18, 3) := by decide +kernel
theorem d_Names_pageOf_7 : decode prog_6_method_4_code 7 = .ok (.if_icmp .ge 26, 3) := by decide +kernel
theorem d_Names_pageOf_10 : decode prog_6_method_4_code 10 = .ok (.aload_n 0, 1) := by decide +kernel
theorem d_Names_pageOf_11 : decode prog_6_method_4_code 11 = .ok (.getfield 11, 3) := by decide +kernel
theorem d_Names_pageOf_14 : decode prog_6_method_4_code 14 = .ok (.iload_n 2, 1) := by decide +kernel
theorem d_Names_pageOf_15 : decode prog_6_method_4_code 15 = .ok (.iaload, 1) := by decide +kernel
theorem d_Names_pageOf_16 : decode prog_6_method_4_code 16 = .ok (.iload_n 1, 1) := by decide +kernel
theorem d_Names_pageOf_17 : decode prog_6_method_4_code 17 = .ok (.if_icmp .ne 10, 3) := by decide +kernel
theorem d_Names_pageOf_20 : decode prog_6_method_4_code 20 = .ok (.aload_n 0, 1) := by decide +kernel
theorem d_Names_pageOf_21 : decode prog_6_method_4_code 21 = .ok (.getfield 15, 3) := by decide +kernel
theorem d_Names_pageOf_24 : decode prog_6_method_4_code 24 = .ok (.iload_n 2, 1) := by decide +kernel
theorem d_Names_pageOf_25 : decode prog_6_method_4_code 25 = .ok (.iaload, 1) := by decide +kernel
theorem d_Names_pageOf_26 : decode prog_6_method_4_code 26 = .ok (.ireturn, 1) := by decide +kernel
theorem d_Names_pageOf_27 : decode prog_6_method_4_code 27 = .ok (.iinc 2 1, 3) := by decide +kernel
theorem d_Names_pageOf_30 : decode prog_6_method_4_code 30 = .ok (.goto (-28), 3) := by decide +kernel
theorem d_Names_pageOf_33 : decode prog_6_method_4_code 33 = .ok (.iconst (-1), 1) := by decide +kernel
theorem d_Names_pageOf_34 : decode prog_6_method_4_code 34 = .ok (.ireturn, 1) := by decide +kernel
theorem d_Names_add_0 : decode prog_6_method_5_code 0 = .ok (.aload_n 0, 1) := by decide +kernel
theorem d_Names_add_1 : decode prog_6_method_5_code 1 = .ok (.getfield 18, 3) := by decide +kernel
theorem d_Names_add_4 : decode prog_6_method_5_code 4 = .ok (.bipush 60, 2) := by decide +kernel
theorem d_Names_add_6 : decode prog_6_method_5_code 6 = .ok (.if_icmp .lt 5, 3) := by decide +kernel
theorem d_Names_add_9 : decode prog_6_method_5_code 9 = .ok (.iconst 0, 1) := by decide +kernel
theorem d_Names_add_10 : decode prog_6_method_5_code 10 = .ok (.ireturn, 1) := by decide +kernel
theorem d_Names_add_11 : decode prog_6_method_5_code 11 = .ok (.aload_n 0, 1) := by decide +kernel
theorem d_Names_add_12 : decode prog_6_method_5_code 12 = .ok (.getfield 11, 3) := by decide +kernel
theorem d_Names_add_15 : decode prog_6_method_5_code 15 = .ok (.aload_n 0, 1) := by decide +kernel
theorem d_Names_add_16 : decode prog_6_method_5_code 16 = .ok (.getfield 18, 3) := by decide +kernel
theorem d_Names_add_19 : decode prog_6_method_5_code 19 = .ok (.iload_n 1, 1) := by decide +kernel
theorem d_Names_add_20 : decode prog_6_method_5_code 20 = .ok (.iastore, 1) := by decide +kernel
theorem d_Names_add_21 : decode prog_6_method_5_code 21 = .ok (.aload_n 0, 1) := by decide +kernel
theorem d_Names_add_22 : decode prog_6_method_5_code 22 = .ok (.getfield 15, 3) := by decide +kernel
theorem d_Names_add_25 : decode prog_6_method_5_code 25 = .ok (.aload_n 0, 1) := by decide +kernel
theorem d_Names_add_26 : decode prog_6_method_5_code 26 = .ok (.getfield 18, 3) := by decide +kernel
theorem d_Names_add_29 : decode prog_6_method_5_code 29 = .ok (.iload_n 2, 1) := by decide +kernel
theorem d_Names_add_30 : decode prog_6_method_5_code 30 = .ok (.iastore, 1) := by decide +kernel
theorem d_Names_add_31 : decode prog_6_method_5_code 31 = .ok (.aload_n 0, 1) := by decide +kernel
theorem d_Names_add_32 : decode prog_6_method_5_code 32 = .ok (.dup, 1) := by decide +kernel
theorem d_Names_add_33 : decode prog_6_method_5_code 33 = .ok (.getfield 18, 3) := by decide +kernel
theorem d_Names_add_36 : decode prog_6_method_5_code 36 = .ok (.iconst 1, 1) := by decide +kernel
theorem d_Names_add_37 : decode prog_6_method_5_code 37 = .ok (.iadd, 1) := by decide +kernel
theorem d_Names_add_38 : decode prog_6_method_5_code 38 = .ok (.putfield 18, 3) := by decide +kernel
theorem d_Names_add_41 : decode prog_6_method_5_code 41 = .ok (.iconst 1, 1) := by decide +kernel
theorem d_Names_add_42 : decode prog_6_method_5_code 42 = .ok (.ireturn, 1) := by decide +kernel
theorem d_Names_size_0 : decode prog_6_method_3_code 0 = .ok (.aload_n 0, 1) := by decide +kernel
theorem d_Names_size_1 : decode prog_6_method_3_code 1 = .ok (.getfield 18, 3) := by decide +kernel
theorem d_Names_size_4 : decode prog_6_method_3_code 4 = .ok (.ireturn, 1) := by decide +kernel
theorem d_PT_name_0 : decode prog_1_method_20_code 0 = .ok (.aload_n 0, 1) := by decide +kernel
theorem d_PT_name_1 : decode prog_1_method_20_code 1 = .ok (.getfield 21, 3) := by decide +kernel
theorem d_PT_name_4 : decode prog_1_method_20_code 4 = .ok (.iload_n 2, 1) := by decide +kernel
theorem d_PT_name_5 : decode prog_1_method_20_code 5 = .ok (.invokevirtual 112, 3) := by decide +kernel
theorem d_PT_name_8 : decode prog_1_method_20_code 8 = .ok (.iconst (-1), 1) := by decide +kernel
theorem d_PT_name_9 : decode prog_1_method_20_code 9 = .ok (.if_icmp .ne 5, 3) := by decide +kernel
theorem d_PT_name_12 : decode prog_1_method_20_code 12 = .ok (.iconst (-1), 1) := by decide +kernel
theorem d_PT_name_13 : decode prog_1_method_20_code 13 = .ok (.ireturn, 1) := by decide +kernel
theorem d_PT_name_14 : decode prog_1_method_20_code 14 = .ok (.iload_n 1, 1) := by decide +kernel
theorem d_PT_name_15 : decode prog_1_method_20_code 15 = .ok (.invokestatic 160, 3) := by decide +kernel
theorem d_PT_name_18 : decode prog_1_method_20_code 18 = .ok (.ifCond .ne 6, 3) := by decide +kernel
theorem d_PT_name_21 : decode prog_1_method_20_code 21 = .ok (.bipush (-2), 2) := by decide +kernel
theorem d_PT_name_23 : decode prog_1_method_20_code 23 = .ok (.ireturn, 1) := by decide +kernel
theorem d_PT_name_24 : decode prog_1_method_20_code 24 = .ok (.aload_n 0, 1) := by decide +kernel
theorem d_PT_name_25 : decode prog_1_method_20_code 25 = .ok (.getfield 49, 3) := by decide +kernel
theorem d_PT_name_28 : decode prog_1_method_20_code 28 = .ok (.iload_n 1, 1) := by decide +kernel
theorem d_PT_name_29 : decode prog_1_method_20_code 29 = .ok (.invokevirtual 163, 3) := by decide +kernel
theorem d_PT_name_32 : decode prog_1_method_20_code 32 = .ok (.iconst (-1), 1) := by decide +kernel
theorem d_PT_name_33 : decode prog_1_method_20_code 33 = .ok (.if_icmp .eq 6, 3) := by decide +kernel
theorem d_PT_name_36 : decode prog_1_method_20_code 36 = .ok (.bipush (-3), 2) := by decide +kernel
theorem d_PT_name_38 : decode prog_1_method_20_code 38 = .ok (.ireturn, 1) := by decide +kernel
theorem d_PT_name_39 : decode prog_1_method_20_code 39 = .ok (.aload_n 0, 1) := by decide +kernel
theorem d_PT_name_40 : decode prog_1_method_20_code 40 = .ok (.getfield 49, 3) := by decide +kernel
theorem d_PT_name_43 : decode prog_1_method_20_code 43 = .ok (.iload_n 1, 1) := by decide +kernel
theorem d_PT_name_44 : decode prog_1_method_20_code 44 = .ok (.iload_n 2, 1) := by decide +kernel
theorem d_PT_name_45 : decode prog_1_method_20_code 45 = .ok (.invokevirtual 166, 3) := by decide +kernel
theorem d_PT_name_48 : decode prog_1_method_20_code 48 = .ok (.ifCond .eq 13, 3) := by decide +kernel
theorem d_PT_name_51 : decode prog_1_method_20_code 51 = .ok (.aload_n 0, 1) := by decide +kernel
theorem d_PT_name_52 : decode prog_1_method_20_code 52 = .ok (.getfield 49, 3) := by decide +kernel
theorem d_PT_name_55 : decode prog_1_method_20_code 55 = .ok (.invokevirtual 169, 3) := by decide +kernel
theorem d_PT_name_58 : decode prog_1_method_20_code 58 = .ok (.goto 5, 3) := by decide +kernel
theorem d_PT_name_61 : decode prog_1_method_20_code 61 = .ok (.bipush (-4), 2) := by decide +kernel
theorem d_PT_name_63 : decode prog_1_method_20_code 63 = .ok (.ireturn, 1) := by decide +kernel
theorem d_PT_look_0 : decode prog_1_method_21_code 0 = .ok (.aload_n 0, 1) := by decide +kernel
theorem d_PT_look_1 : decode prog_1_method_21_code 1 = .ok (.getfield 49, 3) := by decide +kernel
theorem d_PT_look_4 : decode prog_1_method_21_code 4 = .ok (.iload_n 1, 1) := by decide +kernel
theorem d_PT_look_5 : decode prog_1_method_21_code 5 = .ok (.invokevirtual 163, 3) := by decide +kernel
theorem d_PT_look_8 : decode prog_1_method_21_code 8 = .ok (.ireturn, 1) := by decide +kernel
theorem d_Bal_nodesFor_0 : decode prog_2_method_2_code 0 = .ok (.iconst 0, 1) := by decide +kernel
theorem d_Bal_nodesFor_1 : decode prog_2_method_2_code 1 = .ok (.istore_n 1, 1) := by decide +kernel
theorem d_Bal_nodesFor_2 : decode prog_2_method_2_code 2 = .ok (.iload_n 0, 1) := by decide +kernel
theorem d_Bal_nodesFor_3 : decode prog_2_method_2_code 3 = .ok (.istore_n 2, 1) := by decide +kernel
theorem d_Bal_nodesFor_4 : decode prog_2_method_2_code 4 = .ok (.iconst 0, 1) := by decide +kernel
theorem d_Bal_nodesFor_5 : decode prog_2_method_2_code 5 = .ok (.istore_n 3, 1) := by decide +kernel
theorem d_Bal_nodesFor_6 : decode prog_2_method_2_code 6 = .ok (.iload_n 3, 1) := by decide +kernel
theorem d_Bal_nodesFor_7 : decode prog_2_method_2_code 7 = .ok (.sipush 200, 3) := by decide +kernel
theorem d_Bal_nodesFor_10 : decode prog_2_method_2_code 10 = .ok (.if_icmp .ge 26, 3) := by decide +kernel
theorem d_Bal_nodesFor_13 : decode prog_2_method_2_code 13 = .ok (.iload_n 2, 1) := by decide +kernel
theorem d_Bal_nodesFor_14 : decode prog_2_method_2_code 14 = .ok (.iconst 4, 1) := by decide +kernel
theorem d_Bal_nodesFor_15 : decode prog_2_method_2_code 15 = .ok (.if_icmp .le 21, 3) := by decide +kernel
theorem d_Bal_nodesFor_18 : decode prog_2_method_2_code 18 = .ok (.iload_n 2, 1) := by decide +kernel
theorem d_Bal_nodesFor_19 : decode prog_2_method_2_code 19 = .ok (.iconst 4, 1) := by decide +kernel
theorem d_Bal_nodesFor_20 : decode prog_2_method_2_code 20 = .ok (.iadd, 1) := by decide +kernel
theorem d_Bal_nodesFor_21 : decode prog_2_method_2_code 21 = .ok (.iconst 1, 1) := by decide +kernel
theorem d_Bal_nodesFor_22 : decode prog_2_method_2_code 22 = .ok (.isub, 1) := by decide +kernel
theorem d_Bal_nodesFor_23 : decode prog_2_method_2_code 23 = .ok (.iconst 4, 1) := by decide +kernel
theorem d_Bal_nodesFor_24 : decode prog_2_method_2_code 24 = .ok (.idiv, 1) := by decide +kernel
theorem d_Bal_nodesFor_25 : decode prog_2_method_2_code 25 = .ok (.istore_n 2, 1) := by decide +kernel
theorem d_Bal_nodesFor_26 : decode prog_2_method_2_code 26 = .ok (.iload_n 1, 1) := by decide +kernel
theorem d_Bal_nodesFor_27 : decode prog_2_method_2_code 27 = .ok (.iload_n 2, 1) := by decide +kernel
theorem d_Bal_nodesFor_28 : decode prog_2_method_2_code 28 = .ok (.iadd, 1) := by decide +kernel
theorem d_Bal_nodesFor_29 : decode prog_2_method_2_code 29 = .ok (.istore_n 1, 1) := by decide +kernel
theorem d_Bal_nodesFor_30 : decode prog_2_method_2_code 30 = .ok (.iinc 3 1, 3) := by decide +kernel
theorem d_Bal_nodesFor_33 : decode prog_2_method_2_code 33 = .ok (.goto (-27), 3) := by decide +kernel
theorem d_Bal_nodesFor_36 : decode prog_2_method_2_code 36 = .ok (.iload_n 1, 1) := by decide +kernel
theorem d_Bal_nodesFor_37 : decode prog_2_method_2_code 37 = .ok (.ireturn, 1) := by decide +kernel
theorem d_Order_takenPages_0 : decode prog_7_method_6_code 0 = .ok (.aload_n 0, 1) := by decide +kernel
theorem d_Order_takenPages_1 : decode prog_7_method_6_code 1 = .ok (.invokevirtual 55, 3) := by decide +kernel
theorem d_Order_takenPages_4 : decode prog_7_method_6_code 4 = .ok (.aload_n 0, 1) := by decide +kernel
theorem d_Order_takenPages_5 : decode prog_7_method_6_code 5 = .ok (.getfield 9, 3) := by decide +kernel
theorem d_Order_takenPages_8 : decode prog_7_method_6_code 8 = .ok (.areturn, 1) := by decide +kernel
theorem d_Items_loosenAll_0 : decode prog_3_method_24_code 0 = .ok (.iconst 0, 1) := by decide +kernel
theorem d_Items_loosenAll_1 : decode prog_3_method_24_code 1 = .ok (.istore_n 1, 1) := by decide +kernel
theorem d_Items_loosenAll_2 : decode prog_3_method_24_code 2 = .ok (.iload_n 1, 1) := by decide +kernel
theorem d_Items_loosenAll_3 : decode prog_3_method_24_code 3 = .ok (.aload_n 0, 1) := by decide +kernel
theorem d_Items_loosenAll_4 : decode prog_3_method_24_code 4 = .ok (.getfield 37, 3) := by decide +kernel
theorem d_Items_loosenAll_7 : decode prog_3_method_24_code 7 = .ok (.if_icmp .ge 23, 3) := by decide +kernel
theorem d_Items_loosenAll_10 : decode prog_3_method_24_code 10 = .ok (.aload_n 0, 1) := by decide +kernel
theorem d_Items_loosenAll_11 : decode prog_3_method_24_code 11 = .ok (.getfield 15, 3) := by decide +kernel
theorem d_Items_loosenAll_14 : decode prog_3_method_24_code 14 = .ok (.iload_n 1, 1) := by decide +kernel
theorem d_Items_loosenAll_15 : decode prog_3_method_24_code 15 = .ok (.iconst (-1), 1) := by decide +kernel
theorem d_Items_loosenAll_16 : decode prog_3_method_24_code 16 = .ok (.iastore, 1) := by decide +kernel
theorem d_Items_loosenAll_17 : decode prog_3_method_24_code 17 = .ok (.aload_n 0, 1) := by decide +kernel
theorem d_Items_loosenAll_18 : decode prog_3_method_24_code 18 = .ok (.getfield 22, 3) := by decide +kernel
theorem d_Items_loosenAll_21 : decode prog_3_method_24_code 21 = .ok (.iload_n 1, 1) := by decide +kernel
theorem d_Items_loosenAll_22 : decode prog_3_method_24_code 22 = .ok (.iconst 0, 1) := by decide +kernel
theorem d_Items_loosenAll_23 : decode prog_3_method_24_code 23 = .ok (.iastore, 1) := by decide +kernel
theorem d_Items_loosenAll_24 : decode prog_3_method_24_code 24 = .ok (.iinc 1 1, 3) := by decide +kernel
theorem d_Items_loosenAll_27 : decode prog_3_method_24_code 27 = .ok (.goto (-25), 3) := by decide +kernel
theorem d_Items_loosenAll_30 : decode prog_3_method_24_code 30 = .ok (.aload_n 0, 1) := by decide +kernel
theorem d_Items_loosenAll_31 : decode prog_3_method_24_code 31 = .ok (.dup, 1) := by decide +kernel
theorem d_Items_loosenAll_32 : decode prog_3_method_24_code 32 = .ok (.getfield 41, 3) := by decide +kernel
theorem d_Items_loosenAll_35 : decode prog_3_method_24_code 35 = .ok (.iconst 1, 1) := by decide +kernel
theorem d_Items_loosenAll_36 : decode prog_3_method_24_code 36 = .ok (.iadd, 1) := by decide +kernel
theorem d_Items_loosenAll_37 : decode prog_3_method_24_code 37 = .ok (.putfield 41, 3) := by decide +kernel
theorem d_Items_loosenAll_40 : decode prog_3_method_24_code 40 = .ok (.return_, 1) := by decide +kernel
theorem d_Bal_hang_0 : decode prog_2_method_5_code 0 = .ok (.iconst 0, 1) := by decide +kernel
theorem d_Bal_hang_1 : decode prog_2_method_5_code 1 = .ok (.istore 4, 2) := by decide +kernel
theorem d_Bal_hang_3 : decode prog_2_method_5_code 3 = .ok (.iload_n 2, 1) := by decide +kernel
theorem d_Bal_hang_4 : decode prog_2_method_5_code 4 = .ok (.istore 5, 2) := by decide +kernel
theorem d_Bal_hang_6 : decode prog_2_method_5_code 6 = .ok (.iload 5, 2) := by decide +kernel
theorem d_Bal_hang_8 : decode prog_2_method_5_code 8 = .ok (.iload_n 3, 1) := by decide +kernel
theorem d_Bal_hang_9 : decode prog_2_method_5_code 9 = .ok (.if_icmp .ge 68, 3) := by decide +kernel
theorem d_Bal_hang_12 : decode prog_2_method_5_code 12 = .ok (.aload_n 0, 1) := by decide +kernel
theorem d_Bal_hang_13 : decode prog_2_method_5_code 13 = .ok (.getfield 9, 3) := by decide +kernel
theorem d_Bal_hang_16 : decode prog_2_method_5_code 16 = .ok (.iload 5, 2) := by decide +kernel
theorem d_Bal_hang_18 : decode prog_2_method_5_code 18 = .ok (.iaload, 1) := by decide +kernel
theorem d_Bal_hang_19 : decode prog_2_method_5_code 19 = .ok (.istore 6, 2) := by decide +kernel
theorem d_Bal_hang_21 : decode prog_2_method_5_code 21 = .ok (.aload_n 0, 1) := by decide +kernel
theorem d_Bal_hang_22 : decode prog_2_method_5_code 22 = .ok (.getfield 15, 3) := by decide +kernel
theorem d_Bal_hang_25 : decode prog_2_method_5_code 25 = .ok (.iload_n 1, 1) := by decide +kernel
theorem d_Bal_hang_26 : decode prog_2_method_5_code 26 = .ok (.iload 6, 2) := by decide +kernel
theorem d_Bal_hang_28 : decode prog_2_method_5_code 28 = .ok (.invokevirtual 49, 3) := by decide +kernel
theorem d_Bal_hang_31 : decode prog_2_method_5_code 31 = .ok (.aload_n 0, 1) := by decide +kernel
theorem d_Bal_hang_32 : decode prog_2_method_5_code 32 = .ok (.getfield 15, 3) := by decide +kernel
theorem d_Bal_hang_35 : decode prog_2_method_5_code 35 = .ok (.iload 6, 2) := by decide +kernel
theorem d_Bal_hang_37 : decode prog_2_method_5_code 37 = .ok (.iload_n 1, 1) := by decide +kernel
theorem d_Bal_hang_38 : decode prog_2_method_5_code 38 = .ok (.invokevirtual 52, 3) := by decide +kernel
theorem d_Bal_hang_41 : decode prog_2_method_5_code 41 = .ok (.iload 4, 2) := by decide +kernel
theorem d_Bal_hang_43 : decode prog_2_method_5_code 43 = .ok (.aload_n 0, 1) := by decide +kernel
theorem d_Bal_hang_44 : decode prog_2_method_5_code 44 = .ok (.getfield 15, 3) := by decide +kernel
theorem d_Bal_hang_47 : decode prog_2_method_5_code 47 = .ok (.iload 6, 2) := by decide +kernel
theorem d_Bal_hang_49 : decode prog_2_method_5_code 49 = .ok (.invokevirtual 55, 3) := by decide +kernel
theorem d_Bal_hang_52 : decode prog_2_method_5_code 52 = .ok (.ifCond .eq 7, 3) := by decide +kernel
theorem d_Bal_hang_55 : decode prog_2_method_5_code 55 = .ok (.iconst 1, 1) := by decide +kernel
theorem d_Bal_hang_56 : decode prog_2_method_5_code 56 = .ok (.goto 12, 3) := by decide +kernel
theorem d_Bal_hang_59 : decode prog_2_method_5_code 59 = .ok (.aload_n 0, 1) := by decide +kernel
theorem d_Bal_hang_60 : decode prog_2_method_5_code 60 = .ok (.getfield 15, 3) := by decide +kernel
theorem d_Bal_hang_63 : decode prog_2_method_5_code 63 = .ok (.iload 6, 2) := by decide +kernel
theorem d_Bal_hang_65 : decode prog_2_method_5_code 65 = .ok (.invokevirtual 59, 3) := by decide +kernel
theorem d_Bal_hang_68 : decode prog_2_method_5_code 68 = .ok (.iadd, 1) := by decide +kernel
theorem d_Bal_hang_69 : decode prog_2_method_5_code 69 = .ok (.istore 4, 2) := by decide +kernel
theorem d_Bal_hang_71 : decode prog_2_method_5_code 71 = .ok (.iinc 5 1, 3) := by decide +kernel
theorem d_Bal_hang_74 : decode prog_2_method_5_code 74 = .ok (.goto (-68), 3) := by decide +kernel
theorem d_Bal_hang_77 : decode prog_2_method_5_code 77 = .ok (.aload_n 0, 1) := by decide +kernel
theorem d_Bal_hang_78 : decode prog_2_method_5_code 78 = .ok (.getfield 15, 3) := by decide +kernel
theorem d_Bal_hang_81 : decode prog_2_method_5_code 81 = .ok (.iload_n 1, 1) := by decide +kernel
theorem d_Bal_hang_82 : decode prog_2_method_5_code 82 = .ok (.iload 4, 2) := by decide +kernel
theorem d_Bal_hang_84 : decode prog_2_method_5_code 84 = .ok (.invokevirtual 63, 3) := by decide +kernel
theorem d_Bal_hang_87 : decode prog_2_method_5_code 87 = .ok (.return_, 1) := by decide +kernel
theorem d_Bal_raiseRow_0 : decode prog_2_method_4_code 0 = .ok (.iconst 0, 1) := by decide +kernel
theorem d_Bal_raiseRow_1 : decode prog_2_method_4_code 1 = .ok (.istore_n 1, 1) := by decide +kernel
theorem d_Bal_raiseRow_2 : decode prog_2_method_4_code 2 = .ok (.iconst 0, 1) := by decide +kernel
theorem d_Bal_raiseRow_3 : decode prog_2_method_4_code 3 = .ok (.istore_n 2, 1) := by decide +kernel
theorem d_Bal_raiseRow_4 : decode prog_2_method_4_code 4 = .ok (.iload_n 2, 1) := by decide +kernel
theorem d_Bal_raiseRow_5 : decode prog_2_method_4_code 5 = .ok (.aload_n 0, 1) := by decide +kernel
theorem d_Bal_raiseRow_6 : decode prog_2_method_4_code 6 = .ok (.getfield 25, 3) := by decide +kernel
theorem d_Bal_raiseRow_9 : decode prog_2_method_4_code 9 = .ok (.if_icmp .ge 46, 3) := by decide +kernel
theorem d_Bal_raiseRow_12 : decode prog_2_method_4_code 12 = .ok (.aload_n 0, 1) := by decide +kernel
theorem d_Bal_raiseRow_13 : decode prog_2_method_4_code 13 = .ok (.getfield 15, 3) := by decide +kernel
theorem d_Bal_raiseRow_16 : decode prog_2_method_4_code 16 = .ok (.iconst 0, 1) := by decide +kernel
theorem d_Bal_raiseRow_17 : decode prog_2_method_4_code 17 = .ok (.iconst (-1), 1) := by decide +kernel
theorem d_Bal_raiseRow_18 : decode prog_2_method_4_code 18 = .ok (.iconst 0, 1) := by decide +kernel
theorem d_Bal_raiseRow_19 : decode prog_2_method_4_code 19 = .ok (.invokevirtual 45, 3) := by decide +kernel
theorem d_Bal_raiseRow_22 : decode prog_2_method_4_code 22 = .ok (.istore_n 3, 1) := by decide +kernel
theorem d_Bal_raiseRow_23 : decode prog_2_method_4_code 23 = .ok (.aload_n 0, 1) := by decide +kernel
theorem d_Bal_raiseRow_24 : decode prog_2_method_4_code 24 = .ok (.iload_n 3, 1) := by decide +kernel
theorem d_Bal_raiseRow_25 : decode prog_2_method_4_code 25 = .ok (.iload_n 2, 1) := by decide +kernel
theorem d_Bal_raiseRow_26 : decode prog_2_method_4_code 26 = .ok (.iload_n 2, 1) := by decide +kernel
theorem d_Bal_raiseRow_27 : decode prog_2_method_4_code 27 = .ok (.iconst 4, 1) := by decide +kernel
theorem d_Bal_raiseRow_28 : decode prog_2_method_4_code 28 = .ok (.iadd, 1) := by decide +kernel
theorem d_Bal_raiseRow_29 : decode prog_2_method_4_code 29 = .ok (.aload_n 0, 1) := by decide +kernel
theorem d_Bal_raiseRow_30 : decode prog_2_method_4_code 30 = .ok (.getfield 25, 3) := by decide +kernel
theorem d_Bal_raiseRow_33 : decode prog_2_method_4_code 33 = .ok (.invokestatic 19, 3) := by decide +kernel
theorem d_Bal_raiseRow_36 : decode prog_2_method_4_code 36 = .ok (.invokevirtual 41, 3) := by decide +kernel
theorem d_Bal_raiseRow_39 : decode prog_2_method_4_code 39 = .ok (.aload_n 0, 1) := by decide +kernel
theorem d_Bal_raiseRow_40 : decode prog_2_method_4_code 40 = .ok (.getfield 9, 3) := by decide +kernel
theorem d_Bal_raiseRow_43 : decode prog_2_method_4_code 43 = .ok (.iload_n 1, 1) := by decide +kernel
theorem d_Bal_raiseRow_44 : decode prog_2_method_4_code 44 = .ok (.iload_n 3, 1) := by decide +kernel
theorem d_Bal_raiseRow_45 : decode prog_2_method_4_code 45 = .ok (.iastore, 1) := by decide +kernel
theorem d_Bal_raiseRow_46 : decode prog_2_method_4_code 46 = .ok (.iinc 1 1, 3) := by decide +kernel
theorem d_Bal_raiseRow_49 : decode prog_2_method_4_code 49 = .ok (.iinc 2 4, 3) := by decide +kernel
theorem d_Bal_raiseRow_52 : decode prog_2_method_4_code 52 = .ok (.goto (-48), 3) := by decide +kernel
theorem d_Bal_raiseRow_55 : decode prog_2_method_4_code 55 = .ok (.aload_n 0, 1) := by decide +kernel
theorem d_Bal_raiseRow_56 : decode prog_2_method_4_code 56 = .ok (.iload_n 1, 1) := by decide +kernel
theorem d_Bal_raiseRow_57 : decode prog_2_method_4_code 57 = .ok (.putfield 25, 3) := by decide +kernel
theorem d_Bal_raiseRow_60 : decode prog_2_method_4_code 60 = .ok (.return_, 1) := by decide +kernel
theorem d_Bal_build_0 : decode prog_2_method_3_code 0 = .ok (.aload_n 0, 1) := by decide +kernel
theorem d_Bal_build_1 : decode prog_2_method_3_code 1 = .ok (.iload_n 2, 1) := by decide +kernel
theorem d_Bal_build_2 : decode prog_2_method_3_code 2 = .ok (.aload_n 1, 1) := by decide +kernel
theorem d_Bal_build_3 : decode prog_2_method_3_code 3 = .ok (.arraylength, 1) := by decide +kernel
theorem d_Bal_build_4 : decode prog_2_method_3_code 4 = .ok (.sipush 200, 3) := by decide +kernel
theorem d_Bal_build_7 : decode prog_2_method_3_code 7 = .ok (.invokestatic 19, 3) := by decide +kernel
theorem d_Bal_build_10 : decode prog_2_method_3_code 10 = .ok (.invokestatic 19, 3) := by decide +kernel
theorem d_Bal_build_13 : decode prog_2_method_3_code 13 = .ok (.putfield 25, 3) := by decide +kernel
theorem d_Bal_build_16 : decode prog_2_method_3_code 16 = .ok (.iconst 0, 1) := by decide +kernel
theorem d_Bal_build_17 : decode prog_2_method_3_code 17 = .ok (.istore_n 3, 1) := by decide +kernel
theorem d_Bal_build_18 : decode prog_2_method_3_code 18 = .ok (.iload_n 3, 1) := by decide +kernel
theorem d_Bal_build_19 : decode prog_2_method_3_code 19 = .ok (.aload_n 0, 1) := by decide +kernel
theorem d_Bal_build_20 : decode prog_2_method_3_code 20 = .ok (.getfield 25, 3) := by decide +kernel
theorem d_Bal_build_23 : decode prog_2_method_3_code 23 = .ok (.if_icmp .ge 31, 3) := by decide +kernel
theorem d_Bal_build_26 : decode prog_2_method_3_code 26 = .ok (.aload_n 0, 1) := by decide +kernel
theorem d_Bal_build_27 : decode prog_2_method_3_code 27 = .ok (.getfield 9, 3) := by decide +kernel
theorem d_Bal_build_30 : decode prog_2_method_3_code 30 = .ok (.iload_n 3, 1) := by decide +kernel
theorem d_Bal_build_31 : decode prog_2_method_3_code 31 = .ok (.aload_n 1, 1) := by decide +kernel
theorem d_Bal_build_32 : decode prog_2_method_3_code 32 = .ok (.iload_n 3, 1) := by decide +kernel
theorem d_Bal_build_33 : decode prog_2_method_3_code 33 = .ok (.iaload, 1) := by decide +kernel
theorem d_Bal_build_34 : decode prog_2_method_3_code 34 = .ok (.iastore, 1) := by decide +kernel
theorem d_Bal_build_35 : decode prog_2_method_3_code 35 = .ok (.aload_n 0, 1) := by decide +kernel
theorem d_Bal_build_36 : decode prog_2_method_3_code 36 = .ok (.getfield 15, 3) := by decide +kernel
theorem d_Bal_build_39 : decode prog_2_method_3_code 39 = .ok (.aload_n 1, 1) := by decide +kernel
theorem d_Bal_build_40 : decode prog_2_method_3_code 40 = .ok (.iload_n 3, 1) := by decide +kernel
theorem d_Bal_build_41 : decode prog_2_method_3_code 41 = .ok (.iaload, 1) := by decide +kernel
theorem d_Bal_build_42 : decode prog_2_method_3_code 42 = .ok (.aload_n 1, 1) := by decide +kernel
theorem d_Bal_build_43 : decode prog_2_method_3_code 43 = .ok (.iload_n 3, 1) := by decide +kernel
theorem d_Bal_build_44 : decode prog_2_method_3_code 44 = .ok (.iaload, 1) := by decide +kernel
theorem d_Bal_build_45 : decode prog_2_method_3_code 45 = .ok (.invokevirtual 29, 3) := by decide +kernel
theorem d_Bal_build_48 : decode prog_2_method_3_code 48 = .ok (.iinc 3 1, 3) := by decide +kernel
theorem d_Bal_build_51 : decode prog_2_method_3_code 51 = .ok (.goto (-33), 3) := by decide +kernel
theorem d_Bal_build_54 : decode prog_2_method_3_code 54 = .ok (.aload_n 0, 1) := by decide +kernel
theorem d_Bal_build_55 : decode prog_2_method_3_code 55 = .ok (.getfield 15, 3) := by decide +kernel
theorem d_Bal_build_58 : decode prog_2_method_3_code 58 = .ok (.invokevirtual 35, 3) := by decide +kernel
theorem d_Bal_build_61 : decode prog_2_method_3_code 61 = .ok (.iconst 0, 1) := by decide +kernel
theorem d_Bal_build_62 : decode prog_2_method_3_code 62 = .ok (.istore_n 3, 1) := by decide +kernel
theorem d_Bal_build_63 : decode prog_2_method_3_code 63 = .ok (.iload_n 3, 1) := by decide +kernel
theorem d_Bal_build_64 : decode prog_2_method_3_code 64 = .ok (.sipush 200, 3) := by decide +kernel
theorem d_Bal_build_67 : decode prog_2_method_3_code 67 = .ok (.if_icmp .ge 21, 3) := by decide +kernel
theorem d_Bal_build_70 : decode prog_2_method_3_code 70 = .ok (.aload_n 0, 1) := by decide +kernel
theorem d_Bal_build_71 : decode prog_2_method_3_code 71 = .ok (.getfield 25, 3) := by decide +kernel
theorem d_Bal_build_74 : decode prog_2_method_3_code 74 = .ok (.iconst 4, 1) := by decide +kernel
theorem d_Bal_build_75 : decode prog_2_method_3_code 75 = .ok (.if_icmp .le 13, 3) := by decide +kernel
theorem d_Bal_build_78 : decode prog_2_method_3_code 78 = .ok (.aload_n 0, 1) := by decide +kernel
theorem d_Bal_build_79 : decode prog_2_method_3_code 79 = .ok (.invokevirtual 38, 3) := by decide +kernel
theorem d_Bal_build_82 : decode prog_2_method_3_code 82 = .ok (.iinc 3 1, 3) := by decide +kernel
theorem d_Bal_build_85 : decode prog_2_method_3_code 85 = .ok (.goto (-22), 3) := by decide +kernel
theorem d_Bal_build_88 : decode prog_2_method_3_code 88 = .ok (.aload_n 0, 1) := by decide +kernel
theorem d_Bal_build_89 : decode prog_2_method_3_code 89 = .ok (.iconst 0, 1) := by decide +kernel
theorem d_Bal_build_90 : decode prog_2_method_3_code 90 = .ok (.iconst 0, 1) := by decide +kernel
theorem d_Bal_build_91 : decode prog_2_method_3_code 91 = .ok (.aload_n 0, 1) := by decide +kernel
theorem d_Bal_build_92 : decode prog_2_method_3_code 92 = .ok (.getfield 25, 3) := by decide +kernel
theorem d_Bal_build_95 : decode prog_2_method_3_code 95 = .ok (.invokevirtual 41, 3) := by decide +kernel
theorem d_Bal_build_98 : decode prog_2_method_3_code 98 = .ok (.return_, 1) := by decide +kernel
theorem d_PT_balance_0 : decode prog_1_method_22_code 0 = .ok (.aload_n 0, 1) := by decide +kernel
theorem d_PT_balance_1 : decode prog_1_method_22_code 1 = .ok (.getfield 21, 3) := by decide +kernel
theorem d_PT_balance_4 : decode prog_1_method_22_code 4 = .ok (.invokevirtual 102, 3) := by decide +kernel
theorem d_PT_balance_7 : decode prog_1_method_22_code 7 = .ok (.istore_n 1, 1) := by decide +kernel
theorem d_PT_balance_8 : decode prog_1_method_22_code 8 = .ok (.iload_n 1, 1) := by decide +kernel
theorem d_PT_balance_9 : decode prog_1_method_22_code 9 = .ok (.ifCond .ne 6, 3) := by decide +kernel
theorem d_PT_balance_12 : decode prog_1_method_22_code 12 = .ok (.bipush (-3), 2) := by decide +kernel
theorem d_PT_balance_14 : decode prog_1_method_22_code 14 = .ok (.ireturn, 1) := by decide +kernel
theorem d_PT_balance_15 : decode prog_1_method_22_code 15 = .ok (.iload_n 1, 1) := by decide +kernel
theorem d_PT_balance_16 : decode prog_1_method_22_code 16 = .ok (.invokestatic 170, 3) := by decide +kernel
theorem d_PT_balance_19 : decode prog_1_method_22_code 19 = .ok (.istore_n 2, 1) := by decide +kernel
theorem d_PT_balance_20 : decode prog_1_method_22_code 20 = .ok (.aload_n 0, 1) := by decide +kernel
theorem d_PT_balance_21 : decode prog_1_method_22_code 21 = .ok (.getfield 10, 3) := by decide +kernel
theorem d_PT_balance_24 : decode prog_1_method_22_code 24 = .ok (.invokevirtual 53, 3) := by decide +kernel
theorem d_PT_balance_27 : decode prog_1_method_22_code 27 = .ok (.iload_n 2, 1) := by decide +kernel
theorem d_PT_balance_28 : decode prog_1_method_22_code 28 = .ok (.iadd, 1) := by decide +kernel
theorem d_PT_balance_29 : decode prog_1_method_22_code 29 = .ok (.sipush 200, 3) := by decide +kernel
theorem d_PT_balance_32 : decode prog_1_method_22_code 32 = .ok (.if_icmp .le 6, 3) := by decide +kernel
theorem d_PT_balance_35 : decode prog_1_method_22_code 35 = .ok (.bipush (-4), 2) := by decide +kernel
theorem d_PT_balance_37 : decode prog_1_method_22_code 37 = .ok (.ireturn, 1) := by decide +kernel
theorem d_PT_balance_38 : decode prog_1_method_22_code 38 = .ok (.aload_n 0, 1) := by decide +kernel
theorem d_PT_balance_39 : decode prog_1_method_22_code 39 = .ok (.getfield 35, 3) := by decide +kernel
theorem d_PT_balance_42 : decode prog_1_method_22_code 42 = .ok (.aload_n 0, 1) := by decide +kernel
theorem d_PT_balance_43 : decode prog_1_method_22_code 43 = .ok (.getfield 21, 3) := by decide +kernel
theorem d_PT_balance_46 : decode prog_1_method_22_code 46 = .ok (.invokevirtual 173, 3) := by decide +kernel
theorem d_PT_balance_49 : decode prog_1_method_22_code 49 = .ok (.iload_n 1, 1) := by decide +kernel
theorem d_PT_balance_50 : decode prog_1_method_22_code 50 = .ok (.invokevirtual 177, 3) := by decide +kernel
theorem d_PT_balance_53 : decode prog_1_method_22_code 53 = .ok (.iload_n 2, 1) := by decide +kernel
theorem d_PT_balance_54 : decode prog_1_method_22_code 54 = .ok (.ireturn, 1) := by decide +kernel
theorem d_PT_count_0 : decode prog_1_method_23_code 0 = .ok (.iload_n 1, 1) := by decide +kernel
theorem d_PT_count_1 : decode prog_1_method_23_code 1 = .ok (.tableswitch 51 0 2 #[27, 35, 43], 27) := by decide +kernel
theorem d_PT_count_28 : decode prog_1_method_23_code 28 = .ok (.aload_n 0, 1) := by decide +kernel
theorem d_PT_count_29 : decode prog_1_method_23_code 29 = .ok (.getfield 10, 3) := by decide +kernel
theorem d_PT_count_32 : decode prog_1_method_23_code 32 = .ok (.invokevirtual 53, 3) := by decide +kernel
theorem d_PT_count_35 : decode prog_1_method_23_code 35 = .ok (.ireturn, 1) := by decide +kernel
theorem d_PT_count_36 : decode prog_1_method_23_code 36 = .ok (.aload_n 0, 1) := by decide +kernel
theorem d_PT_count_37 : decode prog_1_method_23_code 37 = .ok (.getfield 42, 3) := by decide +kernel
theorem d_PT_count_40 : decode prog_1_method_23_code 40 = .ok (.invokevirtual 156, 3) := by decide +kernel
theorem d_PT_count_43 : decode prog_1_method_23_code 43 = .ok (.ireturn, 1) := by decide +kernel
theorem d_PT_count_44 : decode prog_1_method_23_code 44 = .ok (.aload_n 0, 1) := by decide +kernel
theorem d_PT_count_45 : decode prog_1_method_23_code 45 = .ok (.getfield 49, 3) := by decide +kernel
theorem d_PT_count_48 : decode prog_1_method_23_code 48 = .ok (.invokevirtual 169, 3) := by decide +kernel
theorem d_PT_count_51 : decode prog_1_method_23_code 51 = .ok (.ireturn, 1) := by decide +kernel
theorem d_PT_count_52 : decode prog_1_method_23_code 52 = .ok (.bipush (-2), 2) := by decide +kernel
theorem d_PT_count_54 : decode prog_1_method_23_code 54 = .ok (.ireturn, 1) := by decide +kernel
theorem d_Md_isItem_0 : decode prog_10_method_3_code 0 = .ok (.iload_n 1, 1) := by decide +kernel
theorem d_Md_isItem_1 : decode prog_10_method_3_code 1 = .ok (.ifCond .lt 15, 3) := by decide +kernel
theorem d_Md_isItem_4 : decode prog_10_method_3_code 4 = .ok (.iload_n 1, 1) := by decide +kernel
theorem d_Md_isItem_5 : decode prog_10_method_3_code 5 = .ok (.aload_n 0, 1) := by decide +kernel
theorem d_Md_isItem_6 : decode prog_10_method_3_code 6 = .ok (.getfield 77, 3) := by decide +kernel
theorem d_Md_isItem_9 : decode prog_10_method_3_code 9 = .ok (.if_icmp .ge 7, 3) := by decide +kernel
theorem d_Md_isItem_12 : decode prog_10_method_3_code 12 = .ok (.iconst 1, 1) := by decide +kernel
theorem d_Md_isItem_13 : decode prog_10_method_3_code 13 = .ok (.goto 4, 3) := by decide +kernel
theorem d_Md_isItem_16 : decode prog_10_method_3_code 16 = .ok (.iconst 0, 1) := by decide +kernel
theorem d_Md_isItem_17 : decode prog_10_method_3_code 17 = .ok (.ireturn, 1) := by decide +kernel
theorem d_Md_isNode_0 : decode prog_10_method_4_code 0 = .ok (.aload_n 0, 1) := by decide +kernel
theorem d_Md_isNode_1 : decode prog_10_method_4_code 1 = .ok (.iload_n 1, 1) := by decide +kernel
theorem d_Md_isNode_2 : decode prog_10_method_4_code 2 = .ok (.invokevirtual 81, 3) := by decide +kernel
theorem d_Md_isNode_5 : decode prog_10_method_4_code 5 = .ok (.ifCond .eq 16, 3) := by decide +kernel
theorem d_Md_isNode_8 : decode prog_10_method_4_code 8 = .ok (.aload_n 0, 1) := by decide +kernel
theorem d_Md_isNode_9 : decode prog_10_method_4_code 9 = .ok (.getfield 7, 3) := by decide +kernel
theorem d_Md_isNode_12 : decode prog_10_method_4_code 12 = .ok (.iload_n 1, 1) := by decide +kernel
theorem d_Md_isNode_13 : decode prog_10_method_4_code 13 = .ok (.baload, 1) := by decide +kernel
theorem d_Md_isNode_14 : decode prog_10_method_4_code 14 = .ok (.ifCond .ne 7, 3) := by decide +kernel
theorem d_Md_isNode_17 : decode prog_10_method_4_code 17 = .ok (.iconst 1, 1) := by decide +kernel
theorem d_Md_isNode_18 : decode prog_10_method_4_code 18 = .ok (.goto 4, 3) := by decide +kernel
theorem d_Md_isNode_21 : decode prog_10_method_4_code 21 = .ok (.iconst 0, 1) := by decide +kernel
theorem d_Md_isNode_22 : decode prog_10_method_4_code 22 = .ok (.ireturn, 1) := by decide +kernel
theorem d_Md_made_0 : decode prog_10_method_6_code 0 = .ok (.aload_n 0, 1) := by decide +kernel
theorem d_Md_made_1 : decode prog_10_method_6_code 1 = .ok (.getfield 7, 3) := by decide +kernel
theorem d_Md_made_4 : decode prog_10_method_6_code 4 = .ok (.aload_n 0, 1) := by decide +kernel
theorem d_Md_made_5 : decode prog_10_method_6_code 5 = .ok (.getfield 77, 3) := by decide +kernel
theorem d_Md_made_8 : decode prog_10_method_6_code 8 = .ok (.iload_n 1, 1) := by decide +kernel
theorem d_Md_made_9 : decode prog_10_method_6_code 9 = .ok (.bastore, 1) := by decide +kernel
theorem d_Md_made_10 : decode prog_10_method_6_code 10 = .ok (.aload_n 0, 1) := by decide +kernel
theorem d_Md_made_11 : decode prog_10_method_6_code 11 = .ok (.getfield 13, 3) := by decide +kernel
theorem d_Md_made_14 : decode prog_10_method_6_code 14 = .ok (.aload_n 0, 1) := by decide +kernel
theorem d_Md_made_15 : decode prog_10_method_6_code 15 = .ok (.getfield 77, 3) := by decide +kernel
theorem d_Md_made_18 : decode prog_10_method_6_code 18 = .ok (.iload_n 2, 1) := by decide +kernel
theorem d_Md_made_19 : decode prog_10_method_6_code 19 = .ok (.iastore, 1) := by decide +kernel
theorem d_Md_made_20 : decode prog_10_method_6_code 20 = .ok (.aload_n 0, 1) := by decide +kernel
theorem d_Md_made_21 : decode prog_10_method_6_code 21 = .ok (.getfield 17, 3) := by decide +kernel
theorem d_Md_made_24 : decode prog_10_method_6_code 24 = .ok (.aload_n 0, 1) := by decide +kernel
theorem d_Md_made_25 : decode prog_10_method_6_code 25 = .ok (.getfield 77, 3) := by decide +kernel
theorem d_Md_made_28 : decode prog_10_method_6_code 28 = .ok (.iload_n 1, 1) := by decide +kernel
theorem d_Md_made_29 : decode prog_10_method_6_code 29 = .ok (.ifCond .eq 7, 3) := by decide +kernel
theorem d_Md_made_32 : decode prog_10_method_6_code 32 = .ok (.iconst 0, 1) := by decide +kernel
theorem d_Md_made_33 : decode prog_10_method_6_code 33 = .ok (.goto 4, 3) := by decide +kernel
theorem d_Md_made_36 : decode prog_10_method_6_code 36 = .ok (.iload_n 3, 1) := by decide +kernel
theorem d_Md_made_37 : decode prog_10_method_6_code 37 = .ok (.iastore, 1) := by decide +kernel
theorem d_Md_made_38 : decode prog_10_method_6_code 38 = .ok (.aload_n 0, 1) := by decide +kernel
theorem d_Md_made_39 : decode prog_10_method_6_code 39 = .ok (.getfield 20, 3) := by decide +kernel
theorem d_Md_made_42 : decode prog_10_method_6_code 42 = .ok (.aload_n 0, 1) := by decide +kernel
theorem d_Md_made_43 : decode prog_10_method_6_code 43 = .ok (.getfield 77, 3) := by decide +kernel
theorem d_Md_made_46 : decode prog_10_method_6_code 46 = .ok (.iconst 0, 1) := by decide +kernel
theorem d_Md_made_47 : decode prog_10_method_6_code 47 = .ok (.iastore, 1) := by decide +kernel
theorem d_Md_made_48 : decode prog_10_method_6_code 48 = .ok (.iconst 0, 1) := by decide +kernel
theorem d_Md_made_49 : decode prog_10_method_6_code 49 = .ok (.istore 4, 2) := by decide +kernel
theorem d_Md_made_51 : decode prog_10_method_6_code 51 = .ok (.iload 4, 2) := by decide +kernel
theorem d_Md_made_53 : decode prog_10_method_6_code 53 = .ok (.iconst 4, 1) := by decide +kernel
theorem d_Md_made_54 : decode prog_10_method_6_code 54 = .ok (.if_icmp .ge 24, 3) := by decide +kernel
theorem d_Md_made_57 : decode prog_10_method_6_code 57 = .ok (.aload_n 0, 1) := by decide +kernel
theorem d_Md_made_58 : decode prog_10_method_6_code 58 = .ok (.getfield 26, 3) := by decide +kernel
theorem d_Md_made_61 : decode prog_10_method_6_code 61 = .ok (.iconst 4, 1) := by decide +kernel
theorem d_Md_made_62 : decode prog_10_method_6_code 62 = .ok (.aload_n 0, 1) := by decide +kernel
theorem d_Md_made_63 : decode prog_10_method_6_code 63 = .ok (.getfield 77, 3) := by decide +kernel
theorem d_Md_made_66 : decode prog_10_method_6_code 66 = .ok (.imul, 1) := by decide +kernel
theorem d_Md_made_67 : decode prog_10_method_6_code 67 = .ok (.iload 4, 2) := by decide +kernel
theorem d_Md_made_69 : decode prog_10_method_6_code 69 = .ok (.iadd, 1) := by decide +kernel
theorem d_Md_made_70 : decode prog_10_method_6_code 70 = .ok (.iconst (-1), 1) := by decide +kernel
theorem d_Md_made_71 : decode prog_10_method_6_code 71 = .ok (.iastore, 1) := by decide +kernel
theorem d_Md_made_72 : decode prog_10_method_6_code 72 = .ok (.iinc 4 1, 3) := by decide +kernel
theorem d_Md_made_75 : decode prog_10_method_6_code 75 = .ok (.goto (-24), 3) := by decide +kernel
theorem d_Md_made_78 : decode prog_10_method_6_code 78 = .ok (.aload_n 0, 1) := by decide +kernel
theorem d_Md_made_79 : decode prog_10_method_6_code 79 = .ok (.dup, 1) := by decide +kernel
theorem d_Md_made_80 : decode prog_10_method_6_code 80 = .ok (.getfield 77, 3) := by decide +kernel
theorem d_Md_made_83 : decode prog_10_method_6_code 83 = .ok (.iconst 1, 1) := by decide +kernel
theorem d_Md_made_84 : decode prog_10_method_6_code 84 = .ok (.iadd, 1) := by decide +kernel
theorem d_Md_made_85 : decode prog_10_method_6_code 85 = .ok (.putfield 77, 3) := by decide +kernel
theorem d_Md_made_88 : decode prog_10_method_6_code 88 = .ok (.aload_n 0, 1) := by decide +kernel
theorem d_Md_made_89 : decode prog_10_method_6_code 89 = .ok (.getfield 77, 3) := by decide +kernel
theorem d_Md_made_92 : decode prog_10_method_6_code 92 = .ok (.iconst 1, 1) := by decide +kernel
theorem d_Md_made_93 : decode prog_10_method_6_code 93 = .ok (.isub, 1) := by decide +kernel
theorem d_Md_made_94 : decode prog_10_method_6_code 94 = .ok (.ireturn, 1) := by decide +kernel
theorem d_Md_append_0 : decode prog_10_method_7_code 0 = .ok (.aload_n 0, 1) := by decide +kernel
theorem d_Md_append_1 : decode prog_10_method_7_code 1 = .ok (.getfield 23, 3) := by decide +kernel
theorem d_Md_append_4 : decode prog_10_method_7_code 4 = .ok (.bipush 40, 2) := by decide +kernel
theorem d_Md_append_6 : decode prog_10_method_7_code 6 = .ok (.iload_n 1, 1) := by decide +kernel
theorem d_Md_append_7 : decode prog_10_method_7_code 7 = .ok (.imul, 1) := by decide +kernel
theorem d_Md_append_8 : decode prog_10_method_7_code 8 = .ok (.aload_n 0, 1) := by decide +kernel
theorem d_Md_append_9 : decode prog_10_method_7_code 9 = .ok (.getfield 20, 3) := by decide +kernel
theorem d_Md_append_12 : decode prog_10_method_7_code 12 = .ok (.iload_n 1, 1) := by decide +kernel
theorem d_Md_append_13 : decode prog_10_method_7_code 13 = .ok (.iaload, 1) := by decide +kernel
theorem d_Md_append_14 : decode prog_10_method_7_code 14 = .ok (.iadd, 1) := by decide +kernel
theorem d_Md_append_15 : decode prog_10_method_7_code 15 = .ok (.iload_n 2, 1) := by decide +kernel
theorem d_Md_append_16 : decode prog_10_method_7_code 16 = .ok (.iastore, 1) := by decide +kernel
theorem d_Md_append_17 : decode prog_10_method_7_code 17 = .ok (.aload_n 0, 1) := by decide +kernel
theorem d_Md_append_18 : decode prog_10_method_7_code 18 = .ok (.getfield 20, 3) := by decide +kernel
theorem d_Md_append_21 : decode prog_10_method_7_code 21 = .ok (.iload_n 1, 1) := by decide +kernel
theorem d_Md_append_22 : decode prog_10_method_7_code 22 = .ok (.dup2, 1) := by decide +kernel
theorem d_Md_append_23 : decode prog_10_method_7_code 23 = .ok (.iaload, 1) := by decide +kernel
theorem d_Md_append_24 : decode prog_10_method_7_code 24 = .ok (.iconst 1, 1) := by decide +kernel
theorem d_Md_append_25 : decode prog_10_method_7_code 25 = .ok (.iadd, 1) := by decide +kernel
theorem d_Md_append_26 : decode prog_10_method_7_code 26 = .ok (.iastore, 1) := by decide +kernel
theorem d_Md_append_27 : decode prog_10_method_7_code 27 = .ok (.return_, 1) := by decide +kernel
theorem d_Md_node_0 : decode prog_10_method_8_code 0 = .ok (.aload_n 0, 1) := by decide +kernel
theorem d_Md_node_1 : decode prog_10_method_8_code 1 = .ok (.getfield 77, 3) := by decide +kernel
theorem d_Md_node_4 : decode prog_10_method_8_code 4 = .ok (.ifCond .ne 16, 3) := by decide +kernel
theorem d_Md_node_7 : decode prog_10_method_8_code 7 = .ok (.iload_n 1, 1) := by decide +kernel
theorem d_Md_node_8 : decode prog_10_method_8_code 8 = .ok (.iconst (-1), 1) := by decide +kernel
theorem d_Md_node_9 : decode prog_10_method_8_code 9 = .ok (.if_icmp .ne 7, 3) := by decide +kernel
theorem d_Md_node_12 : decode prog_10_method_8_code 12 = .ok (.iconst 1, 1) := by decide +kernel
theorem d_Md_node_13 : decode prog_10_method_8_code 13 = .ok (.goto 12, 3) := by decide +kernel
theorem d_Md_node_16 : decode prog_10_method_8_code 16 = .ok (.iconst 0, 1) := by decide +kernel
theorem d_Md_node_17 : decode prog_10_method_8_code 17 = .ok (.goto 8, 3) := by decide +kernel
theorem d_Md_node_20 : decode prog_10_method_8_code 20 = .ok (.aload_n 0, 1) := by decide +kernel
theorem d_Md_node_21 : decode prog_10_method_8_code 21 = .ok (.iload_n 1, 1) := by decide +kernel
theorem d_Md_node_22 : decode prog_10_method_8_code 22 = .ok (.invokevirtual 85, 3) := by decide +kernel
theorem d_Md_node_25 : decode prog_10_method_8_code 25 = .ok (.istore_n 3, 1) := by decide +kernel
theorem d_Md_node_26 : decode prog_10_method_8_code 26 = .ok (.iload_n 3, 1) := by decide +kernel
theorem d_Md_node_27 : decode prog_10_method_8_code 27 = .ok (.ifCond .ne 5, 3) := by decide +kernel
theorem d_Md_node_30 : decode prog_10_method_8_code 30 = .ok (.iconst (-1), 1) := by decide +kernel
theorem d_Md_node_31 : decode prog_10_method_8_code 31 = .ok (.ireturn, 1) := by decide +kernel
theorem d_Md_node_32 : decode prog_10_method_8_code 32 = .ok (.aload_n 0, 1) := by decide +kernel
theorem d_Md_node_33 : decode prog_10_method_8_code 33 = .ok (.getfield 77, 3) := by decide +kernel
theorem d_Md_node_36 : decode prog_10_method_8_code 36 = .ok (.sipush 200, 3) := by decide +kernel
theorem d_Md_node_39 : decode prog_10_method_8_code 39 = .ok (.if_icmp .eq 21, 3) := by decide +kernel
theorem d_Md_node_42 : decode prog_10_method_8_code 42 = .ok (.aload_n 0, 1) := by decide +kernel
theorem d_Md_node_43 : decode prog_10_method_8_code 43 = .ok (.getfield 77, 3) := by decide +kernel
theorem d_Md_node_46 : decode prog_10_method_8_code 46 = .ok (.ifCond .le 17, 3) := by decide +kernel
theorem d_Md_node_49 : decode prog_10_method_8_code 49 = .ok (.aload_n 0, 1) := by decide +kernel
theorem d_Md_node_50 : decode prog_10_method_8_code 50 = .ok (.getfield 20, 3) := by decide +kernel
theorem d_Md_node_53 : decode prog_10_method_8_code 53 = .ok (.iload_n 1, 1) := by decide +kernel
theorem d_Md_node_54 : decode prog_10_method_8_code 54 = .ok (.iaload, 1) := by decide +kernel
theorem d_Md_node_55 : decode prog_10_method_8_code 55 = .ok (.bipush 40, 2) := by decide +kernel
theorem d_Md_node_57 : decode prog_10_method_8_code 57 = .ok (.if_icmp .ne 6, 3) := by decide +kernel
theorem d_Md_node_60 : decode prog_10_method_8_code 60 = .ok (.bipush (-4), 2) := by decide +kernel
theorem d_Md_node_62 : decode prog_10_method_8_code 62 = .ok (.ireturn, 1) := by decide +kernel
theorem d_Md_node_63 : decode prog_10_method_8_code 63 = .ok (.aload_n 0, 1) := by decide +kernel
theorem d_Md_node_64 : decode prog_10_method_8_code 64 = .ok (.iconst 0, 1) := by decide +kernel
theorem d_Md_node_65 : decode prog_10_method_8_code 65 = .ok (.iload_n 1, 1) := by decide +kernel
theorem d_Md_node_66 : decode prog_10_method_8_code 66 = .ok (.iload_n 2, 1) := by decide +kernel
theorem d_Md_node_67 : decode prog_10_method_8_code 67 = .ok (.invokevirtual 88, 3) := by decide +kernel
theorem d_Md_node_70 : decode prog_10_method_8_code 70 = .ok (.istore 4, 2) := by decide +kernel
theorem d_Md_node_72 : decode prog_10_method_8_code 72 = .ok (.iload 4, 2) := by decide +kernel
theorem d_Md_node_74 : decode prog_10_method_8_code 74 = .ok (.ifCond .le 10, 3) := by decide +kernel
theorem d_Md_node_77 : decode prog_10_method_8_code 77 = .ok (.aload_n 0, 1) := by decide +kernel
theorem d_Md_node_78 : decode prog_10_method_8_code 78 = .ok (.iload_n 1, 1) := by decide +kernel
theorem d_Md_node_79 : decode prog_10_method_8_code 79 = .ok (.iload 4, 2) := by decide +kernel
theorem d_Md_node_81 : decode prog_10_method_8_code 81 = .ok (.invokevirtual 92, 3) := by decide +kernel
theorem d_Md_node_84 : decode prog_10_method_8_code 84 = .ok (.iload 4, 2) := by decide +kernel
theorem d_Md_node_86 : decode prog_10_method_8_code 86 = .ok (.ireturn, 1) := by decide +kernel
theorem d_Md_page_0 : decode prog_10_method_9_code 0 = .ok (.aload_n 0, 1) := by decide +kernel
theorem d_Md_page_1 : decode prog_10_method_9_code 1 = .ok (.iload_n 1, 1) := by decide +kernel
theorem d_Md_page_2 : decode prog_10_method_9_code 2 = .ok (.invokevirtual 85, 3) := by decide +kernel
theorem d_Md_page_5 : decode prog_10_method_9_code 5 = .ok (.ifCond .ne 5, 3) := by decide +kernel
theorem d_Md_page_8 : decode prog_10_method_9_code 8 = .ok (.iconst (-1), 1) := by decide +kernel
theorem d_Md_page_9 : decode prog_10_method_9_code 9 = .ok (.ireturn, 1) := by decide +kernel
theorem d_Md_page_10 : decode prog_10_method_9_code 10 = .ok (.aload_n 0, 1) := by decide +kernel
theorem d_Md_page_11 : decode prog_10_method_9_code 11 = .ok (.getfield 77, 3) := by decide +kernel
theorem d_Md_page_14 : decode prog_10_method_9_code 14 = .ok (.sipush 200, 3) := by decide +kernel
theorem d_Md_page_17 : decode prog_10_method_9_code 17 = .ok (.if_icmp .eq 14, 3) := by decide +kernel
theorem d_Md_page_20 : decode prog_10_method_9_code 20 = .ok (.aload_n 0, 1) := by decide +kernel
theorem d_Md_page_21 : decode prog_10_method_9_code 21 = .ok (.getfield 20, 3) := by decide +kernel
theorem d_Md_page_24 : decode prog_10_method_9_code 24 = .ok (.iload_n 1, 1) := by decide +kernel
theorem d_Md_page_25 : decode prog_10_method_9_code 25 = .ok (.iaload, 1) := by decide +kernel
theorem d_Md_page_26 : decode prog_10_method_9_code 26 = .ok (.bipush 40, 2) := by decide +kernel
theorem d_Md_page_28 : decode prog_10_method_9_code 28 = .ok (.if_icmp .ne 6, 3) := by decide +kernel
theorem d_Md_page_31 : decode prog_10_method_9_code 31 = .ok (.bipush (-4), 2) := by decide +kernel
theorem d_Md_page_33 : decode prog_10_method_9_code 33 = .ok (.ireturn, 1) := by decide +kernel
theorem d_Md_page_34 : decode prog_10_method_9_code 34 = .ok (.aload_n 0, 1) := by decide +kernel
theorem d_Md_page_35 : decode prog_10_method_9_code 35 = .ok (.iconst 1, 1) := by decide +kernel
theorem d_Md_page_36 : decode prog_10_method_9_code 36 = .ok (.iload_n 1, 1) := by decide +kernel
theorem d_Md_page_37 : decode prog_10_method_9_code 37 = .ok (.iconst 0, 1) := by decide +kernel
theorem d_Md_page_38 : decode prog_10_method_9_code 38 = .ok (.invokevirtual 88, 3) := by decide +kernel
theorem d_Md_page_41 : decode prog_10_method_9_code 41 = .ok (.istore_n 2, 1) := by decide +kernel
theorem d_Md_page_42 : decode prog_10_method_9_code 42 = .ok (.aload_n 0, 1) := by decide +kernel
theorem d_Md_page_43 : decode prog_10_method_9_code 43 = .ok (.iload_n 1, 1) := by decide +kernel
theorem d_Md_page_44 : decode prog_10_method_9_code 44 = .ok (.iload_n 2, 1) := by decide +kernel
theorem d_Md_page_45 : decode prog_10_method_9_code 45 = .ok (.invokevirtual 92, 3) := by decide +kernel
theorem d_Md_page_48 : decode prog_10_method_9_code 48 = .ok (.iload_n 2, 1) := by decide +kernel
theorem d_Md_page_49 : decode prog_10_method_9_code 49 = .ok (.ireturn, 1) := by decide +kernel
theorem d_Md_list_0 : decode prog_10_method_10_code 0 = .ok (.aload_n 0, 1) := by decide +kernel
theorem d_Md_list_1 : decode prog_10_method_10_code 1 = .ok (.iload_n 1, 1) := by decide +kernel
theorem d_Md_list_2 : decode prog_10_method_10_code 2 = .ok (.invokevirtual 85, 3) := by decide +kernel
theorem d_Md_list_5 : decode prog_10_method_10_code 5 = .ok (.ifCond .eq 11, 3) := by decide +kernel
theorem d_Md_list_8 : decode prog_10_method_10_code 8 = .ok (.aload_n 0, 1) := by decide +kernel
theorem d_Md_list_9 : decode prog_10_method_10_code 9 = .ok (.iload_n 2, 1) := by decide +kernel
theorem d_Md_list_10 : decode prog_10_method_10_code 10 = .ok (.invokevirtual 81, 3) := by decide +kernel
theorem d_Md_list_13 : decode prog_10_method_10_code 13 = .ok (.ifCond .ne 5, 3) := by decide +kernel
theorem d_Md_list_16 : decode prog_10_method_10_code 16 = .ok (.iconst (-1), 1) := by decide +kernel
theorem d_Md_list_17 : decode prog_10_method_10_code 17 = .ok (.ireturn, 1) := by decide +kernel
theorem d_Md_list_18 : decode prog_10_method_10_code 18 = .ok (.aload_n 0, 1) := by decide +kernel
theorem d_Md_list_19 : decode prog_10_method_10_code 19 = .ok (.getfield 20, 3) := by decide +kernel
theorem d_Md_list_22 : decode prog_10_method_10_code 22 = .ok (.iload_n 1, 1) := by decide +kernel
theorem d_Md_list_23 : decode prog_10_method_10_code 23 = .ok (.iaload, 1) := by decide +kernel
theorem d_Md_list_24 : decode prog_10_method_10_code 24 = .ok (.bipush 40, 2) := by decide +kernel
theorem d_Md_list_26 : decode prog_10_method_10_code 26 = .ok (.if_icmp .ne 6, 3) := by decide +kernel
theorem d_Md_list_29 : decode prog_10_method_10_code 29 = .ok (.bipush (-4), 2) := by decide +kernel
theorem d_Md_list_31 : decode prog_10_method_10_code 31 = .ok (.ireturn, 1) := by decide +kernel
theorem d_Md_list_32 : decode prog_10_method_10_code 32 = .ok (.aload_n 0, 1) := by decide +kernel
theorem d_Md_list_33 : decode prog_10_method_10_code 33 = .ok (.iload_n 1, 1) := by decide +kernel
theorem d_Md_list_34 : decode prog_10_method_10_code 34 = .ok (.iload_n 2, 1) := by decide +kernel
theorem d_Md_list_35 : decode prog_10_method_10_code 35 = .ok (.invokevirtual 92, 3) := by decide +kernel
theorem d_Md_list_38 : decode prog_10_method_10_code 38 = .ok (.aload_n 0, 1) := by decide +kernel
theorem d_Md_list_39 : decode prog_10_method_10_code 39 = .ok (.getfield 20, 3) := by decide +kernel
theorem d_Md_list_42 : decode prog_10_method_10_code 42 = .ok (.iload_n 1, 1) := by decide +kernel
theorem d_Md_list_43 : decode prog_10_method_10_code 43 = .ok (.iaload, 1) := by decide +kernel
theorem d_Md_list_44 : decode prog_10_method_10_code 44 = .ok (.ireturn, 1) := by decide +kernel
theorem d_Md_within_0 : decode prog_10_method_5_code 0 = .ok (.iload_n 0, 1) := by decide +kernel
theorem d_Md_within_1 : decode prog_10_method_5_code 1 = .ok (.iload_n 1, 1) := by decide +kernel
theorem d_Md_within_2 : decode prog_10_method_5_code 2 = .ok (.if_icmp .lt 12, 3) := by decide +kernel
theorem d_Md_within_5 : decode prog_10_method_5_code 5 = .ok (.iload_n 0, 1) := by decide +kernel
theorem d_Md_within_6 : decode prog_10_method_5_code 6 = .ok (.iload_n 2, 1) := by decide +kernel
theorem d_Md_within_7 : decode prog_10_method_5_code 7 = .ok (.if_icmp .gt 7, 3) := by decide +kernel
theorem d_Md_within_10 : decode prog_10_method_5_code 10 = .ok (.iconst 1, 1) := by decide +kernel
theorem d_Md_within_11 : decode prog_10_method_5_code 11 = .ok (.goto 4, 3) := by decide +kernel
theorem d_Md_within_14 : decode prog_10_method_5_code 14 = .ok (.iconst 0, 1) := by decide +kernel
theorem d_Md_within_15 : decode prog_10_method_5_code 15 = .ok (.ireturn, 1) := by decide +kernel
theorem d_Md_inherit_0 : decode prog_10_method_11_code 0 = .ok (.aload_n 0, 1) := by decide +kernel
theorem d_Md_inherit_1 : decode prog_10_method_11_code 1 = .ok (.iload_n 1, 1) := by decide +kernel
theorem d_Md_inherit_2 : decode prog_10_method_11_code 2 = .ok (.invokevirtual 81, 3) := by decide +kernel
theorem d_Md_inherit_5 : decode prog_10_method_11_code 5 = .ok (.ifCond .ne 5, 3) := by decide +kernel
theorem d_Md_inherit_8 : decode prog_10_method_11_code 8 = .ok (.iconst (-1), 1) := by decide +kernel
theorem d_Md_inherit_9 : decode prog_10_method_11_code 9 = .ok (.ireturn, 1) := by decide +kernel
theorem d_Md_inherit_10 : decode prog_10_method_11_code 10 = .ok (.iload_n 2, 1) := by decide +kernel
theorem d_Md_inherit_11 : decode prog_10_method_11_code 11 = .ok (.iconst 0, 1) := by decide +kernel
theorem d_Md_inherit_12 : decode prog_10_method_11_code 12 = .ok (.iconst 3, 1) := by decide +kernel
theorem d_Md_inherit_13 : decode prog_10_method_11_code 13 = .ok (.invokestatic 96, 3) := by decide +kernel
theorem d_Md_inherit_16 : decode prog_10_method_11_code 16 = .ok (.ifCond .eq 13, 3) := by decide +kernel
theorem d_Md_inherit_19 : decode prog_10_method_11_code 19 = .ok (.iload_n 3, 1) := by decide +kernel
theorem d_Md_inherit_20 : decode prog_10_method_11_code 20 = .ok (.iconst (-1), 1) := by decide +kernel
theorem d_Md_inherit_21 : decode prog_10_method_11_code 21 = .ok (.ldc 100, 2) := by decide +kernel
theorem d_Md_inherit_23 : decode prog_10_method_11_code 23 = .ok (.invokestatic 96, 3) := by decide +kernel
theorem d_Md_inherit_26 : decode prog_10_method_11_code 26 = .ok (.ifCond .ne 6, 3) := by decide +kernel
theorem d_Md_inherit_29 : decode prog_10_method_11_code 29 = .ok (.bipush (-2), 2) := by decide +kernel
theorem d_Md_inherit_31 : decode prog_10_method_11_code 31 = .ok (.ireturn, 1) := by decide +kernel
theorem d_Md_inherit_32 : decode prog_10_method_11_code 32 = .ok (.aload_n 0, 1) := by decide +kernel
theorem d_Md_inherit_33 : decode prog_10_method_11_code 33 = .ok (.getfield 26, 3) := by decide +kernel
theorem d_Md_inherit_36 : decode prog_10_method_11_code 36 = .ok (.iconst 4, 1) := by decide +kernel
theorem d_Md_inherit_37 : decode prog_10_method_11_code 37 = .ok (.iload_n 1, 1) := by decide +kernel
theorem d_Md_inherit_38 : decode prog_10_method_11_code 38 = .ok (.imul, 1) := by decide +kernel
theorem d_Md_inherit_39 : decode prog_10_method_11_code 39 = .ok (.iload_n 2, 1) := by decide +kernel
theorem d_Md_inherit_40 : decode prog_10_method_11_code 40 = .ok (.iadd, 1) := by decide +kernel
theorem d_Md_inherit_41 : decode prog_10_method_11_code 41 = .ok (.iload_n 3, 1) := by decide +kernel
theorem d_Md_inherit_42 : decode prog_10_method_11_code 42 = .ok (.iastore, 1) := by decide +kernel
theorem d_Md_inherit_43 : decode prog_10_method_11_code 43 = .ok (.iconst 1, 1) := by decide +kernel
theorem d_Md_inherit_44 : decode prog_10_method_11_code 44 = .ok (.ireturn, 1) := by decide +kernel
theorem d_Md_valueOf_0 : decode prog_10_method_12_code 0 = .ok (.iload_n 1, 1) := by decide +kernel
theorem d_Md_valueOf_1 : decode prog_10_method_12_code 1 = .ok (.istore_n 3, 1) := by decide +kernel
theorem d_Md_valueOf_2 : decode prog_10_method_12_code 2 = .ok (.iconst 0, 1) := by decide +kernel
theorem d_Md_valueOf_3 : decode prog_10_method_12_code 3 = .ok (.istore 4, 2) := by decide +kernel
theorem d_Md_valueOf_5 : decode prog_10_method_12_code 5 = .ok (.iload_n 3, 1) := by decide +kernel
theorem d_Md_valueOf_6 : decode prog_10_method_12_code 6 = .ok (.ifCond .lt 38, 3) := by decide +kernel
theorem d_Md_valueOf_9 : decode prog_10_method_12_code 9 = .ok (.aload_n 0, 1) := by decide +kernel
theorem d_Md_valueOf_10 : decode prog_10_method_12_code 10 = .ok (.getfield 26, 3) := by decide +kernel
theorem d_Md_valueOf_13 : decode prog_10_method_12_code 13 = .ok (.iconst 4, 1) := by decide +kernel
theorem d_Md_valueOf_14 : decode prog_10_method_12_code 14 = .ok (.iload_n 3, 1) := by decide +kernel
theorem d_Md_valueOf_15 : decode prog_10_method_12_code 15 = .ok (.imul, 1) := by decide +kernel
theorem d_Md_valueOf_16 : decode prog_10_method_12_code 16 = .ok (.iload_n 2, 1) := by decide +kernel
theorem d_Md_valueOf_17 : decode prog_10_method_12_code 17 = .ok (.iadd, 1) := by decide +kernel
theorem d_Md_valueOf_18 : decode prog_10_method_12_code 18 = .ok (.iaload, 1) := by decide +kernel
theorem d_Md_valueOf_19 : decode prog_10_method_12_code 19 = .ok (.iconst (-1), 1) := by decide +kernel
theorem d_Md_valueOf_20 : decode prog_10_method_12_code 20 = .ok (.if_icmp .ne 24, 3) := by decide +kernel
theorem d_Md_valueOf_23 : decode prog_10_method_12_code 23 = .ok (.iload 4, 2) := by decide +kernel
theorem d_Md_valueOf_25 : decode prog_10_method_12_code 25 = .ok (.sipush 200, 3) := by decide +kernel
theorem d_Md_valueOf_28 : decode prog_10_method_12_code 28 = .ok (.if_icmp .ge 16, 3) := by decide +kernel
theorem d_Md_valueOf_31 : decode prog_10_method_12_code 31 = .ok (.aload_n 0, 1) := by decide +kernel
theorem d_Md_valueOf_32 : decode prog_10_method_12_code 32 = .ok (.getfield 13, 3) := by decide +kernel
theorem d_Md_valueOf_35 : decode prog_10_method_12_code 35 = .ok (.iload_n 3, 1) := by decide +kernel
theorem d_Md_valueOf_36 : decode prog_10_method_12_code 36 = .ok (.iaload, 1) := by decide +kernel
theorem d_Md_valueOf_37 : decode prog_10_method_12_code 37 = .ok (.istore_n 3, 1) := by decide +kernel
theorem d_Md_valueOf_38 : decode prog_10_method_12_code 38 = .ok (.iinc 4 1, 3) := by decide +kernel
theorem d_Md_valueOf_41 : decode prog_10_method_12_code 41 = .ok (.goto (-36), 3) := by decide +kernel
theorem d_Md_valueOf_44 : decode prog_10_method_12_code 44 = .ok (.iload_n 3, 1) := by decide +kernel
theorem d_Md_valueOf_45 : decode prog_10_method_12_code 45 = .ok (.ifCond .ge 7, 3) := by decide +kernel
theorem d_Md_valueOf_48 : decode prog_10_method_12_code 48 = .ok (.iconst (-1), 1) := by decide +kernel
theorem d_Md_valueOf_49 : decode prog_10_method_12_code 49 = .ok (.goto 13, 3) := by decide +kernel
theorem d_Md_valueOf_52 : decode prog_10_method_12_code 52 = .ok (.aload_n 0, 1) := by decide +kernel
theorem d_Md_valueOf_53 : decode prog_10_method_12_code 53 = .ok (.getfield 26, 3) := by decide +kernel
theorem d_Md_valueOf_56 : decode prog_10_method_12_code 56 = .ok (.iconst 4, 1) := by decide +kernel
theorem d_Md_valueOf_57 : decode prog_10_method_12_code 57 = .ok (.iload_n 3, 1) := by decide +kernel
theorem d_Md_valueOf_58 : decode prog_10_method_12_code 58 = .ok (.imul, 1) := by decide +kernel
theorem d_Md_valueOf_59 : decode prog_10_method_12_code 59 = .ok (.iload_n 2, 1) := by decide +kernel
theorem d_Md_valueOf_60 : decode prog_10_method_12_code 60 = .ok (.iadd, 1) := by decide +kernel
theorem d_Md_valueOf_61 : decode prog_10_method_12_code 61 = .ok (.iaload, 1) := by decide +kernel
theorem d_Md_valueOf_62 : decode prog_10_method_12_code 62 = .ok (.ireturn, 1) := by decide +kernel
theorem d_Md_of_0 : decode prog_10_method_13_code 0 = .ok (.aload_n 0, 1) := by decide +kernel
theorem d_Md_of_1 : decode prog_10_method_13_code 1 = .ok (.iload_n 1, 1) := by decide +kernel
theorem d_Md_of_2 : decode prog_10_method_13_code 2 = .ok (.invokevirtual 81, 3) := by decide +kernel
theorem d_Md_of_5 : decode prog_10_method_13_code 5 = .ok (.ifCond .eq 12, 3) := by decide +kernel
theorem d_Md_of_8 : decode prog_10_method_13_code 8 = .ok (.aload_n 0, 1) := by decide +kernel
theorem d_Md_of_9 : decode prog_10_method_13_code 9 = .ok (.getfield 7, 3) := by decide +kernel
theorem d_Md_of_12 : decode prog_10_method_13_code 12 = .ok (.iload_n 1, 1) := by decide +kernel
theorem d_Md_of_13 : decode prog_10_method_13_code 13 = .ok (.baload, 1) := by decide +kernel
theorem d_Md_of_14 : decode prog_10_method_13_code 14 = .ok (.ifCond .ne 5, 3) := by decide +kernel
theorem d_Md_of_17 : decode prog_10_method_13_code 17 = .ok (.iconst (-1), 1) := by decide +kernel
theorem d_Md_of_18 : decode prog_10_method_13_code 18 = .ok (.ireturn, 1) := by decide +kernel
theorem d_Md_of_19 : decode prog_10_method_13_code 19 = .ok (.iload_n 2, 1) := by decide +kernel
theorem d_Md_of_20 : decode prog_10_method_13_code 20 = .ok (.iconst 0, 1) := by decide +kernel
theorem d_Md_of_21 : decode prog_10_method_13_code 21 = .ok (.iconst 3, 1) := by decide +kernel
theorem d_Md_of_22 : decode prog_10_method_13_code 22 = .ok (.invokestatic 96, 3) := by decide +kernel
theorem d_Md_of_25 : decode prog_10_method_13_code 25 = .ok (.ifCond .eq 12, 3) := by decide +kernel
theorem d_Md_of_28 : decode prog_10_method_13_code 28 = .ok (.aload_n 0, 1) := by decide +kernel
theorem d_Md_of_29 : decode prog_10_method_13_code 29 = .ok (.iload_n 1, 1) := by decide +kernel
theorem d_Md_of_30 : decode prog_10_method_13_code 30 = .ok (.iload_n 2, 1) := by decide +kernel
theorem d_Md_of_31 : decode prog_10_method_13_code 31 = .ok (.invokevirtual 101, 3) := by decide +kernel
theorem d_Md_of_34 : decode prog_10_method_13_code 34 = .ok (.goto 5, 3) := by decide +kernel
theorem d_Md_of_37 : decode prog_10_method_13_code 37 = .ok (.bipush (-2), 2) := by decide +kernel
theorem d_Md_of_39 : decode prog_10_method_13_code 39 = .ok (.ireturn, 1) := by decide +kernel
theorem d_Md_goInto_0 : decode prog_10_method_15_code 0 = .ok (.aload_n 0, 1) := by decide +kernel
theorem d_Md_goInto_1 : decode prog_10_method_15_code 1 = .ok (.getfield 35, 3) := by decide +kernel
theorem d_Md_goInto_4 : decode prog_10_method_15_code 4 = .ok (.iload_n 1, 1) := by decide +kernel
theorem d_Md_goInto_5 : decode prog_10_method_15_code 5 = .ok (.iconst 1, 1) := by decide +kernel
theorem d_Md_goInto_6 : decode prog_10_method_15_code 6 = .ok (.bastore, 1) := by decide +kernel
theorem d_Md_goInto_7 : decode prog_10_method_15_code 7 = .ok (.aload_n 0, 1) := by decide +kernel
theorem d_Md_goInto_8 : decode prog_10_method_15_code 8 = .ok (.getfield 29, 3) := by decide +kernel
theorem d_Md_goInto_11 : decode prog_10_method_15_code 11 = .ok (.aload_n 0, 1) := by decide +kernel
theorem d_Md_goInto_12 : decode prog_10_method_15_code 12 = .ok (.getfield 108, 3) := by decide +kernel
theorem d_Md_goInto_15 : decode prog_10_method_15_code 15 = .ok (.iload_n 1, 1) := by decide +kernel
theorem d_Md_goInto_16 : decode prog_10_method_15_code 16 = .ok (.iastore, 1) := by decide +kernel
theorem d_Md_goInto_17 : decode prog_10_method_15_code 17 = .ok (.aload_n 0, 1) := by decide +kernel
theorem d_Md_goInto_18 : decode prog_10_method_15_code 18 = .ok (.getfield 32, 3) := by decide +kernel
theorem d_Md_goInto_21 : decode prog_10_method_15_code 21 = .ok (.aload_n 0, 1) := by decide +kernel
theorem d_Md_goInto_22 : decode prog_10_method_15_code 22 = .ok (.getfield 108, 3) := by decide +kernel
theorem d_Md_goInto_25 : decode prog_10_method_15_code 25 = .ok (.iconst 0, 1) := by decide +kernel
theorem d_Md_goInto_26 : decode prog_10_method_15_code 26 = .ok (.iastore, 1) := by decide +kernel
theorem d_Md_goInto_27 : decode prog_10_method_15_code 27 = .ok (.aload_n 0, 1) := by decide +kernel
theorem d_Md_goInto_28 : decode prog_10_method_15_code 28 = .ok (.getfield 47, 3) := by decide +kernel
theorem d_Md_goInto_31 : decode prog_10_method_15_code 31 = .ok (.aload_n 0, 1) := by decide +kernel
theorem d_Md_goInto_32 : decode prog_10_method_15_code 32 = .ok (.getfield 108, 3) := by decide +kernel
theorem d_Md_goInto_35 : decode prog_10_method_15_code 35 = .ok (.iconst 0, 1) := by decide +kernel
theorem d_Md_goInto_36 : decode prog_10_method_15_code 36 = .ok (.iastore, 1) := by decide +kernel
theorem d_Md_goInto_37 : decode prog_10_method_15_code 37 = .ok (.aload_n 0, 1) := by decide +kernel
theorem d_Md_goInto_38 : decode prog_10_method_15_code 38 = .ok (.dup, 1) := by decide +kernel
theorem d_Md_goInto_39 : decode prog_10_method_15_code 39 = .ok (.getfield 108, 3) := by decide +kernel
theorem d_Md_goInto_42 : decode prog_10_method_15_code 42 = .ok (.iconst 1, 1) := by decide +kernel
theorem d_Md_goInto_43 : decode prog_10_method_15_code 43 = .ok (.iadd, 1) := by decide +kernel
theorem d_Md_goInto_44 : decode prog_10_method_15_code 44 = .ok (.putfield 108, 3) := by decide +kernel
theorem d_Md_goInto_47 : decode prog_10_method_15_code 47 = .ok (.return_, 1) := by decide +kernel
theorem d_Md_begin_0 : decode prog_10_method_14_code 0 = .ok (.aload_n 0, 1) := by decide +kernel
theorem d_Md_begin_1 : decode prog_10_method_14_code 1 = .ok (.iconst 0, 1) := by decide +kernel
theorem d_Md_begin_2 : decode prog_10_method_14_code 2 = .ok (.putfield 105, 3) := by decide +kernel
theorem d_Md_begin_5 : decode prog_10_method_14_code 5 = .ok (.aload_n 0, 1) := by decide +kernel
theorem d_Md_begin_6 : decode prog_10_method_14_code 6 = .ok (.iconst 0, 1) := by decide +kernel
theorem d_Md_begin_7 : decode prog_10_method_14_code 7 = .ok (.putfield 108, 3) := by decide +kernel
theorem d_Md_begin_10 : decode prog_10_method_14_code 10 = .ok (.iconst 0, 1) := by decide +kernel
theorem d_Md_begin_11 : decode prog_10_method_14_code 11 = .ok (.istore_n 1, 1) := by decide +kernel
theorem d_Md_begin_12 : decode prog_10_method_14_code 12 = .ok (.iload_n 1, 1) := by decide +kernel
theorem d_Md_begin_13 : decode prog_10_method_14_code 13 = .ok (.aload_n 0, 1) := by decide +kernel
theorem d_Md_begin_14 : decode prog_10_method_14_code 14 = .ok (.getfield 77, 3) := by decide +kernel
theorem d_Md_begin_17 : decode prog_10_method_14_code 17 = .ok (.if_icmp .ge 16, 3) := by decide +kernel
theorem d_Md_begin_20 : decode prog_10_method_14_code 20 = .ok (.aload_n 0, 1) := by decide +kernel
theorem d_Md_begin_21 : decode prog_10_method_14_code 21 = .ok (.getfield 35, 3) := by decide +kernel
theorem d_Md_begin_24 : decode prog_10_method_14_code 24 = .ok (.iload_n 1, 1) := by decide +kernel
theorem d_Md_begin_25 : decode prog_10_method_14_code 25 = .ok (.iconst 0, 1) := by decide +kernel
theorem d_Md_begin_26 : decode prog_10_method_14_code 26 = .ok (.bastore, 1) := by decide +kernel
theorem d_Md_begin_27 : decode prog_10_method_14_code 27 = .ok (.iinc 1 1, 3) := by decide +kernel
theorem d_Md_begin_30 : decode prog_10_method_14_code 30 = .ok (.goto (-18), 3) := by decide +kernel
theorem d_Md_begin_33 : decode prog_10_method_14_code 33 = .ok (.aload_n 0, 1) := by decide +kernel
theorem d_Md_begin_34 : decode prog_10_method_14_code 34 = .ok (.getfield 77, 3) := by decide +kernel
theorem d_Md_begin_37 : decode prog_10_method_14_code 37 = .ok (.ifCond .le 8, 3) := by decide +kernel
theorem d_Md_begin_40 : decode prog_10_method_14_code 40 = .ok (.aload_n 0, 1) := by decide +kernel
theorem d_Md_begin_41 : decode prog_10_method_14_code 41 = .ok (.iconst 0, 1) := by decide +kernel
theorem d_Md_begin_42 : decode prog_10_method_14_code 42 = .ok (.invokevirtual 111, 3) := by decide +kernel
theorem d_Md_begin_45 : decode prog_10_method_14_code 45 = .ok (.return_, 1) := by decide +kernel
theorem d_Md_goUp_0 : decode prog_10_method_17_code 0 = .ok (.aload_n 0, 1) := by decide +kernel
theorem d_Md_goUp_1 : decode prog_10_method_17_code 1 = .ok (.dup, 1) := by decide +kernel
theorem d_Md_goUp_2 : decode prog_10_method_17_code 2 = .ok (.getfield 108, 3) := by decide +kernel
theorem d_Md_goUp_5 : decode prog_10_method_17_code 5 = .ok (.iconst 1, 1) := by decide +kernel
theorem d_Md_goUp_6 : decode prog_10_method_17_code 6 = .ok (.isub, 1) := by decide +kernel
theorem d_Md_goUp_7 : decode prog_10_method_17_code 7 = .ok (.putfield 108, 3) := by decide +kernel
theorem d_Md_goUp_10 : decode prog_10_method_17_code 10 = .ok (.aload_n 0, 1) := by decide +kernel
theorem d_Md_goUp_11 : decode prog_10_method_17_code 11 = .ok (.getfield 108, 3) := by decide +kernel
theorem d_Md_goUp_14 : decode prog_10_method_17_code 14 = .ok (.ifCond .le 26, 3) := by decide +kernel
theorem d_Md_goUp_17 : decode prog_10_method_17_code 17 = .ok (.aload_n 0, 1) := by decide +kernel
theorem d_Md_goUp_18 : decode prog_10_method_17_code 18 = .ok (.getfield 47, 3) := by decide +kernel
theorem d_Md_goUp_21 : decode prog_10_method_17_code 21 = .ok (.aload_n 0, 1) := by decide +kernel
theorem d_Md_goUp_22 : decode prog_10_method_17_code 22 = .ok (.getfield 108, 3) := by decide +kernel
theorem d_Md_goUp_25 : decode prog_10_method_17_code 25 = .ok (.iconst 1, 1) := by decide +kernel
theorem d_Md_goUp_26 : decode prog_10_method_17_code 26 = .ok (.isub, 1) := by decide +kernel
theorem d_Md_goUp_27 : decode prog_10_method_17_code 27 = .ok (.dup2, 1) := by decide +kernel
theorem d_Md_goUp_28 : decode prog_10_method_17_code 28 = .ok (.iaload, 1) := by decide +kernel
theorem d_Md_goUp_29 : decode prog_10_method_17_code 29 = .ok (.aload_n 0, 1) := by decide +kernel
theorem d_Md_goUp_30 : decode prog_10_method_17_code 30 = .ok (.getfield 47, 3) := by decide +kernel
theorem d_Md_goUp_33 : decode prog_10_method_17_code 33 = .ok (.aload_n 0, 1) := by decide +kernel
theorem d_Md_goUp_34 : decode prog_10_method_17_code 34 = .ok (.getfield 108, 3) := by decide +kernel
theorem d_Md_goUp_37 : decode prog_10_method_17_code 37 = .ok (.iaload, 1) := by decide +kernel
theorem d_Md_goUp_38 : decode prog_10_method_17_code 38 = .ok (.iadd, 1) := by decide +kernel
theorem d_Md_goUp_39 : decode prog_10_method_17_code 39 = .ok (.iastore, 1) := by decide +kernel
theorem d_Md_goUp_40 : decode prog_10_method_17_code 40 = .ok (.return_, 1) := by decide +kernel
theorem d_Md_takePage_0 : decode prog_10_method_16_code 0 = .ok (.aload_n 0, 1) := by decide +kernel
theorem d_Md_takePage_1 : decode prog_10_method_16_code 1 = .ok (.getfield 35, 3) := by decide +kernel
theorem d_Md_takePage_4 : decode prog_10_method_16_code 4 = .ok (.iload_n 1, 1) := by decide +kernel
theorem d_Md_takePage_5 : decode prog_10_method_16_code 5 = .ok (.iconst 1, 1) := by decide +kernel
theorem d_Md_takePage_6 : decode prog_10_method_16_code 6 = .ok (.bastore, 1) := by decide +kernel
theorem d_Md_takePage_7 : decode prog_10_method_16_code 7 = .ok (.aload_n 0, 1) := by decide +kernel
theorem d_Md_takePage_8 : decode prog_10_method_16_code 8 = .ok (.getfield 38, 3) := by decide +kernel
theorem d_Md_takePage_11 : decode prog_10_method_16_code 11 = .ok (.aload_n 0, 1) := by decide +kernel
theorem d_Md_takePage_12 : decode prog_10_method_16_code 12 = .ok (.getfield 105, 3) := by decide +kernel
theorem d_Md_takePage_15 : decode prog_10_method_16_code 15 = .ok (.iload_n 1, 1) := by decide +kernel
theorem d_Md_takePage_16 : decode prog_10_method_16_code 16 = .ok (.iastore, 1) := by decide +kernel
theorem d_Md_takePage_17 : decode prog_10_method_16_code 17 = .ok (.aload_n 0, 1) := by decide +kernel
theorem d_Md_takePage_18 : decode prog_10_method_16_code 18 = .ok (.getfield 41, 3) := by decide +kernel
theorem d_Md_takePage_21 : decode prog_10_method_16_code 21 = .ok (.aload_n 0, 1) := by decide +kernel
theorem d_Md_takePage_22 : decode prog_10_method_16_code 22 = .ok (.getfield 105, 3) := by decide +kernel
theorem d_Md_takePage_25 : decode prog_10_method_16_code 25 = .ok (.aload_n 0, 1) := by decide +kernel
theorem d_Md_takePage_26 : decode prog_10_method_16_code 26 = .ok (.getfield 29, 3) := by decide +kernel
theorem d_Md_takePage_29 : decode prog_10_method_16_code 29 = .ok (.aload_n 0, 1) := by decide +kernel
theorem d_Md_takePage_30 : decode prog_10_method_16_code 30 = .ok (.getfield 108, 3) := by decide +kernel
theorem d_Md_takePage_33 : decode prog_10_method_16_code 33 = .ok (.iconst 1, 1) := by decide +kernel
theorem d_Md_takePage_34 : decode prog_10_method_16_code 34 = .ok (.isub, 1) := by decide +kernel
theorem d_Md_takePage_35 : decode prog_10_method_16_code 35 = .ok (.iaload, 1) := by decide +kernel
theorem d_Md_takePage_36 : decode prog_10_method_16_code 36 = .ok (.iastore, 1) := by decide +kernel
theorem d_Md_takePage_37 : decode prog_10_method_16_code 37 = .ok (.aload_n 0, 1) := by decide +kernel
theorem d_Md_takePage_38 : decode prog_10_method_16_code 38 = .ok (.getfield 44, 3) := by decide +kernel
theorem d_Md_takePage_41 : decode prog_10_method_16_code 41 = .ok (.aload_n 0, 1) := by decide +kernel
theorem d_Md_takePage_42 : decode prog_10_method_16_code 42 = .ok (.getfield 105, 3) := by decide +kernel
theorem d_Md_takePage_45 : decode prog_10_method_16_code 45 = .ok (.aload_n 0, 1) := by decide +kernel
theorem d_Md_takePage_46 : decode prog_10_method_16_code 46 = .ok (.getfield 32, 3) := by decide +kernel
theorem d_Md_takePage_49 : decode prog_10_method_16_code 49 = .ok (.aload_n 0, 1) := by decide +kernel
theorem d_Md_takePage_50 : decode prog_10_method_16_code 50 = .ok (.getfield 108, 3) := by decide +kernel
theorem d_Md_takePage_53 : decode prog_10_method_16_code 53 = .ok (.iconst 1, 1) := by decide +kernel
theorem d_Md_takePage_54 : decode prog_10_method_16_code 54 = .ok (.isub, 1) := by decide +kernel
theorem d_Md_takePage_55 : decode prog_10_method_16_code 55 = .ok (.iaload, 1) := by decide +kernel
theorem d_Md_takePage_56 : decode prog_10_method_16_code 56 = .ok (.iastore, 1) := by decide +kernel
theorem d_Md_takePage_57 : decode prog_10_method_16_code 57 = .ok (.aload_n 0, 1) := by decide +kernel
theorem d_Md_takePage_58 : decode prog_10_method_16_code 58 = .ok (.dup, 1) := by decide +kernel
theorem d_Md_takePage_59 : decode prog_10_method_16_code 59 = .ok (.getfield 105, 3) := by decide +kernel
theorem d_Md_takePage_62 : decode prog_10_method_16_code 62 = .ok (.iconst 1, 1) := by decide +kernel
theorem d_Md_takePage_63 : decode prog_10_method_16_code 63 = .ok (.iadd, 1) := by decide +kernel
theorem d_Md_takePage_64 : decode prog_10_method_16_code 64 = .ok (.putfield 105, 3) := by decide +kernel
theorem d_Md_takePage_67 : decode prog_10_method_16_code 67 = .ok (.aload_n 0, 1) := by decide +kernel
theorem d_Md_takePage_68 : decode prog_10_method_16_code 68 = .ok (.getfield 47, 3) := by decide +kernel
theorem d_Md_takePage_71 : decode prog_10_method_16_code 71 = .ok (.aload_n 0, 1) := by decide +kernel
theorem d_Md_takePage_72 : decode prog_10_method_16_code 72 = .ok (.getfield 108, 3) := by decide +kernel
theorem d_Md_takePage_75 : decode prog_10_method_16_code 75 = .ok (.iconst 1, 1) := by decide +kernel
theorem d_Md_takePage_76 : decode prog_10_method_16_code 76 = .ok (.isub, 1) := by decide +kernel
theorem d_Md_takePage_77 : decode prog_10_method_16_code 77 = .ok (.dup2, 1) := by decide +kernel
theorem d_Md_takePage_78 : decode prog_10_method_16_code 78 = .ok (.iaload, 1) := by decide +kernel
theorem d_Md_takePage_79 : decode prog_10_method_16_code 79 = .ok (.iconst 1, 1) := by decide +kernel
theorem d_Md_takePage_80 : decode prog_10_method_16_code 80 = .ok (.iadd, 1) := by decide +kernel
theorem d_Md_takePage_81 : decode prog_10_method_16_code 81 = .ok (.iastore, 1) := by decide +kernel
theorem d_Md_takePage_82 : decode prog_10_method_16_code 82 = .ok (.return_, 1) := by decide +kernel
theorem d_Md_walk_0 : decode prog_10_method_18_code 0 = .ok (.aload_n 0, 1) := by decide +kernel
theorem d_Md_walk_1 : decode prog_10_method_18_code 1 = .ok (.invokevirtual 115, 3) := by decide +kernel
theorem d_Md_walk_4 : decode prog_10_method_18_code 4 = .ok (.aload_n 0, 1) := by decide +kernel
theorem d_Md_walk_5 : decode prog_10_method_18_code 5 = .ok (.getfield 108, 3) := by decide +kernel
theorem d_Md_walk_8 : decode prog_10_method_18_code 8 = .ok (.ifCond .le 124, 3) := by decide +kernel
theorem d_Md_walk_11 : decode prog_10_method_18_code 11 = .ok (.aload_n 0, 1) := by decide +kernel
theorem d_Md_walk_12 : decode prog_10_method_18_code 12 = .ok (.getfield 29, 3) := by decide +kernel
theorem d_Md_walk_15 : decode prog_10_method_18_code 15 = .ok (.aload_n 0, 1) := by decide +kernel
theorem d_Md_walk_16 : decode prog_10_method_18_code 16 = .ok (.getfield 108, 3) := by decide +kernel
theorem d_Md_walk_19 : decode prog_10_method_18_code 19 = .ok (.iconst 1, 1) := by decide +kernel
theorem d_Md_walk_20 : decode prog_10_method_18_code 20 = .ok (.isub, 1) := by decide +kernel
theorem d_Md_walk_21 : decode prog_10_method_18_code 21 = .ok (.iaload, 1) := by decide +kernel
theorem d_Md_walk_22 : decode prog_10_method_18_code 22 = .ok (.istore_n 1, 1) := by decide +kernel
theorem d_Md_walk_23 : decode prog_10_method_18_code 23 = .ok (.aload_n 0, 1) := by decide +kernel
theorem d_Md_walk_24 : decode prog_10_method_18_code 24 = .ok (.getfield 32, 3) := by decide +kernel
theorem d_Md_walk_27 : decode prog_10_method_18_code 27 = .ok (.aload_n 0, 1) := by decide +kernel
theorem d_Md_walk_28 : decode prog_10_method_18_code 28 = .ok (.getfield 108, 3) := by decide +kernel
theorem d_Md_walk_31 : decode prog_10_method_18_code 31 = .ok (.iconst 1, 1) := by decide +kernel
theorem d_Md_walk_32 : decode prog_10_method_18_code 32 = .ok (.isub, 1) := by decide +kernel
theorem d_Md_walk_33 : decode prog_10_method_18_code 33 = .ok (.iaload, 1) := by decide +kernel
theorem d_Md_walk_34 : decode prog_10_method_18_code 34 = .ok (.aload_n 0, 1) := by decide +kernel
theorem d_Md_walk_35 : decode prog_10_method_18_code 35 = .ok (.getfield 20, 3) := by decide +kernel
theorem d_Md_walk_38 : decode prog_10_method_18_code 38 = .ok (.iload_n 1, 1) := by decide +kernel
theorem d_Md_walk_39 : decode prog_10_method_18_code 39 = .ok (.iaload, 1) := by decide +kernel
theorem d_Md_walk_40 : decode prog_10_method_18_code 40 = .ok (.if_icmp .ne 10, 3) := by decide +kernel
theorem d_Md_walk_43 : decode prog_10_method_18_code 43 = .ok (.aload_n 0, 1) := by decide +kernel
theorem d_Md_walk_44 : decode prog_10_method_18_code 44 = .ok (.invokevirtual 118, 3) := by decide +kernel
theorem d_Md_walk_47 : decode prog_10_method_18_code 47 = .ok (.goto (-43), 3) := by decide +kernel
theorem d_Md_walk_50 : decode prog_10_method_18_code 50 = .ok (.aload_n 0, 1) := by decide +kernel
theorem d_Md_walk_51 : decode prog_10_method_18_code 51 = .ok (.getfield 23, 3) := by decide +kernel
theorem d_Md_walk_54 : decode prog_10_method_18_code 54 = .ok (.bipush 40, 2) := by decide +kernel
theorem d_Md_walk_56 : decode prog_10_method_18_code 56 = .ok (.iload_n 1, 1) := by decide +kernel
theorem d_Md_walk_57 : decode prog_10_method_18_code 57 = .ok (.imul, 1) := by decide +kernel
theorem d_Md_walk_58 : decode prog_10_method_18_code 58 = .ok (.aload_n 0, 1) := by decide +kernel
theorem d_Md_walk_59 : decode prog_10_method_18_code 59 = .ok (.getfield 32, 3) := by decide +kernel
theorem d_Md_walk_62 : decode prog_10_method_18_code 62 = .ok (.aload_n 0, 1) := by decide +kernel
theorem d_Md_walk_63 : decode prog_10_method_18_code 63 = .ok (.getfield 108, 3) := by decide +kernel
theorem d_Md_walk_66 : decode prog_10_method_18_code 66 = .ok (.iconst 1, 1) := by decide +kernel
theorem d_Md_walk_67 : decode prog_10_method_18_code 67 = .ok (.isub, 1) := by decide +kernel
theorem d_Md_walk_68 : decode prog_10_method_18_code 68 = .ok (.iaload, 1) := by decide +kernel
theorem d_Md_walk_69 : decode prog_10_method_18_code 69 = .ok (.iadd, 1) := by decide +kernel
theorem d_Md_walk_70 : decode prog_10_method_18_code 70 = .ok (.iaload, 1) := by decide +kernel
theorem d_Md_walk_71 : decode prog_10_method_18_code 71 = .ok (.istore_n 2, 1) := by decide +kernel
theorem d_Md_walk_72 : decode prog_10_method_18_code 72 = .ok (.aload_n 0, 1) := by decide +kernel
theorem d_Md_walk_73 : decode prog_10_method_18_code 73 = .ok (.getfield 108, 3) := by decide +kernel
theorem d_Md_walk_76 : decode prog_10_method_18_code 76 = .ok (.iconst 1, 1) := by decide +kernel
theorem d_Md_walk_77 : decode prog_10_method_18_code 77 = .ok (.isub, 1) := by decide +kernel
theorem d_Md_walk_78 : decode prog_10_method_18_code 78 = .ok (.istore_n 3, 1) := by decide +kernel
theorem d_Md_walk_79 : decode prog_10_method_18_code 79 = .ok (.aload_n 0, 1) := by decide +kernel
theorem d_Md_walk_80 : decode prog_10_method_18_code 80 = .ok (.getfield 35, 3) := by decide +kernel
theorem d_Md_walk_83 : decode prog_10_method_18_code 83 = .ok (.iload_n 2, 1) := by decide +kernel
theorem d_Md_walk_84 : decode prog_10_method_18_code 84 = .ok (.baload, 1) := by decide +kernel
theorem d_Md_walk_85 : decode prog_10_method_18_code 85 = .ok (.ifCond .ne 20, 3) := by decide +kernel
theorem d_Md_walk_88 : decode prog_10_method_18_code 88 = .ok (.aload_n 0, 1) := by decide +kernel
theorem d_Md_walk_89 : decode prog_10_method_18_code 89 = .ok (.getfield 7, 3) := by decide +kernel
theorem d_Md_walk_92 : decode prog_10_method_18_code 92 = .ok (.iload_n 2, 1) := by decide +kernel
theorem d_Md_walk_93 : decode prog_10_method_18_code 93 = .ok (.baload, 1) := by decide +kernel
theorem d_Md_walk_94 : decode prog_10_method_18_code 94 = .ok (.ifCond .eq 11, 3) := by decide +kernel
theorem d_Md_walk_97 : decode prog_10_method_18_code 97 = .ok (.aload_n 0, 1) := by decide +kernel
theorem d_Md_walk_98 : decode prog_10_method_18_code 98 = .ok (.iload_n 2, 1) := by decide +kernel
theorem d_Md_walk_99 : decode prog_10_method_18_code 99 = .ok (.invokevirtual 121, 3) := by decide +kernel
theorem d_Md_walk_102 : decode prog_10_method_18_code 102 = .ok (.goto 17, 3) := by decide +kernel
theorem d_Md_walk_105 : decode prog_10_method_18_code 105 = .ok (.aload_n 0, 1) := by decide +kernel
theorem d_Md_walk_106 : decode prog_10_method_18_code 106 = .ok (.getfield 35, 3) := by decide +kernel
theorem d_Md_walk_109 : decode prog_10_method_18_code 109 = .ok (.iload_n 2, 1) := by decide +kernel
theorem d_Md_walk_110 : decode prog_10_method_18_code 110 = .ok (.baload, 1) := by decide +kernel
theorem d_Md_walk_111 : decode prog_10_method_18_code 111 = .ok (.ifCond .ne 8, 3) := by decide +kernel
theorem d_Md_walk_114 : decode prog_10_method_18_code 114 = .ok (.aload_n 0, 1) := by decide +kernel
theorem d_Md_walk_115 : decode prog_10_method_18_code 115 = .ok (.iload_n 2, 1) := by decide +kernel
theorem d_Md_walk_116 : decode prog_10_method_18_code 116 = .ok (.invokevirtual 111, 3) := by decide +kernel
theorem d_Md_walk_119 : decode prog_10_method_18_code 119 = .ok (.aload_n 0, 1) := by decide +kernel
theorem d_Md_walk_120 : decode prog_10_method_18_code 120 = .ok (.getfield 32, 3) := by decide +kernel
theorem d_Md_walk_123 : decode prog_10_method_18_code 123 = .ok (.iload_n 3, 1) := by decide +kernel
theorem d_Md_walk_124 : decode prog_10_method_18_code 124 = .ok (.dup2, 1) := by decide +kernel
theorem d_Md_walk_125 : decode prog_10_method_18_code 125 = .ok (.iaload, 1) := by decide +kernel
theorem d_Md_walk_126 : decode prog_10_method_18_code 126 = .ok (.iconst 1, 1) := by decide +kernel
theorem d_Md_walk_127 : decode prog_10_method_18_code 127 = .ok (.iadd, 1) := by decide +kernel
theorem d_Md_walk_128 : decode prog_10_method_18_code 128 = .ok (.iastore, 1) := by decide +kernel
theorem d_Md_walk_129 : decode prog_10_method_18_code 129 = .ok (.goto (-125), 3) := by decide +kernel
theorem d_Md_walk_132 : decode prog_10_method_18_code 132 = .ok (.return_, 1) := by decide +kernel
theorem d_Md_pages_0 : decode prog_10_method_20_code 0 = .ok (.aload_n 0, 1) := by decide +kernel
theorem d_Md_pages_1 : decode prog_10_method_20_code 1 = .ok (.invokevirtual 124, 3) := by decide +kernel
theorem d_Md_pages_4 : decode prog_10_method_20_code 4 = .ok (.aload_n 0, 1) := by decide +kernel
theorem d_Md_pages_5 : decode prog_10_method_20_code 5 = .ok (.getfield 105, 3) := by decide +kernel
theorem d_Md_pages_8 : decode prog_10_method_20_code 8 = .ok (.ireturn, 1) := by decide +kernel
theorem d_Md_at_0 : decode prog_10_method_21_code 0 = .ok (.aload_n 0, 1) := by decide +kernel
theorem d_Md_at_1 : decode prog_10_method_21_code 1 = .ok (.invokevirtual 124, 3) := by decide +kernel
theorem d_Md_at_4 : decode prog_10_method_21_code 4 = .ok (.iload_n 1, 1) := by decide +kernel
theorem d_Md_at_5 : decode prog_10_method_21_code 5 = .ok (.iconst 0, 1) := by decide +kernel
theorem d_Md_at_6 : decode prog_10_method_21_code 6 = .ok (.aload_n 0, 1) := by decide +kernel
theorem d_Md_at_7 : decode prog_10_method_21_code 7 = .ok (.getfield 105, 3) := by decide +kernel
theorem d_Md_at_10 : decode prog_10_method_21_code 10 = .ok (.iconst 1, 1) := by decide +kernel
theorem d_Md_at_11 : decode prog_10_method_21_code 11 = .ok (.isub, 1) := by decide +kernel
theorem d_Md_at_12 : decode prog_10_method_21_code 12 = .ok (.invokestatic 96, 3) := by decide +kernel
theorem d_Md_at_15 : decode prog_10_method_21_code 15 = .ok (.ifCond .eq 12, 3) := by decide +kernel
theorem d_Md_at_18 : decode prog_10_method_21_code 18 = .ok (.aload_n 0, 1) := by decide +kernel
theorem d_Md_at_19 : decode prog_10_method_21_code 19 = .ok (.getfield 38, 3) := by decide +kernel
theorem d_Md_at_22 : decode prog_10_method_21_code 22 = .ok (.iload_n 1, 1) := by decide +kernel
theorem d_Md_at_23 : decode prog_10_method_21_code 23 = .ok (.iaload, 1) := by decide +kernel
theorem d_Md_at_24 : decode prog_10_method_21_code 24 = .ok (.goto 4, 3) := by decide +kernel
theorem d_Md_at_27 : decode prog_10_method_21_code 27 = .ok (.iconst (-1), 1) := by decide +kernel
theorem d_Md_at_28 : decode prog_10_method_21_code 28 = .ok (.ireturn, 1) := by decide +kernel
theorem d_Md_placeOf_0 : decode prog_10_method_19_code 0 = .ok (.aload_n 0, 1) := by decide +kernel
theorem d_Md_placeOf_1 : decode prog_10_method_19_code 1 = .ok (.invokevirtual 124, 3) := by decide +kernel
theorem d_Md_placeOf_4 : decode prog_10_method_19_code 4 = .ok (.iconst (-1), 1) := by decide +kernel
theorem d_Md_placeOf_5 : decode prog_10_method_19_code 5 = .ok (.istore_n 2, 1) := by decide +kernel
theorem d_Md_placeOf_6 : decode prog_10_method_19_code 6 = .ok (.iconst 0, 1) := by decide +kernel
theorem d_Md_placeOf_7 : decode prog_10_method_19_code 7 = .ok (.istore_n 3, 1) := by decide +kernel
theorem d_Md_placeOf_8 : decode prog_10_method_19_code 8 = .ok (.iload_n 3, 1) := by decide +kernel
theorem d_Md_placeOf_9 : decode prog_10_method_19_code 9 = .ok (.aload_n 0, 1) := by decide +kernel
theorem d_Md_placeOf_10 : decode prog_10_method_19_code 10 = .ok (.getfield 105, 3) := by decide +kernel
theorem d_Md_placeOf_13 : decode prog_10_method_19_code 13 = .ok (.if_icmp .ge 25, 3) := by decide +kernel
theorem d_Md_placeOf_16 : decode prog_10_method_19_code 16 = .ok (.aload_n 0, 1) := by decide +kernel
theorem d_Md_placeOf_17 : decode prog_10_method_19_code 17 = .ok (.getfield 38, 3) := by decide +kernel
theorem d_Md_placeOf_20 : decode prog_10_method_19_code 20 = .ok (.iload_n 3, 1) := by decide +kernel
theorem d_Md_placeOf_21 : decode prog_10_method_19_code 21 = .ok (.iaload, 1) := by decide +kernel
theorem d_Md_placeOf_22 : decode prog_10_method_19_code 22 = .ok (.iload_n 1, 1) := by decide +kernel
theorem d_Md_placeOf_23 : decode prog_10_method_19_code 23 = .ok (.if_icmp .ne 7, 3) := by decide +kernel
theorem d_Md_placeOf_26 : decode prog_10_method_19_code 26 = .ok (.iload_n 3, 1) := by decide +kernel
theorem d_Md_placeOf_27 : decode prog_10_method_19_code 27 = .ok (.goto 4, 3) := by decide +kernel
theorem d_Md_placeOf_30 : decode prog_10_method_19_code 30 = .ok (.iload_n 2, 1) := by decide +kernel
theorem d_Md_placeOf_31 : decode prog_10_method_19_code 31 = .ok (.istore_n 2, 1) := by decide +kernel
theorem d_Md_placeOf_32 : decode prog_10_method_19_code 32 = .ok (.iinc 3 1, 3) := by decide +kernel
theorem d_Md_placeOf_35 : decode prog_10_method_19_code 35 = .ok (.goto (-27), 3) := by decide +kernel
theorem d_Md_placeOf_38 : decode prog_10_method_19_code 38 = .ok (.iload_n 2, 1) := by decide +kernel
theorem d_Md_placeOf_39 : decode prog_10_method_19_code 39 = .ok (.ireturn, 1) := by decide +kernel
theorem d_Md_about_0 : decode prog_10_method_22_code 0 = .ok (.aload_n 0, 1) := by decide +kernel
theorem d_Md_about_1 : decode prog_10_method_22_code 1 = .ok (.iload_n 1, 1) := by decide +kernel
theorem d_Md_about_2 : decode prog_10_method_22_code 2 = .ok (.invokevirtual 81, 3) := by decide +kernel
theorem d_Md_about_5 : decode prog_10_method_22_code 5 = .ok (.ifCond .ne 5, 3) := by decide +kernel
theorem d_Md_about_8 : decode prog_10_method_22_code 8 = .ok (.iconst (-1), 1) := by decide +kernel
theorem d_Md_about_9 : decode prog_10_method_22_code 9 = .ok (.ireturn, 1) := by decide +kernel
theorem d_Md_about_10 : decode prog_10_method_22_code 10 = .ok (.iload_n 2, 1) := by decide +kernel
