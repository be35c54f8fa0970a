theorem d_Items_replaceKid_27 : decode prog_3_method_17_code 27 = .ok (.iadd, 1) := by decide +kernel
theorem d_Items_replaceKid_28 : decode prog_3_method_17_code 28 = .ok (.putfield 41, 3) := by decide +kernel
theorem d_Items_replaceKid_31 : decode prog_3_method_17_code 31 = .ok (.return_, 1) := by decide +kernel
theorem d_Mender_meetPageAgain_0 : decode prog_5_method_7_code 0 = .ok (.aload_n 0, 1) := by decide +kernel
theorem d_Mender_meetPageAgain_1 : decode prog_5_method_7_code 1 = .ok (.getfield 32, 3) := by decide +kernel
theorem d_Mender_meetPageAgain_4 : decode prog_5_method_7_code 4 = .ok (.invokevirtual 55, 3) := by decide +kernel
theorem d_Mender_meetPageAgain_7 : decode prog_5_method_7_code 7 = .ok (.ifCond .eq 20, 3) := by decide +kernel
theorem d_Mender_meetPageAgain_10 : decode prog_5_method_7_code 10 = .ok (.aload_n 0, 1) := by decide +kernel
theorem d_Mender_meetPageAgain_11 : decode prog_5_method_7_code 11 = .ok (.getfield 32, 3) := by decide +kernel
theorem d_Mender_meetPageAgain_14 : decode prog_5_method_7_code 14 = .ok (.iload_n 1, 1) := by decide +kernel
theorem d_Mender_meetPageAgain_15 : decode prog_5_method_7_code 15 = .ok (.iload_n 2, 1) := by decide +kernel
theorem d_Mender_meetPageAgain_16 : decode prog_5_method_7_code 16 = .ok (.invokevirtual 46, 3) := by decide +kernel
theorem d_Mender_meetPageAgain_19 : decode prog_5_method_7_code 19 = .ok (.aload_n 0, 1) := by decide +kernel
theorem d_Mender_meetPageAgain_20 : decode prog_5_method_7_code 20 = .ok (.iconst 5, 1) := by decide +kernel
theorem d_Mender_meetPageAgain_21 : decode prog_5_method_7_code 21 = .ok (.iload_n 3, 1) := by decide +kernel
theorem d_Mender_meetPageAgain_22 : decode prog_5_method_7_code 22 = .ok (.invokevirtual 52, 3) := by decide +kernel
theorem d_Mender_meetPageAgain_25 : decode prog_5_method_7_code 25 = .ok (.iconst 0, 1) := by decide +kernel
theorem d_Mender_meetPageAgain_26 : decode prog_5_method_7_code 26 = .ok (.ireturn, 1) := by decide +kernel
theorem d_Mender_meetPageAgain_27 : decode prog_5_method_7_code 27 = .ok (.aload_n 0, 1) := by decide +kernel
theorem d_Mender_meetPageAgain_28 : decode prog_5_method_7_code 28 = .ok (.getfield 32, 3) := by decide +kernel
theorem d_Mender_meetPageAgain_31 : decode prog_5_method_7_code 31 = .ok (.iconst 1, 1) := by decide +kernel
theorem d_Mender_meetPageAgain_32 : decode prog_5_method_7_code 32 = .ok (.iload_n 1, 1) := by decide +kernel
theorem d_Mender_meetPageAgain_33 : decode prog_5_method_7_code 33 = .ok (.iconst 0, 1) := by decide +kernel
theorem d_Mender_meetPageAgain_34 : decode prog_5_method_7_code 34 = .ok (.invokevirtual 59, 3) := by decide +kernel
theorem d_Mender_meetPageAgain_37 : decode prog_5_method_7_code 37 = .ok (.istore 4, 2) := by decide +kernel
theorem d_Mender_meetPageAgain_39 : decode prog_5_method_7_code 39 = .ok (.aload_n 0, 1) := by decide +kernel
theorem d_Mender_meetPageAgain_40 : decode prog_5_method_7_code 40 = .ok (.getfield 32, 3) := by decide +kernel
theorem d_Mender_meetPageAgain_43 : decode prog_5_method_7_code 43 = .ok (.iload_n 3, 1) := by decide +kernel
theorem d_Mender_meetPageAgain_44 : decode prog_5_method_7_code 44 = .ok (.iload 4, 2) := by decide +kernel
theorem d_Mender_meetPageAgain_46 : decode prog_5_method_7_code 46 = .ok (.invokevirtual 63, 3) := by decide +kernel
theorem d_Mender_meetPageAgain_49 : decode prog_5_method_7_code 49 = .ok (.aload_n 0, 1) := by decide +kernel
theorem d_Mender_meetPageAgain_50 : decode prog_5_method_7_code 50 = .ok (.getfield 32, 3) := by decide +kernel
theorem d_Mender_meetPageAgain_53 : decode prog_5_method_7_code 53 = .ok (.iload_n 1, 1) := by decide +kernel
theorem d_Mender_meetPageAgain_54 : decode prog_5_method_7_code 54 = .ok (.iload_n 2, 1) := by decide +kernel
theorem d_Mender_meetPageAgain_55 : decode prog_5_method_7_code 55 = .ok (.iload 4, 2) := by decide +kernel
theorem d_Mender_meetPageAgain_57 : decode prog_5_method_7_code 57 = .ok (.invokevirtual 66, 3) := by decide +kernel
theorem d_Mender_meetPageAgain_60 : decode prog_5_method_7_code 60 = .ok (.aload_n 0, 1) := by decide +kernel
theorem d_Mender_meetPageAgain_61 : decode prog_5_method_7_code 61 = .ok (.dup, 1) := by decide +kernel
theorem d_Mender_meetPageAgain_62 : decode prog_5_method_7_code 62 = .ok (.getfield 25, 3) := by decide +kernel
theorem d_Mender_meetPageAgain_65 : decode prog_5_method_7_code 65 = .ok (.iconst 1, 1) := by decide +kernel
theorem d_Mender_meetPageAgain_66 : decode prog_5_method_7_code 66 = .ok (.iadd, 1) := by decide +kernel
theorem d_Mender_meetPageAgain_67 : decode prog_5_method_7_code 67 = .ok (.putfield 25, 3) := by decide +kernel
theorem d_Mender_meetPageAgain_70 : decode prog_5_method_7_code 70 = .ok (.aload_n 0, 1) := by decide +kernel
theorem d_Mender_meetPageAgain_71 : decode prog_5_method_7_code 71 = .ok (.iconst 3, 1) := by decide +kernel
theorem d_Mender_meetPageAgain_72 : decode prog_5_method_7_code 72 = .ok (.iload_n 3, 1) := by decide +kernel
theorem d_Mender_meetPageAgain_73 : decode prog_5_method_7_code 73 = .ok (.invokevirtual 52, 3) := by decide +kernel
theorem d_Mender_meetPageAgain_76 : decode prog_5_method_7_code 76 = .ok (.iconst 1, 1) := by decide +kernel
theorem d_Mender_meetPageAgain_77 : decode prog_5_method_7_code 77 = .ok (.ireturn, 1) := by decide +kernel
theorem d_Walk_isOnTheWay_0 : decode prog_8_method_9_code 0 = .ok (.iconst 0, 1) := by decide +kernel
theorem d_Walk_isOnTheWay_1 : decode prog_8_method_9_code 1 = .ok (.istore_n 2, 1) := by decide +kernel
theorem d_Walk_isOnTheWay_2 : decode prog_8_method_9_code 2 = .ok (.iload_n 2, 1) := by decide +kernel
theorem d_Walk_isOnTheWay_3 : decode prog_8_method_9_code 3 = .ok (.aload_n 0, 1) := by decide +kernel
theorem d_Walk_isOnTheWay_4 : decode prog_8_method_9_code 4 = .ok (.getfield 26, 3) := by decide +kernel
theorem d_Walk_isOnTheWay_7 : decode prog_8_method_9_code 7 = .ok (.if_icmp .ge 21, 3) := by decide +kernel
theorem d_Walk_isOnTheWay_10 : decode prog_8_method_9_code 10 = .ok (.aload_n 0, 1) := by decide +kernel
theorem d_Walk_isOnTheWay_11 : decode prog_8_method_9_code 11 = .ok (.getfield 15, 3) := by decide +kernel
theorem d_Walk_isOnTheWay_14 : decode prog_8_method_9_code 14 = .ok (.iload_n 2, 1) := by decide +kernel
theorem d_Walk_isOnTheWay_15 : decode prog_8_method_9_code 15 = .ok (.iaload, 1) := by decide +kernel
theorem d_Walk_isOnTheWay_16 : decode prog_8_method_9_code 16 = .ok (.iload_n 1, 1) := by decide +kernel
theorem d_Walk_isOnTheWay_17 : decode prog_8_method_9_code 17 = .ok (.if_icmp .ne 5, 3) := by decide +kernel
theorem d_Walk_isOnTheWay_20 : decode prog_8_method_9_code 20 = .ok (.iconst 1, 1) := by decide +kernel
theorem d_Walk_isOnTheWay_21 : decode prog_8_method_9_code 21 = .ok (.ireturn, 1) := by decide +kernel
theorem d_Walk_isOnTheWay_22 : decode prog_8_method_9_code 22 = .ok (.iinc 2 1, 3) := by decide +kernel
theorem d_Walk_isOnTheWay_25 : decode prog_8_method_9_code 25 = .ok (.goto (-23), 3) := by decide +kernel
theorem d_Walk_isOnTheWay_28 : decode prog_8_method_9_code 28 = .ok (.iconst 0, 1) := by decide +kernel
theorem d_Walk_isOnTheWay_29 : decode prog_8_method_9_code 29 = .ok (.ireturn, 1) := by decide +kernel
theorem d_Mender_meetNodeAgain_0 : decode prog_5_method_6_code 0 = .ok (.aload_n 0, 1) := by decide +kernel
theorem d_Mender_meetNodeAgain_1 : decode prog_5_method_6_code 1 = .ok (.getfield 32, 3) := by decide +kernel
theorem d_Mender_meetNodeAgain_4 : decode prog_5_method_6_code 4 = .ok (.iload_n 1, 1) := by decide +kernel
theorem d_Mender_meetNodeAgain_5 : decode prog_5_method_6_code 5 = .ok (.iload_n 2, 1) := by decide +kernel
theorem d_Mender_meetNodeAgain_6 : decode prog_5_method_6_code 6 = .ok (.invokevirtual 46, 3) := by decide +kernel
theorem d_Mender_meetNodeAgain_9 : decode prog_5_method_6_code 9 = .ok (.aload_n 0, 1) := by decide +kernel
theorem d_Mender_meetNodeAgain_10 : decode prog_5_method_6_code 10 = .ok (.aload_n 0, 1) := by decide +kernel
theorem d_Mender_meetNodeAgain_11 : decode prog_5_method_6_code 11 = .ok (.iload_n 3, 1) := by decide +kernel
theorem d_Mender_meetNodeAgain_12 : decode prog_5_method_6_code 12 = .ok (.invokevirtual 49, 3) := by decide +kernel
theorem d_Mender_meetNodeAgain_15 : decode prog_5_method_6_code 15 = .ok (.ifCond .eq 7, 3) := by decide +kernel
theorem d_Mender_meetNodeAgain_18 : decode prog_5_method_6_code 18 = .ok (.iconst 1, 1) := by decide +kernel
theorem d_Mender_meetNodeAgain_19 : decode prog_5_method_6_code 19 = .ok (.goto 4, 3) := by decide +kernel
theorem d_Mender_meetNodeAgain_22 : decode prog_5_method_6_code 22 = .ok (.iconst 2, 1) := by decide +kernel
theorem d_Mender_meetNodeAgain_23 : decode prog_5_method_6_code 23 = .ok (.iload_n 3, 1) := by decide +kernel
theorem d_Mender_meetNodeAgain_24 : decode prog_5_method_6_code 24 = .ok (.invokevirtual 52, 3) := by decide +kernel
theorem d_Mender_meetNodeAgain_27 : decode prog_5_method_6_code 27 = .ok (.iconst 0, 1) := by decide +kernel
theorem d_Mender_meetNodeAgain_28 : decode prog_5_method_6_code 28 = .ok (.ireturn, 1) := by decide +kernel
theorem d_Items_setParent_0 : decode prog_3_method_10_code 0 = .ok (.aload_n 0, 1) := by decide +kernel
theorem d_Items_setParent_1 : decode prog_3_method_10_code 1 = .ok (.iload_n 1, 1) := by decide +kernel
theorem d_Items_setParent_2 : decode prog_3_method_10_code 2 = .ok (.invokevirtual 44, 3) := by decide +kernel
theorem d_Items_setParent_5 : decode prog_3_method_10_code 5 = .ok (.ifCond .eq 10, 3) := by decide +kernel
theorem d_Items_setParent_8 : decode prog_3_method_10_code 8 = .ok (.aload_n 0, 1) := by decide +kernel
theorem d_Items_setParent_9 : decode prog_3_method_10_code 9 = .ok (.getfield 15, 3) := by decide +kernel
theorem d_Items_setParent_12 : decode prog_3_method_10_code 12 = .ok (.iload_n 1, 1) := by decide +kernel
theorem d_Items_setParent_13 : decode prog_3_method_10_code 13 = .ok (.iload_n 2, 1) := by decide +kernel
theorem d_Items_setParent_14 : decode prog_3_method_10_code 14 = .ok (.iastore, 1) := by decide +kernel
theorem d_Items_setParent_15 : decode prog_3_method_10_code 15 = .ok (.return_, 1) := by decide +kernel
theorem d_Mender_meetFirst_0 : decode prog_5_method_5_code 0 = .ok (.aload_n 0, 1) := by decide +kernel
theorem d_Mender_meetFirst_1 : decode prog_5_method_5_code 1 = .ok (.getfield 32, 3) := by decide +kernel
theorem d_Mender_meetFirst_4 : decode prog_5_method_5_code 4 = .ok (.iload_n 3, 1) := by decide +kernel
theorem d_Mender_meetFirst_5 : decode prog_5_method_5_code 5 = .ok (.iload_n 1, 1) := by decide +kernel
theorem d_Mender_meetFirst_6 : decode prog_5_method_5_code 6 = .ok (.invokevirtual 36, 3) := by decide +kernel
theorem d_Mender_meetFirst_9 : decode prog_5_method_5_code 9 = .ok (.aload_n 0, 1) := by decide +kernel
theorem d_Mender_meetFirst_10 : decode prog_5_method_5_code 10 = .ok (.getfield 32, 3) := by decide +kernel
theorem d_Mender_meetFirst_13 : decode prog_5_method_5_code 13 = .ok (.iload_n 3, 1) := by decide +kernel
theorem d_Mender_meetFirst_14 : decode prog_5_method_5_code 14 = .ok (.invokevirtual 42, 3) := by decide +kernel
theorem d_Mender_meetFirst_17 : decode prog_5_method_5_code 17 = .ok (.ifCond .eq 16, 3) := by decide +kernel
theorem d_Mender_meetFirst_20 : decode prog_5_method_5_code 20 = .ok (.aload_n 0, 1) := by decide +kernel
theorem d_Mender_meetFirst_21 : decode prog_5_method_5_code 21 = .ok (.dup, 1) := by decide +kernel
theorem d_Mender_meetFirst_22 : decode prog_5_method_5_code 22 = .ok (.getfield 25, 3) := by decide +kernel
theorem d_Mender_meetFirst_25 : decode prog_5_method_5_code 25 = .ok (.iconst 1, 1) := by decide +kernel
theorem d_Mender_meetFirst_26 : decode prog_5_method_5_code 26 = .ok (.iadd, 1) := by decide +kernel
theorem d_Mender_meetFirst_27 : decode prog_5_method_5_code 27 = .ok (.putfield 25, 3) := by decide +kernel
theorem d_Mender_meetFirst_30 : decode prog_5_method_5_code 30 = .ok (.goto 13, 3) := by decide +kernel
theorem d_Mender_meetFirst_33 : decode prog_5_method_5_code 33 = .ok (.aload_n 0, 1) := by decide +kernel
theorem d_Mender_meetFirst_34 : decode prog_5_method_5_code 34 = .ok (.getfield 18, 3) := by decide +kernel
theorem d_Mender_meetFirst_37 : decode prog_5_method_5_code 37 = .ok (.iload_n 3, 1) := by decide +kernel
theorem d_Mender_meetFirst_38 : decode prog_5_method_5_code 38 = .ok (.aload_n 0, 1) := by decide +kernel
theorem d_Mender_meetFirst_39 : decode prog_5_method_5_code 39 = .ok (.getfield 25, 3) := by decide +kernel
theorem d_Mender_meetFirst_42 : decode prog_5_method_5_code 42 = .ok (.iastore, 1) := by decide +kernel
theorem d_Mender_meetFirst_43 : decode prog_5_method_5_code 43 = .ok (.return_, 1) := by decide +kernel
theorem d_Items_setCount_0 : decode prog_3_method_12_code 0 = .ok (.aload_n 0, 1) := by decide +kernel
theorem d_Items_setCount_1 : decode prog_3_method_12_code 1 = .ok (.iload_n 1, 1) := by decide +kernel
theorem d_Items_setCount_2 : decode prog_3_method_12_code 2 = .ok (.invokevirtual 44, 3) := by decide +kernel
theorem d_Items_setCount_5 : decode prog_3_method_12_code 5 = .ok (.ifCond .eq 10, 3) := by decide +kernel
theorem d_Items_setCount_8 : decode prog_3_method_12_code 8 = .ok (.aload_n 0, 1) := by decide +kernel
theorem d_Items_setCount_9 : decode prog_3_method_12_code 9 = .ok (.getfield 19, 3) := by decide +kernel
theorem d_Items_setCount_12 : decode prog_3_method_12_code 12 = .ok (.iload_n 1, 1) := by decide +kernel
theorem d_Items_setCount_13 : decode prog_3_method_12_code 13 = .ok (.iload_n 2, 1) := by decide +kernel
theorem d_Items_setCount_14 : decode prog_3_method_12_code 14 = .ok (.iastore, 1) := by decide +kernel
theorem d_Items_setCount_15 : decode prog_3_method_12_code 15 = .ok (.return_, 1) := by decide +kernel
theorem d_Mender_leave_0 : decode prog_5_method_8_code 0 = .ok (.aload_n 0, 1) := by decide +kernel
theorem d_Mender_leave_1 : decode prog_5_method_8_code 1 = .ok (.getfield 25, 3) := by decide +kernel
theorem d_Mender_leave_4 : decode prog_5_method_8_code 4 = .ok (.aload_n 0, 1) := by decide +kernel
theorem d_Mender_leave_5 : decode prog_5_method_8_code 5 = .ok (.getfield 18, 3) := by decide +kernel
theorem d_Mender_leave_8 : decode prog_5_method_8_code 8 = .ok (.iload_n 1, 1) := by decide +kernel
theorem d_Mender_leave_9 : decode prog_5_method_8_code 9 = .ok (.iaload, 1) := by decide +kernel
theorem d_Mender_leave_10 : decode prog_5_method_8_code 10 = .ok (.isub, 1) := by decide +kernel
theorem d_Mender_leave_11 : decode prog_5_method_8_code 11 = .ok (.istore_n 2, 1) := by decide +kernel
theorem d_Mender_leave_12 : decode prog_5_method_8_code 12 = .ok (.aload_n 0, 1) := by decide +kernel
theorem d_Mender_leave_13 : decode prog_5_method_8_code 13 = .ok (.getfield 32, 3) := by decide +kernel
theorem d_Mender_leave_16 : decode prog_5_method_8_code 16 = .ok (.iload_n 1, 1) := by decide +kernel
theorem d_Mender_leave_17 : decode prog_5_method_8_code 17 = .ok (.invokevirtual 70, 3) := by decide +kernel
theorem d_Mender_leave_20 : decode prog_5_method_8_code 20 = .ok (.iload_n 2, 1) := by decide +kernel
theorem d_Mender_leave_21 : decode prog_5_method_8_code 21 = .ok (.if_icmp .eq 18, 3) := by decide +kernel
theorem d_Mender_leave_24 : decode prog_5_method_8_code 24 = .ok (.aload_n 0, 1) := by decide +kernel
theorem d_Mender_leave_25 : decode prog_5_method_8_code 25 = .ok (.getfield 32, 3) := by decide +kernel
theorem d_Mender_leave_28 : decode prog_5_method_8_code 28 = .ok (.iload_n 1, 1) := by decide +kernel
theorem d_Mender_leave_29 : decode prog_5_method_8_code 29 = .ok (.iload_n 2, 1) := by decide +kernel
theorem d_Mender_leave_30 : decode prog_5_method_8_code 30 = .ok (.invokevirtual 74, 3) := by decide +kernel
theorem d_Mender_leave_33 : decode prog_5_method_8_code 33 = .ok (.aload_n 0, 1) := by decide +kernel
theorem d_Mender_leave_34 : decode prog_5_method_8_code 34 = .ok (.iconst 4, 1) := by decide +kernel
theorem d_Mender_leave_35 : decode prog_5_method_8_code 35 = .ok (.iload_n 1, 1) := by decide +kernel
theorem d_Mender_leave_36 : decode prog_5_method_8_code 36 = .ok (.invokevirtual 52, 3) := by decide +kernel
theorem d_Mender_leave_39 : decode prog_5_method_8_code 39 = .ok (.return_, 1) := by decide +kernel
theorem d_Mender_putRight_0 : decode prog_5_method_2_code 0 = .ok (.aload_n 0, 1) := by decide +kernel
theorem d_Mender_putRight_1 : decode prog_5_method_2_code 1 = .ok (.iconst 0, 1) := by decide +kernel
theorem d_Mender_putRight_2 : decode prog_5_method_2_code 2 = .ok (.putfield 21, 3) := by decide +kernel
theorem d_Mender_putRight_5 : decode prog_5_method_2_code 5 = .ok (.aload_n 0, 1) := by decide +kernel
theorem d_Mender_putRight_6 : decode prog_5_method_2_code 6 = .ok (.iconst 0, 1) := by decide +kernel
theorem d_Mender_putRight_7 : decode prog_5_method_2_code 7 = .ok (.putfield 25, 3) := by decide +kernel
theorem d_Mender_putRight_10 : decode prog_5_method_2_code 10 = .ok (.aload_n 0, 1) := by decide +kernel
theorem d_Mender_putRight_11 : decode prog_5_method_2_code 11 = .ok (.invokevirtual 28, 3) := by decide +kernel
theorem d_Mender_putRight_14 : decode prog_5_method_2_code 14 = .ok (.aload_n 0, 1) := by decide +kernel
theorem d_Mender_putRight_15 : decode prog_5_method_2_code 15 = .ok (.getfield 21, 3) := by decide +kernel
theorem d_Mender_putRight_18 : decode prog_5_method_2_code 18 = .ok (.ireturn, 1) := by decide +kernel
theorem d_PT_mend_0 : decode prog_1_method_13_code 0 = .ok (.aload_n 0, 1) := by decide +kernel
theorem d_PT_mend_1 : decode prog_1_method_13_code 1 = .ok (.getfield 28, 3) := by decide +kernel
theorem d_PT_mend_4 : decode prog_1_method_13_code 4 = .ok (.invokevirtual 118, 3) := by decide +kernel
theorem d_PT_mend_7 : decode prog_1_method_13_code 7 = .ok (.ireturn, 1) := by decide +kernel
theorem d_Mender_tellingAt_0 : decode prog_5_method_3_code 0 = .ok (.iload_n 1, 1) := by decide +kernel
theorem d_Mender_tellingAt_1 : decode prog_5_method_3_code 1 = .ok (.ifCond .lt 17, 3) := by decide +kernel
theorem d_Mender_tellingAt_4 : decode prog_5_method_3_code 4 = .ok (.iload_n 1, 1) := by decide +kernel
theorem d_Mender_tellingAt_5 : decode prog_5_method_3_code 5 = .ok (.aload_n 0, 1) := by decide +kernel
theorem d_Mender_tellingAt_6 : decode prog_5_method_3_code 6 = .ok (.getfield 21, 3) := by decide +kernel
theorem d_Mender_tellingAt_9 : decode prog_5_method_3_code 9 = .ok (.if_icmp .ge 9, 3) := by decide +kernel
theorem d_Mender_tellingAt_12 : decode prog_5_method_3_code 12 = .ok (.iload_n 1, 1) := by decide +kernel
theorem d_Mender_tellingAt_13 : decode prog_5_method_3_code 13 = .ok (.bipush 100, 2) := by decide +kernel
theorem d_Mender_tellingAt_15 : decode prog_5_method_3_code 15 = .ok (.if_icmp .lt 5, 3) := by decide +kernel
theorem d_Mender_tellingAt_18 : decode prog_5_method_3_code 18 = .ok (.iconst (-1), 1) := by decide +kernel
theorem d_Mender_tellingAt_19 : decode prog_5_method_3_code 19 = .ok (.ireturn, 1) := by decide +kernel
theorem d_Mender_tellingAt_20 : decode prog_5_method_3_code 20 = .ok (.iload_n 2, 1) := by decide +kernel
theorem d_Mender_tellingAt_21 : decode prog_5_method_3_code 21 = .ok (.lookupswitch 41 #[(0, 27), (1, 34)], 27) := by decide +kernel
theorem d_Mender_tellingAt_48 : decode prog_5_method_3_code 48 = .ok (.aload_n 0, 1) := by decide +kernel
theorem d_Mender_tellingAt_49 : decode prog_5_method_3_code 49 = .ok (.getfield 11, 3) := by decide +kernel
theorem d_Mender_tellingAt_52 : decode prog_5_method_3_code 52 = .ok (.iload_n 1, 1) := by decide +kernel
theorem d_Mender_tellingAt_53 : decode prog_5_method_3_code 53 = .ok (.iaload, 1) := by decide +kernel
theorem d_Mender_tellingAt_54 : decode prog_5_method_3_code 54 = .ok (.ireturn, 1) := by decide +kernel
theorem d_Mender_tellingAt_55 : decode prog_5_method_3_code 55 = .ok (.aload_n 0, 1) := by decide +kernel
theorem d_Mender_tellingAt_56 : decode prog_5_method_3_code 56 = .ok (.getfield 15, 3) := by decide +kernel
theorem d_Mender_tellingAt_59 : decode prog_5_method_3_code 59 = .ok (.iload_n 1, 1) := by decide +kernel
theorem d_Mender_tellingAt_60 : decode prog_5_method_3_code 60 = .ok (.iaload, 1) := by decide +kernel
theorem d_Mender_tellingAt_61 : decode prog_5_method_3_code 61 = .ok (.ireturn, 1) := by decide +kernel
theorem d_Mender_tellingAt_62 : decode prog_5_method_3_code 62 = .ok (.iconst (-1), 1) := by decide +kernel
theorem d_Mender_tellingAt_63 : decode prog_5_method_3_code 63 = .ok (.ireturn, 1) := by decide +kernel
theorem d_PT_told_0 : decode prog_1_method_14_code 0 = .ok (.aload_n 0, 1) := by decide +kernel
theorem d_PT_told_1 : decode prog_1_method_14_code 1 = .ok (.getfield 28, 3) := by decide +kernel
theorem d_PT_told_4 : decode prog_1_method_14_code 4 = .ok (.iload_n 1, 1) := by decide +kernel
theorem d_PT_told_5 : decode prog_1_method_14_code 5 = .ok (.iload_n 2, 1) := by decide +kernel
theorem d_PT_told_6 : decode prog_1_method_14_code 6 = .ok (.invokevirtual 121, 3) := by decide +kernel
theorem d_PT_told_9 : decode prog_1_method_14_code 9 = .ok (.ireturn, 1) := by decide +kernel
theorem d_Order_listerOf_0 : decode prog_7_method_8_code 0 = .ok (.aload_n 0, 1) := by decide +kernel
theorem d_Order_listerOf_1 : decode prog_7_method_8_code 1 = .ok (.invokevirtual 55, 3) := by decide +kernel
theorem d_Order_listerOf_4 : decode prog_7_method_8_code 4 = .ok (.aload_n 0, 1) := by decide +kernel
theorem d_Order_listerOf_5 : decode prog_7_method_8_code 5 = .ok (.iload_n 1, 1) := by decide +kernel
theorem d_Order_listerOf_6 : decode prog_7_method_8_code 6 = .ok (.invokevirtual 58, 3) := by decide +kernel
theorem d_Order_listerOf_9 : decode prog_7_method_8_code 9 = .ok (.ifCond .eq 12, 3) := by decide +kernel
theorem d_Order_listerOf_12 : decode prog_7_method_8_code 12 = .ok (.aload_n 0, 1) := by decide +kernel
theorem d_Order_listerOf_13 : decode prog_7_method_8_code 13 = .ok (.getfield 18, 3) := by decide +kernel
theorem d_Order_listerOf_16 : decode prog_7_method_8_code 16 = .ok (.iload_n 1, 1) := by decide +kernel
theorem d_Order_listerOf_17 : decode prog_7_method_8_code 17 = .ok (.iaload, 1) := by decide +kernel
theorem d_Order_listerOf_18 : decode prog_7_method_8_code 18 = .ok (.goto 4, 3) := by decide +kernel
theorem d_Order_listerOf_21 : decode prog_7_method_8_code 21 = .ok (.iconst (-1), 1) := by decide +kernel
theorem d_Order_listerOf_22 : decode prog_7_method_8_code 22 = .ok (.ireturn, 1) := by decide +kernel
theorem d_Items_kidCountWithout_0 : decode prog_3_method_23_code 0 = .ok (.iconst 0, 1) := by decide +kernel
theorem d_Items_kidCountWithout_1 : decode prog_3_method_23_code 1 = .ok (.istore_n 3, 1) := by decide +kernel
theorem d_Items_kidCountWithout_2 : decode prog_3_method_23_code 2 = .ok (.iconst 0, 1) := by decide +kernel
theorem d_Items_kidCountWithout_3 : decode prog_3_method_23_code 3 = .ok (.istore 4, 2) := by decide +kernel
theorem d_Items_kidCountWithout_5 : decode prog_3_method_23_code 5 = .ok (.iload 4, 2) := by decide +kernel
theorem d_Items_kidCountWithout_7 : decode prog_3_method_23_code 7 = .ok (.aload_n 0, 1) := by decide +kernel
theorem d_Items_kidCountWithout_8 : decode prog_3_method_23_code 8 = .ok (.iload_n 1, 1) := by decide +kernel
theorem d_Items_kidCountWithout_9 : decode prog_3_method_23_code 9 = .ok (.invokevirtual 48, 3) := by decide +kernel
theorem d_Items_kidCountWithout_12 : decode prog_3_method_23_code 12 = .ok (.if_icmp .ge 23, 3) := by decide +kernel
theorem d_Items_kidCountWithout_15 : decode prog_3_method_23_code 15 = .ok (.aload_n 0, 1) := by decide +kernel
theorem d_Items_kidCountWithout_16 : decode prog_3_method_23_code 16 = .ok (.iload_n 1, 1) := by decide +kernel
theorem d_Items_kidCountWithout_17 : decode prog_3_method_23_code 17 = .ok (.iload 4, 2) := by decide +kernel
theorem d_Items_kidCountWithout_19 : decode prog_3_method_23_code 19 = .ok (.invokevirtual 67, 3) := by decide +kernel
theorem d_Items_kidCountWithout_22 : decode prog_3_method_23_code 22 = .ok (.iload_n 2, 1) := by decide +kernel
theorem d_Items_kidCountWithout_23 : decode prog_3_method_23_code 23 = .ok (.if_icmp .eq 6, 3) := by decide +kernel
theorem d_Items_kidCountWithout_26 : decode prog_3_method_23_code 26 = .ok (.iinc 3 1, 3) := by decide +kernel
theorem d_Items_kidCountWithout_29 : decode prog_3_method_23_code 29 = .ok (.iinc 4 1, 3) := by decide +kernel
theorem d_Items_kidCountWithout_32 : decode prog_3_method_23_code 32 = .ok (.goto (-27), 3) := by decide +kernel
theorem d_Items_kidCountWithout_35 : decode prog_3_method_23_code 35 = .ok (.iload_n 3, 1) := by decide +kernel
theorem d_Items_kidCountWithout_36 : decode prog_3_method_23_code 36 = .ok (.ireturn, 1) := by decide +kernel
theorem d_Items_ownValuesOf_0 : decode prog_3_method_27_code 0 = .ok (.iconst 0, 1) := by decide +kernel
theorem d_Items_ownValuesOf_1 : decode prog_3_method_27_code 1 = .ok (.istore_n 3, 1) := by decide +kernel
theorem d_Items_ownValuesOf_2 : decode prog_3_method_27_code 2 = .ok (.iload_n 3, 1) := by decide +kernel
theorem d_Items_ownValuesOf_3 : decode prog_3_method_27_code 3 = .ok (.iconst 4, 1) := by decide +kernel
theorem d_Items_ownValuesOf_4 : decode prog_3_method_27_code 4 = .ok (.if_icmp .ge 21, 3) := by decide +kernel
theorem d_Items_ownValuesOf_7 : decode prog_3_method_27_code 7 = .ok (.aload_n 0, 1) := by decide +kernel
theorem d_Items_ownValuesOf_8 : decode prog_3_method_27_code 8 = .ok (.iload_n 2, 1) := by decide +kernel
theorem d_Items_ownValuesOf_9 : decode prog_3_method_27_code 9 = .ok (.iload_n 3, 1) := by decide +kernel
theorem d_Items_ownValuesOf_10 : decode prog_3_method_27_code 10 = .ok (.aload_n 0, 1) := by decide +kernel
theorem d_Items_ownValuesOf_11 : decode prog_3_method_27_code 11 = .ok (.iload_n 1, 1) := by decide +kernel
theorem d_Items_ownValuesOf_12 : decode prog_3_method_27_code 12 = .ok (.iload_n 3, 1) := by decide +kernel
theorem d_Items_ownValuesOf_13 : decode prog_3_method_27_code 13 = .ok (.invokevirtual 74, 3) := by decide +kernel
theorem d_Items_ownValuesOf_16 : decode prog_3_method_27_code 16 = .ok (.invokevirtual 77, 3) := by decide +kernel
theorem d_Items_ownValuesOf_19 : decode prog_3_method_27_code 19 = .ok (.iinc 3 1, 3) := by decide +kernel
theorem d_Items_ownValuesOf_22 : decode prog_3_method_27_code 22 = .ok (.goto (-20), 3) := by decide +kernel
theorem d_Items_ownValuesOf_25 : decode prog_3_method_27_code 25 = .ok (.return_, 1) := by decide +kernel
theorem d_Items_dropFromList_0 : decode prog_3_method_22_code 0 = .ok (.iload_n 1, 1) := by decide +kernel
theorem d_Items_dropFromList_1 : decode prog_3_method_22_code 1 = .ok (.bipush 40, 2) := by decide +kernel
theorem d_Items_dropFromList_3 : decode prog_3_method_22_code 3 = .ok (.imul, 1) := by decide +kernel
theorem d_Items_dropFromList_4 : decode prog_3_method_22_code 4 = .ok (.istore_n 3, 1) := by decide +kernel
theorem d_Items_dropFromList_5 : decode prog_3_method_22_code 5 = .ok (.iconst 0, 1) := by decide +kernel
theorem d_Items_dropFromList_6 : decode prog_3_method_22_code 6 = .ok (.istore 4, 2) := by decide +kernel
theorem d_Items_dropFromList_8 : decode prog_3_method_22_code 8 = .ok (.iconst 0, 1) := by decide +kernel
theorem d_Items_dropFromList_9 : decode prog_3_method_22_code 9 = .ok (.istore 5, 2) := by decide +kernel
theorem d_Items_dropFromList_11 : decode prog_3_method_22_code 11 = .ok (.iload 5, 2) := by decide +kernel
theorem d_Items_dropFromList_13 : decode prog_3_method_22_code 13 = .ok (.aload_n 0, 1) := by decide +kernel
theorem d_Items_dropFromList_14 : decode prog_3_method_22_code 14 = .ok (.getfield 22, 3) := by decide +kernel
theorem d_Items_dropFromList_17 : decode prog_3_method_22_code 17 = .ok (.iload_n 1, 1) := by decide +kernel
theorem d_Items_dropFromList_18 : decode prog_3_method_22_code 18 = .ok (.iaload, 1) := by decide +kernel
theorem d_Items_dropFromList_19 : decode prog_3_method_22_code 19 = .ok (.if_icmp .ge 40, 3) := by decide +kernel
theorem d_Items_dropFromList_22 : decode prog_3_method_22_code 22 = .ok (.aload_n 0, 1) := by decide +kernel
theorem d_Items_dropFromList_23 : decode prog_3_method_22_code 23 = .ok (.getfield 25, 3) := by decide +kernel
theorem d_Items_dropFromList_26 : decode prog_3_method_22_code 26 = .ok (.iload_n 3, 1) := by decide +kernel
theorem d_Items_dropFromList_27 : decode prog_3_method_22_code 27 = .ok (.iload 5, 2) := by decide +kernel
theorem d_Items_dropFromList_29 : decode prog_3_method_22_code 29 = .ok (.iadd, 1) := by decide +kernel
theorem d_Items_dropFromList_30 : decode prog_3_method_22_code 30 = .ok (.iaload, 1) := by decide +kernel
theorem d_Items_dropFromList_31 : decode prog_3_method_22_code 31 = .ok (.istore 6, 2) := by decide +kernel
theorem d_Items_dropFromList_33 : decode prog_3_method_22_code 33 = .ok (.iload 6, 2) := by decide +kernel
theorem d_Items_dropFromList_35 : decode prog_3_method_22_code 35 = .ok (.iload_n 2, 1) := by decide +kernel
theorem d_Items_dropFromList_36 : decode prog_3_method_22_code 36 = .ok (.if_icmp .eq 17, 3) := by decide +kernel
theorem d_Items_dropFromList_39 : decode prog_3_method_22_code 39 = .ok (.aload_n 0, 1) := by decide +kernel
theorem d_Items_dropFromList_40 : decode prog_3_method_22_code 40 = .ok (.getfield 25, 3) := by decide +kernel
theorem d_Items_dropFromList_43 : decode prog_3_method_22_code 43 = .ok (.iload_n 3, 1) := by decide +kernel
theorem d_Items_dropFromList_44 : decode prog_3_method_22_code 44 = .ok (.iload 4, 2) := by decide +kernel
theorem d_Items_dropFromList_46 : decode prog_3_method_22_code 46 = .ok (.iadd, 1) := by decide +kernel
theorem d_Items_dropFromList_47 : decode prog_3_method_22_code 47 = .ok (.iload 6, 2) := by decide +kernel
theorem d_Items_dropFromList_49 : decode prog_3_method_22_code 49 = .ok (.iastore, 1) := by decide +kernel
theorem d_Items_dropFromList_50 : decode prog_3_method_22_code 50 = .ok (.iinc 4 1, 3) := by decide +kernel
theorem d_Items_dropFromList_53 : decode prog_3_method_22_code 53 = .ok (.iinc 5 1, 3) := by decide +kernel
theorem d_Items_dropFromList_56 : decode prog_3_method_22_code 56 = .ok (.goto (-45), 3) := by decide +kernel
theorem d_Items_dropFromList_59 : decode prog_3_method_22_code 59 = .ok (.aload_n 0, 1) := by decide +kernel
theorem d_Items_dropFromList_60 : decode prog_3_method_22_code 60 = .ok (.getfield 22, 3) := by decide +kernel
theorem d_Items_dropFromList_63 : decode prog_3_method_22_code 63 = .ok (.iload_n 1, 1) := by decide +kernel
theorem d_Items_dropFromList_64 : decode prog_3_method_22_code 64 = .ok (.iload 4, 2) := by decide +kernel
theorem d_Items_dropFromList_66 : decode prog_3_method_22_code 66 = .ok (.iastore, 1) := by decide +kernel
theorem d_Items_dropFromList_67 : decode prog_3_method_22_code 67 = .ok (.return_, 1) := by decide +kernel
theorem d_Items_dropEverywhere_0 : decode prog_3_method_21_code 0 = .ok (.iconst 0, 1) := by decide +kernel
theorem d_Items_dropEverywhere_1 : decode prog_3_method_21_code 1 = .ok (.istore_n 2, 1) := by decide +kernel
theorem d_Items_dropEverywhere_2 : decode prog_3_method_21_code 2 = .ok (.iload_n 2, 1) := by decide +kernel
theorem d_Items_dropEverywhere_3 : decode prog_3_method_21_code 3 = .ok (.aload_n 0, 1) := by decide +kernel
theorem d_Items_dropEverywhere_4 : decode prog_3_method_21_code 4 = .ok (.getfield 37, 3) := by decide +kernel
theorem d_Items_dropEverywhere_7 : decode prog_3_method_21_code 7 = .ok (.if_icmp .ge 15, 3) := by decide +kernel
theorem d_Items_dropEverywhere_10 : decode prog_3_method_21_code 10 = .ok (.aload_n 0, 1) := by decide +kernel
theorem d_Items_dropEverywhere_11 : decode prog_3_method_21_code 11 = .ok (.iload_n 2, 1) := by decide +kernel
theorem d_Items_dropEverywhere_12 : decode prog_3_method_21_code 12 = .ok (.iload_n 1, 1) := by decide +kernel
theorem d_Items_dropEverywhere_13 : decode prog_3_method_21_code 13 = .ok (.invokevirtual 63, 3) := by decide +kernel
theorem d_Items_dropEverywhere_16 : decode prog_3_method_21_code 16 = .ok (.iinc 2 1, 3) := by decide +kernel
theorem d_Items_dropEverywhere_19 : decode prog_3_method_21_code 19 = .ok (.goto (-17), 3) := by decide +kernel
theorem d_Items_dropEverywhere_22 : decode prog_3_method_21_code 22 = .ok (.aload_n 0, 1) := by decide +kernel
theorem d_Items_dropEverywhere_23 : decode prog_3_method_21_code 23 = .ok (.dup, 1) := by decide +kernel
theorem d_Items_dropEverywhere_24 : decode prog_3_method_21_code 24 = .ok (.getfield 41, 3) := by decide +kernel
theorem d_Items_dropEverywhere_27 : decode prog_3_method_21_code 27 = .ok (.iconst 1, 1) := by decide +kernel
theorem d_Items_dropEverywhere_28 : decode prog_3_method_21_code 28 = .ok (.iadd, 1) := by decide +kernel
theorem d_Items_dropEverywhere_29 : decode prog_3_method_21_code 29 = .ok (.putfield 41, 3) := by decide +kernel
theorem d_Items_dropEverywhere_32 : decode prog_3_method_21_code 32 = .ok (.return_, 1) := by decide +kernel
theorem d_Order_slotOf_0 : decode prog_7_method_9_code 0 = .ok (.aload_n 0, 1) := by decide +kernel
theorem d_Order_slotOf_1 : decode prog_7_method_9_code 1 = .ok (.invokevirtual 55, 3) := by decide +kernel
theorem d_Order_slotOf_4 : decode prog_7_method_9_code 4 = .ok (.aload_n 0, 1) := by decide +kernel
theorem d_Order_slotOf_5 : decode prog_7_method_9_code 5 = .ok (.iload_n 1, 1) := by decide +kernel
theorem d_Order_slotOf_6 : decode prog_7_method_9_code 6 = .ok (.invokevirtual 58, 3) := by decide +kernel
theorem d_Order_slotOf_9 : decode prog_7_method_9_code 9 = .ok (.ifCond .eq 12, 3) := by decide +kernel
theorem d_Order_slotOf_12 : decode prog_7_method_9_code 12 = .ok (.aload_n 0, 1) := by decide +kernel
theorem d_Order_slotOf_13 : decode prog_7_method_9_code 13 = .ok (.getfield 21, 3) := by decide +kernel
theorem d_Order_slotOf_16 : decode prog_7_method_9_code 16 = .ok (.iload_n 1, 1) := by decide +kernel
theorem d_Order_slotOf_17 : decode prog_7_method_9_code 17 = .ok (.iaload, 1) := by decide +kernel
theorem d_Order_slotOf_18 : decode prog_7_method_9_code 18 = .ok (.goto 4, 3) := by decide +kernel
theorem d_Order_slotOf_21 : decode prog_7_method_9_code 21 = .ok (.iconst (-1), 1) := by decide +kernel
theorem d_Order_slotOf_22 : decode prog_7_method_9_code 22 = .ok (.ireturn, 1) := by decide +kernel
theorem d_PT_move_0 : decode prog_1_method_15_code 0 = .ok (.aload_n 0, 1) := by decide +kernel
theorem d_PT_move_1 : decode prog_1_method_15_code 1 = .ok (.getfield 21, 3) := by decide +kernel
theorem d_PT_move_4 : decode prog_1_method_15_code 4 = .ok (.iload_n 1, 1) := by decide +kernel
theorem d_PT_move_5 : decode prog_1_method_15_code 5 = .ok (.invokevirtual 112, 3) := by decide +kernel
theorem d_PT_move_8 : decode prog_1_method_15_code 8 = .ok (.istore_n 3, 1) := by decide +kernel
theorem d_PT_move_9 : decode prog_1_method_15_code 9 = .ok (.iload_n 3, 1) := by decide +kernel
theorem d_PT_move_10 : decode prog_1_method_15_code 10 = .ok (.iconst (-1), 1) := by decide +kernel
theorem d_PT_move_11 : decode prog_1_method_15_code 11 = .ok (.if_icmp .ne 5, 3) := by decide +kernel
theorem d_PT_move_14 : decode prog_1_method_15_code 14 = .ok (.iconst (-1), 1) := by decide +kernel
theorem d_PT_move_15 : decode prog_1_method_15_code 15 = .ok (.ireturn, 1) := by decide +kernel
theorem d_PT_move_16 : decode prog_1_method_15_code 16 = .ok (.aload_n 0, 1) := by decide +kernel
theorem d_PT_move_17 : decode prog_1_method_15_code 17 = .ok (.getfield 21, 3) := by decide +kernel
theorem d_PT_move_20 : decode prog_1_method_15_code 20 = .ok (.invokevirtual 102, 3) := by decide +kernel
theorem d_PT_move_23 : decode prog_1_method_15_code 23 = .ok (.iconst 1, 1) := by decide +kernel
theorem d_PT_move_24 : decode prog_1_method_15_code 24 = .ok (.isub, 1) := by decide +kernel
theorem d_PT_move_25 : decode prog_1_method_15_code 25 = .ok (.istore 4, 2) := by decide +kernel
theorem d_PT_move_27 : decode prog_1_method_15_code 27 = .ok (.iload_n 2, 1) := by decide +kernel
theorem d_PT_move_28 : decode prog_1_method_15_code 28 = .ok (.ifCond .lt 9, 3) := by decide +kernel
theorem d_PT_move_31 : decode prog_1_method_15_code 31 = .ok (.iload_n 2, 1) := by decide +kernel
theorem d_PT_move_32 : decode prog_1_method_15_code 32 = .ok (.iload 4, 2) := by decide +kernel
theorem d_PT_move_34 : decode prog_1_method_15_code 34 = .ok (.if_icmp .le 6, 3) := by decide +kernel
theorem d_PT_move_37 : decode prog_1_method_15_code 37 = .ok (.bipush (-2), 2) := by decide +kernel
theorem d_PT_move_39 : decode prog_1_method_15_code 39 = .ok (.ireturn, 1) := by decide +kernel
theorem d_PT_move_40 : decode prog_1_method_15_code 40 = .ok (.iload 4, 2) := by decide +kernel
theorem d_PT_move_42 : decode prog_1_method_15_code 42 = .ok (.ifCond .ne 5, 3) := by decide +kernel
theorem d_PT_move_45 : decode prog_1_method_15_code 45 = .ok (.iload_n 3, 1) := by decide +kernel
theorem d_PT_move_46 : decode prog_1_method_15_code 46 = .ok (.ireturn, 1) := by decide +kernel
theorem d_PT_move_47 : decode prog_1_method_15_code 47 = .ok (.iload_n 2, 1) := by decide +kernel
theorem d_PT_move_48 : decode prog_1_method_15_code 48 = .ok (.iload 4, 2) := by decide +kernel
theorem d_PT_move_50 : decode prog_1_method_15_code 50 = .ok (.if_icmp .ne 9, 3) := by decide +kernel
theorem d_PT_move_53 : decode prog_1_method_15_code 53 = .ok (.iload_n 2, 1) := by decide +kernel
theorem d_PT_move_54 : decode prog_1_method_15_code 54 = .ok (.iconst 1, 1) := by decide +kernel
theorem d_PT_move_55 : decode prog_1_method_15_code 55 = .ok (.isub, 1) := by decide +kernel
theorem d_PT_move_56 : decode prog_1_method_15_code 56 = .ok (.goto 4, 3) := by decide +kernel
theorem d_PT_move_59 : decode prog_1_method_15_code 59 = .ok (.iload_n 2, 1) := by decide +kernel
theorem d_PT_move_60 : decode prog_1_method_15_code 60 = .ok (.istore 5, 2) := by decide +kernel
theorem d_PT_move_62 : decode prog_1_method_15_code 62 = .ok (.aload_n 0, 1) := by decide +kernel
theorem d_PT_move_63 : decode prog_1_method_15_code 63 = .ok (.getfield 21, 3) := by decide +kernel
theorem d_PT_move_66 : decode prog_1_method_15_code 66 = .ok (.iload 5, 2) := by decide +kernel
theorem d_PT_move_68 : decode prog_1_method_15_code 68 = .ok (.iload_n 3, 1) := by decide +kernel
theorem d_PT_move_69 : decode prog_1_method_15_code 69 = .ok (.if_icmp .ge 8, 3) := by decide +kernel
theorem d_PT_move_72 : decode prog_1_method_15_code 72 = .ok (.iload 5, 2) := by decide +kernel
theorem d_PT_move_74 : decode prog_1_method_15_code 74 = .ok (.goto 7, 3) := by decide +kernel
theorem d_PT_move_77 : decode prog_1_method_15_code 77 = .ok (.iload 5, 2) := by decide +kernel
theorem d_PT_move_79 : decode prog_1_method_15_code 79 = .ok (.iconst 1, 1) := by decide +kernel
theorem d_PT_move_80 : decode prog_1_method_15_code 80 = .ok (.iadd, 1) := by decide +kernel
theorem d_PT_move_81 : decode prog_1_method_15_code 81 = .ok (.invokevirtual 103, 3) := by decide +kernel
theorem d_PT_move_84 : decode prog_1_method_15_code 84 = .ok (.istore 6, 2) := by decide +kernel
theorem d_PT_move_86 : decode prog_1_method_15_code 86 = .ok (.aload_n 0, 1) := by decide +kernel
theorem d_PT_move_87 : decode prog_1_method_15_code 87 = .ok (.getfield 21, 3) := by decide +kernel
theorem d_PT_move_90 : decode prog_1_method_15_code 90 = .ok (.iload 6, 2) := by decide +kernel
theorem d_PT_move_92 : decode prog_1_method_15_code 92 = .ok (.invokevirtual 124, 3) := by decide +kernel
theorem d_PT_move_95 : decode prog_1_method_15_code 95 = .ok (.istore 7, 2) := by decide +kernel
theorem d_PT_move_97 : decode prog_1_method_15_code 97 = .ok (.aload_n 0, 1) := by decide +kernel
theorem d_PT_move_98 : decode prog_1_method_15_code 98 = .ok (.getfield 10, 3) := by decide +kernel
theorem d_PT_move_101 : decode prog_1_method_15_code 101 = .ok (.iload 7, 2) := by decide +kernel
theorem d_PT_move_103 : decode prog_1_method_15_code 103 = .ok (.iload_n 1, 1) := by decide +kernel
theorem d_PT_move_104 : decode prog_1_method_15_code 104 = .ok (.invokevirtual 127, 3) := by decide +kernel
theorem d_PT_move_107 : decode prog_1_method_15_code 107 = .ok (.bipush 40, 2) := by decide +kernel
theorem d_PT_move_109 : decode prog_1_method_15_code 109 = .ok (.if_icmp .lt 6, 3) := by decide +kernel
theorem d_PT_move_112 : decode prog_1_method_15_code 112 = .ok (.bipush (-4), 2) := by decide +kernel
theorem d_PT_move_114 : decode prog_1_method_15_code 114 = .ok (.ireturn, 1) := by decide +kernel
theorem d_PT_move_115 : decode prog_1_method_15_code 115 = .ok (.aload_n 0, 1) := by decide +kernel
theorem d_PT_move_116 : decode prog_1_method_15_code 116 = .ok (.getfield 10, 3) := by decide +kernel
theorem d_PT_move_119 : decode prog_1_method_15_code 119 = .ok (.iload_n 1, 1) := by decide +kernel
theorem d_PT_move_120 : decode prog_1_method_15_code 120 = .ok (.iload_n 1, 1) := by decide +kernel
theorem d_PT_move_121 : decode prog_1_method_15_code 121 = .ok (.invokevirtual 130, 3) := by decide +kernel
theorem d_PT_move_124 : decode prog_1_method_15_code 124 = .ok (.aload_n 0, 1) := by decide +kernel
theorem d_PT_move_125 : decode prog_1_method_15_code 125 = .ok (.getfield 10, 3) := by decide +kernel
theorem d_PT_move_128 : decode prog_1_method_15_code 128 = .ok (.iload_n 1, 1) := by decide +kernel
theorem d_PT_move_129 : decode prog_1_method_15_code 129 = .ok (.invokevirtual 133, 3) := by decide +kernel
theorem d_PT_move_132 : decode prog_1_method_15_code 132 = .ok (.aload_n 0, 1) := by decide +kernel
theorem d_PT_move_133 : decode prog_1_method_15_code 133 = .ok (.getfield 21, 3) := by decide +kernel
theorem d_PT_move_136 : decode prog_1_method_15_code 136 = .ok (.iload 6, 2) := by decide +kernel
theorem d_PT_move_138 : decode prog_1_method_15_code 138 = .ok (.invokevirtual 137, 3) := by decide +kernel
theorem d_PT_move_141 : decode prog_1_method_15_code 141 = .ok (.istore 8, 2) := by decide +kernel
theorem d_PT_move_143 : decode prog_1_method_15_code 143 = .ok (.aload_n 0, 1) := by decide +kernel
theorem d_PT_move_144 : decode prog_1_method_15_code 144 = .ok (.getfield 10, 3) := by decide +kernel
theorem d_PT_move_147 : decode prog_1_method_15_code 147 = .ok (.iload 7, 2) := by decide +kernel
theorem d_PT_move_149 : decode prog_1_method_15_code 149 = .ok (.iload_n 2, 1) := by decide +kernel
theorem d_PT_move_150 : decode prog_1_method_15_code 150 = .ok (.iload 4, 2) := by decide +kernel
theorem d_PT_move_152 : decode prog_1_method_15_code 152 = .ok (.if_icmp .ne 10, 3) := by decide +kernel
theorem d_PT_move_155 : decode prog_1_method_15_code 155 = .ok (.iload 8, 2) := by decide +kernel
theorem d_PT_move_157 : decode prog_1_method_15_code 157 = .ok (.iconst 1, 1) := by decide +kernel
theorem d_PT_move_158 : decode prog_1_method_15_code 158 = .ok (.iadd, 1) := by decide +kernel
theorem d_PT_move_159 : decode prog_1_method_15_code 159 = .ok (.goto 5, 3) := by decide +kernel
theorem d_PT_move_162 : decode prog_1_method_15_code 162 = .ok (.iload 8, 2) := by decide +kernel
theorem d_PT_move_164 : decode prog_1_method_15_code 164 = .ok (.iload_n 1, 1) := by decide +kernel
theorem d_PT_move_165 : decode prog_1_method_15_code 165 = .ok (.invokevirtual 140, 3) := by decide +kernel
theorem d_PT_move_168 : decode prog_1_method_15_code 168 = .ok (.aload_n 0, 1) := by decide +kernel
theorem d_PT_move_169 : decode prog_1_method_15_code 169 = .ok (.getfield 10, 3) := by decide +kernel
theorem d_PT_move_172 : decode prog_1_method_15_code 172 = .ok (.iload_n 1, 1) := by decide +kernel
theorem d_PT_move_173 : decode prog_1_method_15_code 173 = .ok (.iload 7, 2) := by decide +kernel
theorem d_PT_move_175 : decode prog_1_method_15_code 175 = .ok (.invokevirtual 143, 3) := by decide +kernel
theorem d_PT_move_178 : decode prog_1_method_15_code 178 = .ok (.iload_n 2, 1) := by decide +kernel
theorem d_PT_move_179 : decode prog_1_method_15_code 179 = .ok (.ireturn, 1) := by decide +kernel
theorem d_PT_copy_0 : decode prog_1_method_16_code 0 = .ok (.aload_n 0, 1) := by decide +kernel
theorem d_PT_copy_1 : decode prog_1_method_16_code 1 = .ok (.getfield 21, 3) := by decide +kernel
theorem d_PT_copy_4 : decode prog_1_method_16_code 4 = .ok (.iload_n 1, 1) := by decide +kernel
theorem d_PT_copy_5 : decode prog_1_method_16_code 5 = .ok (.invokevirtual 112, 3) := by decide +kernel
theorem d_PT_copy_8 : decode prog_1_method_16_code 8 = .ok (.iconst (-1), 1) := by decide +kernel
theorem d_PT_copy_9 : decode prog_1_method_16_code 9 = .ok (.if_icmp .ne 5, 3) := by decide +kernel
theorem d_PT_copy_12 : decode prog_1_method_16_code 12 = .ok (.iconst (-1), 1) := by decide +kernel
theorem d_PT_copy_13 : decode prog_1_method_16_code 13 = .ok (.ireturn, 1) := by decide +kernel
theorem d_PT_copy_14 : decode prog_1_method_16_code 14 = .ok (.aload_n 0, 1) := by decide +kernel
theorem d_PT_copy_15 : decode prog_1_method_16_code 15 = .ok (.getfield 21, 3) := by decide +kernel
theorem d_PT_copy_18 : decode prog_1_method_16_code 18 = .ok (.iload_n 1, 1) := by decide +kernel
theorem d_PT_copy_19 : decode prog_1_method_16_code 19 = .ok (.invokevirtual 124, 3) := by decide +kernel
theorem d_PT_copy_22 : decode prog_1_method_16_code 22 = .ok (.istore_n 2, 1) := by decide +kernel
theorem d_PT_copy_23 : decode prog_1_method_16_code 23 = .ok (.aload_n 0, 1) := by decide +kernel
theorem d_PT_copy_24 : decode prog_1_method_16_code 24 = .ok (.getfield 21, 3) := by decide +kernel
theorem d_PT_copy_27 : decode prog_1_method_16_code 27 = .ok (.iload_n 1, 1) := by decide +kernel
theorem d_PT_copy_28 : decode prog_1_method_16_code 28 = .ok (.invokevirtual 137, 3) := by decide +kernel
theorem d_PT_copy_31 : decode prog_1_method_16_code 31 = .ok (.istore_n 3, 1) := by decide +kernel
theorem d_PT_copy_32 : decode prog_1_method_16_code 32 = .ok (.aload_n 0, 1) := by decide +kernel
theorem d_PT_copy_33 : decode prog_1_method_16_code 33 = .ok (.getfield 10, 3) := by decide +kernel
theorem d_PT_copy_36 : decode prog_1_method_16_code 36 = .ok (.invokevirtual 69, 3) := by decide +kernel
theorem d_PT_copy_39 : decode prog_1_method_16_code 39 = .ok (.ifCond .ne 14, 3) := by decide +kernel
theorem d_PT_copy_42 : decode prog_1_method_16_code 42 = .ok (.aload_n 0, 1) := by decide +kernel
theorem d_PT_copy_43 : decode prog_1_method_16_code 43 = .ok (.getfield 10, 3) := by decide +kernel
theorem d_PT_copy_46 : decode prog_1_method_16_code 46 = .ok (.iload_n 2, 1) := by decide +kernel
theorem d_PT_copy_47 : decode prog_1_method_16_code 47 = .ok (.invokevirtual 73, 3) := by decide +kernel
theorem d_PT_copy_50 : decode prog_1_method_16_code 50 = .ok (.ifCond .eq 6, 3) := by decide +kernel
theorem d_PT_copy_53 : decode prog_1_method_16_code 53 = .ok (.bipush (-4), 2) := by decide +kernel
theorem d_PT_copy_55 : decode prog_1_method_16_code 55 = .ok (.ireturn, 1) := by decide +kernel
theorem d_PT_copy_56 : decode prog_1_method_16_code 56 = .ok (.aload_n 0, 1) := by decide +kernel
theorem d_PT_copy_57 : decode prog_1_method_16_code 57 = .ok (.getfield 10, 3) := by decide +kernel
theorem d_PT_copy_60 : decode prog_1_method_16_code 60 = .ok (.iconst 1, 1) := by decide +kernel
theorem d_PT_copy_61 : decode prog_1_method_16_code 61 = .ok (.iload_n 2, 1) := by decide +kernel
theorem d_PT_copy_62 : decode prog_1_method_16_code 62 = .ok (.iconst 0, 1) := by decide +kernel
theorem d_PT_copy_63 : decode prog_1_method_16_code 63 = .ok (.invokevirtual 57, 3) := by decide +kernel
theorem d_PT_copy_66 : decode prog_1_method_16_code 66 = .ok (.istore 4, 2) := by decide +kernel
theorem d_PT_copy_68 : decode prog_1_method_16_code 68 = .ok (.aload_n 0, 1) := by decide +kernel
theorem d_PT_copy_69 : decode prog_1_method_16_code 69 = .ok (.getfield 10, 3) := by decide +kernel
theorem d_PT_copy_72 : decode prog_1_method_16_code 72 = .ok (.iload_n 1, 1) := by decide +kernel
theorem d_PT_copy_73 : decode prog_1_method_16_code 73 = .ok (.iload 4, 2) := by decide +kernel
theorem d_PT_copy_75 : decode prog_1_method_16_code 75 = .ok (.invokevirtual 130, 3) := by decide +kernel
theorem d_PT_copy_78 : decode prog_1_method_16_code 78 = .ok (.aload_n 0, 1) := by decide +kernel
theorem d_PT_copy_79 : decode prog_1_method_16_code 79 = .ok (.getfield 10, 3) := by decide +kernel
theorem d_PT_copy_82 : decode prog_1_method_16_code 82 = .ok (.iload_n 2, 1) := by decide +kernel
theorem d_PT_copy_83 : decode prog_1_method_16_code 83 = .ok (.iload_n 3, 1) := by decide +kernel
theorem d_PT_copy_84 : decode prog_1_method_16_code 84 = .ok (.iconst 1, 1) := by decide +kernel
theorem d_PT_copy_85 : decode prog_1_method_16_code 85 = .ok (.iadd, 1) := by decide +kernel
theorem d_PT_copy_86 : decode prog_1_method_16_code 86 = .ok (.iload 4, 2) := by decide +kernel
theorem d_PT_copy_88 : decode prog_1_method_16_code 88 = .ok (.invokevirtual 140, 3) := by decide +kernel
theorem d_PT_copy_91 : decode prog_1_method_16_code 91 = .ok (.iload 4, 2) := by decide +kernel
theorem d_PT_copy_93 : decode prog_1_method_16_code 93 = .ok (.ireturn, 1) := by decide +kernel
theorem d_Names_forget_0 : decode prog_6_method_6_code 0 = .ok (.iconst 0, 1) := by decide +kernel
theorem d_Names_forget_1 : decode prog_6_method_6_code 1 = .ok (.istore_n 2, 1) := by decide +kernel
theorem d_Names_forget_2 : decode prog_6_method_6_code 2 = .ok (.iconst 0, 1) := by decide +kernel
theorem d_Names_forget_3 : decode prog_6_method_6_code 3 = .ok (.istore_n 3, 1) := by decide +kernel
theorem d_Names_forget_4 : decode prog_6_method_6_code 4 = .ok (.iload_n 3, 1) := by decide +kernel
theorem d_Names_forget_5 : decode prog_6_method_6_code 5 = .ok (.aload_n 0, 1) := by decide +kernel
theorem d_Names_forget_6 : decode prog_6_method_6_code 6 = .ok (.getfield 18, 3) := by decide +kernel
theorem d_Names_forget_9 : decode prog_6_method_6_code 9 = .ok (.if_icmp .ge 46, 3) := by decide +kernel
theorem d_Names_forget_12 : decode prog_6_method_6_code 12 = .ok (.aload_n 0, 1) := by decide +kernel
theorem d_Names_forget_13 : decode prog_6_method_6_code 13 = .ok (.getfield 15, 3) := by decide +kernel
theorem d_Names_forget_16 : decode prog_6_method_6_code 16 = .ok (.iload_n 3, 1) := by decide +kernel
theorem d_Names_forget_17 : decode prog_6_method_6_code 17 = .ok (.iaload, 1) := by decide +kernel
theorem d_Names_forget_18 : decode prog_6_method_6_code 18 = .ok (.iload_n 1, 1) := by decide +kernel
theorem d_Names_forget_19 : decode prog_6_method_6_code 19 = .ok (.if_icmp .eq 30, 3) := by decide +kernel
theorem d_Names_forget_22 : decode prog_6_method_6_code 22 = .ok (.aload_n 0, 1) := by decide +kernel
theorem d_Names_forget_23 : decode prog_6_method_6_code 23 = .ok (.getfield 11, 3) := by decide +kernel
theorem d_Names_forget_26 : decode prog_6_method_6_code 26 = .ok (.iload_n 2, 1) := by decide +kernel
theorem d_Names_forget_27 : decode prog_6_method_6_code 27 = .ok (.aload_n 0, 1) := by decide +kernel
theorem d_Names_forget_28 : decode prog_6_method_6_code 28 = .ok (.getfield 11, 3) := by decide +kernel
theorem d_Names_forget_31 : decode prog_6_method_6_code 31 = .ok (.iload_n 3, 1) := by decide +kernel
theorem d_Names_forget_32 : decode prog_6_method_6_code 32 = .ok (.iaload, 1) := by decide +kernel
theorem d_Names_forget_33 : decode prog_6_method_6_code 33 = .ok (.iastore, 1) := by decide +kernel
theorem d_Names_forget_34 : decode prog_6_method_6_code 34 = .ok (.aload_n 0, 1) := by decide +kernel
theorem d_Names_forget_35 : decode prog_6_method_6_code 35 = .ok (.getfield 15, 3) := by decide +kernel
theorem d_Names_forget_38 : decode prog_6_method_6_code 38 = .ok (.iload_n 2, 1) := by decide +kernel
theorem d_Names_forget_39 : decode prog_6_method_6_code 39 = .ok (.aload_n 0, 1) := by decide +kernel
theorem d_Names_forget_40 : decode prog_6_method_6_code 40 = .ok (.getfield 15, 3) := by decide +kernel
theorem d_Names_forget_43 : decode prog_6_method_6_code 43 = .ok (.iload_n 3, 1) := by decide +kernel
theorem d_Names_forget_44 : decode prog_6_method_6_code 44 = .ok (.iaload, 1) := by decide +kernel
theorem d_Names_forget_45 : decode prog_6_method_6_code 45 = .ok (.iastore, 1) := by decide +kernel
theorem d_Names_forget_46 : decode prog_6_method_6_code 46 = .ok (.iinc 2 1, 3) := by decide +kernel
theorem d_Names_forget_49 : decode prog_6_method_6_code 49 = .ok (.iinc 3 1, 3) := by decide +kernel
theorem d_Names_forget_52 : decode prog_6_method_6_code 52 = .ok (.goto (-48), 3) := by decide +kernel
theorem d_Names_forget_55 : decode prog_6_method_6_code 55 = .ok (.aload_n 0, 1) := by decide +kernel
theorem d_Names_forget_56 : decode prog_6_method_6_code 56 = .ok (.getfield 18, 3) := by decide +kernel
theorem d_Names_forget_59 : decode prog_6_method_6_code 59 = .ok (.iload_n 2, 1) := by decide +kernel
theorem d_Names_forget_60 : decode prog_6_method_6_code 60 = .ok (.isub, 1) := by decide +kernel
theorem d_Names_forget_61 : decode prog_6_method_6_code 61 = .ok (.istore_n 3, 1) := by decide +kernel
theorem d_Names_forget_62 : decode prog_6_method_6_code 62 = .ok (.aload_n 0, 1) := by decide +kernel
theorem d_Names_forget_63 : decode prog_6_method_6_code 63 = .ok (.iload_n 2, 1) := by decide +kernel
theorem d_Names_forget_64 : decode prog_6_method_6_code 64 = .ok (.putfield 18, 3) := by decide +kernel
theorem d_Names_forget_67 : decode prog_6_method_6_code 67 = .ok (.iload_n 3, 1) := by decide +kernel
theorem d_Names_forget_68 : decode prog_6_method_6_code 68 = .ok (.ireturn, 1) := by decide +kernel
theorem d_PT_remove_0 : decode prog_1_method_17_code 0 = .ok (.aload_n 0, 1) := by decide +kernel
theorem d_PT_remove_1 : decode prog_1_method_17_code 1 = .ok (.getfield 21, 3) := by decide +kernel
theorem d_PT_remove_4 : decode prog_1_method_17_code 4 = .ok (.iload_n 1, 1) := by decide +kernel
theorem d_PT_remove_5 : decode prog_1_method_17_code 5 = .ok (.invokevirtual 112, 3) := by decide +kernel
theorem d_PT_remove_8 : decode prog_1_method_17_code 8 = .ok (.iconst (-1), 1) := by decide +kernel
theorem d_PT_remove_9 : decode prog_1_method_17_code 9 = .ok (.if_icmp .ne 5, 3) := by decide +kernel
theorem d_PT_remove_12 : decode prog_1_method_17_code 12 = .ok (.iconst (-1), 1) := by decide +kernel
theorem d_PT_remove_13 : decode prog_1_method_17_code 13 = .ok (.ireturn, 1) := by decide +kernel
theorem d_PT_remove_14 : decode prog_1_method_17_code 14 = .ok (.aload_n 0, 1) := by decide +kernel
theorem d_PT_remove_15 : decode prog_1_method_17_code 15 = .ok (.getfield 21, 3) := by decide +kernel
theorem d_PT_remove_18 : decode prog_1_method_17_code 18 = .ok (.invokevirtual 102, 3) := by decide +kernel
theorem d_PT_remove_21 : decode prog_1_method_17_code 21 = .ok (.iconst 1, 1) := by decide +kernel
theorem d_PT_remove_22 : decode prog_1_method_17_code 22 = .ok (.if_icmp .ne 6, 3) := by decide +kernel
theorem d_PT_remove_25 : decode prog_1_method_17_code 25 = .ok (.bipush (-3), 2) := by decide +kernel
theorem d_PT_remove_27 : decode prog_1_method_17_code 27 = .ok (.ireturn, 1) := by decide +kernel
theorem d_PT_remove_28 : decode prog_1_method_17_code 28 = .ok (.aload_n 0, 1) := by decide +kernel
theorem d_PT_remove_29 : decode prog_1_method_17_code 29 = .ok (.getfield 10, 3) := by decide +kernel
theorem d_PT_remove_32 : decode prog_1_method_17_code 32 = .ok (.iload_n 1, 1) := by decide +kernel
theorem d_PT_remove_33 : decode prog_1_method_17_code 33 = .ok (.invokevirtual 133, 3) := by decide +kernel
theorem d_PT_remove_36 : decode prog_1_method_17_code 36 = .ok (.aload_n 0, 1) := by decide +kernel
theorem d_PT_remove_37 : decode prog_1_method_17_code 37 = .ok (.getfield 10, 3) := by decide +kernel
theorem d_PT_remove_40 : decode prog_1_method_17_code 40 = .ok (.iload_n 1, 1) := by decide +kernel
theorem d_PT_remove_41 : decode prog_1_method_17_code 41 = .ok (.iconst (-1), 1) := by decide +kernel
theorem d_PT_remove_42 : decode prog_1_method_17_code 42 = .ok (.invokevirtual 143, 3) := by decide +kernel
theorem d_PT_remove_45 : decode prog_1_method_17_code 45 = .ok (.aload_n 0, 1) := by decide +kernel
theorem d_PT_remove_46 : decode prog_1_method_17_code 46 = .ok (.getfield 49, 3) := by decide +kernel
theorem d_PT_remove_49 : decode prog_1_method_17_code 49 = .ok (.iload_n 1, 1) := by decide +kernel
theorem d_PT_remove_50 : decode prog_1_method_17_code 50 = .ok (.invokevirtual 146, 3) := by decide +kernel
theorem d_PT_remove_53 : decode prog_1_method_17_code 53 = .ok (.ireturn, 1) := by decide +kernel
theorem d_Labels_isRange_0 : decode prog_4_method_2_code 0 = .ok (.iload_n 0, 1) := by decide +kernel
theorem d_Labels_isRange_1 : decode prog_4_method_2_code 1 = .ok (.ifCond .lt 35, 3) := by decide +kernel
theorem d_Labels_isRange_4 : decode prog_4_method_2_code 4 = .ok (.iload_n 0, 1) := by decide +kernel
theorem d_Labels_isRange_5 : decode prog_4_method_2_code 5 = .ok (.sipush 199, 3) := by decide +kernel
theorem d_Labels_isRange_8 : decode prog_4_method_2_code 8 = .ok (.if_icmp .gt 28, 3) := by decide +kernel
theorem d_Labels_isRange_11 : decode prog_4_method_2_code 11 = .ok (.iload_n 1, 1) := by decide +kernel
theorem d_Labels_isRange_12 : decode prog_4_method_2_code 12 = .ok (.ifCond .lt 24, 3) := by decide +kernel
theorem d_Labels_isRange_15 : decode prog_4_method_2_code 15 = .ok (.iload_n 1, 1) := by decide +kernel
theorem d_Labels_isRange_16 : decode prog_4_method_2_code 16 = .ok (.iconst 2, 1) := by decide +kernel
theorem d_Labels_isRange_17 : decode prog_4_method_2_code 17 = .ok (.if_icmp .gt 19, 3) := by decide +kernel
theorem d_Labels_isRange_20 : decode prog_4_method_2_code 20 = .ok (.iload_n 2, 1) := by decide +kernel
theorem d_Labels_isRange_21 : decode prog_4_method_2_code 21 = .ok (.iconst 1, 1) := by decide +kernel
theorem d_Labels_isRange_22 : decode prog_4_method_2_code 22 = .ok (.if_icmp .lt 14, 3) := by decide +kernel
theorem d_Labels_isRange_25 : decode prog_4_method_2_code 25 = .ok (.iload_n 2, 1) := by decide +kernel
theorem d_Labels_isRange_26 : decode prog_4_method_2_code 26 = .ok (.sipush 1000, 3) := by decide +kernel
theorem d_Labels_isRange_29 : decode prog_4_method_2_code 29 = .ok (.if_icmp .gt 7, 3) := by decide +kernel
theorem d_Labels_isRange_32 : decode prog_4_method_2_code 32 = .ok (.iconst 1, 1) := by decide +kernel
theorem d_Labels_isRange_33 : decode prog_4_method_2_code 33 = .ok (.goto 4, 3) := by decide +kernel
theorem d_Labels_isRange_36 : decode prog_4_method_2_code 36 = .ok (.iconst 0, 1) := by decide +kernel
theorem d_Labels_isRange_37 : decode prog_4_method_2_code 37 = .ok (.ireturn, 1) := by decide +kernel
theorem d_Labels_rangeFrom_0 : decode prog_4_method_5_code 0 = .ok (.iconst 0, 1) := by decide +kernel
theorem d_Labels_rangeFrom_1 : decode prog_4_method_5_code 1 = .ok (.istore_n 2, 1) := by decide +kernel
theorem d_Labels_rangeFrom_2 : decode prog_4_method_5_code 2 = .ok (.iload_n 2, 1) := by decide +kernel
theorem d_Labels_rangeFrom_3 : decode prog_4_method_5_code 3 = .ok (.aload_n 0, 1) := by decide +kernel
theorem d_Labels_rangeFrom_4 : decode prog_4_method_5_code 4 = .ok (.getfield 25, 3) := by decide +kernel
theorem d_Labels_rangeFrom_7 : decode prog_4_method_5_code 7 = .ok (.if_icmp .ge 21, 3) := by decide +kernel
theorem d_Labels_rangeFrom_10 : decode prog_4_method_5_code 10 = .ok (.aload_n 0, 1) := by decide +kernel
theorem d_Labels_rangeFrom_11 : decode prog_4_method_5_code 11 = .ok (.getfield 11, 3) := by decide +kernel
theorem d_Labels_rangeFrom_14 : decode prog_4_method_5_code 14 = .ok (.iload_n 2, 1) := by decide +kernel
theorem d_Labels_rangeFrom_15 : decode prog_4_method_5_code 15 = .ok (.iaload, 1) := by decide +kernel
theorem d_Labels_rangeFrom_16 : decode prog_4_method_5_code 16 = .ok (.iload_n 1, 1) := by decide +kernel
theorem d_Labels_rangeFrom_17 : decode prog_4_method_5_code 17 = .ok (.if_icmp .ne 5, 3) := by decide +kernel
theorem d_Labels_rangeFrom_20 : decode prog_4_method_5_code 20 = .ok (.iload_n 2, 1) := by decide +kernel
theorem d_Labels_rangeFrom_21 : decode prog_4_method_5_code 21 = .ok (.ireturn, 1) := by decide +kernel
theorem d_Labels_rangeFrom_22 : decode prog_4_method_5_code 22 = .ok (.iinc 2 1, 3) := by decide +kernel
theorem d_Labels_rangeFrom_25 : decode prog_4_method_5_code 25 = .ok (.goto (-23), 3) := by decide +kernel
theorem d_Labels_rangeFrom_28 : decode prog_4_method_5_code 28 = .ok (.aload_n 0, 1) := by decide +kernel
theorem d_Labels_rangeFrom_29 : decode prog_4_method_5_code 29 = .ok (.getfield 25, 3) := by decide +kernel
theorem d_Labels_rangeFrom_32 : decode prog_4_method_5_code 32 = .ok (.ireturn, 1) := by decide +kernel
theorem d_Labels_begin_0 : decode prog_4_method_4_code 0 = .ok (.aload_n 0, 1) := by decide +kernel
theorem d_Labels_begin_1 : decode prog_4_method_4_code 1 = .ok (.iload_n 1, 1) := by decide +kernel
theorem d_Labels_begin_2 : decode prog_4_method_4_code 2 = .ok (.invokevirtual 29, 3) := by decide +kernel
theorem d_Labels_begin_5 : decode prog_4_method_4_code 5 = .ok (.istore 4, 2) := by decide +kernel
theorem d_Labels_begin_7 : decode prog_4_method_4_code 7 = .ok (.iload 4, 2) := by decide +kernel
theorem d_Labels_begin_9 : decode prog_4_method_4_code 9 = .ok (.bipush 20, 2) := by decide +kernel
theorem d_Labels_begin_11 : decode prog_4_method_4_code 11 = .ok (.if_icmp .lt 5, 3) := by decide +kernel
theorem d_Labels_begin_14 : decode prog_4_method_4_code 14 = .ok (.iconst 0, 1) := by decide +kernel
theorem d_Labels_begin_15 : decode prog_4_method_4_code 15 = .ok (.ireturn, 1) := by decide +kernel
theorem d_Labels_begin_16 : decode prog_4_method_4_code 16 = .ok (.iload 4, 2) := by decide +kernel
theorem d_Labels_begin_18 : decode prog_4_method_4_code 18 = .ok (.aload_n 0, 1) := by decide +kernel
theorem d_Labels_begin_19 : decode prog_4_method_4_code 19 = .ok (.getfield 25, 3) := by decide +kernel
theorem d_Labels_begin_22 : decode prog_4_method_4_code 22 = .ok (.if_icmp .ne 13, 3) := by decide +kernel
theorem d_Labels_begin_25 : decode prog_4_method_4_code 25 = .ok (.aload_n 0, 1) := by decide +kernel
theorem d_Labels_begin_26 : decode prog_4_method_4_code 26 = .ok (.dup, 1) := by decide +kernel
theorem d_Labels_begin_27 : decode prog_4_method_4_code 27 = .ok (.getfield 25, 3) := by decide +kernel
theorem d_Labels_begin_30 : decode prog_4_method_4_code 30 = .ok (.iconst 1, 1) := by decide +kernel
theorem d_Labels_begin_31 : decode prog_4_method_4_code 31 = .ok (.iadd, 1) := by decide +kernel
theorem d_Labels_begin_32 : decode prog_4_method_4_code 32 = .ok (.putfield 25, 3) := by decide +kernel
theorem d_Labels_begin_35 : decode prog_4_method_4_code 35 = .ok (.aload_n 0, 1) := by decide +kernel
theorem d_Labels_begin_36 : decode prog_4_method_4_code 36 = .ok (.getfield 11, 3) := by decide +kernel
theorem d_Labels_begin_39 : decode prog_4_method_4_code 39 = .ok (.iload 4, 2) := by decide +kernel
theorem d_Labels_begin_41 : decode prog_4_method_4_code 41 = .ok (.iload_n 1, 1) := by decide +kernel
theorem d_Labels_begin_42 : decode prog_4_method_4_code 42 = .ok (.iastore, 1) := by decide +kernel
theorem d_Labels_begin_43 : decode prog_4_method_4_code 43 = .ok (.aload_n 0, 1) := by decide +kernel
theorem d_Labels_begin_44 : decode prog_4_method_4_code 44 = .ok (.getfield 15, 3) := by decide +kernel
theorem d_Labels_begin_47 : decode prog_4_method_4_code 47 = .ok (.iload 4, 2) := by decide +kernel
theorem d_Labels_begin_49 : decode prog_4_method_4_code 49 = .ok (.iload_n 2, 1) := by decide +kernel
theorem d_Labels_begin_50 : decode prog_4_method_4_code 50 = .ok (.iastore, 1) := by decide +kernel
theorem d_Labels_begin_51 : decode prog_4_method_4_code 51 = .ok (.aload_n 0, 1) := by decide +kernel
theorem d_Labels_begin_52 : decode prog_4_method_4_code 52 = .ok (.getfield 18, 3) := by decide +kernel
theorem d_Labels_begin_55 : decode prog_4_method_4_code 55 = .ok (.iload 4, 2) := by decide +kernel
theorem d_Labels_begin_57 : decode prog_4_method_4_code 57 = .ok (.iload_n 3, 1) := by decide +kernel
theorem d_Labels_begin_58 : decode prog_4_method_4_code 58 = .ok (.iastore, 1) := by decide +kernel
theorem d_Labels_begin_59 : decode prog_4_method_4_code 59 = .ok (.iconst 1, 1) := by decide +kernel
theorem d_Labels_begin_60 : decode prog_4_method_4_code 60 = .ok (.ireturn, 1) := by decide +kernel
theorem d_Labels_size_0 : decode prog_4_method_3_code 0 = .ok (.aload_n 0, 1) := by decide +kernel
theorem d_Labels_size_1 : decode prog_4_method_3_code 1 = .ok (.getfield 25, 3) := by decide +kernel
theorem d_Labels_size_4 : decode prog_4_method_3_code 4 = .ok (.ireturn, 1) := by decide +kernel
theorem d_PT_label_0 : decode prog_1_method_18_code 0 = .ok (.iload_n 1, 1) := by decide +kernel
theorem d_PT_label_1 : decode prog_1_method_18_code 1 = .ok (.iload_n 2, 1) := by decide +kernel
theorem d_PT_label_2 : decode prog_1_method_18_code 2 = .ok (.iload_n 3, 1) := by decide +kernel
theorem d_PT_label_3 : decode prog_1_method_18_code 3 = .ok (.invokestatic 149, 3) := by decide +kernel
theorem d_PT_label_6 : decode prog_1_method_18_code 6 = .ok (.ifCond .ne 6, 3) := by decide +kernel
theorem d_PT_label_9 : decode prog_1_method_18_code 9 = .ok (.bipush (-2), 2) := by decide +kernel
theorem d_PT_label_11 : decode prog_1_method_18_code 11 = .ok (.ireturn, 1) := by decide +kernel
theorem d_PT_label_12 : decode prog_1_method_18_code 12 = .ok (.aload_n 0, 1) := by decide +kernel
theorem d_PT_label_13 : decode prog_1_method_18_code 13 = .ok (.getfield 42, 3) := by decide +kernel
theorem d_PT_label_16 : decode prog_1_method_18_code 16 = .ok (.iload_n 1, 1) := by decide +kernel
theorem d_PT_label_17 : decode prog_1_method_18_code 17 = .ok (.iload_n 2, 1) := by decide +kernel
theorem d_PT_label_18 : decode prog_1_method_18_code 18 = .ok (.iload_n 3, 1) := by decide +kernel
theorem d_PT_label_19 : decode prog_1_method_18_code 19 = .ok (.invokevirtual 153, 3) := by decide +kernel
theorem d_PT_label_22 : decode prog_1_method_18_code 22 = .ok (.ifCond .eq 13, 3) := by decide +kernel
theorem d_PT_label_25 : decode prog_1_method_18_code 25 = .ok (.aload_n 0, 1) := by decide +kernel
theorem d_PT_label_26 : decode prog_1_method_18_code 26 = .ok (.getfield 42, 3) := by decide +kernel
theorem d_PT_label_29 : decode prog_1_method_18_code 29 = .ok (.invokevirtual 156, 3) := by decide +kernel
theorem d_PT_label_32 : decode prog_1_method_18_code 32 = .ok (.goto 5, 3) := by decide +kernel
theorem d_PT_label_35 : decode prog_1_method_18_code 35 = .ok (.bipush (-4), 2) := by decide +kernel
theorem d_PT_label_37 : decode prog_1_method_18_code 37 = .ok (.ireturn, 1) := by decide +kernel
theorem d_Labels_rangeAround_0 : decode prog_4_method_7_code 0 = .ok (.iconst (-1), 1) := by decide +kernel
theorem d_Labels_rangeAround_1 : decode prog_4_method_7_code 1 = .ok (.istore_n 2, 1) := by decide +kernel
theorem d_Labels_rangeAround_2 : decode prog_4_method_7_code 2 = .ok (.iconst 0, 1) := by decide +kernel
theorem d_Labels_rangeAround_3 : decode prog_4_method_7_code 3 = .ok (.istore_n 3, 1) := by decide +kernel
theorem d_Labels_rangeAround_4 : decode prog_4_method_7_code 4 = .ok (.iload_n 3, 1) := by decide +kernel
theorem d_Labels_rangeAround_5 : decode prog_4_method_7_code 5 = .ok (.aload_n 0, 1) := by decide +kernel
theorem d_Labels_rangeAround_6 : decode prog_4_method_7_code 6 = .ok (.getfield 25, 3) := by decide +kernel
theorem d_Labels_rangeAround_9 : decode prog_4_method_7_code 9 = .ok (.if_icmp .ge 53, 3) := by decide +kernel
theorem d_Labels_rangeAround_12 : decode prog_4_method_7_code 12 = .ok (.aload_n 0, 1) := by decide +kernel
theorem d_Labels_rangeAround_13 : decode prog_4_method_7_code 13 = .ok (.getfield 11, 3) := by decide +kernel
theorem d_Labels_rangeAround_16 : decode prog_4_method_7_code 16 = .ok (.iload_n 3, 1) := by decide +kernel
theorem d_Labels_rangeAround_17 : decode prog_4_method_7_code 17 = .ok (.iaload, 1) := by decide +kernel
theorem d_Labels_rangeAround_18 : decode prog_4_method_7_code 18 = .ok (.iload_n 1, 1) := by decide +kernel
theorem d_Labels_rangeAround_19 : decode prog_4_method_7_code 19 = .ok (.if_icmp .gt 7, 3) := by decide +kernel
theorem d_Labels_rangeAround_22 : decode prog_4_method_7_code 22 = .ok (.iconst 1, 1) := by decide +kernel
theorem d_Labels_rangeAround_23 : decode prog_4_method_7_code 23 = .ok (.goto 4, 3) := by decide +kernel
theorem d_Labels_rangeAround_26 : decode prog_4_method_7_code 26 = .ok (.iconst 0, 1) := by decide +kernel
theorem d_Labels_rangeAround_27 : decode prog_4_method_7_code 27 = .ok (.istore 4, 2) := by decide +kernel
theorem d_Labels_rangeAround_29 : decode prog_4_method_7_code 29 = .ok (.iload 4, 2) := by decide +kernel
theorem d_Labels_rangeAround_31 : decode prog_4_method_7_code 31 = .ok (.ifCond .eq 25, 3) := by decide +kernel
theorem d_Labels_rangeAround_34 : decode prog_4_method_7_code 34 = .ok (.iload_n 2, 1) := by decide +kernel
theorem d_Labels_rangeAround_35 : decode prog_4_method_7_code 35 = .ok (.iconst (-1), 1) := by decide +kernel
theorem d_Labels_rangeAround_36 : decode prog_4_method_7_code 36 = .ok (.if_icmp .eq 18, 3) := by decide +kernel
theorem d_Labels_rangeAround_39 : decode prog_4_method_7_code 39 = .ok (.aload_n 0, 1) := by decide +kernel
theorem d_Labels_rangeAround_40 : decode prog_4_method_7_code 40 = .ok (.getfield 11, 3) := by decide +kernel
theorem d_Labels_rangeAround_43 : decode prog_4_method_7_code 43 = .ok (.iload_n 3, 1) := by decide +kernel
theorem d_Labels_rangeAround_44 : decode prog_4_method_7_code 44 = .ok (.iaload, 1) := by decide +kernel
theorem d_Labels_rangeAround_45 : decode prog_4_method_7_code 45 = .ok (.aload_n 0, 1) := by decide +kernel
theorem d_Labels_rangeAround_46 : decode prog_4_method_7_code 46 = .ok (.getfield 11, 3) := by decide +kernel
theorem d_Labels_rangeAround_49 : decode prog_4_method_7_code 49 = .ok (.iload_n 2, 1) := by decide +kernel
theorem d_Labels_rangeAround_50 : decode prog_4_method_7_code 50 = .ok (.iaload, 1) := by decide +kernel
theorem d_Labels_rangeAround_51 : decode prog_4_method_7_code 51 = .ok (.if_icmp .le 5, 3) := by decide +kernel
theorem d_Labels_rangeAround_54 : decode prog_4_method_7_code 54 = .ok (.iload_n 3, 1) := by decide +kernel
theorem d_Labels_rangeAround_55 : decode prog_4_method_7_code 55 = .ok (.istore_n 2, 1) := by decide +kernel
theorem d_Labels_rangeAround_56 : decode prog_4_method_7_code 56 = .ok (.iinc 3 1, 3) := by decide +kernel
theorem d_Labels_rangeAround_59 : decode prog_4_method_7_code 59 = .ok (.goto (-55), 3) := by decide +kernel
theorem d_Labels_rangeAround_62 : decode prog_4_method_7_code 62 = .ok (.iload_n 2, 1) := by decide +kernel
theorem d_Labels_rangeAround_63 : decode prog_4_method_7_code 63 = .ok (.ireturn, 1) := by decide +kernel
theorem d_Labels_writeSign_0 : decode prog_4_method_14_code 0 = .ok (.aload_n 0, 1) := by decide +kernel
theorem d_Labels_writeSign_1 : decode prog_4_method_14_code 1 = .ok (.getfield 36, 3) := by decide +kernel
theorem d_Labels_writeSign_4 : decode prog_4_method_14_code 4 = .ok (.bipush 64, 2) := by decide +kernel
theorem d_Labels_writeSign_6 : decode prog_4_method_14_code 6 = .ok (.if_icmp .ge 23, 3) := by decide +kernel
theorem d_Labels_writeSign_9 : decode prog_4_method_14_code 9 = .ok (.aload_n 0, 1) := by decide +kernel
theorem d_Labels_writeSign_10 : decode prog_4_method_14_code 10 = .ok (.getfield 21, 3) := by decide +kernel
theorem d_Labels_writeSign_13 : decode prog_4_method_14_code 13 = .ok (.aload_n 0, 1) := by decide +kernel
theorem d_Labels_writeSign_14 : decode prog_4_method_14_code 14 = .ok (.getfield 36, 3) := by decide +kernel
theorem d_Labels_writeSign_17 : decode prog_4_method_14_code 17 = .ok (.iload_n 1, 1) := by decide +kernel
theorem d_Labels_writeSign_18 : decode prog_4_method_14_code 18 = .ok (.castore, 1) := by decide +kernel
theorem d_Labels_writeSign_19 : decode prog_4_method_14_code 19 = .ok (.aload_n 0, 1) := by decide +kernel
theorem d_Labels_writeSign_20 : decode prog_4_method_14_code 20 = .ok (.dup, 1) := by decide +kernel
theorem d_Labels_writeSign_21 : decode prog_4_method_14_code 21 = .ok (.getfield 36, 3) := by decide +kernel
theorem d_Labels_writeSign_24 : decode prog_4_method_14_code 24 = .ok (.iconst 1, 1) := by decide +kernel
theorem d_Labels_writeSign_25 : decode prog_4_method_14_code 25 = .ok (.iadd, 1) := by decide +kernel
theorem d_Labels_writeSign_26 : decode prog_4_method_14_code 26 = .ok (.putfield 36, 3) := by decide +kernel
theorem d_Labels_writeSign_29 : decode prog_4_method_14_code 29 = .ok (.return_, 1) := by decide +kernel
theorem d_Labels_writeDigits_0 : decode prog_4_method_9_code 0 = .ok (.sipush 1000, 3) := by decide +kernel
theorem d_Labels_writeDigits_3 : decode prog_4_method_9_code 3 = .ok (.istore_n 2, 1) := by decide +kernel
theorem d_Labels_writeDigits_4 : decode prog_4_method_9_code 4 = .ok (.iload_n 2, 1) := by decide +kernel
theorem d_Labels_writeDigits_5 : decode prog_4_method_9_code 5 = .ok (.ifCond .le 30, 3) := by decide +kernel
theorem d_Labels_writeDigits_8 : decode prog_4_method_9_code 8 = .ok (.iload_n 1, 1) := by decide +kernel
theorem d_Labels_writeDigits_9 : decode prog_4_method_9_code 9 = .ok (.iload_n 2, 1) := by decide +kernel
theorem d_Labels_writeDigits_10 : decode prog_4_method_9_code 10 = .ok (.if_icmp .lt 17, 3) := by decide +kernel
theorem d_Labels_writeDigits_13 : decode prog_4_method_9_code 13 = .ok (.aload_n 0, 1) := by decide +kernel
theorem d_Labels_writeDigits_14 : decode prog_4_method_9_code 14 = .ok (.bipush 48, 2) := by decide +kernel
theorem d_Labels_writeDigits_16 : decode prog_4_method_9_code 16 = .ok (.iload_n 1, 1) := by decide +kernel
theorem d_Labels_writeDigits_17 : decode prog_4_method_9_code 17 = .ok (.iload_n 2, 1) := by decide +kernel
theorem d_Labels_writeDigits_18 : decode prog_4_method_9_code 18 = .ok (.idiv, 1) := by decide +kernel
theorem d_Labels_writeDigits_19 : decode prog_4_method_9_code 19 = .ok (.bipush 10, 2) := by decide +kernel
theorem d_Labels_writeDigits_21 : decode prog_4_method_9_code 21 = .ok (.irem, 1) := by decide +kernel
theorem d_Labels_writeDigits_22 : decode prog_4_method_9_code 22 = .ok (.iadd, 1) := by decide +kernel
theorem d_Labels_writeDigits_23 : decode prog_4_method_9_code 23 = .ok (.i2c, 1) := by decide +kernel
theorem d_Labels_writeDigits_24 : decode prog_4_method_9_code 24 = .ok (.invokevirtual 53, 3) := by decide +kernel
theorem d_Labels_writeDigits_27 : decode prog_4_method_9_code 27 = .ok (.iload_n 2, 1) := by decide +kernel
theorem d_Labels_writeDigits_28 : decode prog_4_method_9_code 28 = .ok (.bipush 10, 2) := by decide +kernel
theorem d_Labels_writeDigits_30 : decode prog_4_method_9_code 30 = .ok (.idiv, 1) := by decide +kernel
theorem d_Labels_writeDigits_31 : decode prog_4_method_9_code 31 = .ok (.istore_n 2, 1) := by decide +kernel
theorem d_Labels_writeDigits_32 : decode prog_4_method_9_code 32 = .ok (.goto (-28), 3) := by decide +kernel
theorem d_Labels_writeDigits_35 : decode prog_4_method_9_code 35 = .ok (.return_, 1) := by decide +kernel
theorem d_Labels_romanSigns_0 : decode prog_4_method_11_code 0 = .ok (.iload_n 0, 1) := by decide +kernel
theorem d_Labels_romanSigns_1 : decode prog_4_method_11_code 1 = .ok (.lookupswitch 143 #[(4, 140), (5, 137), (9, 134), (10, 131), (40, 128), (50, 125), (90, 122), (100, 119), (400, 116), (500, 113), (900, 110), (1000, 107)], 107) := by decide +kernel
theorem d_Labels_romanSigns_108 : decode prog_4_method_11_code 108 = .ok (.ldc 68, 2) := by decide +kernel
theorem d_Labels_romanSigns_110 : decode prog_4_method_11_code 110 = .ok (.areturn, 1) := by decide +kernel
theorem d_Labels_romanSigns_111 : decode prog_4_method_11_code 111 = .ok (.ldc 70, 2) := by decide +kernel
theorem d_Labels_romanSigns_113 : decode prog_4_method_11_code 113 = .ok (.areturn, 1) := by decide +kernel
theorem d_Labels_romanSigns_114 : decode prog_4_method_11_code 114 = .ok (.ldc 72, 2) := by decide +kernel
theorem d_Labels_romanSigns_116 : decode prog_4_method_11_code 116 = .ok (.areturn, 1) := by decide +kernel
theorem d_Labels_romanSigns_117 : decode prog_4_method_11_code 117 = .ok (.ldc 74, 2) := by decide +kernel
theorem d_Labels_romanSigns_119 : decode prog_4_method_11_code 119 = .ok (.areturn, 1) := by decide +kernel
theorem d_Labels_romanSigns_120 : decode prog_4_method_11_code 120 = .ok (.ldc 76, 2) := by decide +kernel
theorem d_Labels_romanSigns_122 : decode prog_4_method_11_code 122 = .ok (.areturn, 1) := by decide +kernel
theorem d_Labels_romanSigns_123 : decode prog_4_method_11_code 123 = .ok (.ldc 78, 2) := by decide +kernel
theorem d_Labels_romanSigns_125 : decode prog_4_method_11_code 125 = .ok (.areturn, 1) := by decide +kernel
theorem d_Labels_romanSigns_126 : decode prog_4_method_11_code 126 = .ok (.ldc 80, 2) := by decide +kernel
theorem d_Labels_romanSigns_128 : decode prog_4_method_11_code 128 = .ok (.areturn, 1) := by decide +kernel
theorem d_Labels_romanSigns_129 : decode prog_4_method_11_code 129 = .ok (.ldc 82, 2) := by decide +kernel
theorem d_Labels_romanSigns_131 : decode prog_4_method_11_code 131 = .ok (.areturn, 1) := by decide +kernel
theorem d_Labels_romanSigns_132 : decode prog_4_method_11_code 132 = .ok (.ldc 84, 2) := by decide +kernel
theorem d_Labels_romanSigns_134 : decode prog_4_method_11_code 134 = .ok (.areturn, 1) := by decide +kernel
theorem d_Labels_romanSigns_135 : decode prog_4_method_11_code 135 = .ok (.ldc 86, 2) := by decide +kernel
theorem d_Labels_romanSigns_137 : decode prog_4_method_11_code 137 = .ok (.areturn, 1) := by decide +kernel
theorem d_Labels_romanSigns_138 : decode prog_4_method_11_code 138 = .ok (.ldc 88, 2) := by decide +kernel
theorem d_Labels_romanSigns_140 : decode prog_4_method_11_code 140 = .ok (.areturn, 1) := by decide +kernel
theorem d_Labels_romanSigns_141 : decode prog_4_method_11_code 141 = .ok (.ldc 90, 2) := by decide +kernel
theorem d_Labels_romanSigns_143 : decode prog_4_method_11_code 143 = .ok (.areturn, 1) := by decide +kernel
theorem d_Labels_romanSigns_144 : decode prog_4_method_11_code 144 = .ok (.ldc 92, 2) := by decide +kernel
theorem d_Labels_romanSigns_146 : decode prog_4_method_11_code 146 = .ok (.areturn, 1) := by decide +kernel
theorem d_Labels_writeSigns_0 : decode prog_4_method_13_code 0 = .ok (.iconst 0, 1) := by decide +kernel
theorem d_Labels_writeSigns_1 : decode prog_4_method_13_code 1 = .ok (.istore_n 2, 1) := by decide +kernel
theorem d_Labels_writeSigns_2 : decode prog_4_method_13_code 2 = .ok (.iload_n 2, 1) := by decide +kernel
theorem d_Labels_writeSigns_3 : decode prog_4_method_13_code 3 = .ok (.aload_n 1, 1) := by decide +kernel
theorem d_Labels_writeSigns_4 : decode prog_4_method_13_code 4 = .ok (.invokevirtual 94, 3) := by decide +kernel
theorem d_Labels_writeSigns_7 : decode prog_4_method_13_code 7 = .ok (.if_icmp .ge 18, 3) := by decide +kernel
theorem d_Labels_writeSigns_10 : decode prog_4_method_13_code 10 = .ok (.aload_n 0, 1) := by decide +kernel
theorem d_Labels_writeSigns_11 : decode prog_4_method_13_code 11 = .ok (.aload_n 1, 1) := by decide +kernel
theorem d_Labels_writeSigns_12 : decode prog_4_method_13_code 12 = .ok (.iload_n 2, 1) := by decide +kernel
theorem d_Labels_writeSigns_13 : decode prog_4_method_13_code 13 = .ok (.invokevirtual 100, 3) := by decide +kernel
theorem d_Labels_writeSigns_16 : decode prog_4_method_13_code 16 = .ok (.invokevirtual 53, 3) := by decide +kernel
theorem d_Labels_writeSigns_19 : decode prog_4_method_13_code 19 = .ok (.iinc 2 1, 3) := by decide +kernel
theorem d_Labels_writeSigns_22 : decode prog_4_method_13_code 22 = .ok (.goto (-20), 3) := by decide +kernel
theorem d_Labels_writeSigns_25 : decode prog_4_method_13_code 25 = .ok (.return_, 1) := by decide +kernel
theorem d_Labels_writeRoman_0 : decode prog_4_method_10_code 0 = .ok (.iload_n 1, 1) := by decide +kernel
theorem d_Labels_writeRoman_1 : decode prog_4_method_10_code 1 = .ok (.istore_n 2, 1) := by decide +kernel
theorem d_Labels_writeRoman_2 : decode prog_4_method_10_code 2 = .ok (.getstatic 57, 3) := by decide +kernel
theorem d_Labels_writeRoman_5 : decode prog_4_method_10_code 5 = .ok (.astore_n 3, 1) := by decide +kernel
theorem d_Labels_writeRoman_6 : decode prog_4_method_10_code 6 = .ok (.aload_n 3, 1) := by decide +kernel
theorem d_Labels_writeRoman_7 : decode prog_4_method_10_code 7 = .ok (.arraylength, 1) := by decide +kernel
theorem d_Labels_writeRoman_8 : decode prog_4_method_10_code 8 = .ok (.istore 4, 2) := by decide +kernel
theorem d_Labels_writeRoman_10 : decode prog_4_method_10_code 10 = .ok (.iconst 0, 1) := by decide +kernel
theorem d_Labels_writeRoman_11 : decode prog_4_method_10_code 11 = .ok (.istore 5, 2) := by decide +kernel
theorem d_Labels_writeRoman_13 : decode prog_4_method_10_code 13 = .ok (.iload 5, 2) := by decide +kernel
theorem d_Labels_writeRoman_15 : decode prog_4_method_10_code 15 = .ok (.iload 4, 2) := by decide +kernel
theorem d_Labels_writeRoman_17 : decode prog_4_method_10_code 17 = .ok (.if_icmp .ge 38, 3) := by decide +kernel
theorem d_Labels_writeRoman_20 : decode prog_4_method_10_code 20 = .ok (.aload_n 3, 1) := by decide +kernel
theorem d_Labels_writeRoman_21 : decode prog_4_method_10_code 21 = .ok (.iload 5, 2) := by decide +kernel
theorem d_Labels_writeRoman_23 : decode prog_4_method_10_code 23 = .ok (.iaload, 1) := by decide +kernel
theorem d_Labels_writeRoman_24 : decode prog_4_method_10_code 24 = .ok (.istore 6, 2) := by decide +kernel
theorem d_Labels_writeRoman_26 : decode prog_4_method_10_code 26 = .ok (.iload_n 2, 1) := by decide +kernel
theorem d_Labels_writeRoman_27 : decode prog_4_method_10_code 27 = .ok (.iload 6, 2) := by decide +kernel
theorem d_Labels_writeRoman_29 : decode prog_4_method_10_code 29 = .ok (.if_icmp .lt 20, 3) := by decide +kernel
theorem d_Labels_writeRoman_32 : decode prog_4_method_10_code 32 = .ok (.aload_n 0, 1) := by decide +kernel
theorem d_Labels_writeRoman_33 : decode prog_4_method_10_code 33 = .ok (.iload 6, 2) := by decide +kernel
theorem d_Labels_writeRoman_35 : decode prog_4_method_10_code 35 = .ok (.invokestatic 60, 3) := by decide +kernel
theorem d_Labels_writeRoman_38 : decode prog_4_method_10_code 38 = .ok (.invokevirtual 64, 3) := by decide +kernel
theorem d_Labels_writeRoman_41 : decode prog_4_method_10_code 41 = .ok (.iload_n 2, 1) := by decide +kernel
theorem d_Labels_writeRoman_42 : decode prog_4_method_10_code 42 = .ok (.iload 6, 2) := by decide +kernel
theorem d_Labels_writeRoman_44 : decode prog_4_method_10_code 44 = .ok (.isub, 1) := by decide +kernel
theorem d_Labels_writeRoman_45 : decode prog_4_method_10_code 45 = .ok (.istore_n 2, 1) := by decide +kernel
theorem d_Labels_writeRoman_46 : decode prog_4_method_10_code 46 = .ok (.goto (-20), 3) := by decide +kernel
theorem d_Labels_writeRoman_49 : decode prog_4_method_10_code 49 = .ok (.iinc 5 1, 3) := by decide +kernel
theorem d_Labels_writeRoman_52 : decode prog_4_method_10_code 52 = .ok (.goto (-39), 3) := by decide +kernel
theorem d_Labels_writeRoman_55 : decode prog_4_method_10_code 55 = .ok (.return_, 1) := by decide +kernel
theorem d_Labels_writeLetters_0 : decode prog_4_method_12_code 0 = .ok (.iload_n 1, 1) := by decide +kernel
theorem d_Labels_writeLetters_1 : decode prog_4_method_12_code 1 = .ok (.iconst 1, 1) := by decide +kernel
theorem d_Labels_writeLetters_2 : decode prog_4_method_12_code 2 = .ok (.isub, 1) := by decide +kernel
theorem d_Labels_writeLetters_3 : decode prog_4_method_12_code 3 = .ok (.istore_n 2, 1) := by decide +kernel
theorem d_Labels_writeLetters_4 : decode prog_4_method_12_code 4 = .ok (.bipush 97, 2) := by decide +kernel
theorem d_Labels_writeLetters_6 : decode prog_4_method_12_code 6 = .ok (.iload_n 2, 1) := by decide +kernel
theorem d_Labels_writeLetters_7 : decode prog_4_method_12_code 7 = .ok (.bipush 26, 2) := by decide +kernel
theorem d_Labels_writeLetters_9 : decode prog_4_method_12_code 9 = .ok (.irem, 1) := by decide +kernel
theorem d_Labels_writeLetters_10 : decode prog_4_method_12_code 10 = .ok (.iadd, 1) := by decide +kernel
theorem d_Labels_writeLetters_11 : decode prog_4_method_12_code 11 = .ok (.i2c, 1) := by decide +kernel
theorem d_Labels_writeLetters_12 : decode prog_4_method_12_code 12 = .ok (.istore_n 3, 1) := by decide +kernel
theorem d_Labels_writeLetters_13 : decode prog_4_method_12_code 13 = .ok (.iload_n 2, 1) := by decide +kernel
theorem d_Labels_writeLetters_14 : decode prog_4_method_12_code 14 = .ok (.bipush 26, 2) := by decide +kernel
theorem d_Labels_writeLetters_16 : decode prog_4_method_12_code 16 = .ok (.idiv, 1) := by decide +kernel
theorem d_Labels_writeLetters_17 : decode prog_4_method_12_code 17 = .ok (.iconst 1, 1) := by decide +kernel
theorem d_Labels_writeLetters_18 : decode prog_4_method_12_code 18 = .ok (.iadd, 1) := by decide +kernel
theorem d_Labels_writeLetters_19 : decode prog_4_method_12_code 19 = .ok (.istore 4, 2) := by decide +kernel
theorem d_Labels_writeLetters_21 : decode prog_4_method_12_code 21 = .ok (.iconst 0, 1) := by decide +kernel
theorem d_Labels_writeLetters_22 : decode prog_4_method_12_code 22 = .ok (.istore 5, 2) := by decide +kernel
theorem d_Labels_writeLetters_24 : decode prog_4_method_12_code 24 = .ok (.iload 5, 2) := by decide +kernel
theorem d_Labels_writeLetters_26 : decode prog_4_method_12_code 26 = .ok (.iload 4, 2) := by decide +kernel
theorem d_Labels_writeLetters_28 : decode prog_4_method_12_code 28 = .ok (.if_icmp .ge 14, 3) := by decide +kernel
theorem d_Labels_writeLetters_31 : decode prog_4_method_12_code 31 = .ok (.aload_n 0, 1) := by decide +kernel
theorem d_Labels_writeLetters_32 : decode prog_4_method_12_code 32 = .ok (.iload_n 3, 1) := by decide +kernel
theorem d_Labels_writeLetters_33 : decode prog_4_method_12_code 33 = .ok (.invokevirtual 53, 3) := by decide +kernel
theorem d_Labels_writeLetters_36 : decode prog_4_method_12_code 36 = .ok (.iinc 5 1, 3) := by decide +kernel
theorem d_Labels_writeLetters_39 : decode prog_4_method_12_code 39 = .ok (.goto (-15), 3) := by decide +kernel
theorem d_Labels_writeLetters_42 : decode prog_4_method_12_code 42 = .ok (.return_, 1) := by decide +kernel
theorem d_Labels_write_0 : decode prog_4_method_8_code 0 = .ok (.iload_n 1, 1) := by decide +kernel
theorem d_Labels_write_1 : decode prog_4_method_8_code 1 = .ok (.iconst 1, 1) := by decide +kernel
theorem d_Labels_write_2 : decode prog_4_method_8_code 2 = .ok (.if_icmp .ne 11, 3) := by decide +kernel
theorem d_Labels_write_5 : decode prog_4_method_8_code 5 = .ok (.aload_n 0, 1) := by decide +kernel
theorem d_Labels_write_6 : decode prog_4_method_8_code 6 = .ok (.iload_n 2, 1) := by decide +kernel
theorem d_Labels_write_7 : decode prog_4_method_8_code 7 = .ok (.invokevirtual 47, 3) := by decide +kernel
theorem d_Labels_write_10 : decode prog_4_method_8_code 10 = .ok (.goto 21, 3) := by decide +kernel
theorem d_Labels_write_13 : decode prog_4_method_8_code 13 = .ok (.iload_n 1, 1) := by decide +kernel
theorem d_Labels_write_14 : decode prog_4_method_8_code 14 = .ok (.iconst 2, 1) := by decide +kernel
theorem d_Labels_write_15 : decode prog_4_method_8_code 15 = .ok (.if_icmp .ne 11, 3) := by decide +kernel
theorem d_Labels_write_18 : decode prog_4_method_8_code 18 = .ok (.aload_n 0, 1) := by decide +kernel
theorem d_Labels_write_19 : decode prog_4_method_8_code 19 = .ok (.iload_n 2, 1) := by decide +kernel
theorem d_Labels_write_20 : decode prog_4_method_8_code 20 = .ok (.invokevirtual 50, 3) := by decide +kernel
theorem d_Labels_write_23 : decode prog_4_method_8_code 23 = .ok (.goto 8, 3) := by decide +kernel
theorem d_Labels_write_26 : decode prog_4_method_8_code 26 = .ok (.aload_n 0, 1) := by decide +kernel
theorem d_Labels_write_27 : decode prog_4_method_8_code 27 = .ok (.iload_n 2, 1) := by decide +kernel
theorem d_Labels_write_28 : decode prog_4_method_8_code 28 = .ok (.invokevirtual 39, 3) := by decide +kernel
theorem d_Labels_write_31 : decode prog_4_method_8_code 31 = .ok (.return_, 1) := by decide +kernel
theorem d_Labels_signOf_0 : decode prog_4_method_6_code 0 = .ok (.aload_n 0, 1) := by decide +kernel
theorem d_Labels_signOf_1 : decode prog_4_method_6_code 1 = .ok (.iload_n 1, 1) := by decide +kernel
theorem d_Labels_signOf_2 : decode prog_4_method_6_code 2 = .ok (.invokevirtual 33, 3) := by decide +kernel
theorem d_Labels_signOf_5 : decode prog_4_method_6_code 5 = .ok (.istore_n 3, 1) := by decide +kernel
theorem d_Labels_signOf_6 : decode prog_4_method_6_code 6 = .ok (.aload_n 0, 1) := by decide +kernel
theorem d_Labels_signOf_7 : decode prog_4_method_6_code 7 = .ok (.iconst 0, 1) := by decide +kernel
theorem d_Labels_signOf_8 : decode prog_4_method_6_code 8 = .ok (.putfield 36, 3) := by decide +kernel
theorem d_Labels_signOf_11 : decode prog_4_method_6_code 11 = .ok (.iload_n 3, 1) := by decide +kernel
theorem d_Labels_signOf_12 : decode prog_4_method_6_code 12 = .ok (.iconst (-1), 1) := by decide +kernel
theorem d_Labels_signOf_13 : decode prog_4_method_6_code 13 = .ok (.if_icmp .ne 13, 3) := by decide +kernel
theorem d_Labels_signOf_16 : decode prog_4_method_6_code 16 = .ok (.aload_n 0, 1) := by decide +kernel
theorem d_Labels_signOf_17 : decode prog_4_method_6_code 17 = .ok (.iload_n 1, 1) := by decide +kernel
theorem d_Labels_signOf_18 : decode prog_4_method_6_code 18 = .ok (.iconst 1, 1) := by decide +kernel
theorem d_Labels_signOf_19 : decode prog_4_method_6_code 19 = .ok (.iadd, 1) := by decide +kernel
theorem d_Labels_signOf_20 : decode prog_4_method_6_code 20 = .ok (.invokevirtual 39, 3) := by decide +kernel
theorem d_Labels_signOf_23 : decode prog_4_method_6_code 23 = .ok (.goto 28, 3) := by decide +kernel
theorem d_Labels_signOf_26 : decode prog_4_method_6_code 26 = .ok (.aload_n 0, 1) := by decide +kernel
theorem d_Labels_signOf_27 : decode prog_4_method_6_code 27 = .ok (.aload_n 0, 1) := by decide +kernel
theorem d_Labels_signOf_28 : decode prog_4_method_6_code 28 = .ok (.getfield 15, 3) := by decide +kernel
theorem d_Labels_signOf_31 : decode prog_4_method_6_code 31 = .ok (.iload_n 3, 1) := by decide +kernel
theorem d_Labels_signOf_32 : decode prog_4_method_6_code 32 = .ok (.iaload, 1) := by decide +kernel
theorem d_Labels_signOf_33 : decode prog_4_method_6_code 33 = .ok (.aload_n 0, 1) := by decide +kernel
theorem d_Labels_signOf_34 : decode prog_4_method_6_code 34 = .ok (.getfield 18, 3) := by decide +kernel
theorem d_Labels_signOf_37 : decode prog_4_method_6_code 37 = .ok (.iload_n 3, 1) := by decide +kernel
theorem d_Labels_signOf_38 : decode prog_4_method_6_code 38 = .ok (.iaload, 1) := by decide +kernel
theorem d_Labels_signOf_39 : decode prog_4_method_6_code 39 = .ok (.iload_n 1, 1) := by decide +kernel
theorem d_Labels_signOf_40 : decode prog_4_method_6_code 40 = .ok (.iadd, 1) := by decide +kernel
theorem d_Labels_signOf_41 : decode prog_4_method_6_code 41 = .ok (.aload_n 0, 1) := by decide +kernel
theorem d_Labels_signOf_42 : decode prog_4_method_6_code 42 = .ok (.getfield 11, 3) := by decide +kernel
theorem d_Labels_signOf_45 : decode prog_4_method_6_code 45 = .ok (.iload_n 3, 1) := by decide +kernel
theorem d_Labels_signOf_46 : decode prog_4_method_6_code 46 = .ok (.iaload, 1) := by decide +kernel
theorem d_Labels_signOf_47 : decode prog_4_method_6_code 47 = .ok (.isub, 1) := by decide +kernel
theorem d_Labels_signOf_48 : decode prog_4_method_6_code 48 = .ok (.invokevirtual 43, 3) := by decide +kernel
theorem d_Labels_signOf_51 : decode prog_4_method_6_code 51 = .ok (.iload_n 2, 1) := by decide +kernel
theorem d_Labels_signOf_52 : decode prog_4_method_6_code 52 = .ok (.ifCond .lt 20, 3) := by decide +kernel
theorem d_Labels_signOf_55 : decode prog_4_method_6_code 55 = .ok (.iload_n 2, 1) := by decide +kernel
theorem d_Labels_signOf_56 : decode prog_4_method_6_code 56 = .ok (.aload_n 0, 1) := by decide +kernel
theorem d_Labels_signOf_57 : decode prog_4_method_6_code 57 = .ok (.getfield 36, 3) := by decide +kernel
theorem d_Labels_signOf_60 : decode prog_4_method_6_code 60 = .ok (.if_icmp .ge 12, 3) := by decide +kernel
theorem d_Labels_signOf_63 : decode prog_4_method_6_code 63 = .ok (.aload_n 0, 1) := by decide +kernel
theorem d_Labels_signOf_64 : decode prog_4_method_6_code 64 = .ok (.getfield 21, 3) := by decide +kernel
theorem d_Labels_signOf_67 : decode prog_4_method_6_code 67 = .ok (.iload_n 2, 1) := by decide +kernel
theorem d_Labels_signOf_68 : decode prog_4_method_6_code 68 = .ok (.caload, 1) := by decide +kernel
theorem d_Labels_signOf_69 : decode prog_4_method_6_code 69 = .ok (.goto 4, 3) := by decide +kernel
theorem d_Labels_signOf_72 : decode prog_4_method_6_code 72 = .ok (.iconst (-1), 1) := by decide +kernel
theorem d_Labels_signOf_73 : decode prog_4_method_6_code 73 = .ok (.ireturn, 1) := by decide +kernel
theorem d_PT_text_0 : decode prog_1_method_19_code 0 = .ok (.aload_n 0, 1) := by decide +kernel
theorem d_PT_text_1 : decode prog_1_method_19_code 1 = .ok (.getfield 21, 3) := by decide +kernel
theorem d_PT_text_4 : decode prog_1_method_19_code 4 = .ok (.iload_n 1, 1) := by decide +kernel
theorem d_PT_text_5 : decode prog_1_method_19_code 5 = .ok (.invokevirtual 103, 3) := by decide +kernel
theorem d_PT_text_8 : decode prog_1_method_19_code 8 = .ok (.iconst (-1), 1) := by decide +kernel
theorem d_PT_text_9 : decode prog_1_method_19_code 9 = .ok (.if_icmp .ne 7, 3) := by decide +kernel
theorem d_PT_text_12 : decode prog_1_method_19_code 12 = .ok (.iconst (-1), 1) := by decide +kernel
theorem d_PT_text_13 : decode prog_1_method_19_code 13 = .ok (.goto 12, 3) := by decide +kernel
theorem d_PT_text_16 : decode prog_1_method_19_code 16 = .ok (.aload_n 0, 1) := by decide +kernel
theorem d_PT_text_17 : decode prog_1_method_19_code 17 = .ok (.getfield 42, 3) := by decide +kernel
theorem d_PT_text_20 : decode prog_1_method_19_code 20 = .ok (.iload_n 1, 1) := by decide +kernel
theorem d_PT_text_21 : decode prog_1_method_19_code 21 = .ok (.iload_n 2, 1) := by decide +kernel
theorem d_PT_text_22 : decode prog_1_method_19_code 22 = .ok (.invokevirtual 157, 3) := by decide +kernel
theorem d_PT_text_25 : decode prog_1_method_19_code 25 = .ok (.ireturn, 1) := by decide +kernel
theorem d_Names_isName_0 : decode prog_6_method_2_code 0 = .ok (.iload_n 0, 1) := by decide +kernel
theorem d_Names_isName_1 : decode prog_6_method_2_code 1 = .ok (.ifCond .lt 14, 3) := by decide +kernel
theorem d_Names_isName_4 : decode prog_6_method_2_code 4 = .ok (.iload_n 0, 1) := by decide +kernel
theorem d_Names_isName_5 : decode prog_6_method_2_code 5 = .ok (.sipush 9999, 3) := by decide +kernel
theorem d_Names_isName_8 : decode prog_6_method_2_code 8 = .ok (.if_icmp .gt 7, 3) := by decide +kernel
theorem d_Names_isName_11 : decode prog_6_method_2_code 11 = .ok (.iconst 1, 1) := by decide +kernel
theorem d_Names_isName_12 : decode prog_6_method_2_code 12 = .ok (.goto 4, 3) := by decide +kernel
theorem d_Names_isName_15 : decode prog_6_method_2_code 15 = .ok (.iconst 0, 1) := by decide +kernel
