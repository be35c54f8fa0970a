theorem d_Md_about_11 : decode prog_10_method_22_code 11 = .ok (.tableswitch 75 0 4 #[33, 48, 55, 62, 69], 33) := by decide +kernel
theorem d_Md_about_44 : decode prog_10_method_22_code 44 = .ok (.aload_n 0, 1) := by decide +kernel
theorem d_Md_about_45 : decode prog_10_method_22_code 45 = .ok (.getfield 7, 3) := by decide +kernel
theorem d_Md_about_48 : decode prog_10_method_22_code 48 = .ok (.iload_n 1, 1) := by decide +kernel
theorem d_Md_about_49 : decode prog_10_method_22_code 49 = .ok (.baload, 1) := by decide +kernel
theorem d_Md_about_50 : decode prog_10_method_22_code 50 = .ok (.ifCond .eq 7, 3) := by decide +kernel
theorem d_Md_about_53 : decode prog_10_method_22_code 53 = .ok (.iconst 1, 1) := by decide +kernel
theorem d_Md_about_54 : decode prog_10_method_22_code 54 = .ok (.goto 4, 3) := by decide +kernel
theorem d_Md_about_57 : decode prog_10_method_22_code 57 = .ok (.iconst 0, 1) := by decide +kernel
theorem d_Md_about_58 : decode prog_10_method_22_code 58 = .ok (.ireturn, 1) := by decide +kernel
theorem d_Md_about_59 : decode prog_10_method_22_code 59 = .ok (.aload_n 0, 1) := by decide +kernel
theorem d_Md_about_60 : decode prog_10_method_22_code 60 = .ok (.getfield 13, 3) := by decide +kernel
theorem d_Md_about_63 : decode prog_10_method_22_code 63 = .ok (.iload_n 1, 1) := by decide +kernel
theorem d_Md_about_64 : decode prog_10_method_22_code 64 = .ok (.iaload, 1) := by decide +kernel
theorem d_Md_about_65 : decode prog_10_method_22_code 65 = .ok (.ireturn, 1) := by decide +kernel
theorem d_Md_about_66 : decode prog_10_method_22_code 66 = .ok (.aload_n 0, 1) := by decide +kernel
theorem d_Md_about_67 : decode prog_10_method_22_code 67 = .ok (.getfield 20, 3) := by decide +kernel
theorem d_Md_about_70 : decode prog_10_method_22_code 70 = .ok (.iload_n 1, 1) := by decide +kernel
theorem d_Md_about_71 : decode prog_10_method_22_code 71 = .ok (.iaload, 1) := by decide +kernel
theorem d_Md_about_72 : decode prog_10_method_22_code 72 = .ok (.ireturn, 1) := by decide +kernel
theorem d_Md_about_73 : decode prog_10_method_22_code 73 = .ok (.aload_n 0, 1) := by decide +kernel
theorem d_Md_about_74 : decode prog_10_method_22_code 74 = .ok (.getfield 17, 3) := by decide +kernel
theorem d_Md_about_77 : decode prog_10_method_22_code 77 = .ok (.iload_n 1, 1) := by decide +kernel
theorem d_Md_about_78 : decode prog_10_method_22_code 78 = .ok (.iaload, 1) := by decide +kernel
theorem d_Md_about_79 : decode prog_10_method_22_code 79 = .ok (.ireturn, 1) := by decide +kernel
theorem d_Md_about_80 : decode prog_10_method_22_code 80 = .ok (.aload_n 0, 1) := by decide +kernel
theorem d_Md_about_81 : decode prog_10_method_22_code 81 = .ok (.iload_n 1, 1) := by decide +kernel
theorem d_Md_about_82 : decode prog_10_method_22_code 82 = .ok (.invokevirtual 127, 3) := by decide +kernel
theorem d_Md_about_85 : decode prog_10_method_22_code 85 = .ok (.ireturn, 1) := by decide +kernel
theorem d_Md_about_86 : decode prog_10_method_22_code 86 = .ok (.bipush (-2), 2) := by decide +kernel
theorem d_Md_about_88 : decode prog_10_method_22_code 88 = .ok (.ireturn, 1) := by decide +kernel
theorem d_Md_kid_0 : decode prog_10_method_23_code 0 = .ok (.aload_n 0, 1) := by decide +kernel
theorem d_Md_kid_1 : decode prog_10_method_23_code 1 = .ok (.iload_n 1, 1) := by decide +kernel
theorem d_Md_kid_2 : decode prog_10_method_23_code 2 = .ok (.invokevirtual 85, 3) := by decide +kernel
theorem d_Md_kid_5 : decode prog_10_method_23_code 5 = .ok (.ifCond .eq 33, 3) := by decide +kernel
theorem d_Md_kid_8 : decode prog_10_method_23_code 8 = .ok (.iload_n 2, 1) := by decide +kernel
theorem d_Md_kid_9 : decode prog_10_method_23_code 9 = .ok (.iconst 0, 1) := by decide +kernel
theorem d_Md_kid_10 : decode prog_10_method_23_code 10 = .ok (.aload_n 0, 1) := by decide +kernel
theorem d_Md_kid_11 : decode prog_10_method_23_code 11 = .ok (.getfield 20, 3) := by decide +kernel
theorem d_Md_kid_14 : decode prog_10_method_23_code 14 = .ok (.iload_n 1, 1) := by decide +kernel
theorem d_Md_kid_15 : decode prog_10_method_23_code 15 = .ok (.iaload, 1) := by decide +kernel
theorem d_Md_kid_16 : decode prog_10_method_23_code 16 = .ok (.iconst 1, 1) := by decide +kernel
theorem d_Md_kid_17 : decode prog_10_method_23_code 17 = .ok (.isub, 1) := by decide +kernel
theorem d_Md_kid_18 : decode prog_10_method_23_code 18 = .ok (.invokestatic 96, 3) := by decide +kernel
theorem d_Md_kid_21 : decode prog_10_method_23_code 21 = .ok (.ifCond .eq 17, 3) := by decide +kernel
theorem d_Md_kid_24 : decode prog_10_method_23_code 24 = .ok (.aload_n 0, 1) := by decide +kernel
theorem d_Md_kid_25 : decode prog_10_method_23_code 25 = .ok (.getfield 23, 3) := by decide +kernel
theorem d_Md_kid_28 : decode prog_10_method_23_code 28 = .ok (.bipush 40, 2) := by decide +kernel
theorem d_Md_kid_30 : decode prog_10_method_23_code 30 = .ok (.iload_n 1, 1) := by decide +kernel
theorem d_Md_kid_31 : decode prog_10_method_23_code 31 = .ok (.imul, 1) := by decide +kernel
theorem d_Md_kid_32 : decode prog_10_method_23_code 32 = .ok (.iload_n 2, 1) := by decide +kernel
theorem d_Md_kid_33 : decode prog_10_method_23_code 33 = .ok (.iadd, 1) := by decide +kernel
theorem d_Md_kid_34 : decode prog_10_method_23_code 34 = .ok (.iaload, 1) := by decide +kernel
theorem d_Md_kid_35 : decode prog_10_method_23_code 35 = .ok (.goto 4, 3) := by decide +kernel
theorem d_Md_kid_38 : decode prog_10_method_23_code 38 = .ok (.iconst (-1), 1) := by decide +kernel
theorem d_Md_kid_39 : decode prog_10_method_23_code 39 = .ok (.ireturn, 1) := by decide +kernel
theorem d_Md_tell_0 : decode prog_10_method_24_code 0 = .ok (.aload_n 0, 1) := by decide +kernel
theorem d_Md_tell_1 : decode prog_10_method_24_code 1 = .ok (.getfield 131, 3) := by decide +kernel
theorem d_Md_tell_4 : decode prog_10_method_24_code 4 = .ok (.bipush 100, 2) := by decide +kernel
theorem d_Md_tell_6 : decode prog_10_method_24_code 6 = .ok (.if_icmp .ge 23, 3) := by decide +kernel
theorem d_Md_tell_9 : decode prog_10_method_24_code 9 = .ok (.aload_n 0, 1) := by decide +kernel
theorem d_Md_tell_10 : decode prog_10_method_24_code 10 = .ok (.getfield 50, 3) := by decide +kernel
theorem d_Md_tell_13 : decode prog_10_method_24_code 13 = .ok (.aload_n 0, 1) := by decide +kernel
theorem d_Md_tell_14 : decode prog_10_method_24_code 14 = .ok (.getfield 131, 3) := by decide +kernel
theorem d_Md_tell_17 : decode prog_10_method_24_code 17 = .ok (.iload_n 1, 1) := by decide +kernel
theorem d_Md_tell_18 : decode prog_10_method_24_code 18 = .ok (.iastore, 1) := by decide +kernel
theorem d_Md_tell_19 : decode prog_10_method_24_code 19 = .ok (.aload_n 0, 1) := by decide +kernel
theorem d_Md_tell_20 : decode prog_10_method_24_code 20 = .ok (.getfield 53, 3) := by decide +kernel
theorem d_Md_tell_23 : decode prog_10_method_24_code 23 = .ok (.aload_n 0, 1) := by decide +kernel
theorem d_Md_tell_24 : decode prog_10_method_24_code 24 = .ok (.getfield 131, 3) := by decide +kernel
theorem d_Md_tell_27 : decode prog_10_method_24_code 27 = .ok (.iload_n 2, 1) := by decide +kernel
theorem d_Md_tell_28 : decode prog_10_method_24_code 28 = .ok (.iastore, 1) := by decide +kernel
theorem d_Md_tell_29 : decode prog_10_method_24_code 29 = .ok (.aload_n 0, 1) := by decide +kernel
theorem d_Md_tell_30 : decode prog_10_method_24_code 30 = .ok (.dup, 1) := by decide +kernel
theorem d_Md_tell_31 : decode prog_10_method_24_code 31 = .ok (.getfield 131, 3) := by decide +kernel
theorem d_Md_tell_34 : decode prog_10_method_24_code 34 = .ok (.iconst 1, 1) := by decide +kernel
theorem d_Md_tell_35 : decode prog_10_method_24_code 35 = .ok (.iadd, 1) := by decide +kernel
theorem d_Md_tell_36 : decode prog_10_method_24_code 36 = .ok (.putfield 131, 3) := by decide +kernel
theorem d_Md_tell_39 : decode prog_10_method_24_code 39 = .ok (.return_, 1) := by decide +kernel
theorem d_Md_isOnWay_0 : decode prog_10_method_26_code 0 = .ok (.iconst 0, 1) := by decide +kernel
theorem d_Md_isOnWay_1 : decode prog_10_method_26_code 1 = .ok (.istore_n 2, 1) := by decide +kernel
theorem d_Md_isOnWay_2 : decode prog_10_method_26_code 2 = .ok (.iconst 0, 1) := by decide +kernel
theorem d_Md_isOnWay_3 : decode prog_10_method_26_code 3 = .ok (.istore_n 3, 1) := by decide +kernel
theorem d_Md_isOnWay_4 : decode prog_10_method_26_code 4 = .ok (.iload_n 3, 1) := by decide +kernel
theorem d_Md_isOnWay_5 : decode prog_10_method_26_code 5 = .ok (.aload_n 0, 1) := by decide +kernel
theorem d_Md_isOnWay_6 : decode prog_10_method_26_code 6 = .ok (.getfield 108, 3) := by decide +kernel
theorem d_Md_isOnWay_9 : decode prog_10_method_26_code 9 = .ok (.if_icmp .ge 29, 3) := by decide +kernel
theorem d_Md_isOnWay_12 : decode prog_10_method_26_code 12 = .ok (.iload_n 2, 1) := by decide +kernel
theorem d_Md_isOnWay_13 : decode prog_10_method_26_code 13 = .ok (.ifCond .ne 13, 3) := by decide +kernel
theorem d_Md_isOnWay_16 : decode prog_10_method_26_code 16 = .ok (.aload_n 0, 1) := by decide +kernel
theorem d_Md_isOnWay_17 : decode prog_10_method_26_code 17 = .ok (.getfield 29, 3) := by decide +kernel
theorem d_Md_isOnWay_20 : decode prog_10_method_26_code 20 = .ok (.iload_n 3, 1) := by decide +kernel
theorem d_Md_isOnWay_21 : decode prog_10_method_26_code 21 = .ok (.iaload, 1) := by decide +kernel
theorem d_Md_isOnWay_22 : decode prog_10_method_26_code 22 = .ok (.iload_n 1, 1) := by decide +kernel
theorem d_Md_isOnWay_23 : decode prog_10_method_26_code 23 = .ok (.if_icmp .ne 7, 3) := by decide +kernel
theorem d_Md_isOnWay_26 : decode prog_10_method_26_code 26 = .ok (.iconst 1, 1) := by decide +kernel
theorem d_Md_isOnWay_27 : decode prog_10_method_26_code 27 = .ok (.goto 4, 3) := by decide +kernel
theorem d_Md_isOnWay_30 : decode prog_10_method_26_code 30 = .ok (.iconst 0, 1) := by decide +kernel
theorem d_Md_isOnWay_31 : decode prog_10_method_26_code 31 = .ok (.istore_n 2, 1) := by decide +kernel
theorem d_Md_isOnWay_32 : decode prog_10_method_26_code 32 = .ok (.iinc 3 1, 3) := by decide +kernel
theorem d_Md_isOnWay_35 : decode prog_10_method_26_code 35 = .ok (.goto (-31), 3) := by decide +kernel
theorem d_Md_isOnWay_38 : decode prog_10_method_26_code 38 = .ok (.iload_n 2, 1) := by decide +kernel
theorem d_Md_isOnWay_39 : decode prog_10_method_26_code 39 = .ok (.ireturn, 1) := by decide +kernel
theorem d_Md_takeOff_0 : decode prog_10_method_25_code 0 = .ok (.aload_n 0, 1) := by decide +kernel
theorem d_Md_takeOff_1 : decode prog_10_method_25_code 1 = .ok (.getfield 20, 3) := by decide +kernel
theorem d_Md_takeOff_4 : decode prog_10_method_25_code 4 = .ok (.iload_n 1, 1) := by decide +kernel
theorem d_Md_takeOff_5 : decode prog_10_method_25_code 5 = .ok (.dup2, 1) := by decide +kernel
theorem d_Md_takeOff_6 : decode prog_10_method_25_code 6 = .ok (.iaload, 1) := by decide +kernel
theorem d_Md_takeOff_7 : decode prog_10_method_25_code 7 = .ok (.iconst 1, 1) := by decide +kernel
theorem d_Md_takeOff_8 : decode prog_10_method_25_code 8 = .ok (.isub, 1) := by decide +kernel
theorem d_Md_takeOff_9 : decode prog_10_method_25_code 9 = .ok (.iastore, 1) := by decide +kernel
theorem d_Md_takeOff_10 : decode prog_10_method_25_code 10 = .ok (.iload_n 2, 1) := by decide +kernel
theorem d_Md_takeOff_11 : decode prog_10_method_25_code 11 = .ok (.istore_n 3, 1) := by decide +kernel
theorem d_Md_takeOff_12 : decode prog_10_method_25_code 12 = .ok (.iload_n 3, 1) := by decide +kernel
theorem d_Md_takeOff_13 : decode prog_10_method_25_code 13 = .ok (.aload_n 0, 1) := by decide +kernel
theorem d_Md_takeOff_14 : decode prog_10_method_25_code 14 = .ok (.getfield 20, 3) := by decide +kernel
theorem d_Md_takeOff_17 : decode prog_10_method_25_code 17 = .ok (.iload_n 1, 1) := by decide +kernel
theorem d_Md_takeOff_18 : decode prog_10_method_25_code 18 = .ok (.iaload, 1) := by decide +kernel
theorem d_Md_takeOff_19 : decode prog_10_method_25_code 19 = .ok (.if_icmp .ge 33, 3) := by decide +kernel
theorem d_Md_takeOff_22 : decode prog_10_method_25_code 22 = .ok (.aload_n 0, 1) := by decide +kernel
theorem d_Md_takeOff_23 : decode prog_10_method_25_code 23 = .ok (.getfield 23, 3) := by decide +kernel
theorem d_Md_takeOff_26 : decode prog_10_method_25_code 26 = .ok (.bipush 40, 2) := by decide +kernel
theorem d_Md_takeOff_28 : decode prog_10_method_25_code 28 = .ok (.iload_n 1, 1) := by decide +kernel
theorem d_Md_takeOff_29 : decode prog_10_method_25_code 29 = .ok (.imul, 1) := by decide +kernel
theorem d_Md_takeOff_30 : decode prog_10_method_25_code 30 = .ok (.iload_n 3, 1) := by decide +kernel
theorem d_Md_takeOff_31 : decode prog_10_method_25_code 31 = .ok (.iadd, 1) := by decide +kernel
theorem d_Md_takeOff_32 : decode prog_10_method_25_code 32 = .ok (.aload_n 0, 1) := by decide +kernel
theorem d_Md_takeOff_33 : decode prog_10_method_25_code 33 = .ok (.getfield 23, 3) := by decide +kernel
theorem d_Md_takeOff_36 : decode prog_10_method_25_code 36 = .ok (.bipush 40, 2) := by decide +kernel
theorem d_Md_takeOff_38 : decode prog_10_method_25_code 38 = .ok (.iload_n 1, 1) := by decide +kernel
theorem d_Md_takeOff_39 : decode prog_10_method_25_code 39 = .ok (.imul, 1) := by decide +kernel
theorem d_Md_takeOff_40 : decode prog_10_method_25_code 40 = .ok (.iload_n 3, 1) := by decide +kernel
theorem d_Md_takeOff_41 : decode prog_10_method_25_code 41 = .ok (.iadd, 1) := by decide +kernel
theorem d_Md_takeOff_42 : decode prog_10_method_25_code 42 = .ok (.iconst 1, 1) := by decide +kernel
theorem d_Md_takeOff_43 : decode prog_10_method_25_code 43 = .ok (.iadd, 1) := by decide +kernel
theorem d_Md_takeOff_44 : decode prog_10_method_25_code 44 = .ok (.iaload, 1) := by decide +kernel
theorem d_Md_takeOff_45 : decode prog_10_method_25_code 45 = .ok (.iastore, 1) := by decide +kernel
theorem d_Md_takeOff_46 : decode prog_10_method_25_code 46 = .ok (.iinc 3 1, 3) := by decide +kernel
theorem d_Md_takeOff_49 : decode prog_10_method_25_code 49 = .ok (.goto (-37), 3) := by decide +kernel
theorem d_Md_takeOff_52 : decode prog_10_method_25_code 52 = .ok (.return_, 1) := by decide +kernel
theorem d_Md_mendKid_0 : decode prog_10_method_27_code 0 = .ok (.aload_n 0, 1) := by decide +kernel
theorem d_Md_mendKid_1 : decode prog_10_method_27_code 1 = .ok (.getfield 23, 3) := by decide +kernel
theorem d_Md_mendKid_4 : decode prog_10_method_27_code 4 = .ok (.bipush 40, 2) := by decide +kernel
theorem d_Md_mendKid_6 : decode prog_10_method_27_code 6 = .ok (.iload_n 1, 1) := by decide +kernel
theorem d_Md_mendKid_7 : decode prog_10_method_27_code 7 = .ok (.imul, 1) := by decide +kernel
theorem d_Md_mendKid_8 : decode prog_10_method_27_code 8 = .ok (.iload_n 2, 1) := by decide +kernel
theorem d_Md_mendKid_9 : decode prog_10_method_27_code 9 = .ok (.iadd, 1) := by decide +kernel
theorem d_Md_mendKid_10 : decode prog_10_method_27_code 10 = .ok (.iaload, 1) := by decide +kernel
theorem d_Md_mendKid_11 : decode prog_10_method_27_code 11 = .ok (.istore_n 3, 1) := by decide +kernel
theorem d_Md_mendKid_12 : decode prog_10_method_27_code 12 = .ok (.aload_n 0, 1) := by decide +kernel
theorem d_Md_mendKid_13 : decode prog_10_method_27_code 13 = .ok (.getfield 7, 3) := by decide +kernel
theorem d_Md_mendKid_16 : decode prog_10_method_27_code 16 = .ok (.iload_n 3, 1) := by decide +kernel
theorem d_Md_mendKid_17 : decode prog_10_method_27_code 17 = .ok (.baload, 1) := by decide +kernel
theorem d_Md_mendKid_18 : decode prog_10_method_27_code 18 = .ok (.ifCond .ne 29, 3) := by decide +kernel
theorem d_Md_mendKid_21 : decode prog_10_method_27_code 21 = .ok (.aload_n 0, 1) := by decide +kernel
theorem d_Md_mendKid_22 : decode prog_10_method_27_code 22 = .ok (.aload_n 0, 1) := by decide +kernel
theorem d_Md_mendKid_23 : decode prog_10_method_27_code 23 = .ok (.iload_n 3, 1) := by decide +kernel
theorem d_Md_mendKid_24 : decode prog_10_method_27_code 24 = .ok (.invokevirtual 134, 3) := by decide +kernel
theorem d_Md_mendKid_27 : decode prog_10_method_27_code 27 = .ok (.ifCond .eq 7, 3) := by decide +kernel
theorem d_Md_mendKid_30 : decode prog_10_method_27_code 30 = .ok (.iconst 1, 1) := by decide +kernel
theorem d_Md_mendKid_31 : decode prog_10_method_27_code 31 = .ok (.goto 4, 3) := by decide +kernel
theorem d_Md_mendKid_34 : decode prog_10_method_27_code 34 = .ok (.iconst 2, 1) := by decide +kernel
theorem d_Md_mendKid_35 : decode prog_10_method_27_code 35 = .ok (.iload_n 3, 1) := by decide +kernel
theorem d_Md_mendKid_36 : decode prog_10_method_27_code 36 = .ok (.invokevirtual 137, 3) := by decide +kernel
theorem d_Md_mendKid_39 : decode prog_10_method_27_code 39 = .ok (.aload_n 0, 1) := by decide +kernel
theorem d_Md_mendKid_40 : decode prog_10_method_27_code 40 = .ok (.iload_n 1, 1) := by decide +kernel
theorem d_Md_mendKid_41 : decode prog_10_method_27_code 41 = .ok (.iload_n 2, 1) := by decide +kernel
theorem d_Md_mendKid_42 : decode prog_10_method_27_code 42 = .ok (.invokevirtual 140, 3) := by decide +kernel
theorem d_Md_mendKid_45 : decode prog_10_method_27_code 45 = .ok (.iconst 0, 1) := by decide +kernel
theorem d_Md_mendKid_46 : decode prog_10_method_27_code 46 = .ok (.ireturn, 1) := by decide +kernel
theorem d_Md_mendKid_47 : decode prog_10_method_27_code 47 = .ok (.aload_n 0, 1) := by decide +kernel
theorem d_Md_mendKid_48 : decode prog_10_method_27_code 48 = .ok (.getfield 77, 3) := by decide +kernel
theorem d_Md_mendKid_51 : decode prog_10_method_27_code 51 = .ok (.sipush 200, 3) := by decide +kernel
theorem d_Md_mendKid_54 : decode prog_10_method_27_code 54 = .ok (.if_icmp .ne 17, 3) := by decide +kernel
theorem d_Md_mendKid_57 : decode prog_10_method_27_code 57 = .ok (.aload_n 0, 1) := by decide +kernel
theorem d_Md_mendKid_58 : decode prog_10_method_27_code 58 = .ok (.iconst 5, 1) := by decide +kernel
theorem d_Md_mendKid_59 : decode prog_10_method_27_code 59 = .ok (.iload_n 3, 1) := by decide +kernel
theorem d_Md_mendKid_60 : decode prog_10_method_27_code 60 = .ok (.invokevirtual 137, 3) := by decide +kernel
theorem d_Md_mendKid_63 : decode prog_10_method_27_code 63 = .ok (.aload_n 0, 1) := by decide +kernel
theorem d_Md_mendKid_64 : decode prog_10_method_27_code 64 = .ok (.iload_n 1, 1) := by decide +kernel
theorem d_Md_mendKid_65 : decode prog_10_method_27_code 65 = .ok (.iload_n 2, 1) := by decide +kernel
theorem d_Md_mendKid_66 : decode prog_10_method_27_code 66 = .ok (.invokevirtual 140, 3) := by decide +kernel
theorem d_Md_mendKid_69 : decode prog_10_method_27_code 69 = .ok (.iconst 0, 1) := by decide +kernel
theorem d_Md_mendKid_70 : decode prog_10_method_27_code 70 = .ok (.ireturn, 1) := by decide +kernel
theorem d_Md_mendKid_71 : decode prog_10_method_27_code 71 = .ok (.aload_n 0, 1) := by decide +kernel
theorem d_Md_mendKid_72 : decode prog_10_method_27_code 72 = .ok (.iconst 3, 1) := by decide +kernel
theorem d_Md_mendKid_73 : decode prog_10_method_27_code 73 = .ok (.iload_n 3, 1) := by decide +kernel
theorem d_Md_mendKid_74 : decode prog_10_method_27_code 74 = .ok (.invokevirtual 137, 3) := by decide +kernel
theorem d_Md_mendKid_77 : decode prog_10_method_27_code 77 = .ok (.aload_n 0, 1) := by decide +kernel
theorem d_Md_mendKid_78 : decode prog_10_method_27_code 78 = .ok (.iconst 1, 1) := by decide +kernel
theorem d_Md_mendKid_79 : decode prog_10_method_27_code 79 = .ok (.iload_n 1, 1) := by decide +kernel
theorem d_Md_mendKid_80 : decode prog_10_method_27_code 80 = .ok (.iconst 0, 1) := by decide +kernel
theorem d_Md_mendKid_81 : decode prog_10_method_27_code 81 = .ok (.invokevirtual 88, 3) := by decide +kernel
theorem d_Md_mendKid_84 : decode prog_10_method_27_code 84 = .ok (.istore 4, 2) := by decide +kernel
theorem d_Md_mendKid_86 : decode prog_10_method_27_code 86 = .ok (.iconst 0, 1) := by decide +kernel
theorem d_Md_mendKid_87 : decode prog_10_method_27_code 87 = .ok (.istore 5, 2) := by decide +kernel
theorem d_Md_mendKid_89 : decode prog_10_method_27_code 89 = .ok (.iload 5, 2) := by decide +kernel
theorem d_Md_mendKid_91 : decode prog_10_method_27_code 91 = .ok (.iconst 4, 1) := by decide +kernel
theorem d_Md_mendKid_92 : decode prog_10_method_27_code 92 = .ok (.if_icmp .ge 32, 3) := by decide +kernel
theorem d_Md_mendKid_95 : decode prog_10_method_27_code 95 = .ok (.aload_n 0, 1) := by decide +kernel
theorem d_Md_mendKid_96 : decode prog_10_method_27_code 96 = .ok (.getfield 26, 3) := by decide +kernel
theorem d_Md_mendKid_99 : decode prog_10_method_27_code 99 = .ok (.iconst 4, 1) := by decide +kernel
theorem d_Md_mendKid_100 : decode prog_10_method_27_code 100 = .ok (.iload 4, 2) := by decide +kernel
theorem d_Md_mendKid_102 : decode prog_10_method_27_code 102 = .ok (.imul, 1) := by decide +kernel
theorem d_Md_mendKid_103 : decode prog_10_method_27_code 103 = .ok (.iload 5, 2) := by decide +kernel
theorem d_Md_mendKid_105 : decode prog_10_method_27_code 105 = .ok (.iadd, 1) := by decide +kernel
theorem d_Md_mendKid_106 : decode prog_10_method_27_code 106 = .ok (.aload_n 0, 1) := by decide +kernel
theorem d_Md_mendKid_107 : decode prog_10_method_27_code 107 = .ok (.getfield 26, 3) := by decide +kernel
theorem d_Md_mendKid_110 : decode prog_10_method_27_code 110 = .ok (.iconst 4, 1) := by decide +kernel
theorem d_Md_mendKid_111 : decode prog_10_method_27_code 111 = .ok (.iload_n 3, 1) := by decide +kernel
theorem d_Md_mendKid_112 : decode prog_10_method_27_code 112 = .ok (.imul, 1) := by decide +kernel
theorem d_Md_mendKid_113 : decode prog_10_method_27_code 113 = .ok (.iload 5, 2) := by decide +kernel
theorem d_Md_mendKid_115 : decode prog_10_method_27_code 115 = .ok (.iadd, 1) := by decide +kernel
theorem d_Md_mendKid_116 : decode prog_10_method_27_code 116 = .ok (.iaload, 1) := by decide +kernel
theorem d_Md_mendKid_117 : decode prog_10_method_27_code 117 = .ok (.iastore, 1) := by decide +kernel
theorem d_Md_mendKid_118 : decode prog_10_method_27_code 118 = .ok (.iinc 5 1, 3) := by decide +kernel
theorem d_Md_mendKid_121 : decode prog_10_method_27_code 121 = .ok (.goto (-32), 3) := by decide +kernel
theorem d_Md_mendKid_124 : decode prog_10_method_27_code 124 = .ok (.aload_n 0, 1) := by decide +kernel
theorem d_Md_mendKid_125 : decode prog_10_method_27_code 125 = .ok (.getfield 35, 3) := by decide +kernel
theorem d_Md_mendKid_128 : decode prog_10_method_27_code 128 = .ok (.iload 4, 2) := by decide +kernel
theorem d_Md_mendKid_130 : decode prog_10_method_27_code 130 = .ok (.iconst 0, 1) := by decide +kernel
theorem d_Md_mendKid_131 : decode prog_10_method_27_code 131 = .ok (.bastore, 1) := by decide +kernel
theorem d_Md_mendKid_132 : decode prog_10_method_27_code 132 = .ok (.aload_n 0, 1) := by decide +kernel
theorem d_Md_mendKid_133 : decode prog_10_method_27_code 133 = .ok (.getfield 23, 3) := by decide +kernel
theorem d_Md_mendKid_136 : decode prog_10_method_27_code 136 = .ok (.bipush 40, 2) := by decide +kernel
theorem d_Md_mendKid_138 : decode prog_10_method_27_code 138 = .ok (.iload_n 1, 1) := by decide +kernel
theorem d_Md_mendKid_139 : decode prog_10_method_27_code 139 = .ok (.imul, 1) := by decide +kernel
theorem d_Md_mendKid_140 : decode prog_10_method_27_code 140 = .ok (.iload_n 2, 1) := by decide +kernel
theorem d_Md_mendKid_141 : decode prog_10_method_27_code 141 = .ok (.iadd, 1) := by decide +kernel
theorem d_Md_mendKid_142 : decode prog_10_method_27_code 142 = .ok (.iload 4, 2) := by decide +kernel
theorem d_Md_mendKid_144 : decode prog_10_method_27_code 144 = .ok (.iastore, 1) := by decide +kernel
theorem d_Md_mendKid_145 : decode prog_10_method_27_code 145 = .ok (.iconst 1, 1) := by decide +kernel
theorem d_Md_mendKid_146 : decode prog_10_method_27_code 146 = .ok (.ireturn, 1) := by decide +kernel
theorem d_Md_mend_0 : decode prog_10_method_28_code 0 = .ok (.aload_n 0, 1) := by decide +kernel
theorem d_Md_mend_1 : decode prog_10_method_28_code 1 = .ok (.iconst 0, 1) := by decide +kernel
theorem d_Md_mend_2 : decode prog_10_method_28_code 2 = .ok (.putfield 131, 3) := by decide +kernel
theorem d_Md_mend_5 : decode prog_10_method_28_code 5 = .ok (.aload_n 0, 1) := by decide +kernel
theorem d_Md_mend_6 : decode prog_10_method_28_code 6 = .ok (.invokevirtual 115, 3) := by decide +kernel
theorem d_Md_mend_9 : decode prog_10_method_28_code 9 = .ok (.aload_n 0, 1) := by decide +kernel
theorem d_Md_mend_10 : decode prog_10_method_28_code 10 = .ok (.getfield 108, 3) := by decide +kernel
theorem d_Md_mend_13 : decode prog_10_method_28_code 13 = .ok (.ifCond .le 174, 3) := by decide +kernel
theorem d_Md_mend_16 : decode prog_10_method_28_code 16 = .ok (.aload_n 0, 1) := by decide +kernel
theorem d_Md_mend_17 : decode prog_10_method_28_code 17 = .ok (.getfield 108, 3) := by decide +kernel
theorem d_Md_mend_20 : decode prog_10_method_28_code 20 = .ok (.iconst 1, 1) := by decide +kernel
theorem d_Md_mend_21 : decode prog_10_method_28_code 21 = .ok (.isub, 1) := by decide +kernel
theorem d_Md_mend_22 : decode prog_10_method_28_code 22 = .ok (.istore_n 1, 1) := by decide +kernel
theorem d_Md_mend_23 : decode prog_10_method_28_code 23 = .ok (.aload_n 0, 1) := by decide +kernel
theorem d_Md_mend_24 : decode prog_10_method_28_code 24 = .ok (.getfield 29, 3) := by decide +kernel
theorem d_Md_mend_27 : decode prog_10_method_28_code 27 = .ok (.iload_n 1, 1) := by decide +kernel
theorem d_Md_mend_28 : decode prog_10_method_28_code 28 = .ok (.iaload, 1) := by decide +kernel
theorem d_Md_mend_29 : decode prog_10_method_28_code 29 = .ok (.istore_n 2, 1) := by decide +kernel
theorem d_Md_mend_30 : decode prog_10_method_28_code 30 = .ok (.aload_n 0, 1) := by decide +kernel
theorem d_Md_mend_31 : decode prog_10_method_28_code 31 = .ok (.getfield 32, 3) := by decide +kernel
theorem d_Md_mend_34 : decode prog_10_method_28_code 34 = .ok (.iload_n 1, 1) := by decide +kernel
theorem d_Md_mend_35 : decode prog_10_method_28_code 35 = .ok (.iaload, 1) := by decide +kernel
theorem d_Md_mend_36 : decode prog_10_method_28_code 36 = .ok (.aload_n 0, 1) := by decide +kernel
theorem d_Md_mend_37 : decode prog_10_method_28_code 37 = .ok (.getfield 20, 3) := by decide +kernel
theorem d_Md_mend_40 : decode prog_10_method_28_code 40 = .ok (.iload_n 2, 1) := by decide +kernel
theorem d_Md_mend_41 : decode prog_10_method_28_code 41 = .ok (.iaload, 1) := by decide +kernel
theorem d_Md_mend_42 : decode prog_10_method_28_code 42 = .ok (.if_icmp .ne 43, 3) := by decide +kernel
theorem d_Md_mend_45 : decode prog_10_method_28_code 45 = .ok (.aload_n 0, 1) := by decide +kernel
theorem d_Md_mend_46 : decode prog_10_method_28_code 46 = .ok (.getfield 17, 3) := by decide +kernel
theorem d_Md_mend_49 : decode prog_10_method_28_code 49 = .ok (.iload_n 2, 1) := by decide +kernel
theorem d_Md_mend_50 : decode prog_10_method_28_code 50 = .ok (.iaload, 1) := by decide +kernel
theorem d_Md_mend_51 : decode prog_10_method_28_code 51 = .ok (.aload_n 0, 1) := by decide +kernel
theorem d_Md_mend_52 : decode prog_10_method_28_code 52 = .ok (.getfield 47, 3) := by decide +kernel
theorem d_Md_mend_55 : decode prog_10_method_28_code 55 = .ok (.iload_n 1, 1) := by decide +kernel
theorem d_Md_mend_56 : decode prog_10_method_28_code 56 = .ok (.iaload, 1) := by decide +kernel
theorem d_Md_mend_57 : decode prog_10_method_28_code 57 = .ok (.if_icmp .eq 21, 3) := by decide +kernel
theorem d_Md_mend_60 : decode prog_10_method_28_code 60 = .ok (.aload_n 0, 1) := by decide +kernel
theorem d_Md_mend_61 : decode prog_10_method_28_code 61 = .ok (.iconst 4, 1) := by decide +kernel
theorem d_Md_mend_62 : decode prog_10_method_28_code 62 = .ok (.iload_n 2, 1) := by decide +kernel
theorem d_Md_mend_63 : decode prog_10_method_28_code 63 = .ok (.invokevirtual 137, 3) := by decide +kernel
theorem d_Md_mend_66 : decode prog_10_method_28_code 66 = .ok (.aload_n 0, 1) := by decide +kernel
theorem d_Md_mend_67 : decode prog_10_method_28_code 67 = .ok (.getfield 17, 3) := by decide +kernel
theorem d_Md_mend_70 : decode prog_10_method_28_code 70 = .ok (.iload_n 2, 1) := by decide +kernel
theorem d_Md_mend_71 : decode prog_10_method_28_code 71 = .ok (.aload_n 0, 1) := by decide +kernel
theorem d_Md_mend_72 : decode prog_10_method_28_code 72 = .ok (.getfield 47, 3) := by decide +kernel
theorem d_Md_mend_75 : decode prog_10_method_28_code 75 = .ok (.iload_n 1, 1) := by decide +kernel
theorem d_Md_mend_76 : decode prog_10_method_28_code 76 = .ok (.iaload, 1) := by decide +kernel
theorem d_Md_mend_77 : decode prog_10_method_28_code 77 = .ok (.iastore, 1) := by decide +kernel
theorem d_Md_mend_78 : decode prog_10_method_28_code 78 = .ok (.aload_n 0, 1) := by decide +kernel
theorem d_Md_mend_79 : decode prog_10_method_28_code 79 = .ok (.invokevirtual 118, 3) := by decide +kernel
theorem d_Md_mend_82 : decode prog_10_method_28_code 82 = .ok (.goto (-73), 3) := by decide +kernel
theorem d_Md_mend_85 : decode prog_10_method_28_code 85 = .ok (.aload_n 0, 1) := by decide +kernel
theorem d_Md_mend_86 : decode prog_10_method_28_code 86 = .ok (.getfield 23, 3) := by decide +kernel
theorem d_Md_mend_89 : decode prog_10_method_28_code 89 = .ok (.bipush 40, 2) := by decide +kernel
theorem d_Md_mend_91 : decode prog_10_method_28_code 91 = .ok (.iload_n 2, 1) := by decide +kernel
theorem d_Md_mend_92 : decode prog_10_method_28_code 92 = .ok (.imul, 1) := by decide +kernel
theorem d_Md_mend_93 : decode prog_10_method_28_code 93 = .ok (.aload_n 0, 1) := by decide +kernel
theorem d_Md_mend_94 : decode prog_10_method_28_code 94 = .ok (.getfield 32, 3) := by decide +kernel
theorem d_Md_mend_97 : decode prog_10_method_28_code 97 = .ok (.iload_n 1, 1) := by decide +kernel
theorem d_Md_mend_98 : decode prog_10_method_28_code 98 = .ok (.iaload, 1) := by decide +kernel
theorem d_Md_mend_99 : decode prog_10_method_28_code 99 = .ok (.iadd, 1) := by decide +kernel
theorem d_Md_mend_100 : decode prog_10_method_28_code 100 = .ok (.iaload, 1) := by decide +kernel
theorem d_Md_mend_101 : decode prog_10_method_28_code 101 = .ok (.istore_n 3, 1) := by decide +kernel
theorem d_Md_mend_102 : decode prog_10_method_28_code 102 = .ok (.aload_n 0, 1) := by decide +kernel
theorem d_Md_mend_103 : decode prog_10_method_28_code 103 = .ok (.getfield 35, 3) := by decide +kernel
theorem d_Md_mend_106 : decode prog_10_method_28_code 106 = .ok (.iload_n 3, 1) := by decide +kernel
theorem d_Md_mend_107 : decode prog_10_method_28_code 107 = .ok (.baload, 1) := by decide +kernel
theorem d_Md_mend_108 : decode prog_10_method_28_code 108 = .ok (.ifCond .eq 20, 3) := by decide +kernel
theorem d_Md_mend_111 : decode prog_10_method_28_code 111 = .ok (.aload_n 0, 1) := by decide +kernel
theorem d_Md_mend_112 : decode prog_10_method_28_code 112 = .ok (.iload_n 2, 1) := by decide +kernel
theorem d_Md_mend_113 : decode prog_10_method_28_code 113 = .ok (.aload_n 0, 1) := by decide +kernel
theorem d_Md_mend_114 : decode prog_10_method_28_code 114 = .ok (.getfield 32, 3) := by decide +kernel
theorem d_Md_mend_117 : decode prog_10_method_28_code 117 = .ok (.iload_n 1, 1) := by decide +kernel
theorem d_Md_mend_118 : decode prog_10_method_28_code 118 = .ok (.iaload, 1) := by decide +kernel
theorem d_Md_mend_119 : decode prog_10_method_28_code 119 = .ok (.invokevirtual 143, 3) := by decide +kernel
theorem d_Md_mend_122 : decode prog_10_method_28_code 122 = .ok (.ifCond .ne 6, 3) := by decide +kernel
theorem d_Md_mend_125 : decode prog_10_method_28_code 125 = .ok (.goto (-116), 3) := by decide +kernel
theorem d_Md_mend_128 : decode prog_10_method_28_code 128 = .ok (.aload_n 0, 1) := by decide +kernel
theorem d_Md_mend_129 : decode prog_10_method_28_code 129 = .ok (.getfield 23, 3) := by decide +kernel
theorem d_Md_mend_132 : decode prog_10_method_28_code 132 = .ok (.bipush 40, 2) := by decide +kernel
theorem d_Md_mend_134 : decode prog_10_method_28_code 134 = .ok (.iload_n 2, 1) := by decide +kernel
theorem d_Md_mend_135 : decode prog_10_method_28_code 135 = .ok (.imul, 1) := by decide +kernel
theorem d_Md_mend_136 : decode prog_10_method_28_code 136 = .ok (.aload_n 0, 1) := by decide +kernel
theorem d_Md_mend_137 : decode prog_10_method_28_code 137 = .ok (.getfield 32, 3) := by decide +kernel
theorem d_Md_mend_140 : decode prog_10_method_28_code 140 = .ok (.iload_n 1, 1) := by decide +kernel
theorem d_Md_mend_141 : decode prog_10_method_28_code 141 = .ok (.iaload, 1) := by decide +kernel
theorem d_Md_mend_142 : decode prog_10_method_28_code 142 = .ok (.iadd, 1) := by decide +kernel
theorem d_Md_mend_143 : decode prog_10_method_28_code 143 = .ok (.iaload, 1) := by decide +kernel
theorem d_Md_mend_144 : decode prog_10_method_28_code 144 = .ok (.istore_n 3, 1) := by decide +kernel
theorem d_Md_mend_145 : decode prog_10_method_28_code 145 = .ok (.aload_n 0, 1) := by decide +kernel
theorem d_Md_mend_146 : decode prog_10_method_28_code 146 = .ok (.getfield 13, 3) := by decide +kernel
theorem d_Md_mend_149 : decode prog_10_method_28_code 149 = .ok (.iload_n 3, 1) := by decide +kernel
theorem d_Md_mend_150 : decode prog_10_method_28_code 150 = .ok (.iload_n 2, 1) := by decide +kernel
theorem d_Md_mend_151 : decode prog_10_method_28_code 151 = .ok (.iastore, 1) := by decide +kernel
theorem d_Md_mend_152 : decode prog_10_method_28_code 152 = .ok (.aload_n 0, 1) := by decide +kernel
theorem d_Md_mend_153 : decode prog_10_method_28_code 153 = .ok (.getfield 7, 3) := by decide +kernel
theorem d_Md_mend_156 : decode prog_10_method_28_code 156 = .ok (.iload_n 3, 1) := by decide +kernel
theorem d_Md_mend_157 : decode prog_10_method_28_code 157 = .ok (.baload, 1) := by decide +kernel
theorem d_Md_mend_158 : decode prog_10_method_28_code 158 = .ok (.ifCond .eq 11, 3) := by decide +kernel
theorem d_Md_mend_161 : decode prog_10_method_28_code 161 = .ok (.aload_n 0, 1) := by decide +kernel
theorem d_Md_mend_162 : decode prog_10_method_28_code 162 = .ok (.iload_n 3, 1) := by decide +kernel
theorem d_Md_mend_163 : decode prog_10_method_28_code 163 = .ok (.invokevirtual 121, 3) := by decide +kernel
theorem d_Md_mend_166 : decode prog_10_method_28_code 166 = .ok (.goto 8, 3) := by decide +kernel
theorem d_Md_mend_169 : decode prog_10_method_28_code 169 = .ok (.aload_n 0, 1) := by decide +kernel
theorem d_Md_mend_170 : decode prog_10_method_28_code 170 = .ok (.iload_n 3, 1) := by decide +kernel
theorem d_Md_mend_171 : decode prog_10_method_28_code 171 = .ok (.invokevirtual 111, 3) := by decide +kernel
theorem d_Md_mend_174 : decode prog_10_method_28_code 174 = .ok (.aload_n 0, 1) := by decide +kernel
theorem d_Md_mend_175 : decode prog_10_method_28_code 175 = .ok (.getfield 32, 3) := by decide +kernel
theorem d_Md_mend_178 : decode prog_10_method_28_code 178 = .ok (.iload_n 1, 1) := by decide +kernel
theorem d_Md_mend_179 : decode prog_10_method_28_code 179 = .ok (.dup2, 1) := by decide +kernel
theorem d_Md_mend_180 : decode prog_10_method_28_code 180 = .ok (.iaload, 1) := by decide +kernel
theorem d_Md_mend_181 : decode prog_10_method_28_code 181 = .ok (.iconst 1, 1) := by decide +kernel
theorem d_Md_mend_182 : decode prog_10_method_28_code 182 = .ok (.iadd, 1) := by decide +kernel
theorem d_Md_mend_183 : decode prog_10_method_28_code 183 = .ok (.iastore, 1) := by decide +kernel
theorem d_Md_mend_184 : decode prog_10_method_28_code 184 = .ok (.goto (-175), 3) := by decide +kernel
theorem d_Md_mend_187 : decode prog_10_method_28_code 187 = .ok (.aload_n 0, 1) := by decide +kernel
theorem d_Md_mend_188 : decode prog_10_method_28_code 188 = .ok (.getfield 131, 3) := by decide +kernel
theorem d_Md_mend_191 : decode prog_10_method_28_code 191 = .ok (.ireturn, 1) := by decide +kernel
theorem d_Md_told_0 : decode prog_10_method_29_code 0 = .ok (.iload_n 1, 1) := by decide +kernel
theorem d_Md_told_1 : decode prog_10_method_29_code 1 = .ok (.iconst 0, 1) := by decide +kernel
theorem d_Md_told_2 : decode prog_10_method_29_code 2 = .ok (.aload_n 0, 1) := by decide +kernel
theorem d_Md_told_3 : decode prog_10_method_29_code 3 = .ok (.getfield 131, 3) := by decide +kernel
theorem d_Md_told_6 : decode prog_10_method_29_code 6 = .ok (.bipush 100, 2) := by decide +kernel
theorem d_Md_told_8 : decode prog_10_method_29_code 8 = .ok (.if_icmp .ge 10, 3) := by decide +kernel
theorem d_Md_told_11 : decode prog_10_method_29_code 11 = .ok (.aload_n 0, 1) := by decide +kernel
theorem d_Md_told_12 : decode prog_10_method_29_code 12 = .ok (.getfield 131, 3) := by decide +kernel
theorem d_Md_told_15 : decode prog_10_method_29_code 15 = .ok (.goto 5, 3) := by decide +kernel
theorem d_Md_told_18 : decode prog_10_method_29_code 18 = .ok (.bipush 100, 2) := by decide +kernel
theorem d_Md_told_20 : decode prog_10_method_29_code 20 = .ok (.iconst 1, 1) := by decide +kernel
theorem d_Md_told_21 : decode prog_10_method_29_code 21 = .ok (.isub, 1) := by decide +kernel
theorem d_Md_told_22 : decode prog_10_method_29_code 22 = .ok (.invokestatic 96, 3) := by decide +kernel
theorem d_Md_told_25 : decode prog_10_method_29_code 25 = .ok (.ifCond .eq 16, 3) := by decide +kernel
theorem d_Md_told_28 : decode prog_10_method_29_code 28 = .ok (.iload_n 2, 1) := by decide +kernel
theorem d_Md_told_29 : decode prog_10_method_29_code 29 = .ok (.iconst 0, 1) := by decide +kernel
theorem d_Md_told_30 : decode prog_10_method_29_code 30 = .ok (.iconst 1, 1) := by decide +kernel
theorem d_Md_told_31 : decode prog_10_method_29_code 31 = .ok (.invokestatic 96, 3) := by decide +kernel
theorem d_Md_told_34 : decode prog_10_method_29_code 34 = .ok (.ifCond .eq 7, 3) := by decide +kernel
theorem d_Md_told_37 : decode prog_10_method_29_code 37 = .ok (.iconst 1, 1) := by decide +kernel
theorem d_Md_told_38 : decode prog_10_method_29_code 38 = .ok (.goto 4, 3) := by decide +kernel
theorem d_Md_told_41 : decode prog_10_method_29_code 41 = .ok (.iconst 0, 1) := by decide +kernel
theorem d_Md_told_42 : decode prog_10_method_29_code 42 = .ok (.istore_n 3, 1) := by decide +kernel
theorem d_Md_told_43 : decode prog_10_method_29_code 43 = .ok (.iload_n 3, 1) := by decide +kernel
theorem d_Md_told_44 : decode prog_10_method_29_code 44 = .ok (.ifCond .ne 7, 3) := by decide +kernel
theorem d_Md_told_47 : decode prog_10_method_29_code 47 = .ok (.iconst (-1), 1) := by decide +kernel
theorem d_Md_told_48 : decode prog_10_method_29_code 48 = .ok (.goto 22, 3) := by decide +kernel
theorem d_Md_told_51 : decode prog_10_method_29_code 51 = .ok (.iload_n 2, 1) := by decide +kernel
theorem d_Md_told_52 : decode prog_10_method_29_code 52 = .ok (.ifCond .ne 12, 3) := by decide +kernel
theorem d_Md_told_55 : decode prog_10_method_29_code 55 = .ok (.aload_n 0, 1) := by decide +kernel
theorem d_Md_told_56 : decode prog_10_method_29_code 56 = .ok (.getfield 50, 3) := by decide +kernel
theorem d_Md_told_59 : decode prog_10_method_29_code 59 = .ok (.iload_n 1, 1) := by decide +kernel
theorem d_Md_told_60 : decode prog_10_method_29_code 60 = .ok (.iaload, 1) := by decide +kernel
theorem d_Md_told_61 : decode prog_10_method_29_code 61 = .ok (.goto 9, 3) := by decide +kernel
theorem d_Md_told_64 : decode prog_10_method_29_code 64 = .ok (.aload_n 0, 1) := by decide +kernel
theorem d_Md_told_65 : decode prog_10_method_29_code 65 = .ok (.getfield 53, 3) := by decide +kernel
theorem d_Md_told_68 : decode prog_10_method_29_code 68 = .ok (.iload_n 1, 1) := by decide +kernel
theorem d_Md_told_69 : decode prog_10_method_29_code 69 = .ok (.iaload, 1) := by decide +kernel
theorem d_Md_told_70 : decode prog_10_method_29_code 70 = .ok (.ireturn, 1) := by decide +kernel
theorem d_Md_listed_0 : decode prog_10_method_33_code 0 = .ok (.iconst 0, 1) := by decide +kernel
theorem d_Md_listed_1 : decode prog_10_method_33_code 1 = .ok (.istore_n 3, 1) := by decide +kernel
theorem d_Md_listed_2 : decode prog_10_method_33_code 2 = .ok (.iconst 0, 1) := by decide +kernel
theorem d_Md_listed_3 : decode prog_10_method_33_code 3 = .ok (.istore 4, 2) := by decide +kernel
theorem d_Md_listed_5 : decode prog_10_method_33_code 5 = .ok (.iload 4, 2) := by decide +kernel
theorem d_Md_listed_7 : decode prog_10_method_33_code 7 = .ok (.aload_n 0, 1) := by decide +kernel
theorem d_Md_listed_8 : decode prog_10_method_33_code 8 = .ok (.getfield 20, 3) := by decide +kernel
theorem d_Md_listed_11 : decode prog_10_method_33_code 11 = .ok (.iload_n 1, 1) := by decide +kernel
theorem d_Md_listed_12 : decode prog_10_method_33_code 12 = .ok (.iaload, 1) := by decide +kernel
theorem d_Md_listed_13 : decode prog_10_method_33_code 13 = .ok (.if_icmp .ge 33, 3) := by decide +kernel
theorem d_Md_listed_16 : decode prog_10_method_33_code 16 = .ok (.iload_n 3, 1) := by decide +kernel
theorem d_Md_listed_17 : decode prog_10_method_33_code 17 = .ok (.aload_n 0, 1) := by decide +kernel
theorem d_Md_listed_18 : decode prog_10_method_33_code 18 = .ok (.getfield 23, 3) := by decide +kernel
theorem d_Md_listed_21 : decode prog_10_method_33_code 21 = .ok (.bipush 40, 2) := by decide +kernel
theorem d_Md_listed_23 : decode prog_10_method_33_code 23 = .ok (.iload_n 1, 1) := by decide +kernel
theorem d_Md_listed_24 : decode prog_10_method_33_code 24 = .ok (.imul, 1) := by decide +kernel
theorem d_Md_listed_25 : decode prog_10_method_33_code 25 = .ok (.iload 4, 2) := by decide +kernel
theorem d_Md_listed_27 : decode prog_10_method_33_code 27 = .ok (.iadd, 1) := by decide +kernel
theorem d_Md_listed_28 : decode prog_10_method_33_code 28 = .ok (.iaload, 1) := by decide +kernel
theorem d_Md_listed_29 : decode prog_10_method_33_code 29 = .ok (.iload_n 2, 1) := by decide +kernel
theorem d_Md_listed_30 : decode prog_10_method_33_code 30 = .ok (.if_icmp .ne 7, 3) := by decide +kernel
theorem d_Md_listed_33 : decode prog_10_method_33_code 33 = .ok (.iconst 1, 1) := by decide +kernel
theorem d_Md_listed_34 : decode prog_10_method_33_code 34 = .ok (.goto 4, 3) := by decide +kernel
theorem d_Md_listed_37 : decode prog_10_method_33_code 37 = .ok (.iconst 0, 1) := by decide +kernel
theorem d_Md_listed_38 : decode prog_10_method_33_code 38 = .ok (.iadd, 1) := by decide +kernel
theorem d_Md_listed_39 : decode prog_10_method_33_code 39 = .ok (.istore_n 3, 1) := by decide +kernel
theorem d_Md_listed_40 : decode prog_10_method_33_code 40 = .ok (.iinc 4 1, 3) := by decide +kernel
theorem d_Md_listed_43 : decode prog_10_method_33_code 43 = .ok (.goto (-38), 3) := by decide +kernel
theorem d_Md_listed_46 : decode prog_10_method_33_code 46 = .ok (.iload_n 3, 1) := by decide +kernel
theorem d_Md_listed_47 : decode prog_10_method_33_code 47 = .ok (.ireturn, 1) := by decide +kernel
theorem d_Md_ownAll_0 : decode prog_10_method_30_code 0 = .ok (.iconst 0, 1) := by decide +kernel
theorem d_Md_ownAll_1 : decode prog_10_method_30_code 1 = .ok (.istore_n 2, 1) := by decide +kernel
theorem d_Md_ownAll_2 : decode prog_10_method_30_code 2 = .ok (.iload_n 2, 1) := by decide +kernel
theorem d_Md_ownAll_3 : decode prog_10_method_30_code 3 = .ok (.iconst 4, 1) := by decide +kernel
theorem d_Md_ownAll_4 : decode prog_10_method_30_code 4 = .ok (.if_icmp .ge 25, 3) := by decide +kernel
theorem d_Md_ownAll_7 : decode prog_10_method_30_code 7 = .ok (.aload_n 0, 1) := by decide +kernel
theorem d_Md_ownAll_8 : decode prog_10_method_30_code 8 = .ok (.getfield 26, 3) := by decide +kernel
theorem d_Md_ownAll_11 : decode prog_10_method_30_code 11 = .ok (.iconst 4, 1) := by decide +kernel
theorem d_Md_ownAll_12 : decode prog_10_method_30_code 12 = .ok (.iload_n 1, 1) := by decide +kernel
theorem d_Md_ownAll_13 : decode prog_10_method_30_code 13 = .ok (.imul, 1) := by decide +kernel
theorem d_Md_ownAll_14 : decode prog_10_method_30_code 14 = .ok (.iload_n 2, 1) := by decide +kernel
theorem d_Md_ownAll_15 : decode prog_10_method_30_code 15 = .ok (.iadd, 1) := by decide +kernel
theorem d_Md_ownAll_16 : decode prog_10_method_30_code 16 = .ok (.aload_n 0, 1) := by decide +kernel
theorem d_Md_ownAll_17 : decode prog_10_method_30_code 17 = .ok (.iload_n 1, 1) := by decide +kernel
theorem d_Md_ownAll_18 : decode prog_10_method_30_code 18 = .ok (.iload_n 2, 1) := by decide +kernel
theorem d_Md_ownAll_19 : decode prog_10_method_30_code 19 = .ok (.invokevirtual 101, 3) := by decide +kernel
theorem d_Md_ownAll_22 : decode prog_10_method_30_code 22 = .ok (.iastore, 1) := by decide +kernel
theorem d_Md_ownAll_23 : decode prog_10_method_30_code 23 = .ok (.iinc 2 1, 3) := by decide +kernel
theorem d_Md_ownAll_26 : decode prog_10_method_30_code 26 = .ok (.goto (-24), 3) := by decide +kernel
theorem d_Md_ownAll_29 : decode prog_10_method_30_code 29 = .ok (.return_, 1) := by decide +kernel
theorem d_Md_takeOffAll_0 : decode prog_10_method_31_code 0 = .ok (.iconst 0, 1) := by decide +kernel
theorem d_Md_takeOffAll_1 : decode prog_10_method_31_code 1 = .ok (.istore_n 2, 1) := by decide +kernel
theorem d_Md_takeOffAll_2 : decode prog_10_method_31_code 2 = .ok (.iload_n 2, 1) := by decide +kernel
theorem d_Md_takeOffAll_3 : decode prog_10_method_31_code 3 = .ok (.aload_n 0, 1) := by decide +kernel
theorem d_Md_takeOffAll_4 : decode prog_10_method_31_code 4 = .ok (.getfield 77, 3) := by decide +kernel
theorem d_Md_takeOffAll_7 : decode prog_10_method_31_code 7 = .ok (.if_icmp .ge 51, 3) := by decide +kernel
theorem d_Md_takeOffAll_10 : decode prog_10_method_31_code 10 = .ok (.iconst 0, 1) := by decide +kernel
theorem d_Md_takeOffAll_11 : decode prog_10_method_31_code 11 = .ok (.istore_n 3, 1) := by decide +kernel
theorem d_Md_takeOffAll_12 : decode prog_10_method_31_code 12 = .ok (.iload_n 3, 1) := by decide +kernel
theorem d_Md_takeOffAll_13 : decode prog_10_method_31_code 13 = .ok (.aload_n 0, 1) := by decide +kernel
theorem d_Md_takeOffAll_14 : decode prog_10_method_31_code 14 = .ok (.getfield 20, 3) := by decide +kernel
theorem d_Md_takeOffAll_17 : decode prog_10_method_31_code 17 = .ok (.iload_n 2, 1) := by decide +kernel
theorem d_Md_takeOffAll_18 : decode prog_10_method_31_code 18 = .ok (.iaload, 1) := by decide +kernel
theorem d_Md_takeOffAll_19 : decode prog_10_method_31_code 19 = .ok (.if_icmp .ge 33, 3) := by decide +kernel
theorem d_Md_takeOffAll_22 : decode prog_10_method_31_code 22 = .ok (.aload_n 0, 1) := by decide +kernel
theorem d_Md_takeOffAll_23 : decode prog_10_method_31_code 23 = .ok (.getfield 23, 3) := by decide +kernel
theorem d_Md_takeOffAll_26 : decode prog_10_method_31_code 26 = .ok (.bipush 40, 2) := by decide +kernel
theorem d_Md_takeOffAll_28 : decode prog_10_method_31_code 28 = .ok (.iload_n 2, 1) := by decide +kernel
theorem d_Md_takeOffAll_29 : decode prog_10_method_31_code 29 = .ok (.imul, 1) := by decide +kernel
theorem d_Md_takeOffAll_30 : decode prog_10_method_31_code 30 = .ok (.iload_n 3, 1) := by decide +kernel
theorem d_Md_takeOffAll_31 : decode prog_10_method_31_code 31 = .ok (.iadd, 1) := by decide +kernel
theorem d_Md_takeOffAll_32 : decode prog_10_method_31_code 32 = .ok (.iaload, 1) := by decide +kernel
theorem d_Md_takeOffAll_33 : decode prog_10_method_31_code 33 = .ok (.iload_n 1, 1) := by decide +kernel
theorem d_Md_takeOffAll_34 : decode prog_10_method_31_code 34 = .ok (.if_icmp .ne 12, 3) := by decide +kernel
theorem d_Md_takeOffAll_37 : decode prog_10_method_31_code 37 = .ok (.aload_n 0, 1) := by decide +kernel
theorem d_Md_takeOffAll_38 : decode prog_10_method_31_code 38 = .ok (.iload_n 2, 1) := by decide +kernel
theorem d_Md_takeOffAll_39 : decode prog_10_method_31_code 39 = .ok (.iload_n 3, 1) := by decide +kernel
theorem d_Md_takeOffAll_40 : decode prog_10_method_31_code 40 = .ok (.invokevirtual 140, 3) := by decide +kernel
theorem d_Md_takeOffAll_43 : decode prog_10_method_31_code 43 = .ok (.goto (-31), 3) := by decide +kernel
theorem d_Md_takeOffAll_46 : decode prog_10_method_31_code 46 = .ok (.iinc 3 1, 3) := by decide +kernel
theorem d_Md_takeOffAll_49 : decode prog_10_method_31_code 49 = .ok (.goto (-37), 3) := by decide +kernel
theorem d_Md_takeOffAll_52 : decode prog_10_method_31_code 52 = .ok (.iinc 2 1, 3) := by decide +kernel
theorem d_Md_takeOffAll_55 : decode prog_10_method_31_code 55 = .ok (.goto (-53), 3) := by decide +kernel
theorem d_Md_takeOffAll_58 : decode prog_10_method_31_code 58 = .ok (.return_, 1) := by decide +kernel
theorem d_Md_putAt_0 : decode prog_10_method_32_code 0 = .ok (.aload_n 0, 1) := by decide +kernel
theorem d_Md_putAt_1 : decode prog_10_method_32_code 1 = .ok (.getfield 20, 3) := by decide +kernel
theorem d_Md_putAt_4 : decode prog_10_method_32_code 4 = .ok (.iload_n 1, 1) := by decide +kernel
theorem d_Md_putAt_5 : decode prog_10_method_32_code 5 = .ok (.iaload, 1) := by decide +kernel
theorem d_Md_putAt_6 : decode prog_10_method_32_code 6 = .ok (.istore 4, 2) := by decide +kernel
theorem d_Md_putAt_8 : decode prog_10_method_32_code 8 = .ok (.iload 4, 2) := by decide +kernel
theorem d_Md_putAt_10 : decode prog_10_method_32_code 10 = .ok (.iload_n 2, 1) := by decide +kernel
theorem d_Md_putAt_11 : decode prog_10_method_32_code 11 = .ok (.if_icmp .le 35, 3) := by decide +kernel
theorem d_Md_putAt_14 : decode prog_10_method_32_code 14 = .ok (.aload_n 0, 1) := by decide +kernel
theorem d_Md_putAt_15 : decode prog_10_method_32_code 15 = .ok (.getfield 23, 3) := by decide +kernel
theorem d_Md_putAt_18 : decode prog_10_method_32_code 18 = .ok (.bipush 40, 2) := by decide +kernel
theorem d_Md_putAt_20 : decode prog_10_method_32_code 20 = .ok (.iload_n 1, 1) := by decide +kernel
theorem d_Md_putAt_21 : decode prog_10_method_32_code 21 = .ok (.imul, 1) := by decide +kernel
theorem d_Md_putAt_22 : decode prog_10_method_32_code 22 = .ok (.iload 4, 2) := by decide +kernel
theorem d_Md_putAt_24 : decode prog_10_method_32_code 24 = .ok (.iadd, 1) := by decide +kernel
theorem d_Md_putAt_25 : decode prog_10_method_32_code 25 = .ok (.aload_n 0, 1) := by decide +kernel
theorem d_Md_putAt_26 : decode prog_10_method_32_code 26 = .ok (.getfield 23, 3) := by decide +kernel
theorem d_Md_putAt_29 : decode prog_10_method_32_code 29 = .ok (.bipush 40, 2) := by decide +kernel
theorem d_Md_putAt_31 : decode prog_10_method_32_code 31 = .ok (.iload_n 1, 1) := by decide +kernel
theorem d_Md_putAt_32 : decode prog_10_method_32_code 32 = .ok (.imul, 1) := by decide +kernel
theorem d_Md_putAt_33 : decode prog_10_method_32_code 33 = .ok (.iload 4, 2) := by decide +kernel
theorem d_Md_putAt_35 : decode prog_10_method_32_code 35 = .ok (.iadd, 1) := by decide +kernel
theorem d_Md_putAt_36 : decode prog_10_method_32_code 36 = .ok (.iconst 1, 1) := by decide +kernel
theorem d_Md_putAt_37 : decode prog_10_method_32_code 37 = .ok (.isub, 1) := by decide +kernel
theorem d_Md_putAt_38 : decode prog_10_method_32_code 38 = .ok (.iaload, 1) := by decide +kernel
theorem d_Md_putAt_39 : decode prog_10_method_32_code 39 = .ok (.iastore, 1) := by decide +kernel
theorem d_Md_putAt_40 : decode prog_10_method_32_code 40 = .ok (.iinc 4 (-1), 3) := by decide +kernel
theorem d_Md_putAt_43 : decode prog_10_method_32_code 43 = .ok (.goto (-35), 3) := by decide +kernel
theorem d_Md_putAt_46 : decode prog_10_method_32_code 46 = .ok (.aload_n 0, 1) := by decide +kernel
theorem d_Md_putAt_47 : decode prog_10_method_32_code 47 = .ok (.getfield 23, 3) := by decide +kernel
theorem d_Md_putAt_50 : decode prog_10_method_32_code 50 = .ok (.bipush 40, 2) := by decide +kernel
theorem d_Md_putAt_52 : decode prog_10_method_32_code 52 = .ok (.iload_n 1, 1) := by decide +kernel
theorem d_Md_putAt_53 : decode prog_10_method_32_code 53 = .ok (.imul, 1) := by decide +kernel
theorem d_Md_putAt_54 : decode prog_10_method_32_code 54 = .ok (.iload_n 2, 1) := by decide +kernel
theorem d_Md_putAt_55 : decode prog_10_method_32_code 55 = .ok (.iadd, 1) := by decide +kernel
theorem d_Md_putAt_56 : decode prog_10_method_32_code 56 = .ok (.iload_n 3, 1) := by decide +kernel
theorem d_Md_putAt_57 : decode prog_10_method_32_code 57 = .ok (.iastore, 1) := by decide +kernel
theorem d_Md_putAt_58 : decode prog_10_method_32_code 58 = .ok (.aload_n 0, 1) := by decide +kernel
theorem d_Md_putAt_59 : decode prog_10_method_32_code 59 = .ok (.getfield 20, 3) := by decide +kernel
theorem d_Md_putAt_62 : decode prog_10_method_32_code 62 = .ok (.iload_n 1, 1) := by decide +kernel
theorem d_Md_putAt_63 : decode prog_10_method_32_code 63 = .ok (.dup2, 1) := by decide +kernel
theorem d_Md_putAt_64 : decode prog_10_method_32_code 64 = .ok (.iaload, 1) := by decide +kernel
theorem d_Md_putAt_65 : decode prog_10_method_32_code 65 = .ok (.iconst 1, 1) := by decide +kernel
theorem d_Md_putAt_66 : decode prog_10_method_32_code 66 = .ok (.iadd, 1) := by decide +kernel
theorem d_Md_putAt_67 : decode prog_10_method_32_code 67 = .ok (.iastore, 1) := by decide +kernel
theorem d_Md_putAt_68 : decode prog_10_method_32_code 68 = .ok (.aload_n 0, 1) := by decide +kernel
theorem d_Md_putAt_69 : decode prog_10_method_32_code 69 = .ok (.getfield 13, 3) := by decide +kernel
theorem d_Md_putAt_72 : decode prog_10_method_32_code 72 = .ok (.iload_n 3, 1) := by decide +kernel
theorem d_Md_putAt_73 : decode prog_10_method_32_code 73 = .ok (.iload_n 1, 1) := by decide +kernel
theorem d_Md_putAt_74 : decode prog_10_method_32_code 74 = .ok (.iastore, 1) := by decide +kernel
theorem d_Md_putAt_75 : decode prog_10_method_32_code 75 = .ok (.return_, 1) := by decide +kernel
theorem d_Md_move_0 : decode prog_10_method_34_code 0 = .ok (.aload_n 0, 1) := by decide +kernel
theorem d_Md_move_1 : decode prog_10_method_34_code 1 = .ok (.iload_n 1, 1) := by decide +kernel
theorem d_Md_move_2 : decode prog_10_method_34_code 2 = .ok (.invokevirtual 127, 3) := by decide +kernel
theorem d_Md_move_5 : decode prog_10_method_34_code 5 = .ok (.istore_n 3, 1) := by decide +kernel
theorem d_Md_move_6 : decode prog_10_method_34_code 6 = .ok (.iload_n 3, 1) := by decide +kernel
theorem d_Md_move_7 : decode prog_10_method_34_code 7 = .ok (.ifCond .ge 5, 3) := by decide +kernel
theorem d_Md_move_10 : decode prog_10_method_34_code 10 = .ok (.iconst (-1), 1) := by decide +kernel
theorem d_Md_move_11 : decode prog_10_method_34_code 11 = .ok (.ireturn, 1) := by decide +kernel
theorem d_Md_move_12 : decode prog_10_method_34_code 12 = .ok (.iload_n 2, 1) := by decide +kernel
theorem d_Md_move_13 : decode prog_10_method_34_code 13 = .ok (.iconst 0, 1) := by decide +kernel
theorem d_Md_move_14 : decode prog_10_method_34_code 14 = .ok (.aload_n 0, 1) := by decide +kernel
theorem d_Md_move_15 : decode prog_10_method_34_code 15 = .ok (.getfield 105, 3) := by decide +kernel
theorem d_Md_move_18 : decode prog_10_method_34_code 18 = .ok (.iconst 1, 1) := by decide +kernel
theorem d_Md_move_19 : decode prog_10_method_34_code 19 = .ok (.isub, 1) := by decide +kernel
theorem d_Md_move_20 : decode prog_10_method_34_code 20 = .ok (.invokestatic 96, 3) := by decide +kernel
theorem d_Md_move_23 : decode prog_10_method_34_code 23 = .ok (.ifCond .ne 6, 3) := by decide +kernel
theorem d_Md_move_26 : decode prog_10_method_34_code 26 = .ok (.bipush (-2), 2) := by decide +kernel
theorem d_Md_move_28 : decode prog_10_method_34_code 28 = .ok (.ireturn, 1) := by decide +kernel
theorem d_Md_move_29 : decode prog_10_method_34_code 29 = .ok (.aload_n 0, 1) := by decide +kernel
theorem d_Md_move_30 : decode prog_10_method_34_code 30 = .ok (.getfield 105, 3) := by decide +kernel
theorem d_Md_move_33 : decode prog_10_method_34_code 33 = .ok (.iconst 1, 1) := by decide +kernel
theorem d_Md_move_34 : decode prog_10_method_34_code 34 = .ok (.if_icmp .ne 5, 3) := by decide +kernel
theorem d_Md_move_37 : decode prog_10_method_34_code 37 = .ok (.iconst 0, 1) := by decide +kernel
theorem d_Md_move_38 : decode prog_10_method_34_code 38 = .ok (.ireturn, 1) := by decide +kernel
theorem d_Md_move_39 : decode prog_10_method_34_code 39 = .ok (.iload_n 2, 1) := by decide +kernel
theorem d_Md_move_40 : decode prog_10_method_34_code 40 = .ok (.aload_n 0, 1) := by decide +kernel
theorem d_Md_move_41 : decode prog_10_method_34_code 41 = .ok (.getfield 105, 3) := by decide +kernel
theorem d_Md_move_44 : decode prog_10_method_34_code 44 = .ok (.iconst 1, 1) := by decide +kernel
theorem d_Md_move_45 : decode prog_10_method_34_code 45 = .ok (.isub, 1) := by decide +kernel
theorem d_Md_move_46 : decode prog_10_method_34_code 46 = .ok (.if_icmp .ne 7, 3) := by decide +kernel
theorem d_Md_move_49 : decode prog_10_method_34_code 49 = .ok (.iconst 1, 1) := by decide +kernel
theorem d_Md_move_50 : decode prog_10_method_34_code 50 = .ok (.goto 4, 3) := by decide +kernel
theorem d_Md_move_53 : decode prog_10_method_34_code 53 = .ok (.iconst 0, 1) := by decide +kernel
theorem d_Md_move_54 : decode prog_10_method_34_code 54 = .ok (.istore 4, 2) := by decide +kernel
theorem d_Md_move_56 : decode prog_10_method_34_code 56 = .ok (.iload 4, 2) := by decide +kernel
theorem d_Md_move_58 : decode prog_10_method_34_code 58 = .ok (.ifCond .eq 31, 3) := by decide +kernel
theorem d_Md_move_61 : decode prog_10_method_34_code 61 = .ok (.iload_n 3, 1) := by decide +kernel
theorem d_Md_move_62 : decode prog_10_method_34_code 62 = .ok (.aload_n 0, 1) := by decide +kernel
theorem d_Md_move_63 : decode prog_10_method_34_code 63 = .ok (.getfield 105, 3) := by decide +kernel
theorem d_Md_move_66 : decode prog_10_method_34_code 66 = .ok (.iconst 1, 1) := by decide +kernel
theorem d_Md_move_67 : decode prog_10_method_34_code 67 = .ok (.isub, 1) := by decide +kernel
theorem d_Md_move_68 : decode prog_10_method_34_code 68 = .ok (.if_icmp .ne 12, 3) := by decide +kernel
theorem d_Md_move_71 : decode prog_10_method_34_code 71 = .ok (.aload_n 0, 1) := by decide +kernel
theorem d_Md_move_72 : decode prog_10_method_34_code 72 = .ok (.getfield 105, 3) := by decide +kernel
theorem d_Md_move_75 : decode prog_10_method_34_code 75 = .ok (.iconst 2, 1) := by decide +kernel
theorem d_Md_move_76 : decode prog_10_method_34_code 76 = .ok (.isub, 1) := by decide +kernel
theorem d_Md_move_77 : decode prog_10_method_34_code 77 = .ok (.goto 24, 3) := by decide +kernel
theorem d_Md_move_80 : decode prog_10_method_34_code 80 = .ok (.aload_n 0, 1) := by decide +kernel
theorem d_Md_move_81 : decode prog_10_method_34_code 81 = .ok (.getfield 105, 3) := by decide +kernel
theorem d_Md_move_84 : decode prog_10_method_34_code 84 = .ok (.iconst 1, 1) := by decide +kernel
theorem d_Md_move_85 : decode prog_10_method_34_code 85 = .ok (.isub, 1) := by decide +kernel
theorem d_Md_move_86 : decode prog_10_method_34_code 86 = .ok (.goto 15, 3) := by decide +kernel
theorem d_Md_move_89 : decode prog_10_method_34_code 89 = .ok (.iload_n 2, 1) := by decide +kernel
theorem d_Md_move_90 : decode prog_10_method_34_code 90 = .ok (.iload_n 3, 1) := by decide +kernel
theorem d_Md_move_91 : decode prog_10_method_34_code 91 = .ok (.if_icmp .ge 7, 3) := by decide +kernel
theorem d_Md_move_94 : decode prog_10_method_34_code 94 = .ok (.iload_n 2, 1) := by decide +kernel
theorem d_Md_move_95 : decode prog_10_method_34_code 95 = .ok (.goto 6, 3) := by decide +kernel
theorem d_Md_move_98 : decode prog_10_method_34_code 98 = .ok (.iload_n 2, 1) := by decide +kernel
theorem d_Md_move_99 : decode prog_10_method_34_code 99 = .ok (.iconst 1, 1) := by decide +kernel
theorem d_Md_move_100 : decode prog_10_method_34_code 100 = .ok (.iadd, 1) := by decide +kernel
theorem d_Md_move_101 : decode prog_10_method_34_code 101 = .ok (.istore 5, 2) := by decide +kernel
theorem d_Md_move_103 : decode prog_10_method_34_code 103 = .ok (.aload_n 0, 1) := by decide +kernel
theorem d_Md_move_104 : decode prog_10_method_34_code 104 = .ok (.getfield 38, 3) := by decide +kernel
theorem d_Md_move_107 : decode prog_10_method_34_code 107 = .ok (.iload 5, 2) := by decide +kernel
theorem d_Md_move_109 : decode prog_10_method_34_code 109 = .ok (.iaload, 1) := by decide +kernel
theorem d_Md_move_110 : decode prog_10_method_34_code 110 = .ok (.istore 6, 2) := by decide +kernel
theorem d_Md_move_112 : decode prog_10_method_34_code 112 = .ok (.aload_n 0, 1) := by decide +kernel
theorem d_Md_move_113 : decode prog_10_method_34_code 113 = .ok (.getfield 41, 3) := by decide +kernel
theorem d_Md_move_116 : decode prog_10_method_34_code 116 = .ok (.iload 5, 2) := by decide +kernel
theorem d_Md_move_118 : decode prog_10_method_34_code 118 = .ok (.iaload, 1) := by decide +kernel
theorem d_Md_move_119 : decode prog_10_method_34_code 119 = .ok (.istore 7, 2) := by decide +kernel
theorem d_Md_move_121 : decode prog_10_method_34_code 121 = .ok (.aload_n 0, 1) := by decide +kernel
theorem d_Md_move_122 : decode prog_10_method_34_code 122 = .ok (.getfield 20, 3) := by decide +kernel
theorem d_Md_move_125 : decode prog_10_method_34_code 125 = .ok (.iload 7, 2) := by decide +kernel
theorem d_Md_move_127 : decode prog_10_method_34_code 127 = .ok (.iaload, 1) := by decide +kernel
theorem d_Md_move_128 : decode prog_10_method_34_code 128 = .ok (.aload_n 0, 1) := by decide +kernel
theorem d_Md_move_129 : decode prog_10_method_34_code 129 = .ok (.iload 7, 2) := by decide +kernel
theorem d_Md_move_131 : decode prog_10_method_34_code 131 = .ok (.iload_n 1, 1) := by decide +kernel
theorem d_Md_move_132 : decode prog_10_method_34_code 132 = .ok (.invokevirtual 147, 3) := by decide +kernel
theorem d_Md_move_135 : decode prog_10_method_34_code 135 = .ok (.isub, 1) := by decide +kernel
theorem d_Md_move_136 : decode prog_10_method_34_code 136 = .ok (.bipush 40, 2) := by decide +kernel
theorem d_Md_move_138 : decode prog_10_method_34_code 138 = .ok (.if_icmp .lt 6, 3) := by decide +kernel
theorem d_Md_move_141 : decode prog_10_method_34_code 141 = .ok (.bipush (-4), 2) := by decide +kernel
theorem d_Md_move_143 : decode prog_10_method_34_code 143 = .ok (.ireturn, 1) := by decide +kernel
theorem d_Md_move_144 : decode prog_10_method_34_code 144 = .ok (.aload_n 0, 1) := by decide +kernel
theorem d_Md_move_145 : decode prog_10_method_34_code 145 = .ok (.iload_n 1, 1) := by decide +kernel
theorem d_Md_move_146 : decode prog_10_method_34_code 146 = .ok (.invokevirtual 150, 3) := by decide +kernel
theorem d_Md_move_149 : decode prog_10_method_34_code 149 = .ok (.aload_n 0, 1) := by decide +kernel
theorem d_Md_move_150 : decode prog_10_method_34_code 150 = .ok (.iload_n 1, 1) := by decide +kernel
theorem d_Md_move_151 : decode prog_10_method_34_code 151 = .ok (.invokevirtual 153, 3) := by decide +kernel
theorem d_Md_move_154 : decode prog_10_method_34_code 154 = .ok (.aload_n 0, 1) := by decide +kernel
theorem d_Md_move_155 : decode prog_10_method_34_code 155 = .ok (.iload 6, 2) := by decide +kernel
theorem d_Md_move_157 : decode prog_10_method_34_code 157 = .ok (.invokevirtual 127, 3) := by decide +kernel
theorem d_Md_move_160 : decode prog_10_method_34_code 160 = .ok (.istore 8, 2) := by decide +kernel
theorem d_Md_move_162 : decode prog_10_method_34_code 162 = .ok (.aload_n 0, 1) := by decide +kernel
theorem d_Md_move_163 : decode prog_10_method_34_code 163 = .ok (.aload_n 0, 1) := by decide +kernel
theorem d_Md_move_164 : decode prog_10_method_34_code 164 = .ok (.getfield 41, 3) := by decide +kernel
theorem d_Md_move_167 : decode prog_10_method_34_code 167 = .ok (.iload 8, 2) := by decide +kernel
theorem d_Md_move_169 : decode prog_10_method_34_code 169 = .ok (.iaload, 1) := by decide +kernel
theorem d_Md_move_170 : decode prog_10_method_34_code 170 = .ok (.aload_n 0, 1) := by decide +kernel
theorem d_Md_move_171 : decode prog_10_method_34_code 171 = .ok (.getfield 44, 3) := by decide +kernel
theorem d_Md_move_174 : decode prog_10_method_34_code 174 = .ok (.iload 8, 2) := by decide +kernel
theorem d_Md_move_176 : decode prog_10_method_34_code 176 = .ok (.iaload, 1) := by decide +kernel
theorem d_Md_move_177 : decode prog_10_method_34_code 177 = .ok (.iload 4, 2) := by decide +kernel
theorem d_Md_move_179 : decode prog_10_method_34_code 179 = .ok (.ifCond .eq 7, 3) := by decide +kernel
theorem d_Md_move_182 : decode prog_10_method_34_code 182 = .ok (.iconst 1, 1) := by decide +kernel
theorem d_Md_move_183 : decode prog_10_method_34_code 183 = .ok (.goto 4, 3) := by decide +kernel
theorem d_Md_move_186 : decode prog_10_method_34_code 186 = .ok (.iconst 0, 1) := by decide +kernel
theorem d_Md_move_187 : decode prog_10_method_34_code 187 = .ok (.iadd, 1) := by decide +kernel
theorem d_Md_move_188 : decode prog_10_method_34_code 188 = .ok (.iload_n 1, 1) := by decide +kernel
theorem d_Md_move_189 : decode prog_10_method_34_code 189 = .ok (.invokevirtual 156, 3) := by decide +kernel
theorem d_Md_move_192 : decode prog_10_method_34_code 192 = .ok (.iload_n 2, 1) := by decide +kernel
theorem d_Md_move_193 : decode prog_10_method_34_code 193 = .ok (.ireturn, 1) := by decide +kernel
theorem d_Md_copy_0 : decode prog_10_method_35_code 0 = .ok (.aload_n 0, 1) := by decide +kernel
theorem d_Md_copy_1 : decode prog_10_method_35_code 1 = .ok (.iload_n 1, 1) := by decide +kernel
theorem d_Md_copy_2 : decode prog_10_method_35_code 2 = .ok (.invokevirtual 127, 3) := by decide +kernel
theorem d_Md_copy_5 : decode prog_10_method_35_code 5 = .ok (.istore_n 2, 1) := by decide +kernel
theorem d_Md_copy_6 : decode prog_10_method_35_code 6 = .ok (.iload_n 2, 1) := by decide +kernel
theorem d_Md_copy_7 : decode prog_10_method_35_code 7 = .ok (.ifCond .ge 5, 3) := by decide +kernel
theorem d_Md_copy_10 : decode prog_10_method_35_code 10 = .ok (.iconst (-1), 1) := by decide +kernel
theorem d_Md_copy_11 : decode prog_10_method_35_code 11 = .ok (.ireturn, 1) := by decide +kernel
theorem d_Md_copy_12 : decode prog_10_method_35_code 12 = .ok (.aload_n 0, 1) := by decide +kernel
theorem d_Md_copy_13 : decode prog_10_method_35_code 13 = .ok (.getfield 41, 3) := by decide +kernel
theorem d_Md_copy_16 : decode prog_10_method_35_code 16 = .ok (.iload_n 2, 1) := by decide +kernel
theorem d_Md_copy_17 : decode prog_10_method_35_code 17 = .ok (.iaload, 1) := by decide +kernel
theorem d_Md_copy_18 : decode prog_10_method_35_code 18 = .ok (.istore_n 3, 1) := by decide +kernel
theorem d_Md_copy_19 : decode prog_10_method_35_code 19 = .ok (.aload_n 0, 1) := by decide +kernel
theorem d_Md_copy_20 : decode prog_10_method_35_code 20 = .ok (.getfield 44, 3) := by decide +kernel
theorem d_Md_copy_23 : decode prog_10_method_35_code 23 = .ok (.iload_n 2, 1) := by decide +kernel
theorem d_Md_copy_24 : decode prog_10_method_35_code 24 = .ok (.iaload, 1) := by decide +kernel
theorem d_Md_copy_25 : decode prog_10_method_35_code 25 = .ok (.istore 4, 2) := by decide +kernel
theorem d_Md_copy_27 : decode prog_10_method_35_code 27 = .ok (.aload_n 0, 1) := by decide +kernel
theorem d_Md_copy_28 : decode prog_10_method_35_code 28 = .ok (.getfield 77, 3) := by decide +kernel
theorem d_Md_copy_31 : decode prog_10_method_35_code 31 = .ok (.sipush 200, 3) := by decide +kernel
theorem d_Md_copy_34 : decode prog_10_method_35_code 34 = .ok (.if_icmp .eq 14, 3) := by decide +kernel
theorem d_Md_copy_37 : decode prog_10_method_35_code 37 = .ok (.aload_n 0, 1) := by decide +kernel
theorem d_Md_copy_38 : decode prog_10_method_35_code 38 = .ok (.getfield 20, 3) := by decide +kernel
theorem d_Md_copy_41 : decode prog_10_method_35_code 41 = .ok (.iload_n 3, 1) := by decide +kernel
theorem d_Md_copy_42 : decode prog_10_method_35_code 42 = .ok (.iaload, 1) := by decide +kernel
theorem d_Md_copy_43 : decode prog_10_method_35_code 43 = .ok (.bipush 40, 2) := by decide +kernel
theorem d_Md_copy_45 : decode prog_10_method_35_code 45 = .ok (.if_icmp .ne 6, 3) := by decide +kernel
theorem d_Md_copy_48 : decode prog_10_method_35_code 48 = .ok (.bipush (-4), 2) := by decide +kernel
theorem d_Md_copy_50 : decode prog_10_method_35_code 50 = .ok (.ireturn, 1) := by decide +kernel
theorem d_Md_copy_51 : decode prog_10_method_35_code 51 = .ok (.aload_n 0, 1) := by decide +kernel
theorem d_Md_copy_52 : decode prog_10_method_35_code 52 = .ok (.iconst 1, 1) := by decide +kernel
theorem d_Md_copy_53 : decode prog_10_method_35_code 53 = .ok (.iload_n 3, 1) := by decide +kernel
theorem d_Md_copy_54 : decode prog_10_method_35_code 54 = .ok (.iconst 0, 1) := by decide +kernel
theorem d_Md_copy_55 : decode prog_10_method_35_code 55 = .ok (.invokevirtual 88, 3) := by decide +kernel
theorem d_Md_copy_58 : decode prog_10_method_35_code 58 = .ok (.istore 5, 2) := by decide +kernel
theorem d_Md_copy_60 : decode prog_10_method_35_code 60 = .ok (.iconst 0, 1) := by decide +kernel
theorem d_Md_copy_61 : decode prog_10_method_35_code 61 = .ok (.istore 6, 2) := by decide +kernel
theorem d_Md_copy_63 : decode prog_10_method_35_code 63 = .ok (.iload 6, 2) := by decide +kernel
theorem d_Md_copy_65 : decode prog_10_method_35_code 65 = .ok (.iconst 4, 1) := by decide +kernel
theorem d_Md_copy_66 : decode prog_10_method_35_code 66 = .ok (.if_icmp .ge 28, 3) := by decide +kernel
theorem d_Md_copy_69 : decode prog_10_method_35_code 69 = .ok (.aload_n 0, 1) := by decide +kernel
theorem d_Md_copy_70 : decode prog_10_method_35_code 70 = .ok (.getfield 26, 3) := by decide +kernel
theorem d_Md_copy_73 : decode prog_10_method_35_code 73 = .ok (.iconst 4, 1) := by decide +kernel
theorem d_Md_copy_74 : decode prog_10_method_35_code 74 = .ok (.iload 5, 2) := by decide +kernel
theorem d_Md_copy_76 : decode prog_10_method_35_code 76 = .ok (.imul, 1) := by decide +kernel
theorem d_Md_copy_77 : decode prog_10_method_35_code 77 = .ok (.iload 6, 2) := by decide +kernel
theorem d_Md_copy_79 : decode prog_10_method_35_code 79 = .ok (.iadd, 1) := by decide +kernel
theorem d_Md_copy_80 : decode prog_10_method_35_code 80 = .ok (.aload_n 0, 1) := by decide +kernel
theorem d_Md_copy_81 : decode prog_10_method_35_code 81 = .ok (.iload_n 1, 1) := by decide +kernel
theorem d_Md_copy_82 : decode prog_10_method_35_code 82 = .ok (.iload 6, 2) := by decide +kernel
theorem d_Md_copy_84 : decode prog_10_method_35_code 84 = .ok (.invokevirtual 101, 3) := by decide +kernel
theorem d_Md_copy_87 : decode prog_10_method_35_code 87 = .ok (.iastore, 1) := by decide +kernel
theorem d_Md_copy_88 : decode prog_10_method_35_code 88 = .ok (.iinc 6 1, 3) := by decide +kernel
theorem d_Md_copy_91 : decode prog_10_method_35_code 91 = .ok (.goto (-28), 3) := by decide +kernel
theorem d_Md_copy_94 : decode prog_10_method_35_code 94 = .ok (.aload_n 0, 1) := by decide +kernel
theorem d_Md_copy_95 : decode prog_10_method_35_code 95 = .ok (.iload_n 3, 1) := by decide +kernel
theorem d_Md_copy_96 : decode prog_10_method_35_code 96 = .ok (.iload 4, 2) := by decide +kernel
theorem d_Md_copy_98 : decode prog_10_method_35_code 98 = .ok (.iconst 1, 1) := by decide +kernel
theorem d_Md_copy_99 : decode prog_10_method_35_code 99 = .ok (.iadd, 1) := by decide +kernel
theorem d_Md_copy_100 : decode prog_10_method_35_code 100 = .ok (.iload 5, 2) := by decide +kernel
theorem d_Md_copy_102 : decode prog_10_method_35_code 102 = .ok (.invokevirtual 156, 3) := by decide +kernel
theorem d_Md_copy_105 : decode prog_10_method_35_code 105 = .ok (.iload 5, 2) := by decide +kernel
theorem d_Md_copy_107 : decode prog_10_method_35_code 107 = .ok (.ireturn, 1) := by decide +kernel
theorem d_Md_remove_0 : decode prog_10_method_36_code 0 = .ok (.aload_n 0, 1) := by decide +kernel
theorem d_Md_remove_1 : decode prog_10_method_36_code 1 = .ok (.iload_n 1, 1) := by decide +kernel
theorem d_Md_remove_2 : decode prog_10_method_36_code 2 = .ok (.invokevirtual 127, 3) := by decide +kernel
theorem d_Md_remove_5 : decode prog_10_method_36_code 5 = .ok (.ifCond .ge 5, 3) := by decide +kernel
theorem d_Md_remove_8 : decode prog_10_method_36_code 8 = .ok (.iconst (-1), 1) := by decide +kernel
theorem d_Md_remove_9 : decode prog_10_method_36_code 9 = .ok (.ireturn, 1) := by decide +kernel
theorem d_Md_remove_10 : decode prog_10_method_36_code 10 = .ok (.aload_n 0, 1) := by decide +kernel
theorem d_Md_remove_11 : decode prog_10_method_36_code 11 = .ok (.getfield 105, 3) := by decide +kernel
theorem d_Md_remove_14 : decode prog_10_method_36_code 14 = .ok (.iconst 1, 1) := by decide +kernel
theorem d_Md_remove_15 : decode prog_10_method_36_code 15 = .ok (.if_icmp .ne 6, 3) := by decide +kernel
theorem d_Md_remove_18 : decode prog_10_method_36_code 18 = .ok (.bipush (-3), 2) := by decide +kernel
theorem d_Md_remove_20 : decode prog_10_method_36_code 20 = .ok (.ireturn, 1) := by decide +kernel
theorem d_Md_remove_21 : decode prog_10_method_36_code 21 = .ok (.aload_n 0, 1) := by decide +kernel
theorem d_Md_remove_22 : decode prog_10_method_36_code 22 = .ok (.iload_n 1, 1) := by decide +kernel
theorem d_Md_remove_23 : decode prog_10_method_36_code 23 = .ok (.invokevirtual 153, 3) := by decide +kernel
theorem d_Md_remove_26 : decode prog_10_method_36_code 26 = .ok (.aload_n 0, 1) := by decide +kernel
theorem d_Md_remove_27 : decode prog_10_method_36_code 27 = .ok (.getfield 13, 3) := by decide +kernel
theorem d_Md_remove_30 : decode prog_10_method_36_code 30 = .ok (.iload_n 1, 1) := by decide +kernel
theorem d_Md_remove_31 : decode prog_10_method_36_code 31 = .ok (.iconst (-1), 1) := by decide +kernel
theorem d_Md_remove_32 : decode prog_10_method_36_code 32 = .ok (.iastore, 1) := by decide +kernel
theorem d_Md_remove_33 : decode prog_10_method_36_code 33 = .ok (.iconst 0, 1) := by decide +kernel
theorem d_Md_remove_34 : decode prog_10_method_36_code 34 = .ok (.istore_n 2, 1) := by decide +kernel
theorem d_Md_remove_35 : decode prog_10_method_36_code 35 = .ok (.iconst 0, 1) := by decide +kernel
theorem d_Md_remove_36 : decode prog_10_method_36_code 36 = .ok (.istore_n 3, 1) := by decide +kernel
theorem d_Md_remove_37 : decode prog_10_method_36_code 37 = .ok (.iconst 0, 1) := by decide +kernel
theorem d_Md_remove_38 : decode prog_10_method_36_code 38 = .ok (.istore 4, 2) := by decide +kernel
theorem d_Md_remove_40 : decode prog_10_method_36_code 40 = .ok (.iload 4, 2) := by decide +kernel
theorem d_Md_remove_42 : decode prog_10_method_36_code 42 = .ok (.aload_n 0, 1) := by decide +kernel
theorem d_Md_remove_43 : decode prog_10_method_36_code 43 = .ok (.getfield 160, 3) := by decide +kernel
theorem d_Md_remove_46 : decode prog_10_method_36_code 46 = .ok (.if_icmp .ge 55, 3) := by decide +kernel
theorem d_Md_remove_49 : decode prog_10_method_36_code 49 = .ok (.aload_n 0, 1) := by decide +kernel
theorem d_Md_remove_50 : decode prog_10_method_36_code 50 = .ok (.getfield 68, 3) := by decide +kernel
theorem d_Md_remove_53 : decode prog_10_method_36_code 53 = .ok (.iload 4, 2) := by decide +kernel
theorem d_Md_remove_55 : decode prog_10_method_36_code 55 = .ok (.iaload, 1) := by decide +kernel
theorem d_Md_remove_56 : decode prog_10_method_36_code 56 = .ok (.iload_n 1, 1) := by decide +kernel
theorem d_Md_remove_57 : decode prog_10_method_36_code 57 = .ok (.if_icmp .ne 9, 3) := by decide +kernel
theorem d_Md_remove_60 : decode prog_10_method_36_code 60 = .ok (.iinc 2 1, 3) := by decide +kernel
theorem d_Md_remove_63 : decode prog_10_method_36_code 63 = .ok (.goto 32, 3) := by decide +kernel
theorem d_Md_remove_66 : decode prog_10_method_36_code 66 = .ok (.aload_n 0, 1) := by decide +kernel
theorem d_Md_remove_67 : decode prog_10_method_36_code 67 = .ok (.getfield 65, 3) := by decide +kernel
theorem d_Md_remove_70 : decode prog_10_method_36_code 70 = .ok (.iload_n 3, 1) := by decide +kernel
theorem d_Md_remove_71 : decode prog_10_method_36_code 71 = .ok (.aload_n 0, 1) := by decide +kernel
theorem d_Md_remove_72 : decode prog_10_method_36_code 72 = .ok (.getfield 65, 3) := by decide +kernel
theorem d_Md_remove_75 : decode prog_10_method_36_code 75 = .ok (.iload 4, 2) := by decide +kernel
theorem d_Md_remove_77 : decode prog_10_method_36_code 77 = .ok (.iaload, 1) := by decide +kernel
theorem d_Md_remove_78 : decode prog_10_method_36_code 78 = .ok (.iastore, 1) := by decide +kernel
theorem d_Md_remove_79 : decode prog_10_method_36_code 79 = .ok (.aload_n 0, 1) := by decide +kernel
theorem d_Md_remove_80 : decode prog_10_method_36_code 80 = .ok (.getfield 68, 3) := by decide +kernel
theorem d_Md_remove_83 : decode prog_10_method_36_code 83 = .ok (.iload_n 3, 1) := by decide +kernel
theorem d_Md_remove_84 : decode prog_10_method_36_code 84 = .ok (.aload_n 0, 1) := by decide +kernel
theorem d_Md_remove_85 : decode prog_10_method_36_code 85 = .ok (.getfield 68, 3) := by decide +kernel
theorem d_Md_remove_88 : decode prog_10_method_36_code 88 = .ok (.iload 4, 2) := by decide +kernel
theorem d_Md_remove_90 : decode prog_10_method_36_code 90 = .ok (.iaload, 1) := by decide +kernel
theorem d_Md_remove_91 : decode prog_10_method_36_code 91 = .ok (.iastore, 1) := by decide +kernel
theorem d_Md_remove_92 : decode prog_10_method_36_code 92 = .ok (.iinc 3 1, 3) := by decide +kernel
theorem d_Md_remove_95 : decode prog_10_method_36_code 95 = .ok (.iinc 4 1, 3) := by decide +kernel
theorem d_Md_remove_98 : decode prog_10_method_36_code 98 = .ok (.goto (-58), 3) := by decide +kernel
theorem d_Md_remove_101 : decode prog_10_method_36_code 101 = .ok (.aload_n 0, 1) := by decide +kernel
theorem d_Md_remove_102 : decode prog_10_method_36_code 102 = .ok (.iload_n 3, 1) := by decide +kernel
theorem d_Md_remove_103 : decode prog_10_method_36_code 103 = .ok (.putfield 160, 3) := by decide +kernel
theorem d_Md_remove_106 : decode prog_10_method_36_code 106 = .ok (.iload_n 2, 1) := by decide +kernel
theorem d_Md_remove_107 : decode prog_10_method_36_code 107 = .ok (.ireturn, 1) := by decide +kernel
theorem d_Md_label_0 : decode prog_10_method_37_code 0 = .ok (.iload_n 1, 1) := by decide +kernel
theorem d_Md_label_1 : decode prog_10_method_37_code 1 = .ok (.iconst 0, 1) := by decide +kernel
theorem d_Md_label_2 : decode prog_10_method_37_code 2 = .ok (.sipush 199, 3) := by decide +kernel
theorem d_Md_label_5 : decode prog_10_method_37_code 5 = .ok (.invokestatic 96, 3) := by decide +kernel
theorem d_Md_label_8 : decode prog_10_method_37_code 8 = .ok (.ifCond .eq 23, 3) := by decide +kernel
theorem d_Md_label_11 : decode prog_10_method_37_code 11 = .ok (.iload_n 2, 1) := by decide +kernel
theorem d_Md_label_12 : decode prog_10_method_37_code 12 = .ok (.iconst 0, 1) := by decide +kernel
theorem d_Md_label_13 : decode prog_10_method_37_code 13 = .ok (.iconst 2, 1) := by decide +kernel
theorem d_Md_label_14 : decode prog_10_method_37_code 14 = .ok (.invokestatic 96, 3) := by decide +kernel
theorem d_Md_label_17 : decode prog_10_method_37_code 17 = .ok (.ifCond .eq 14, 3) := by decide +kernel
theorem d_Md_label_20 : decode prog_10_method_37_code 20 = .ok (.iload_n 3, 1) := by decide +kernel
theorem d_Md_label_21 : decode prog_10_method_37_code 21 = .ok (.iconst 1, 1) := by decide +kernel
theorem d_Md_label_22 : decode prog_10_method_37_code 22 = .ok (.sipush 1000, 3) := by decide +kernel
theorem d_Md_label_25 : decode prog_10_method_37_code 25 = .ok (.invokestatic 96, 3) := by decide +kernel
theorem d_Md_label_28 : decode prog_10_method_37_code 28 = .ok (.ifCond .ne 6, 3) := by decide +kernel
theorem d_Md_label_31 : decode prog_10_method_37_code 31 = .ok (.bipush (-2), 2) := by decide +kernel
theorem d_Md_label_33 : decode prog_10_method_37_code 33 = .ok (.ireturn, 1) := by decide +kernel
theorem d_Md_label_34 : decode prog_10_method_37_code 34 = .ok (.aload_n 0, 1) := by decide +kernel
theorem d_Md_label_35 : decode prog_10_method_37_code 35 = .ok (.getfield 163, 3) := by decide +kernel
theorem d_Md_label_38 : decode prog_10_method_37_code 38 = .ok (.istore 4, 2) := by decide +kernel
theorem d_Md_label_40 : decode prog_10_method_37_code 40 = .ok (.iconst 0, 1) := by decide +kernel
theorem d_Md_label_41 : decode prog_10_method_37_code 41 = .ok (.istore 5, 2) := by decide +kernel
theorem d_Md_label_43 : decode prog_10_method_37_code 43 = .ok (.iload 5, 2) := by decide +kernel
theorem d_Md_label_45 : decode prog_10_method_37_code 45 = .ok (.aload_n 0, 1) := by decide +kernel
theorem d_Md_label_46 : decode prog_10_method_37_code 46 = .ok (.getfield 163, 3) := by decide +kernel
theorem d_Md_label_49 : decode prog_10_method_37_code 49 = .ok (.if_icmp .ge 29, 3) := by decide +kernel
theorem d_Md_label_52 : decode prog_10_method_37_code 52 = .ok (.aload_n 0, 1) := by decide +kernel
theorem d_Md_label_53 : decode prog_10_method_37_code 53 = .ok (.getfield 56, 3) := by decide +kernel
theorem d_Md_label_56 : decode prog_10_method_37_code 56 = .ok (.iload 5, 2) := by decide +kernel
theorem d_Md_label_58 : decode prog_10_method_37_code 58 = .ok (.iaload, 1) := by decide +kernel
theorem d_Md_label_59 : decode prog_10_method_37_code 59 = .ok (.iload_n 1, 1) := by decide +kernel
theorem d_Md_label_60 : decode prog_10_method_37_code 60 = .ok (.if_icmp .ne 8, 3) := by decide +kernel
theorem d_Md_label_63 : decode prog_10_method_37_code 63 = .ok (.iload 5, 2) := by decide +kernel
theorem d_Md_label_65 : decode prog_10_method_37_code 65 = .ok (.goto 5, 3) := by decide +kernel
theorem d_Md_label_68 : decode prog_10_method_37_code 68 = .ok (.iload 4, 2) := by decide +kernel
theorem d_Md_label_70 : decode prog_10_method_37_code 70 = .ok (.istore 4, 2) := by decide +kernel
theorem d_Md_label_72 : decode prog_10_method_37_code 72 = .ok (.iinc 5 1, 3) := by decide +kernel
theorem d_Md_label_75 : decode prog_10_method_37_code 75 = .ok (.goto (-32), 3) := by decide +kernel
theorem d_Md_label_78 : decode prog_10_method_37_code 78 = .ok (.iload 4, 2) := by decide +kernel
theorem d_Md_label_80 : decode prog_10_method_37_code 80 = .ok (.bipush 20, 2) := by decide +kernel
theorem d_Md_label_82 : decode prog_10_method_37_code 82 = .ok (.if_icmp .ne 6, 3) := by decide +kernel
theorem d_Md_label_85 : decode prog_10_method_37_code 85 = .ok (.bipush (-4), 2) := by decide +kernel
theorem d_Md_label_87 : decode prog_10_method_37_code 87 = .ok (.ireturn, 1) := by decide +kernel
theorem d_Md_label_88 : decode prog_10_method_37_code 88 = .ok (.aload_n 0, 1) := by decide +kernel
theorem d_Md_label_89 : decode prog_10_method_37_code 89 = .ok (.getfield 56, 3) := by decide +kernel
theorem d_Md_label_92 : decode prog_10_method_37_code 92 = .ok (.iload 4, 2) := by decide +kernel
theorem d_Md_label_94 : decode prog_10_method_37_code 94 = .ok (.iload_n 1, 1) := by decide +kernel
theorem d_Md_label_95 : decode prog_10_method_37_code 95 = .ok (.iastore, 1) := by decide +kernel
theorem d_Md_label_96 : decode prog_10_method_37_code 96 = .ok (.aload_n 0, 1) := by decide +kernel
theorem d_Md_label_97 : decode prog_10_method_37_code 97 = .ok (.getfield 59, 3) := by decide +kernel
theorem d_Md_label_100 : decode prog_10_method_37_code 100 = .ok (.iload 4, 2) := by decide +kernel
theorem d_Md_label_102 : decode prog_10_method_37_code 102 = .ok (.iload_n 2, 1) := by decide +kernel
theorem d_Md_label_103 : decode prog_10_method_37_code 103 = .ok (.iastore, 1) := by decide +kernel
theorem d_Md_label_104 : decode prog_10_method_37_code 104 = .ok (.aload_n 0, 1) := by decide +kernel
theorem d_Md_label_105 : decode prog_10_method_37_code 105 = .ok (.getfield 62, 3) := by decide +kernel
theorem d_Md_label_108 : decode prog_10_method_37_code 108 = .ok (.iload 4, 2) := by decide +kernel
theorem d_Md_label_110 : decode prog_10_method_37_code 110 = .ok (.iload_n 3, 1) := by decide +kernel
theorem d_Md_label_111 : decode prog_10_method_37_code 111 = .ok (.iastore, 1) := by decide +kernel
theorem d_Md_label_112 : decode prog_10_method_37_code 112 = .ok (.aload_n 0, 1) := by decide +kernel
theorem d_Md_label_113 : decode prog_10_method_37_code 113 = .ok (.iload 4, 2) := by decide +kernel
theorem d_Md_label_115 : decode prog_10_method_37_code 115 = .ok (.aload_n 0, 1) := by decide +kernel
theorem d_Md_label_116 : decode prog_10_method_37_code 116 = .ok (.getfield 163, 3) := by decide +kernel
theorem d_Md_label_119 : decode prog_10_method_37_code 119 = .ok (.if_icmp .ne 12, 3) := by decide +kernel
theorem d_Md_label_122 : decode prog_10_method_37_code 122 = .ok (.aload_n 0, 1) := by decide +kernel
theorem d_Md_label_123 : decode prog_10_method_37_code 123 = .ok (.getfield 163, 3) := by decide +kernel
theorem d_Md_label_126 : decode prog_10_method_37_code 126 = .ok (.iconst 1, 1) := by decide +kernel
theorem d_Md_label_127 : decode prog_10_method_37_code 127 = .ok (.iadd, 1) := by decide +kernel
theorem d_Md_label_128 : decode prog_10_method_37_code 128 = .ok (.goto 7, 3) := by decide +kernel
theorem d_Md_label_131 : decode prog_10_method_37_code 131 = .ok (.aload_n 0, 1) := by decide +kernel
theorem d_Md_label_132 : decode prog_10_method_37_code 132 = .ok (.getfield 163, 3) := by decide +kernel
theorem d_Md_label_135 : decode prog_10_method_37_code 135 = .ok (.putfield 163, 3) := by decide +kernel
theorem d_Md_label_138 : decode prog_10_method_37_code 138 = .ok (.aload_n 0, 1) := by decide +kernel
theorem d_Md_label_139 : decode prog_10_method_37_code 139 = .ok (.getfield 163, 3) := by decide +kernel
theorem d_Md_label_142 : decode prog_10_method_37_code 142 = .ok (.ireturn, 1) := by decide +kernel
theorem d_Md_say_0 : decode prog_10_method_38_code 0 = .ok (.aload_n 0, 1) := by decide +kernel
theorem d_Md_say_1 : decode prog_10_method_38_code 1 = .ok (.getfield 71, 3) := by decide +kernel
theorem d_Md_say_4 : decode prog_10_method_38_code 4 = .ok (.aload_n 0, 1) := by decide +kernel
theorem d_Md_say_5 : decode prog_10_method_38_code 5 = .ok (.getfield 166, 3) := by decide +kernel
theorem d_Md_say_8 : decode prog_10_method_38_code 8 = .ok (.iload_n 1, 1) := by decide +kernel
theorem d_Md_say_9 : decode prog_10_method_38_code 9 = .ok (.iastore, 1) := by decide +kernel
theorem d_Md_say_10 : decode prog_10_method_38_code 10 = .ok (.aload_n 0, 1) := by decide +kernel
theorem d_Md_say_11 : decode prog_10_method_38_code 11 = .ok (.dup, 1) := by decide +kernel
theorem d_Md_say_12 : decode prog_10_method_38_code 12 = .ok (.getfield 166, 3) := by decide +kernel
theorem d_Md_say_15 : decode prog_10_method_38_code 15 = .ok (.iconst 1, 1) := by decide +kernel
theorem d_Md_say_16 : decode prog_10_method_38_code 16 = .ok (.iadd, 1) := by decide +kernel
theorem d_Md_say_17 : decode prog_10_method_38_code 17 = .ok (.putfield 166, 3) := by decide +kernel
theorem d_Md_say_20 : decode prog_10_method_38_code 20 = .ok (.return_, 1) := by decide +kernel
theorem d_Md_sayDigits_0 : decode prog_10_method_39_code 0 = .ok (.iconst 1, 1) := by decide +kernel
theorem d_Md_sayDigits_1 : decode prog_10_method_39_code 1 = .ok (.istore_n 2, 1) := by decide +kernel
theorem d_Md_sayDigits_2 : decode prog_10_method_39_code 2 = .ok (.iload_n 1, 1) := by decide +kernel
theorem d_Md_sayDigits_3 : decode prog_10_method_39_code 3 = .ok (.iload_n 2, 1) := by decide +kernel
theorem d_Md_sayDigits_4 : decode prog_10_method_39_code 4 = .ok (.idiv, 1) := by decide +kernel
theorem d_Md_sayDigits_5 : decode prog_10_method_39_code 5 = .ok (.bipush 9, 2) := by decide +kernel
theorem d_Md_sayDigits_7 : decode prog_10_method_39_code 7 = .ok (.if_icmp .le 11, 3) := by decide +kernel
theorem d_Md_sayDigits_10 : decode prog_10_method_39_code 10 = .ok (.iload_n 2, 1) := by decide +kernel
theorem d_Md_sayDigits_11 : decode prog_10_method_39_code 11 = .ok (.bipush 10, 2) := by decide +kernel
theorem d_Md_sayDigits_13 : decode prog_10_method_39_code 13 = .ok (.imul, 1) := by decide +kernel
theorem d_Md_sayDigits_14 : decode prog_10_method_39_code 14 = .ok (.istore_n 2, 1) := by decide +kernel
theorem d_Md_sayDigits_15 : decode prog_10_method_39_code 15 = .ok (.goto (-13), 3) := by decide +kernel
theorem d_Md_sayDigits_18 : decode prog_10_method_39_code 18 = .ok (.iload_n 2, 1) := by decide +kernel
theorem d_Md_sayDigits_19 : decode prog_10_method_39_code 19 = .ok (.ifCond .le 24, 3) := by decide +kernel
theorem d_Md_sayDigits_22 : decode prog_10_method_39_code 22 = .ok (.aload_n 0, 1) := by decide +kernel
theorem d_Md_sayDigits_23 : decode prog_10_method_39_code 23 = .ok (.bipush 48, 2) := by decide +kernel
theorem d_Md_sayDigits_25 : decode prog_10_method_39_code 25 = .ok (.iload_n 1, 1) := by decide +kernel
theorem d_Md_sayDigits_26 : decode prog_10_method_39_code 26 = .ok (.iload_n 2, 1) := by decide +kernel
theorem d_Md_sayDigits_27 : decode prog_10_method_39_code 27 = .ok (.idiv, 1) := by decide +kernel
theorem d_Md_sayDigits_28 : decode prog_10_method_39_code 28 = .ok (.bipush 10, 2) := by decide +kernel
theorem d_Md_sayDigits_30 : decode prog_10_method_39_code 30 = .ok (.irem, 1) := by decide +kernel
theorem d_Md_sayDigits_31 : decode prog_10_method_39_code 31 = .ok (.iadd, 1) := by decide +kernel
theorem d_Md_sayDigits_32 : decode prog_10_method_39_code 32 = .ok (.invokevirtual 169, 3) := by decide +kernel
theorem d_Md_sayDigits_35 : decode prog_10_method_39_code 35 = .ok (.iload_n 2, 1) := by decide +kernel
theorem d_Md_sayDigits_36 : decode prog_10_method_39_code 36 = .ok (.bipush 10, 2) := by decide +kernel
theorem d_Md_sayDigits_38 : decode prog_10_method_39_code 38 = .ok (.idiv, 1) := by decide +kernel
theorem d_Md_sayDigits_39 : decode prog_10_method_39_code 39 = .ok (.istore_n 2, 1) := by decide +kernel
theorem d_Md_sayDigits_40 : decode prog_10_method_39_code 40 = .ok (.goto (-22), 3) := by decide +kernel
theorem d_Md_sayDigits_43 : decode prog_10_method_39_code 43 = .ok (.return_, 1) := by decide +kernel
theorem d_Md_sayPlace_0 : decode prog_10_method_40_code 0 = .ok (.iload_n 1, 1) := by decide +kernel
theorem d_Md_sayPlace_1 : decode prog_10_method_40_code 1 = .ok (.bipush 9, 2) := by decide +kernel
theorem d_Md_sayPlace_3 : decode prog_10_method_40_code 3 = .ok (.if_icmp .ne 15, 3) := by decide +kernel
theorem d_Md_sayPlace_6 : decode prog_10_method_40_code 6 = .ok (.aload_n 0, 1) := by decide +kernel
theorem d_Md_sayPlace_7 : decode prog_10_method_40_code 7 = .ok (.iload_n 2, 1) := by decide +kernel
theorem d_Md_sayPlace_8 : decode prog_10_method_40_code 8 = .ok (.invokevirtual 169, 3) := by decide +kernel
theorem d_Md_sayPlace_11 : decode prog_10_method_40_code 11 = .ok (.aload_n 0, 1) := by decide +kernel
theorem d_Md_sayPlace_12 : decode prog_10_method_40_code 12 = .ok (.iload 4, 2) := by decide +kernel
theorem d_Md_sayPlace_14 : decode prog_10_method_40_code 14 = .ok (.invokevirtual 169, 3) := by decide +kernel
theorem d_Md_sayPlace_17 : decode prog_10_method_40_code 17 = .ok (.return_, 1) := by decide +kernel
theorem d_Md_sayPlace_18 : decode prog_10_method_40_code 18 = .ok (.iload_n 1, 1) := by decide +kernel
theorem d_Md_sayPlace_19 : decode prog_10_method_40_code 19 = .ok (.iconst 4, 1) := by decide +kernel
theorem d_Md_sayPlace_20 : decode prog_10_method_40_code 20 = .ok (.if_icmp .ne 14, 3) := by decide +kernel
theorem d_Md_sayPlace_23 : decode prog_10_method_40_code 23 = .ok (.aload_n 0, 1) := by decide +kernel
theorem d_Md_sayPlace_24 : decode prog_10_method_40_code 24 = .ok (.iload_n 2, 1) := by decide +kernel
theorem d_Md_sayPlace_25 : decode prog_10_method_40_code 25 = .ok (.invokevirtual 169, 3) := by decide +kernel
theorem d_Md_sayPlace_28 : decode prog_10_method_40_code 28 = .ok (.aload_n 0, 1) := by decide +kernel
theorem d_Md_sayPlace_29 : decode prog_10_method_40_code 29 = .ok (.iload_n 3, 1) := by decide +kernel
theorem d_Md_sayPlace_30 : decode prog_10_method_40_code 30 = .ok (.invokevirtual 169, 3) := by decide +kernel
theorem d_Md_sayPlace_33 : decode prog_10_method_40_code 33 = .ok (.return_, 1) := by decide +kernel
