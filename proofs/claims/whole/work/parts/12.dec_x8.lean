theorem dX8_init_0 : decode cX8_init 0 = .ok (.aload_n 0, 1) := by decide +kernel
theorem dX8_init_1 : decode cX8_init 1 = .ok (.invokespecial 1, 3) := by decide +kernel
theorem dX8_init_4 : decode cX8_init 4 = .ok (.aload_n 0, 1) := by decide +kernel
theorem dX8_init_5 : decode cX8_init 5 = .ok (.sipush 1213, 3) := by decide +kernel
theorem dX8_init_8 : decode cX8_init 8 = .ok (.newarray .int, 2) := by decide +kernel
theorem dX8_init_10 : decode cX8_init 10 = .ok (.putfield 7, 3) := by decide +kernel
theorem dX8_init_13 : decode cX8_init 13 = .ok (.aload_n 0, 1) := by decide +kernel
theorem dX8_init_14 : decode cX8_init 14 = .ok (.sipush 4852, 3) := by decide +kernel
theorem dX8_init_17 : decode cX8_init 17 = .ok (.newarray .int, 2) := by decide +kernel
theorem dX8_init_19 : decode cX8_init 19 = .ok (.putfield 13, 3) := by decide +kernel
theorem dX8_init_22 : decode cX8_init 22 = .ok (.aload_n 0, 1) := by decide +kernel
theorem dX8_init_23 : decode cX8_init 23 = .ok (.bipush 80, 2) := by decide +kernel
theorem dX8_init_25 : decode cX8_init 25 = .ok (.newarray .int, 2) := by decide +kernel
theorem dX8_init_27 : decode cX8_init 27 = .ok (.putfield 16, 3) := by decide +kernel
theorem dX8_init_30 : decode cX8_init 30 = .ok (.aload_n 0, 1) := by decide +kernel
theorem dX8_init_31 : decode cX8_init 31 = .ok (.getfield 7, 3) := by decide +kernel
theorem dX8_init_34 : decode cX8_init 34 = .ok (.iconst 2, 1) := by decide +kernel
theorem dX8_init_35 : decode cX8_init 35 = .ok (.iconst 1, 1) := by decide +kernel
theorem dX8_init_36 : decode cX8_init 36 = .ok (.iastore, 1) := by decide +kernel
theorem dX8_init_37 : decode cX8_init 37 = .ok (.aload_n 0, 1) := by decide +kernel
theorem dX8_init_38 : decode cX8_init 38 = .ok (.getfield 7, 3) := by decide +kernel
theorem dX8_init_41 : decode cX8_init 41 = .ok (.bipush 12, 2) := by decide +kernel
theorem dX8_init_43 : decode cX8_init 43 = .ok (.bipush 50, 2) := by decide +kernel
theorem dX8_init_45 : decode cX8_init 45 = .ok (.iastore, 1) := by decide +kernel
theorem dX8_init_46 : decode cX8_init 46 = .ok (.aload_n 0, 1) := by decide +kernel
theorem dX8_init_47 : decode cX8_init 47 = .ok (.getfield 7, 3) := by decide +kernel
theorem dX8_init_50 : decode cX8_init 50 = .ok (.bipush 13, 2) := by decide +kernel
theorem dX8_init_52 : decode cX8_init 52 = .ok (.bipush 67, 2) := by decide +kernel
theorem dX8_init_54 : decode cX8_init 54 = .ok (.iastore, 1) := by decide +kernel
theorem dX8_init_55 : decode cX8_init 55 = .ok (.aload_n 0, 1) := by decide +kernel
theorem dX8_init_56 : decode cX8_init 56 = .ok (.getfield 7, 3) := by decide +kernel
theorem dX8_init_59 : decode cX8_init 59 = .ok (.bipush 14, 2) := by decide +kernel
theorem dX8_init_61 : decode cX8_init 61 = .ok (.bipush 30, 2) := by decide +kernel
theorem dX8_init_63 : decode cX8_init 63 = .ok (.iastore, 1) := by decide +kernel
theorem dX8_init_64 : decode cX8_init 64 = .ok (.aload_n 0, 1) := by decide +kernel
theorem dX8_init_65 : decode cX8_init 65 = .ok (.getfield 7, 3) := by decide +kernel
theorem dX8_init_68 : decode cX8_init 68 = .ok (.bipush 15, 2) := by decide +kernel
theorem dX8_init_70 : decode cX8_init 70 = .ok (.bipush 14, 2) := by decide +kernel
theorem dX8_init_72 : decode cX8_init 72 = .ok (.iastore, 1) := by decide +kernel
theorem dX8_init_73 : decode cX8_init 73 = .ok (.aload_n 0, 1) := by decide +kernel
theorem dX8_init_74 : decode cX8_init 74 = .ok (.getfield 7, 3) := by decide +kernel
theorem dX8_init_77 : decode cX8_init 77 = .ok (.bipush 16, 2) := by decide +kernel
theorem dX8_init_79 : decode cX8_init 79 = .ok (.iconst 2, 1) := by decide +kernel
theorem dX8_init_80 : decode cX8_init 80 = .ok (.iastore, 1) := by decide +kernel
theorem dX8_init_81 : decode cX8_init 81 = .ok (.return_, 1) := by decide +kernel
theorem dX8_in_0 : decode cX8_in 0 = .ok (.iload_n 0, 1) := by decide +kernel
theorem dX8_in_1 : decode cX8_in 1 = .ok (.iload_n 1, 1) := by decide +kernel
theorem dX8_in_2 : decode cX8_in 2 = .ok (.if_icmp .lt 12, 3) := by decide +kernel
theorem dX8_in_5 : decode cX8_in 5 = .ok (.iload_n 0, 1) := by decide +kernel
theorem dX8_in_6 : decode cX8_in 6 = .ok (.iload_n 2, 1) := by decide +kernel
theorem dX8_in_7 : decode cX8_in 7 = .ok (.if_icmp .gt 7, 3) := by decide +kernel
theorem dX8_in_10 : decode cX8_in 10 = .ok (.iconst 1, 1) := by decide +kernel
theorem dX8_in_11 : decode cX8_in 11 = .ok (.goto 4, 3) := by decide +kernel
theorem dX8_in_14 : decode cX8_in 14 = .ok (.iconst 0, 1) := by decide +kernel
theorem dX8_in_15 : decode cX8_in 15 = .ok (.ireturn, 1) := by decide +kernel
theorem dX8_records_0 : decode cX8_records 0 = .ok (.aload_n 0, 1) := by decide +kernel
theorem dX8_records_1 : decode cX8_records 1 = .ok (.getfield 19, 3) := by decide +kernel
theorem dX8_records_4 : decode cX8_records 4 = .ok (.iconst 4, 1) := by decide +kernel
theorem dX8_records_5 : decode cX8_records 5 = .ok (.if_icmp .ne 44, 3) := by decide +kernel
theorem dX8_records_8 : decode cX8_records 8 = .ok (.iconst 0, 1) := by decide +kernel
theorem dX8_records_9 : decode cX8_records 9 = .ok (.istore_n 1, 1) := by decide +kernel
theorem dX8_records_10 : decode cX8_records 10 = .ok (.iload_n 1, 1) := by decide +kernel
theorem dX8_records_11 : decode cX8_records 11 = .ok (.sipush 3639, 3) := by decide +kernel
theorem dX8_records_14 : decode cX8_records 14 = .ok (.if_icmp .ge 25, 3) := by decide +kernel
theorem dX8_records_17 : decode cX8_records 17 = .ok (.aload_n 0, 1) := by decide +kernel
theorem dX8_records_18 : decode cX8_records 18 = .ok (.getfield 13, 3) := by decide +kernel
theorem dX8_records_21 : decode cX8_records 21 = .ok (.iload_n 1, 1) := by decide +kernel
theorem dX8_records_22 : decode cX8_records 22 = .ok (.aload_n 0, 1) := by decide +kernel
theorem dX8_records_23 : decode cX8_records 23 = .ok (.getfield 13, 3) := by decide +kernel
theorem dX8_records_26 : decode cX8_records 26 = .ok (.iload_n 1, 1) := by decide +kernel
theorem dX8_records_27 : decode cX8_records 27 = .ok (.sipush 1213, 3) := by decide +kernel
theorem dX8_records_30 : decode cX8_records 30 = .ok (.iadd, 1) := by decide +kernel
theorem dX8_records_31 : decode cX8_records 31 = .ok (.iaload, 1) := by decide +kernel
theorem dX8_records_32 : decode cX8_records 32 = .ok (.iastore, 1) := by decide +kernel
theorem dX8_records_33 : decode cX8_records 33 = .ok (.iinc 1 1, 3) := by decide +kernel
theorem dX8_records_36 : decode cX8_records 36 = .ok (.goto (-26), 3) := by decide +kernel
theorem dX8_records_39 : decode cX8_records 39 = .ok (.aload_n 0, 1) := by decide +kernel
theorem dX8_records_40 : decode cX8_records 40 = .ok (.dup, 1) := by decide +kernel
theorem dX8_records_41 : decode cX8_records 41 = .ok (.getfield 19, 3) := by decide +kernel
theorem dX8_records_44 : decode cX8_records 44 = .ok (.iconst 1, 1) := by decide +kernel
theorem dX8_records_45 : decode cX8_records 45 = .ok (.isub, 1) := by decide +kernel
theorem dX8_records_46 : decode cX8_records 46 = .ok (.putfield 19, 3) := by decide +kernel
theorem dX8_records_49 : decode cX8_records 49 = .ok (.iconst 0, 1) := by decide +kernel
theorem dX8_records_50 : decode cX8_records 50 = .ok (.istore_n 1, 1) := by decide +kernel
theorem dX8_records_51 : decode cX8_records 51 = .ok (.iload_n 1, 1) := by decide +kernel
theorem dX8_records_52 : decode cX8_records 52 = .ok (.sipush 1213, 3) := by decide +kernel
theorem dX8_records_55 : decode cX8_records 55 = .ok (.if_icmp .ge 30, 3) := by decide +kernel
theorem dX8_records_58 : decode cX8_records 58 = .ok (.aload_n 0, 1) := by decide +kernel
theorem dX8_records_59 : decode cX8_records 59 = .ok (.getfield 13, 3) := by decide +kernel
theorem dX8_records_62 : decode cX8_records 62 = .ok (.sipush 1213, 3) := by decide +kernel
theorem dX8_records_65 : decode cX8_records 65 = .ok (.aload_n 0, 1) := by decide +kernel
theorem dX8_records_66 : decode cX8_records 66 = .ok (.getfield 19, 3) := by decide +kernel
theorem dX8_records_69 : decode cX8_records 69 = .ok (.imul, 1) := by decide +kernel
theorem dX8_records_70 : decode cX8_records 70 = .ok (.iload_n 1, 1) := by decide +kernel
theorem dX8_records_71 : decode cX8_records 71 = .ok (.iadd, 1) := by decide +kernel
theorem dX8_records_72 : decode cX8_records 72 = .ok (.aload_n 0, 1) := by decide +kernel
theorem dX8_records_73 : decode cX8_records 73 = .ok (.getfield 7, 3) := by decide +kernel
theorem dX8_records_76 : decode cX8_records 76 = .ok (.iload_n 1, 1) := by decide +kernel
theorem dX8_records_77 : decode cX8_records 77 = .ok (.iaload, 1) := by decide +kernel
theorem dX8_records_78 : decode cX8_records 78 = .ok (.iastore, 1) := by decide +kernel
theorem dX8_records_79 : decode cX8_records 79 = .ok (.iinc 1 1, 3) := by decide +kernel
theorem dX8_records_82 : decode cX8_records 82 = .ok (.goto (-31), 3) := by decide +kernel
theorem dX8_records_85 : decode cX8_records 85 = .ok (.aload_n 0, 1) := by decide +kernel
theorem dX8_records_86 : decode cX8_records 86 = .ok (.dup, 1) := by decide +kernel
theorem dX8_records_87 : decode cX8_records 87 = .ok (.getfield 19, 3) := by decide +kernel
theorem dX8_records_90 : decode cX8_records 90 = .ok (.iconst 1, 1) := by decide +kernel
theorem dX8_records_91 : decode cX8_records 91 = .ok (.iadd, 1) := by decide +kernel
theorem dX8_records_92 : decode cX8_records 92 = .ok (.putfield 19, 3) := by decide +kernel
theorem dX8_records_95 : decode cX8_records 95 = .ok (.return_, 1) := by decide +kernel
theorem dX8_undo_0 : decode cX8_undo 0 = .ok (.aload_n 0, 1) := by decide +kernel
theorem dX8_undo_1 : decode cX8_undo 1 = .ok (.getfield 19, 3) := by decide +kernel
theorem dX8_undo_4 : decode cX8_undo 4 = .ok (.ifCond .ne 6, 3) := by decide +kernel
theorem dX8_undo_7 : decode cX8_undo 7 = .ok (.bipush (-2), 2) := by decide +kernel
theorem dX8_undo_9 : decode cX8_undo 9 = .ok (.ireturn, 1) := by decide +kernel
theorem dX8_undo_10 : decode cX8_undo 10 = .ok (.aload_n 0, 1) := by decide +kernel
theorem dX8_undo_11 : decode cX8_undo 11 = .ok (.dup, 1) := by decide +kernel
theorem dX8_undo_12 : decode cX8_undo 12 = .ok (.getfield 19, 3) := by decide +kernel
theorem dX8_undo_15 : decode cX8_undo 15 = .ok (.iconst 1, 1) := by decide +kernel
theorem dX8_undo_16 : decode cX8_undo 16 = .ok (.isub, 1) := by decide +kernel
theorem dX8_undo_17 : decode cX8_undo 17 = .ok (.putfield 19, 3) := by decide +kernel
theorem dX8_undo_20 : decode cX8_undo 20 = .ok (.iconst 0, 1) := by decide +kernel
theorem dX8_undo_21 : decode cX8_undo 21 = .ok (.istore_n 1, 1) := by decide +kernel
theorem dX8_undo_22 : decode cX8_undo 22 = .ok (.iload_n 1, 1) := by decide +kernel
theorem dX8_undo_23 : decode cX8_undo 23 = .ok (.sipush 1213, 3) := by decide +kernel
theorem dX8_undo_26 : decode cX8_undo 26 = .ok (.if_icmp .ge 30, 3) := by decide +kernel
theorem dX8_undo_29 : decode cX8_undo 29 = .ok (.aload_n 0, 1) := by decide +kernel
theorem dX8_undo_30 : decode cX8_undo 30 = .ok (.getfield 7, 3) := by decide +kernel
theorem dX8_undo_33 : decode cX8_undo 33 = .ok (.iload_n 1, 1) := by decide +kernel
theorem dX8_undo_34 : decode cX8_undo 34 = .ok (.aload_n 0, 1) := by decide +kernel
theorem dX8_undo_35 : decode cX8_undo 35 = .ok (.getfield 13, 3) := by decide +kernel
theorem dX8_undo_38 : decode cX8_undo 38 = .ok (.sipush 1213, 3) := by decide +kernel
theorem dX8_undo_41 : decode cX8_undo 41 = .ok (.aload_n 0, 1) := by decide +kernel
theorem dX8_undo_42 : decode cX8_undo 42 = .ok (.getfield 19, 3) := by decide +kernel
theorem dX8_undo_45 : decode cX8_undo 45 = .ok (.imul, 1) := by decide +kernel
theorem dX8_undo_46 : decode cX8_undo 46 = .ok (.iload_n 1, 1) := by decide +kernel
theorem dX8_undo_47 : decode cX8_undo 47 = .ok (.iadd, 1) := by decide +kernel
theorem dX8_undo_48 : decode cX8_undo 48 = .ok (.iaload, 1) := by decide +kernel
theorem dX8_undo_49 : decode cX8_undo 49 = .ok (.iastore, 1) := by decide +kernel
theorem dX8_undo_50 : decode cX8_undo 50 = .ok (.iinc 1 1, 3) := by decide +kernel
theorem dX8_undo_53 : decode cX8_undo 53 = .ok (.goto (-31), 3) := by decide +kernel
theorem dX8_undo_56 : decode cX8_undo 56 = .ok (.aload_n 0, 1) := by decide +kernel
theorem dX8_undo_57 : decode cX8_undo 57 = .ok (.getfield 19, 3) := by decide +kernel
theorem dX8_undo_60 : decode cX8_undo 60 = .ok (.ireturn, 1) := by decide +kernel
theorem dX8_isMember_0 : decode cX8_isMember 0 = .ok (.iload_n 1, 1) := by decide +kernel
theorem dX8_isMember_1 : decode cX8_isMember 1 = .ok (.iconst 0, 1) := by decide +kernel
theorem dX8_isMember_2 : decode cX8_isMember 2 = .ok (.aload_n 0, 1) := by decide +kernel
theorem dX8_isMember_3 : decode cX8_isMember 3 = .ok (.getfield 7, 3) := by decide +kernel
theorem dX8_isMember_6 : decode cX8_isMember 6 = .ok (.iconst 0, 1) := by decide +kernel
theorem dX8_isMember_7 : decode cX8_isMember 7 = .ok (.iaload, 1) := by decide +kernel
theorem dX8_isMember_8 : decode cX8_isMember 8 = .ok (.iconst 1, 1) := by decide +kernel
theorem dX8_isMember_9 : decode cX8_isMember 9 = .ok (.isub, 1) := by decide +kernel
theorem dX8_isMember_10 : decode cX8_isMember 10 = .ok (.invokestatic 23, 3) := by decide +kernel
theorem dX8_isMember_13 : decode cX8_isMember 13 = .ok (.ireturn, 1) := by decide +kernel
theorem dX8_memberAt_0 : decode cX8_memberAt 0 = .ok (.bipush 23, 2) := by decide +kernel
theorem dX8_memberAt_2 : decode cX8_memberAt 2 = .ok (.iconst 5, 1) := by decide +kernel
theorem dX8_memberAt_3 : decode cX8_memberAt 3 = .ok (.iload_n 0, 1) := by decide +kernel
theorem dX8_memberAt_4 : decode cX8_memberAt 4 = .ok (.imul, 1) := by decide +kernel
theorem dX8_memberAt_5 : decode cX8_memberAt 5 = .ok (.iadd, 1) := by decide +kernel
theorem dX8_memberAt_6 : decode cX8_memberAt 6 = .ok (.ireturn, 1) := by decide +kernel
theorem dX8_isLapsed_0 : decode cX8_isLapsed 0 = .ok (.aload_n 0, 1) := by decide +kernel
theorem dX8_isLapsed_1 : decode cX8_isLapsed 1 = .ok (.getfield 7, 3) := by decide +kernel
theorem dX8_isLapsed_4 : decode cX8_isLapsed 4 = .ok (.iload_n 1, 1) := by decide +kernel
theorem dX8_isLapsed_5 : decode cX8_isLapsed 5 = .ok (.invokestatic 27, 3) := by decide +kernel
theorem dX8_isLapsed_8 : decode cX8_isLapsed 8 = .ok (.iconst 1, 1) := by decide +kernel
theorem dX8_isLapsed_9 : decode cX8_isLapsed 9 = .ok (.iadd, 1) := by decide +kernel
theorem dX8_isLapsed_10 : decode cX8_isLapsed 10 = .ok (.iaload, 1) := by decide +kernel
theorem dX8_isLapsed_11 : decode cX8_isLapsed 11 = .ok (.aload_n 0, 1) := by decide +kernel
theorem dX8_isLapsed_12 : decode cX8_isLapsed 12 = .ok (.getfield 7, 3) := by decide +kernel
theorem dX8_isLapsed_15 : decode cX8_isLapsed 15 = .ok (.bipush 16, 2) := by decide +kernel
theorem dX8_isLapsed_17 : decode cX8_isLapsed 17 = .ok (.iaload, 1) := by decide +kernel
theorem dX8_isLapsed_18 : decode cX8_isLapsed 18 = .ok (.if_icmp .lt 7, 3) := by decide +kernel
theorem dX8_isLapsed_21 : decode cX8_isLapsed 21 = .ok (.iconst 1, 1) := by decide +kernel
theorem dX8_isLapsed_22 : decode cX8_isLapsed 22 = .ok (.goto 4, 3) := by decide +kernel
theorem dX8_isLapsed_25 : decode cX8_isLapsed 25 = .ok (.iconst 0, 1) := by decide +kernel
theorem dX8_isLapsed_26 : decode cX8_isLapsed 26 = .ok (.ireturn, 1) := by decide +kernel
theorem dX8_addMember_0 : decode cX8_addMember 0 = .ok (.iload_n 1, 1) := by decide +kernel
theorem dX8_addMember_1 : decode cX8_addMember 1 = .ok (.iconst 1, 1) := by decide +kernel
theorem dX8_addMember_2 : decode cX8_addMember 2 = .ok (.bipush 9, 2) := by decide +kernel
theorem dX8_addMember_4 : decode cX8_addMember 4 = .ok (.invokestatic 23, 3) := by decide +kernel
theorem dX8_addMember_7 : decode cX8_addMember 7 = .ok (.ifCond .ne 5, 3) := by decide +kernel
theorem dX8_addMember_10 : decode cX8_addMember 10 = .ok (.iconst (-1), 1) := by decide +kernel
theorem dX8_addMember_11 : decode cX8_addMember 11 = .ok (.ireturn, 1) := by decide +kernel
theorem dX8_addMember_12 : decode cX8_addMember 12 = .ok (.aload_n 0, 1) := by decide +kernel
theorem dX8_addMember_13 : decode cX8_addMember 13 = .ok (.getfield 7, 3) := by decide +kernel
theorem dX8_addMember_16 : decode cX8_addMember 16 = .ok (.iconst 0, 1) := by decide +kernel
theorem dX8_addMember_17 : decode cX8_addMember 17 = .ok (.iaload, 1) := by decide +kernel
theorem dX8_addMember_18 : decode cX8_addMember 18 = .ok (.bipush 10, 2) := by decide +kernel
theorem dX8_addMember_20 : decode cX8_addMember 20 = .ok (.if_icmp .ne 6, 3) := by decide +kernel
theorem dX8_addMember_23 : decode cX8_addMember 23 = .ok (.bipush (-3), 2) := by decide +kernel
theorem dX8_addMember_25 : decode cX8_addMember 25 = .ok (.ireturn, 1) := by decide +kernel
theorem dX8_addMember_26 : decode cX8_addMember 26 = .ok (.aload_n 0, 1) := by decide +kernel
theorem dX8_addMember_27 : decode cX8_addMember 27 = .ok (.invokevirtual 31, 3) := by decide +kernel
theorem dX8_addMember_30 : decode cX8_addMember 30 = .ok (.aload_n 0, 1) := by decide +kernel
theorem dX8_addMember_31 : decode cX8_addMember 31 = .ok (.getfield 7, 3) := by decide +kernel
theorem dX8_addMember_34 : decode cX8_addMember 34 = .ok (.iconst 0, 1) := by decide +kernel
theorem dX8_addMember_35 : decode cX8_addMember 35 = .ok (.iaload, 1) := by decide +kernel
theorem dX8_addMember_36 : decode cX8_addMember 36 = .ok (.invokestatic 27, 3) := by decide +kernel
theorem dX8_addMember_39 : decode cX8_addMember 39 = .ok (.istore_n 2, 1) := by decide +kernel
theorem dX8_addMember_40 : decode cX8_addMember 40 = .ok (.iconst 0, 1) := by decide +kernel
theorem dX8_addMember_41 : decode cX8_addMember 41 = .ok (.istore_n 3, 1) := by decide +kernel
theorem dX8_addMember_42 : decode cX8_addMember 42 = .ok (.iload_n 3, 1) := by decide +kernel
theorem dX8_addMember_43 : decode cX8_addMember 43 = .ok (.iconst 5, 1) := by decide +kernel
theorem dX8_addMember_44 : decode cX8_addMember 44 = .ok (.if_icmp .ge 18, 3) := by decide +kernel
theorem dX8_addMember_47 : decode cX8_addMember 47 = .ok (.aload_n 0, 1) := by decide +kernel
theorem dX8_addMember_48 : decode cX8_addMember 48 = .ok (.getfield 7, 3) := by decide +kernel
theorem dX8_addMember_51 : decode cX8_addMember 51 = .ok (.iload_n 2, 1) := by decide +kernel
theorem dX8_addMember_52 : decode cX8_addMember 52 = .ok (.iload_n 3, 1) := by decide +kernel
theorem dX8_addMember_53 : decode cX8_addMember 53 = .ok (.iadd, 1) := by decide +kernel
theorem dX8_addMember_54 : decode cX8_addMember 54 = .ok (.iconst 0, 1) := by decide +kernel
theorem dX8_addMember_55 : decode cX8_addMember 55 = .ok (.iastore, 1) := by decide +kernel
theorem dX8_addMember_56 : decode cX8_addMember 56 = .ok (.iinc 3 1, 3) := by decide +kernel
theorem dX8_addMember_59 : decode cX8_addMember 59 = .ok (.goto (-17), 3) := by decide +kernel
theorem dX8_addMember_62 : decode cX8_addMember 62 = .ok (.aload_n 0, 1) := by decide +kernel
theorem dX8_addMember_63 : decode cX8_addMember 63 = .ok (.getfield 7, 3) := by decide +kernel
theorem dX8_addMember_66 : decode cX8_addMember 66 = .ok (.iload_n 2, 1) := by decide +kernel
theorem dX8_addMember_67 : decode cX8_addMember 67 = .ok (.iconst 0, 1) := by decide +kernel
theorem dX8_addMember_68 : decode cX8_addMember 68 = .ok (.iadd, 1) := by decide +kernel
theorem dX8_addMember_69 : decode cX8_addMember 69 = .ok (.iload_n 1, 1) := by decide +kernel
theorem dX8_addMember_70 : decode cX8_addMember 70 = .ok (.iastore, 1) := by decide +kernel
theorem dX8_addMember_71 : decode cX8_addMember 71 = .ok (.aload_n 0, 1) := by decide +kernel
theorem dX8_addMember_72 : decode cX8_addMember 72 = .ok (.getfield 7, 3) := by decide +kernel
theorem dX8_addMember_75 : decode cX8_addMember 75 = .ok (.iconst 0, 1) := by decide +kernel
theorem dX8_addMember_76 : decode cX8_addMember 76 = .ok (.dup2, 1) := by decide +kernel
theorem dX8_addMember_77 : decode cX8_addMember 77 = .ok (.iaload, 1) := by decide +kernel
theorem dX8_addMember_78 : decode cX8_addMember 78 = .ok (.iconst 1, 1) := by decide +kernel
theorem dX8_addMember_79 : decode cX8_addMember 79 = .ok (.iadd, 1) := by decide +kernel
theorem dX8_addMember_80 : decode cX8_addMember 80 = .ok (.iastore, 1) := by decide +kernel
theorem dX8_addMember_81 : decode cX8_addMember 81 = .ok (.aload_n 0, 1) := by decide +kernel
theorem dX8_addMember_82 : decode cX8_addMember 82 = .ok (.getfield 7, 3) := by decide +kernel
theorem dX8_addMember_85 : decode cX8_addMember 85 = .ok (.iconst 0, 1) := by decide +kernel
theorem dX8_addMember_86 : decode cX8_addMember 86 = .ok (.iaload, 1) := by decide +kernel
theorem dX8_addMember_87 : decode cX8_addMember 87 = .ok (.iconst 1, 1) := by decide +kernel
theorem dX8_addMember_88 : decode cX8_addMember 88 = .ok (.isub, 1) := by decide +kernel
theorem dX8_addMember_89 : decode cX8_addMember 89 = .ok (.ireturn, 1) := by decide +kernel
theorem dX8_clauseAt_0 : decode cX8_clauseAt 0 = .ok (.bipush 73, 2) := by decide +kernel
theorem dX8_clauseAt_2 : decode cX8_clauseAt 2 = .ok (.bipush 45, 2) := by decide +kernel
theorem dX8_clauseAt_4 : decode cX8_clauseAt 4 = .ok (.iload_n 0, 1) := by decide +kernel
theorem dX8_clauseAt_5 : decode cX8_clauseAt 5 = .ok (.imul, 1) := by decide +kernel
theorem dX8_clauseAt_6 : decode cX8_clauseAt 6 = .ok (.iadd, 1) := by decide +kernel
theorem dX8_clauseAt_7 : decode cX8_clauseAt 7 = .ok (.ireturn, 1) := by decide +kernel
theorem dX8_indexOf_0 : decode cX8_indexOf 0 = .ok (.iconst 0, 1) := by decide +kernel
theorem dX8_indexOf_1 : decode cX8_indexOf 1 = .ok (.istore_n 2, 1) := by decide +kernel
theorem dX8_indexOf_2 : decode cX8_indexOf 2 = .ok (.iload_n 2, 1) := by decide +kernel
theorem dX8_indexOf_3 : decode cX8_indexOf 3 = .ok (.aload_n 0, 1) := by decide +kernel
theorem dX8_indexOf_4 : decode cX8_indexOf 4 = .ok (.getfield 7, 3) := by decide +kernel
theorem dX8_indexOf_7 : decode cX8_indexOf 7 = .ok (.iconst 1, 1) := by decide +kernel
theorem dX8_indexOf_8 : decode cX8_indexOf 8 = .ok (.iaload, 1) := by decide +kernel
theorem dX8_indexOf_9 : decode cX8_indexOf 9 = .ok (.if_icmp .ge 26, 3) := by decide +kernel
theorem dX8_indexOf_12 : decode cX8_indexOf 12 = .ok (.aload_n 0, 1) := by decide +kernel
theorem dX8_indexOf_13 : decode cX8_indexOf 13 = .ok (.getfield 7, 3) := by decide +kernel
theorem dX8_indexOf_16 : decode cX8_indexOf 16 = .ok (.iload_n 2, 1) := by decide +kernel
theorem dX8_indexOf_17 : decode cX8_indexOf 17 = .ok (.invokestatic 34, 3) := by decide +kernel
theorem dX8_indexOf_20 : decode cX8_indexOf 20 = .ok (.iconst 0, 1) := by decide +kernel
theorem dX8_indexOf_21 : decode cX8_indexOf 21 = .ok (.iadd, 1) := by decide +kernel
theorem dX8_indexOf_22 : decode cX8_indexOf 22 = .ok (.iaload, 1) := by decide +kernel
theorem dX8_indexOf_23 : decode cX8_indexOf 23 = .ok (.iload_n 1, 1) := by decide +kernel
theorem dX8_indexOf_24 : decode cX8_indexOf 24 = .ok (.if_icmp .ne 5, 3) := by decide +kernel
theorem dX8_indexOf_27 : decode cX8_indexOf 27 = .ok (.iload_n 2, 1) := by decide +kernel
theorem dX8_indexOf_28 : decode cX8_indexOf 28 = .ok (.ireturn, 1) := by decide +kernel
theorem dX8_indexOf_29 : decode cX8_indexOf 29 = .ok (.iinc 2 1, 3) := by decide +kernel
theorem dX8_indexOf_32 : decode cX8_indexOf 32 = .ok (.goto (-30), 3) := by decide +kernel
theorem dX8_indexOf_35 : decode cX8_indexOf 35 = .ok (.iconst (-1), 1) := by decide +kernel
theorem dX8_indexOf_36 : decode cX8_indexOf 36 = .ok (.ireturn, 1) := by decide +kernel
theorem dX8_isValue_0 : decode cX8_isValue 0 = .ok (.iload_n 0, 1) := by decide +kernel
theorem dX8_isValue_1 : decode cX8_isValue 1 = .ok (.iconst 0, 1) := by decide +kernel
theorem dX8_isValue_2 : decode cX8_isValue 2 = .ok (.sipush 9999, 3) := by decide +kernel
theorem dX8_isValue_5 : decode cX8_isValue 5 = .ok (.invokestatic 23, 3) := by decide +kernel
theorem dX8_isValue_8 : decode cX8_isValue 8 = .ok (.ireturn, 1) := by decide +kernel
theorem dX8_addClause_0 : decode cX8_addClause 0 = .ok (.iload_n 1, 1) := by decide +kernel
theorem dX8_addClause_1 : decode cX8_addClause 1 = .ok (.iconst 1, 1) := by decide +kernel
theorem dX8_addClause_2 : decode cX8_addClause 2 = .ok (.bipush 99, 2) := by decide +kernel
theorem dX8_addClause_4 : decode cX8_addClause 4 = .ok (.invokestatic 23, 3) := by decide +kernel
theorem dX8_addClause_7 : decode cX8_addClause 7 = .ok (.ifCond .eq 10, 3) := by decide +kernel
theorem dX8_addClause_10 : decode cX8_addClause 10 = .ok (.iload_n 2, 1) := by decide +kernel
theorem dX8_addClause_11 : decode cX8_addClause 11 = .ok (.invokestatic 37, 3) := by decide +kernel
theorem dX8_addClause_14 : decode cX8_addClause 14 = .ok (.ifCond .ne 5, 3) := by decide +kernel
theorem dX8_addClause_17 : decode cX8_addClause 17 = .ok (.iconst (-1), 1) := by decide +kernel
theorem dX8_addClause_18 : decode cX8_addClause 18 = .ok (.ireturn, 1) := by decide +kernel
theorem dX8_addClause_19 : decode cX8_addClause 19 = .ok (.aload_n 0, 1) := by decide +kernel
theorem dX8_addClause_20 : decode cX8_addClause 20 = .ok (.getfield 7, 3) := by decide +kernel
theorem dX8_addClause_23 : decode cX8_addClause 23 = .ok (.iconst 5, 1) := by decide +kernel
theorem dX8_addClause_24 : decode cX8_addClause 24 = .ok (.iaload, 1) := by decide +kernel
theorem dX8_addClause_25 : decode cX8_addClause 25 = .ok (.ifCond .gt 11, 3) := by decide +kernel
theorem dX8_addClause_28 : decode cX8_addClause 28 = .ok (.aload_n 0, 1) := by decide +kernel
theorem dX8_addClause_29 : decode cX8_addClause 29 = .ok (.iload_n 1, 1) := by decide +kernel
theorem dX8_addClause_30 : decode cX8_addClause 30 = .ok (.invokevirtual 41, 3) := by decide +kernel
theorem dX8_addClause_33 : decode cX8_addClause 33 = .ok (.ifCond .lt 6, 3) := by decide +kernel
theorem dX8_addClause_36 : decode cX8_addClause 36 = .ok (.bipush (-2), 2) := by decide +kernel
theorem dX8_addClause_38 : decode cX8_addClause 38 = .ok (.ireturn, 1) := by decide +kernel
theorem dX8_addClause_39 : decode cX8_addClause 39 = .ok (.aload_n 0, 1) := by decide +kernel
theorem dX8_addClause_40 : decode cX8_addClause 40 = .ok (.getfield 7, 3) := by decide +kernel
theorem dX8_addClause_43 : decode cX8_addClause 43 = .ok (.iconst 1, 1) := by decide +kernel
theorem dX8_addClause_44 : decode cX8_addClause 44 = .ok (.iaload, 1) := by decide +kernel
theorem dX8_addClause_45 : decode cX8_addClause 45 = .ok (.bipush 20, 2) := by decide +kernel
theorem dX8_addClause_47 : decode cX8_addClause 47 = .ok (.if_icmp .ne 6, 3) := by decide +kernel
theorem dX8_addClause_50 : decode cX8_addClause 50 = .ok (.bipush (-3), 2) := by decide +kernel
theorem dX8_addClause_52 : decode cX8_addClause 52 = .ok (.ireturn, 1) := by decide +kernel
theorem dX8_addClause_53 : decode cX8_addClause 53 = .ok (.aload_n 0, 1) := by decide +kernel
theorem dX8_addClause_54 : decode cX8_addClause 54 = .ok (.invokevirtual 31, 3) := by decide +kernel
theorem dX8_addClause_57 : decode cX8_addClause 57 = .ok (.aload_n 0, 1) := by decide +kernel
theorem dX8_addClause_58 : decode cX8_addClause 58 = .ok (.getfield 7, 3) := by decide +kernel
theorem dX8_addClause_61 : decode cX8_addClause 61 = .ok (.iconst 1, 1) := by decide +kernel
theorem dX8_addClause_62 : decode cX8_addClause 62 = .ok (.iaload, 1) := by decide +kernel
theorem dX8_addClause_63 : decode cX8_addClause 63 = .ok (.istore_n 3, 1) := by decide +kernel
theorem dX8_addClause_64 : decode cX8_addClause 64 = .ok (.iload_n 3, 1) := by decide +kernel
theorem dX8_addClause_65 : decode cX8_addClause 65 = .ok (.ifCond .le 68, 3) := by decide +kernel
theorem dX8_addClause_68 : decode cX8_addClause 68 = .ok (.aload_n 0, 1) := by decide +kernel
theorem dX8_addClause_69 : decode cX8_addClause 69 = .ok (.getfield 7, 3) := by decide +kernel
theorem dX8_addClause_72 : decode cX8_addClause 72 = .ok (.iload_n 3, 1) := by decide +kernel
theorem dX8_addClause_73 : decode cX8_addClause 73 = .ok (.iconst 1, 1) := by decide +kernel
theorem dX8_addClause_74 : decode cX8_addClause 74 = .ok (.isub, 1) := by decide +kernel
theorem dX8_addClause_75 : decode cX8_addClause 75 = .ok (.invokestatic 34, 3) := by decide +kernel
theorem dX8_addClause_78 : decode cX8_addClause 78 = .ok (.iconst 0, 1) := by decide +kernel
theorem dX8_addClause_79 : decode cX8_addClause 79 = .ok (.iadd, 1) := by decide +kernel
theorem dX8_addClause_80 : decode cX8_addClause 80 = .ok (.iaload, 1) := by decide +kernel
theorem dX8_addClause_81 : decode cX8_addClause 81 = .ok (.iload_n 1, 1) := by decide +kernel
theorem dX8_addClause_82 : decode cX8_addClause 82 = .ok (.if_icmp .le 51, 3) := by decide +kernel
theorem dX8_addClause_85 : decode cX8_addClause 85 = .ok (.iconst 0, 1) := by decide +kernel
theorem dX8_addClause_86 : decode cX8_addClause 86 = .ok (.istore 4, 2) := by decide +kernel
theorem dX8_addClause_88 : decode cX8_addClause 88 = .ok (.iload 4, 2) := by decide +kernel
theorem dX8_addClause_90 : decode cX8_addClause 90 = .ok (.bipush 45, 2) := by decide +kernel
theorem dX8_addClause_92 : decode cX8_addClause 92 = .ok (.if_icmp .ge 35, 3) := by decide +kernel
theorem dX8_addClause_95 : decode cX8_addClause 95 = .ok (.aload_n 0, 1) := by decide +kernel
theorem dX8_addClause_96 : decode cX8_addClause 96 = .ok (.getfield 7, 3) := by decide +kernel
theorem dX8_addClause_99 : decode cX8_addClause 99 = .ok (.iload_n 3, 1) := by decide +kernel
theorem dX8_addClause_100 : decode cX8_addClause 100 = .ok (.invokestatic 34, 3) := by decide +kernel
theorem dX8_addClause_103 : decode cX8_addClause 103 = .ok (.iload 4, 2) := by decide +kernel
theorem dX8_addClause_105 : decode cX8_addClause 105 = .ok (.iadd, 1) := by decide +kernel
theorem dX8_addClause_106 : decode cX8_addClause 106 = .ok (.aload_n 0, 1) := by decide +kernel
theorem dX8_addClause_107 : decode cX8_addClause 107 = .ok (.getfield 7, 3) := by decide +kernel
theorem dX8_addClause_110 : decode cX8_addClause 110 = .ok (.iload_n 3, 1) := by decide +kernel
theorem dX8_addClause_111 : decode cX8_addClause 111 = .ok (.iconst 1, 1) := by decide +kernel
theorem dX8_addClause_112 : decode cX8_addClause 112 = .ok (.isub, 1) := by decide +kernel
theorem dX8_addClause_113 : decode cX8_addClause 113 = .ok (.invokestatic 34, 3) := by decide +kernel
theorem dX8_addClause_116 : decode cX8_addClause 116 = .ok (.iload 4, 2) := by decide +kernel
theorem dX8_addClause_118 : decode cX8_addClause 118 = .ok (.iadd, 1) := by decide +kernel
theorem dX8_addClause_119 : decode cX8_addClause 119 = .ok (.iaload, 1) := by decide +kernel
theorem dX8_addClause_120 : decode cX8_addClause 120 = .ok (.iastore, 1) := by decide +kernel
theorem dX8_addClause_121 : decode cX8_addClause 121 = .ok (.iinc 4 1, 3) := by decide +kernel
theorem dX8_addClause_124 : decode cX8_addClause 124 = .ok (.goto (-36), 3) := by decide +kernel
theorem dX8_addClause_127 : decode cX8_addClause 127 = .ok (.iinc 3 (-1), 3) := by decide +kernel
theorem dX8_addClause_130 : decode cX8_addClause 130 = .ok (.goto (-66), 3) := by decide +kernel
theorem dX8_addClause_133 : decode cX8_addClause 133 = .ok (.iconst 0, 1) := by decide +kernel
theorem dX8_addClause_134 : decode cX8_addClause 134 = .ok (.istore 4, 2) := by decide +kernel
theorem dX8_addClause_136 : decode cX8_addClause 136 = .ok (.iload 4, 2) := by decide +kernel
theorem dX8_addClause_138 : decode cX8_addClause 138 = .ok (.bipush 45, 2) := by decide +kernel
theorem dX8_addClause_140 : decode cX8_addClause 140 = .ok (.if_icmp .ge 22, 3) := by decide +kernel
theorem dX8_addClause_143 : decode cX8_addClause 143 = .ok (.aload_n 0, 1) := by decide +kernel
theorem dX8_addClause_144 : decode cX8_addClause 144 = .ok (.getfield 7, 3) := by decide +kernel
theorem dX8_addClause_147 : decode cX8_addClause 147 = .ok (.iload_n 3, 1) := by decide +kernel
theorem dX8_addClause_148 : decode cX8_addClause 148 = .ok (.invokestatic 34, 3) := by decide +kernel
theorem dX8_addClause_151 : decode cX8_addClause 151 = .ok (.iload 4, 2) := by decide +kernel
theorem dX8_addClause_153 : decode cX8_addClause 153 = .ok (.iadd, 1) := by decide +kernel
theorem dX8_addClause_154 : decode cX8_addClause 154 = .ok (.iconst 0, 1) := by decide +kernel
theorem dX8_addClause_155 : decode cX8_addClause 155 = .ok (.iastore, 1) := by decide +kernel
theorem dX8_addClause_156 : decode cX8_addClause 156 = .ok (.iinc 4 1, 3) := by decide +kernel
theorem dX8_addClause_159 : decode cX8_addClause 159 = .ok (.goto (-23), 3) := by decide +kernel
theorem dX8_addClause_162 : decode cX8_addClause 162 = .ok (.aload_n 0, 1) := by decide +kernel
theorem dX8_addClause_163 : decode cX8_addClause 163 = .ok (.getfield 7, 3) := by decide +kernel
theorem dX8_addClause_166 : decode cX8_addClause 166 = .ok (.iload_n 3, 1) := by decide +kernel
theorem dX8_addClause_167 : decode cX8_addClause 167 = .ok (.invokestatic 34, 3) := by decide +kernel
theorem dX8_addClause_170 : decode cX8_addClause 170 = .ok (.iconst 0, 1) := by decide +kernel
theorem dX8_addClause_171 : decode cX8_addClause 171 = .ok (.iadd, 1) := by decide +kernel
theorem dX8_addClause_172 : decode cX8_addClause 172 = .ok (.iload_n 1, 1) := by decide +kernel
theorem dX8_addClause_173 : decode cX8_addClause 173 = .ok (.iastore, 1) := by decide +kernel
theorem dX8_addClause_174 : decode cX8_addClause 174 = .ok (.aload_n 0, 1) := by decide +kernel
theorem dX8_addClause_175 : decode cX8_addClause 175 = .ok (.getfield 7, 3) := by decide +kernel
theorem dX8_addClause_178 : decode cX8_addClause 178 = .ok (.iload_n 3, 1) := by decide +kernel
theorem dX8_addClause_179 : decode cX8_addClause 179 = .ok (.invokestatic 34, 3) := by decide +kernel
theorem dX8_addClause_182 : decode cX8_addClause 182 = .ok (.iconst 1, 1) := by decide +kernel
theorem dX8_addClause_183 : decode cX8_addClause 183 = .ok (.iadd, 1) := by decide +kernel
theorem dX8_addClause_184 : decode cX8_addClause 184 = .ok (.iload_n 2, 1) := by decide +kernel
theorem dX8_addClause_185 : decode cX8_addClause 185 = .ok (.iastore, 1) := by decide +kernel
theorem dX8_addClause_186 : decode cX8_addClause 186 = .ok (.aload_n 0, 1) := by decide +kernel
theorem dX8_addClause_187 : decode cX8_addClause 187 = .ok (.getfield 7, 3) := by decide +kernel
theorem dX8_addClause_190 : decode cX8_addClause 190 = .ok (.iload_n 3, 1) := by decide +kernel
theorem dX8_addClause_191 : decode cX8_addClause 191 = .ok (.invokestatic 34, 3) := by decide +kernel
theorem dX8_addClause_194 : decode cX8_addClause 194 = .ok (.iconst 3, 1) := by decide +kernel
theorem dX8_addClause_195 : decode cX8_addClause 195 = .ok (.iadd, 1) := by decide +kernel
theorem dX8_addClause_196 : decode cX8_addClause 196 = .ok (.iconst 1, 1) := by decide +kernel
theorem dX8_addClause_197 : decode cX8_addClause 197 = .ok (.iadd, 1) := by decide +kernel
theorem dX8_addClause_198 : decode cX8_addClause 198 = .ok (.iload_n 2, 1) := by decide +kernel
theorem dX8_addClause_199 : decode cX8_addClause 199 = .ok (.iastore, 1) := by decide +kernel
theorem dX8_addClause_200 : decode cX8_addClause 200 = .ok (.aload_n 0, 1) := by decide +kernel
theorem dX8_addClause_201 : decode cX8_addClause 201 = .ok (.getfield 7, 3) := by decide +kernel
theorem dX8_addClause_204 : decode cX8_addClause 204 = .ok (.iconst 1, 1) := by decide +kernel
theorem dX8_addClause_205 : decode cX8_addClause 205 = .ok (.dup2, 1) := by decide +kernel
theorem dX8_addClause_206 : decode cX8_addClause 206 = .ok (.iaload, 1) := by decide +kernel
theorem dX8_addClause_207 : decode cX8_addClause 207 = .ok (.iconst 1, 1) := by decide +kernel
theorem dX8_addClause_208 : decode cX8_addClause 208 = .ok (.iadd, 1) := by decide +kernel
theorem dX8_addClause_209 : decode cX8_addClause 209 = .ok (.iastore, 1) := by decide +kernel
theorem dX8_addClause_210 : decode cX8_addClause 210 = .ok (.aload_n 0, 1) := by decide +kernel
theorem dX8_addClause_211 : decode cX8_addClause 211 = .ok (.getfield 7, 3) := by decide +kernel
theorem dX8_addClause_214 : decode cX8_addClause 214 = .ok (.iconst 1, 1) := by decide +kernel
theorem dX8_addClause_215 : decode cX8_addClause 215 = .ok (.iaload, 1) := by decide +kernel
theorem dX8_addClause_216 : decode cX8_addClause 216 = .ok (.ireturn, 1) := by decide +kernel
theorem dX8_isSetting_0 : decode cX8_isSetting 0 = .ok (.iload_n 0, 1) := by decide +kernel
theorem dX8_isSetting_1 : decode cX8_isSetting 1 = .ok (.tableswitch 55 0 3 #[31, 31, 39, 47], 31) := by decide +kernel
theorem dX8_isSetting_32 : decode cX8_isSetting 32 = .ok (.iload_n 1, 1) := by decide +kernel
theorem dX8_isSetting_33 : decode cX8_isSetting 33 = .ok (.iconst 1, 1) := by decide +kernel
theorem dX8_isSetting_34 : decode cX8_isSetting 34 = .ok (.bipush 100, 2) := by decide +kernel
theorem dX8_isSetting_36 : decode cX8_isSetting 36 = .ok (.invokestatic 23, 3) := by decide +kernel
theorem dX8_isSetting_39 : decode cX8_isSetting 39 = .ok (.ireturn, 1) := by decide +kernel
theorem dX8_isSetting_40 : decode cX8_isSetting 40 = .ok (.iload_n 1, 1) := by decide +kernel
theorem dX8_isSetting_41 : decode cX8_isSetting 41 = .ok (.iconst 1, 1) := by decide +kernel
theorem dX8_isSetting_42 : decode cX8_isSetting 42 = .ok (.bipush 60, 2) := by decide +kernel
theorem dX8_isSetting_44 : decode cX8_isSetting 44 = .ok (.invokestatic 23, 3) := by decide +kernel
theorem dX8_isSetting_47 : decode cX8_isSetting 47 = .ok (.ireturn, 1) := by decide +kernel
theorem dX8_isSetting_48 : decode cX8_isSetting 48 = .ok (.iload_n 1, 1) := by decide +kernel
theorem dX8_isSetting_49 : decode cX8_isSetting 49 = .ok (.iconst 0, 1) := by decide +kernel
theorem dX8_isSetting_50 : decode cX8_isSetting 50 = .ok (.bipush 60, 2) := by decide +kernel
theorem dX8_isSetting_52 : decode cX8_isSetting 52 = .ok (.invokestatic 23, 3) := by decide +kernel
theorem dX8_isSetting_55 : decode cX8_isSetting 55 = .ok (.ireturn, 1) := by decide +kernel
theorem dX8_isSetting_56 : decode cX8_isSetting 56 = .ok (.iload_n 0, 1) := by decide +kernel
theorem dX8_isSetting_57 : decode cX8_isSetting 57 = .ok (.iconst 4, 1) := by decide +kernel
theorem dX8_isSetting_58 : decode cX8_isSetting 58 = .ok (.if_icmp .ne 16, 3) := by decide +kernel
theorem dX8_isSetting_61 : decode cX8_isSetting 61 = .ok (.iload_n 1, 1) := by decide +kernel
theorem dX8_isSetting_62 : decode cX8_isSetting 62 = .ok (.iconst 1, 1) := by decide +kernel
theorem dX8_isSetting_63 : decode cX8_isSetting 63 = .ok (.iconst 5, 1) := by decide +kernel
theorem dX8_isSetting_64 : decode cX8_isSetting 64 = .ok (.invokestatic 23, 3) := by decide +kernel
theorem dX8_isSetting_67 : decode cX8_isSetting 67 = .ok (.ifCond .eq 7, 3) := by decide +kernel
theorem dX8_isSetting_70 : decode cX8_isSetting 70 = .ok (.iconst 1, 1) := by decide +kernel
theorem dX8_isSetting_71 : decode cX8_isSetting 71 = .ok (.goto 4, 3) := by decide +kernel
theorem dX8_isSetting_74 : decode cX8_isSetting 74 = .ok (.iconst 0, 1) := by decide +kernel
theorem dX8_isSetting_75 : decode cX8_isSetting 75 = .ok (.ireturn, 1) := by decide +kernel
theorem dX8_set_0 : decode cX8_set 0 = .ok (.iload_n 1, 1) := by decide +kernel
theorem dX8_set_1 : decode cX8_set 1 = .ok (.iload_n 2, 1) := by decide +kernel
theorem dX8_set_2 : decode cX8_set 2 = .ok (.invokestatic 44, 3) := by decide +kernel
theorem dX8_set_5 : decode cX8_set 5 = .ok (.ifCond .ne 5, 3) := by decide +kernel
theorem dX8_set_8 : decode cX8_set 8 = .ok (.iconst (-1), 1) := by decide +kernel
theorem dX8_set_9 : decode cX8_set 9 = .ok (.ireturn, 1) := by decide +kernel
theorem dX8_set_10 : decode cX8_set 10 = .ok (.aload_n 0, 1) := by decide +kernel
theorem dX8_set_11 : decode cX8_set 11 = .ok (.invokevirtual 31, 3) := by decide +kernel
theorem dX8_set_14 : decode cX8_set 14 = .ok (.aload_n 0, 1) := by decide +kernel
theorem dX8_set_15 : decode cX8_set 15 = .ok (.getfield 7, 3) := by decide +kernel
theorem dX8_set_18 : decode cX8_set 18 = .ok (.bipush 12, 2) := by decide +kernel
theorem dX8_set_20 : decode cX8_set 20 = .ok (.iload_n 1, 1) := by decide +kernel
theorem dX8_set_21 : decode cX8_set 21 = .ok (.iadd, 1) := by decide +kernel
theorem dX8_set_22 : decode cX8_set 22 = .ok (.iaload, 1) := by decide +kernel
theorem dX8_set_23 : decode cX8_set 23 = .ok (.istore_n 3, 1) := by decide +kernel
theorem dX8_set_24 : decode cX8_set 24 = .ok (.aload_n 0, 1) := by decide +kernel
theorem dX8_set_25 : decode cX8_set 25 = .ok (.getfield 7, 3) := by decide +kernel
theorem dX8_set_28 : decode cX8_set 28 = .ok (.bipush 12, 2) := by decide +kernel
theorem dX8_set_30 : decode cX8_set 30 = .ok (.iload_n 1, 1) := by decide +kernel
theorem dX8_set_31 : decode cX8_set 31 = .ok (.iadd, 1) := by decide +kernel
theorem dX8_set_32 : decode cX8_set 32 = .ok (.iload_n 2, 1) := by decide +kernel
theorem dX8_set_33 : decode cX8_set 33 = .ok (.iastore, 1) := by decide +kernel
theorem dX8_set_34 : decode cX8_set 34 = .ok (.iload_n 3, 1) := by decide +kernel
theorem dX8_set_35 : decode cX8_set 35 = .ok (.ireturn, 1) := by decide +kernel
theorem dX8_commentsOf_0 : decode cX8_commentsOf 0 = .ok (.iconst 0, 1) := by decide +kernel
theorem dX8_commentsOf_1 : decode cX8_commentsOf 1 = .ok (.istore_n 2, 1) := by decide +kernel
theorem dX8_commentsOf_2 : decode cX8_commentsOf 2 = .ok (.iconst 0, 1) := by decide +kernel
theorem dX8_commentsOf_3 : decode cX8_commentsOf 3 = .ok (.istore_n 3, 1) := by decide +kernel
theorem dX8_commentsOf_4 : decode cX8_commentsOf 4 = .ok (.iload_n 3, 1) := by decide +kernel
theorem dX8_commentsOf_5 : decode cX8_commentsOf 5 = .ok (.aload_n 0, 1) := by decide +kernel
theorem dX8_commentsOf_6 : decode cX8_commentsOf 6 = .ok (.getfield 7, 3) := by decide +kernel
theorem dX8_commentsOf_9 : decode cX8_commentsOf 9 = .ok (.bipush 9, 2) := by decide +kernel
theorem dX8_commentsOf_11 : decode cX8_commentsOf 11 = .ok (.iaload, 1) := by decide +kernel
theorem dX8_commentsOf_12 : decode cX8_commentsOf 12 = .ok (.if_icmp .ge 32, 3) := by decide +kernel
theorem dX8_commentsOf_15 : decode cX8_commentsOf 15 = .ok (.iload_n 2, 1) := by decide +kernel
theorem dX8_commentsOf_16 : decode cX8_commentsOf 16 = .ok (.aload_n 0, 1) := by decide +kernel
theorem dX8_commentsOf_17 : decode cX8_commentsOf 17 = .ok (.getfield 7, 3) := by decide +kernel
theorem dX8_commentsOf_20 : decode cX8_commentsOf 20 = .ok (.iload_n 3, 1) := by decide +kernel
theorem dX8_commentsOf_21 : decode cX8_commentsOf 21 = .ok (.invokestatic 48, 3) := by decide +kernel
theorem dX8_commentsOf_24 : decode cX8_commentsOf 24 = .ok (.iconst 0, 1) := by decide +kernel
theorem dX8_commentsOf_25 : decode cX8_commentsOf 25 = .ok (.iadd, 1) := by decide +kernel
theorem dX8_commentsOf_26 : decode cX8_commentsOf 26 = .ok (.iaload, 1) := by decide +kernel
theorem dX8_commentsOf_27 : decode cX8_commentsOf 27 = .ok (.iload_n 1, 1) := by decide +kernel
theorem dX8_commentsOf_28 : decode cX8_commentsOf 28 = .ok (.if_icmp .ne 7, 3) := by decide +kernel
theorem dX8_commentsOf_31 : decode cX8_commentsOf 31 = .ok (.iconst 1, 1) := by decide +kernel
theorem dX8_commentsOf_32 : decode cX8_commentsOf 32 = .ok (.goto 4, 3) := by decide +kernel
theorem dX8_commentsOf_35 : decode cX8_commentsOf 35 = .ok (.iconst 0, 1) := by decide +kernel
theorem dX8_commentsOf_36 : decode cX8_commentsOf 36 = .ok (.iadd, 1) := by decide +kernel
theorem dX8_commentsOf_37 : decode cX8_commentsOf 37 = .ok (.istore_n 2, 1) := by decide +kernel
theorem dX8_commentsOf_38 : decode cX8_commentsOf 38 = .ok (.iinc 3 1, 3) := by decide +kernel
theorem dX8_commentsOf_41 : decode cX8_commentsOf 41 = .ok (.goto (-37), 3) := by decide +kernel
theorem dX8_commentsOf_44 : decode cX8_commentsOf 44 = .ok (.iload_n 2, 1) := by decide +kernel
theorem dX8_commentsOf_45 : decode cX8_commentsOf 45 = .ok (.ireturn, 1) := by decide +kernel
theorem dX8_member_0 : decode cX8_member 0 = .ok (.aload_n 0, 1) := by decide +kernel
theorem dX8_member_1 : decode cX8_member 1 = .ok (.iload_n 1, 1) := by decide +kernel
theorem dX8_member_2 : decode cX8_member 2 = .ok (.invokevirtual 51, 3) := by decide +kernel
theorem dX8_member_5 : decode cX8_member 5 = .ok (.ifCond .eq 12, 3) := by decide +kernel
theorem dX8_member_8 : decode cX8_member 8 = .ok (.iload_n 2, 1) := by decide +kernel
theorem dX8_member_9 : decode cX8_member 9 = .ok (.iconst 0, 1) := by decide +kernel
theorem dX8_member_10 : decode cX8_member 10 = .ok (.iconst 5, 1) := by decide +kernel
theorem dX8_member_11 : decode cX8_member 11 = .ok (.invokestatic 23, 3) := by decide +kernel
theorem dX8_member_14 : decode cX8_member 14 = .ok (.ifCond .ne 5, 3) := by decide +kernel
theorem dX8_member_17 : decode cX8_member 17 = .ok (.iconst (-1), 1) := by decide +kernel
theorem dX8_member_18 : decode cX8_member 18 = .ok (.ireturn, 1) := by decide +kernel
theorem dX8_member_19 : decode cX8_member 19 = .ok (.iload_n 1, 1) := by decide +kernel
theorem dX8_member_20 : decode cX8_member 20 = .ok (.invokestatic 27, 3) := by decide +kernel
theorem dX8_member_23 : decode cX8_member 23 = .ok (.istore_n 3, 1) := by decide +kernel
theorem dX8_member_24 : decode cX8_member 24 = .ok (.iload_n 2, 1) := by decide +kernel
theorem dX8_member_25 : decode cX8_member 25 = .ok (.tableswitch 87 2 5 #[31, 45, 72, 78], 31) := by decide +kernel
theorem dX8_member_56 : decode cX8_member 56 = .ok (.aload_n 0, 1) := by decide +kernel
theorem dX8_member_57 : decode cX8_member 57 = .ok (.iload_n 1, 1) := by decide +kernel
theorem dX8_member_58 : decode cX8_member 58 = .ok (.invokevirtual 54, 3) := by decide +kernel
theorem dX8_member_61 : decode cX8_member 61 = .ok (.ifCond .eq 7, 3) := by decide +kernel
theorem dX8_member_64 : decode cX8_member 64 = .ok (.iconst 1, 1) := by decide +kernel
theorem dX8_member_65 : decode cX8_member 65 = .ok (.goto 4, 3) := by decide +kernel
theorem dX8_member_68 : decode cX8_member 68 = .ok (.iconst 0, 1) := by decide +kernel
theorem dX8_member_69 : decode cX8_member 69 = .ok (.ireturn, 1) := by decide +kernel
theorem dX8_member_70 : decode cX8_member 70 = .ok (.aload_n 0, 1) := by decide +kernel
theorem dX8_member_71 : decode cX8_member 71 = .ok (.getfield 7, 3) := by decide +kernel
theorem dX8_member_74 : decode cX8_member 74 = .ok (.iload_n 3, 1) := by decide +kernel
theorem dX8_member_75 : decode cX8_member 75 = .ok (.iconst 2, 1) := by decide +kernel
theorem dX8_member_76 : decode cX8_member 76 = .ok (.iadd, 1) := by decide +kernel
theorem dX8_member_77 : decode cX8_member 77 = .ok (.iaload, 1) := by decide +kernel
theorem dX8_member_78 : decode cX8_member 78 = .ok (.ifCond .ne 8, 3) := by decide +kernel
theorem dX8_member_81 : decode cX8_member 81 = .ok (.bipush (-4), 2) := by decide +kernel
theorem dX8_member_83 : decode cX8_member 83 = .ok (.goto 13, 3) := by decide +kernel
theorem dX8_member_86 : decode cX8_member 86 = .ok (.aload_n 0, 1) := by decide +kernel
theorem dX8_member_87 : decode cX8_member 87 = .ok (.getfield 7, 3) := by decide +kernel
theorem dX8_member_90 : decode cX8_member 90 = .ok (.iload_n 3, 1) := by decide +kernel
theorem dX8_member_91 : decode cX8_member 91 = .ok (.iconst 2, 1) := by decide +kernel
theorem dX8_member_92 : decode cX8_member 92 = .ok (.iadd, 1) := by decide +kernel
theorem dX8_member_93 : decode cX8_member 93 = .ok (.iaload, 1) := by decide +kernel
theorem dX8_member_94 : decode cX8_member 94 = .ok (.iconst 1, 1) := by decide +kernel
theorem dX8_member_95 : decode cX8_member 95 = .ok (.isub, 1) := by decide +kernel
theorem dX8_member_96 : decode cX8_member 96 = .ok (.ireturn, 1) := by decide +kernel
theorem dX8_member_97 : decode cX8_member 97 = .ok (.aload_n 0, 1) := by decide +kernel
theorem dX8_member_98 : decode cX8_member 98 = .ok (.iload_n 1, 1) := by decide +kernel
theorem dX8_member_99 : decode cX8_member 99 = .ok (.invokevirtual 57, 3) := by decide +kernel
theorem dX8_member_102 : decode cX8_member 102 = .ok (.ireturn, 1) := by decide +kernel
theorem dX8_member_103 : decode cX8_member 103 = .ok (.aload_n 0, 1) := by decide +kernel
theorem dX8_member_104 : decode cX8_member 104 = .ok (.getfield 7, 3) := by decide +kernel
theorem dX8_member_107 : decode cX8_member 107 = .ok (.iload_n 3, 1) := by decide +kernel
theorem dX8_member_108 : decode cX8_member 108 = .ok (.iconst 3, 1) := by decide +kernel
theorem dX8_member_109 : decode cX8_member 109 = .ok (.iadd, 1) := by decide +kernel
theorem dX8_member_110 : decode cX8_member 110 = .ok (.iaload, 1) := by decide +kernel
theorem dX8_member_111 : decode cX8_member 111 = .ok (.ireturn, 1) := by decide +kernel
theorem dX8_member_112 : decode cX8_member 112 = .ok (.aload_n 0, 1) := by decide +kernel
theorem dX8_member_113 : decode cX8_member 113 = .ok (.getfield 7, 3) := by decide +kernel
theorem dX8_member_116 : decode cX8_member 116 = .ok (.iload_n 3, 1) := by decide +kernel
theorem dX8_member_117 : decode cX8_member 117 = .ok (.iload_n 2, 1) := by decide +kernel
theorem dX8_member_118 : decode cX8_member 118 = .ok (.iadd, 1) := by decide +kernel
theorem dX8_member_119 : decode cX8_member 119 = .ok (.iaload, 1) := by decide +kernel
theorem dX8_member_120 : decode cX8_member 120 = .ok (.ireturn, 1) := by decide +kernel
theorem dX8_value_0 : decode cX8_value 0 = .ok (.aload_n 0, 1) := by decide +kernel
theorem dX8_value_1 : decode cX8_value 1 = .ok (.iload_n 1, 1) := by decide +kernel
theorem dX8_value_2 : decode cX8_value 2 = .ok (.invokevirtual 41, 3) := by decide +kernel
theorem dX8_value_5 : decode cX8_value 5 = .ok (.istore_n 2, 1) := by decide +kernel
theorem dX8_value_6 : decode cX8_value 6 = .ok (.iload_n 2, 1) := by decide +kernel
theorem dX8_value_7 : decode cX8_value 7 = .ok (.ifCond .ge 7, 3) := by decide +kernel
theorem dX8_value_10 : decode cX8_value 10 = .ok (.iconst (-1), 1) := by decide +kernel
theorem dX8_value_11 : decode cX8_value 11 = .ok (.goto 14, 3) := by decide +kernel
theorem dX8_value_14 : decode cX8_value 14 = .ok (.aload_n 0, 1) := by decide +kernel
theorem dX8_value_15 : decode cX8_value 15 = .ok (.getfield 7, 3) := by decide +kernel
theorem dX8_value_18 : decode cX8_value 18 = .ok (.iload_n 2, 1) := by decide +kernel
theorem dX8_value_19 : decode cX8_value 19 = .ok (.invokestatic 34, 3) := by decide +kernel
theorem dX8_value_22 : decode cX8_value 22 = .ok (.iconst 1, 1) := by decide +kernel
theorem dX8_value_23 : decode cX8_value 23 = .ok (.iadd, 1) := by decide +kernel
theorem dX8_value_24 : decode cX8_value 24 = .ok (.iaload, 1) := by decide +kernel
theorem dX8_value_25 : decode cX8_value 25 = .ok (.ireturn, 1) := by decide +kernel
theorem dX8_isEdition_0 : decode cX8_isEdition 0 = .ok (.iload_n 1, 1) := by decide +kernel
theorem dX8_isEdition_1 : decode cX8_isEdition 1 = .ok (.iconst 1, 1) := by decide +kernel
theorem dX8_isEdition_2 : decode cX8_isEdition 2 = .ok (.aload_n 0, 1) := by decide +kernel
theorem dX8_isEdition_3 : decode cX8_isEdition 3 = .ok (.getfield 7, 3) := by decide +kernel
theorem dX8_isEdition_6 : decode cX8_isEdition 6 = .ok (.iconst 2, 1) := by decide +kernel
theorem dX8_isEdition_7 : decode cX8_isEdition 7 = .ok (.iaload, 1) := by decide +kernel
theorem dX8_isEdition_8 : decode cX8_isEdition 8 = .ok (.invokestatic 23, 3) := by decide +kernel
theorem dX8_isEdition_11 : decode cX8_isEdition 11 = .ok (.ireturn, 1) := by decide +kernel
theorem dX8_valueIn_0 : decode cX8_valueIn 0 = .ok (.aload_n 0, 1) := by decide +kernel
theorem dX8_valueIn_1 : decode cX8_valueIn 1 = .ok (.iload_n 1, 1) := by decide +kernel
theorem dX8_valueIn_2 : decode cX8_valueIn 2 = .ok (.invokevirtual 41, 3) := by decide +kernel
theorem dX8_valueIn_5 : decode cX8_valueIn 5 = .ok (.istore_n 3, 1) := by decide +kernel
theorem dX8_valueIn_6 : decode cX8_valueIn 6 = .ok (.iload_n 3, 1) := by decide +kernel
theorem dX8_valueIn_7 : decode cX8_valueIn 7 = .ok (.ifCond .lt 11, 3) := by decide +kernel
theorem dX8_valueIn_10 : decode cX8_valueIn 10 = .ok (.aload_n 0, 1) := by decide +kernel
theorem dX8_valueIn_11 : decode cX8_valueIn 11 = .ok (.iload_n 2, 1) := by decide +kernel
theorem dX8_valueIn_12 : decode cX8_valueIn 12 = .ok (.invokevirtual 60, 3) := by decide +kernel
theorem dX8_valueIn_15 : decode cX8_valueIn 15 = .ok (.ifCond .ne 7, 3) := by decide +kernel
theorem dX8_valueIn_18 : decode cX8_valueIn 18 = .ok (.iconst (-1), 1) := by decide +kernel
theorem dX8_valueIn_19 : decode cX8_valueIn 19 = .ok (.goto 16, 3) := by decide +kernel
theorem dX8_valueIn_22 : decode cX8_valueIn 22 = .ok (.aload_n 0, 1) := by decide +kernel
theorem dX8_valueIn_23 : decode cX8_valueIn 23 = .ok (.getfield 7, 3) := by decide +kernel
theorem dX8_valueIn_26 : decode cX8_valueIn 26 = .ok (.iload_n 3, 1) := by decide +kernel
theorem dX8_valueIn_27 : decode cX8_valueIn 27 = .ok (.invokestatic 34, 3) := by decide +kernel
theorem dX8_valueIn_30 : decode cX8_valueIn 30 = .ok (.iconst 3, 1) := by decide +kernel
theorem dX8_valueIn_31 : decode cX8_valueIn 31 = .ok (.iadd, 1) := by decide +kernel
theorem dX8_valueIn_32 : decode cX8_valueIn 32 = .ok (.iload_n 2, 1) := by decide +kernel
theorem dX8_valueIn_33 : decode cX8_valueIn 33 = .ok (.iadd, 1) := by decide +kernel
theorem dX8_valueIn_34 : decode cX8_valueIn 34 = .ok (.iaload, 1) := by decide +kernel
theorem dX8_valueIn_35 : decode cX8_valueIn 35 = .ok (.ireturn, 1) := by decide +kernel
theorem dX8_clause_0 : decode cX8_clause 0 = .ok (.iload_n 1, 1) := by decide +kernel
theorem dX8_clause_1 : decode cX8_clause 1 = .ok (.ifCond .ge 7, 3) := by decide +kernel
theorem dX8_clause_4 : decode cX8_clause 4 = .ok (.iconst (-1), 1) := by decide +kernel
theorem dX8_clause_5 : decode cX8_clause 5 = .ok (.goto 29, 3) := by decide +kernel
theorem dX8_clause_8 : decode cX8_clause 8 = .ok (.iload_n 1, 1) := by decide +kernel
theorem dX8_clause_9 : decode cX8_clause 9 = .ok (.aload_n 0, 1) := by decide +kernel
theorem dX8_clause_10 : decode cX8_clause 10 = .ok (.getfield 7, 3) := by decide +kernel
theorem dX8_clause_13 : decode cX8_clause 13 = .ok (.iconst 1, 1) := by decide +kernel
theorem dX8_clause_14 : decode cX8_clause 14 = .ok (.iaload, 1) := by decide +kernel
theorem dX8_clause_15 : decode cX8_clause 15 = .ok (.if_icmp .lt 8, 3) := by decide +kernel
theorem dX8_clause_18 : decode cX8_clause 18 = .ok (.bipush (-4), 2) := by decide +kernel
theorem dX8_clause_20 : decode cX8_clause 20 = .ok (.goto 14, 3) := by decide +kernel
theorem dX8_clause_23 : decode cX8_clause 23 = .ok (.aload_n 0, 1) := by decide +kernel
theorem dX8_clause_24 : decode cX8_clause 24 = .ok (.getfield 7, 3) := by decide +kernel
theorem dX8_clause_27 : decode cX8_clause 27 = .ok (.iload_n 1, 1) := by decide +kernel
theorem dX8_clause_28 : decode cX8_clause 28 = .ok (.invokestatic 34, 3) := by decide +kernel
theorem dX8_clause_31 : decode cX8_clause 31 = .ok (.iconst 0, 1) := by decide +kernel
theorem dX8_clause_32 : decode cX8_clause 32 = .ok (.iadd, 1) := by decide +kernel
theorem dX8_clause_33 : decode cX8_clause 33 = .ok (.iaload, 1) := by decide +kernel
theorem dX8_clause_34 : decode cX8_clause 34 = .ok (.ireturn, 1) := by decide +kernel
theorem dX8_activeWeight_0 : decode cX8_activeWeight 0 = .ok (.iconst 0, 1) := by decide +kernel
theorem dX8_activeWeight_1 : decode cX8_activeWeight 1 = .ok (.istore_n 1, 1) := by decide +kernel
theorem dX8_activeWeight_2 : decode cX8_activeWeight 2 = .ok (.iconst 0, 1) := by decide +kernel
theorem dX8_activeWeight_3 : decode cX8_activeWeight 3 = .ok (.istore_n 2, 1) := by decide +kernel
theorem dX8_activeWeight_4 : decode cX8_activeWeight 4 = .ok (.iload_n 2, 1) := by decide +kernel
theorem dX8_activeWeight_5 : decode cX8_activeWeight 5 = .ok (.aload_n 0, 1) := by decide +kernel
theorem dX8_activeWeight_6 : decode cX8_activeWeight 6 = .ok (.getfield 7, 3) := by decide +kernel
theorem dX8_activeWeight_9 : decode cX8_activeWeight 9 = .ok (.iconst 0, 1) := by decide +kernel
theorem dX8_activeWeight_10 : decode cX8_activeWeight 10 = .ok (.iaload, 1) := by decide +kernel
theorem dX8_activeWeight_11 : decode cX8_activeWeight 11 = .ok (.if_icmp .ge 35, 3) := by decide +kernel
theorem dX8_activeWeight_14 : decode cX8_activeWeight 14 = .ok (.iload_n 1, 1) := by decide +kernel
theorem dX8_activeWeight_15 : decode cX8_activeWeight 15 = .ok (.aload_n 0, 1) := by decide +kernel
theorem dX8_activeWeight_16 : decode cX8_activeWeight 16 = .ok (.iload_n 2, 1) := by decide +kernel
theorem dX8_activeWeight_17 : decode cX8_activeWeight 17 = .ok (.invokevirtual 54, 3) := by decide +kernel
theorem dX8_activeWeight_20 : decode cX8_activeWeight 20 = .ok (.ifCond .eq 7, 3) := by decide +kernel
theorem dX8_activeWeight_23 : decode cX8_activeWeight 23 = .ok (.iconst 0, 1) := by decide +kernel
theorem dX8_activeWeight_24 : decode cX8_activeWeight 24 = .ok (.goto 14, 3) := by decide +kernel
theorem dX8_activeWeight_27 : decode cX8_activeWeight 27 = .ok (.aload_n 0, 1) := by decide +kernel
theorem dX8_activeWeight_28 : decode cX8_activeWeight 28 = .ok (.getfield 7, 3) := by decide +kernel
theorem dX8_activeWeight_31 : decode cX8_activeWeight 31 = .ok (.iload_n 2, 1) := by decide +kernel
theorem dX8_activeWeight_32 : decode cX8_activeWeight 32 = .ok (.invokestatic 27, 3) := by decide +kernel
theorem dX8_activeWeight_35 : decode cX8_activeWeight 35 = .ok (.iconst 0, 1) := by decide +kernel
theorem dX8_activeWeight_36 : decode cX8_activeWeight 36 = .ok (.iadd, 1) := by decide +kernel
theorem dX8_activeWeight_37 : decode cX8_activeWeight 37 = .ok (.iaload, 1) := by decide +kernel
theorem dX8_activeWeight_38 : decode cX8_activeWeight 38 = .ok (.iadd, 1) := by decide +kernel
theorem dX8_activeWeight_39 : decode cX8_activeWeight 39 = .ok (.istore_n 1, 1) := by decide +kernel
theorem dX8_activeWeight_40 : decode cX8_activeWeight 40 = .ok (.iinc 2 1, 3) := by decide +kernel
theorem dX8_activeWeight_43 : decode cX8_activeWeight 43 = .ok (.goto (-39), 3) := by decide +kernel
theorem dX8_activeWeight_46 : decode cX8_activeWeight 46 = .ok (.iload_n 1, 1) := by decide +kernel
theorem dX8_activeWeight_47 : decode cX8_activeWeight 47 = .ok (.ireturn, 1) := by decide +kernel
theorem dX8_pending_0 : decode cX8_pending 0 = .ok (.iconst 0, 1) := by decide +kernel
theorem dX8_pending_1 : decode cX8_pending 1 = .ok (.istore_n 1, 1) := by decide +kernel
theorem dX8_pending_2 : decode cX8_pending 2 = .ok (.iconst 0, 1) := by decide +kernel
theorem dX8_pending_3 : decode cX8_pending 3 = .ok (.istore_n 2, 1) := by decide +kernel
theorem dX8_pending_4 : decode cX8_pending 4 = .ok (.iload_n 2, 1) := by decide +kernel
theorem dX8_pending_5 : decode cX8_pending 5 = .ok (.aload_n 0, 1) := by decide +kernel
theorem dX8_pending_6 : decode cX8_pending 6 = .ok (.getfield 7, 3) := by decide +kernel
theorem dX8_pending_9 : decode cX8_pending 9 = .ok (.bipush 9, 2) := by decide +kernel
theorem dX8_pending_11 : decode cX8_pending 11 = .ok (.iaload, 1) := by decide +kernel
theorem dX8_pending_12 : decode cX8_pending 12 = .ok (.if_icmp .ge 32, 3) := by decide +kernel
theorem dX8_pending_15 : decode cX8_pending 15 = .ok (.iload_n 1, 1) := by decide +kernel
theorem dX8_pending_16 : decode cX8_pending 16 = .ok (.aload_n 0, 1) := by decide +kernel
theorem dX8_pending_17 : decode cX8_pending 17 = .ok (.getfield 7, 3) := by decide +kernel
theorem dX8_pending_20 : decode cX8_pending 20 = .ok (.iload_n 2, 1) := by decide +kernel
theorem dX8_pending_21 : decode cX8_pending 21 = .ok (.invokestatic 48, 3) := by decide +kernel
theorem dX8_pending_24 : decode cX8_pending 24 = .ok (.iconst 4, 1) := by decide +kernel
theorem dX8_pending_25 : decode cX8_pending 25 = .ok (.iadd, 1) := by decide +kernel
theorem dX8_pending_26 : decode cX8_pending 26 = .ok (.iaload, 1) := by decide +kernel
theorem dX8_pending_27 : decode cX8_pending 27 = .ok (.iconst 1, 1) := by decide +kernel
theorem dX8_pending_28 : decode cX8_pending 28 = .ok (.if_icmp .ne 7, 3) := by decide +kernel
theorem dX8_pending_31 : decode cX8_pending 31 = .ok (.iconst 1, 1) := by decide +kernel
theorem dX8_pending_32 : decode cX8_pending 32 = .ok (.goto 4, 3) := by decide +kernel
theorem dX8_pending_35 : decode cX8_pending 35 = .ok (.iconst 0, 1) := by decide +kernel
theorem dX8_pending_36 : decode cX8_pending 36 = .ok (.iadd, 1) := by decide +kernel
theorem dX8_pending_37 : decode cX8_pending 37 = .ok (.istore_n 1, 1) := by decide +kernel
theorem dX8_pending_38 : decode cX8_pending 38 = .ok (.iinc 2 1, 3) := by decide +kernel
theorem dX8_pending_41 : decode cX8_pending 41 = .ok (.goto (-37), 3) := by decide +kernel
theorem dX8_pending_44 : decode cX8_pending 44 = .ok (.iload_n 1, 1) := by decide +kernel
theorem dX8_pending_45 : decode cX8_pending 45 = .ok (.ireturn, 1) := by decide +kernel
theorem dX8_count_0 : decode cX8_count 0 = .ok (.iload_n 1, 1) := by decide +kernel
theorem dX8_count_1 : decode cX8_count 1 = .ok (.tableswitch 169 0 11 #[63, 70, 77, 84, 91, 98, 105, 113, 118, 123, 128, 133], 63) := by decide +kernel
theorem dX8_count_64 : decode cX8_count 64 = .ok (.aload_n 0, 1) := by decide +kernel
theorem dX8_count_65 : decode cX8_count 65 = .ok (.getfield 7, 3) := by decide +kernel
theorem dX8_count_68 : decode cX8_count 68 = .ok (.iconst 0, 1) := by decide +kernel
theorem dX8_count_69 : decode cX8_count 69 = .ok (.iaload, 1) := by decide +kernel
theorem dX8_count_70 : decode cX8_count 70 = .ok (.ireturn, 1) := by decide +kernel
theorem dX8_count_71 : decode cX8_count 71 = .ok (.aload_n 0, 1) := by decide +kernel
theorem dX8_count_72 : decode cX8_count 72 = .ok (.getfield 7, 3) := by decide +kernel
theorem dX8_count_75 : decode cX8_count 75 = .ok (.iconst 1, 1) := by decide +kernel
theorem dX8_count_76 : decode cX8_count 76 = .ok (.iaload, 1) := by decide +kernel
theorem dX8_count_77 : decode cX8_count 77 = .ok (.ireturn, 1) := by decide +kernel
theorem dX8_count_78 : decode cX8_count 78 = .ok (.aload_n 0, 1) := by decide +kernel
theorem dX8_count_79 : decode cX8_count 79 = .ok (.getfield 7, 3) := by decide +kernel
theorem dX8_count_82 : decode cX8_count 82 = .ok (.iconst 2, 1) := by decide +kernel
theorem dX8_count_83 : decode cX8_count 83 = .ok (.iaload, 1) := by decide +kernel
theorem dX8_count_84 : decode cX8_count 84 = .ok (.ireturn, 1) := by decide +kernel
theorem dX8_count_85 : decode cX8_count 85 = .ok (.aload_n 0, 1) := by decide +kernel
theorem dX8_count_86 : decode cX8_count 86 = .ok (.getfield 7, 3) := by decide +kernel
theorem dX8_count_89 : decode cX8_count 89 = .ok (.iconst 3, 1) := by decide +kernel
theorem dX8_count_90 : decode cX8_count 90 = .ok (.iaload, 1) := by decide +kernel
theorem dX8_count_91 : decode cX8_count 91 = .ok (.ireturn, 1) := by decide +kernel
theorem dX8_count_92 : decode cX8_count 92 = .ok (.aload_n 0, 1) := by decide +kernel
theorem dX8_count_93 : decode cX8_count 93 = .ok (.getfield 7, 3) := by decide +kernel
theorem dX8_count_96 : decode cX8_count 96 = .ok (.iconst 4, 1) := by decide +kernel
theorem dX8_count_97 : decode cX8_count 97 = .ok (.iaload, 1) := by decide +kernel
theorem dX8_count_98 : decode cX8_count 98 = .ok (.ireturn, 1) := by decide +kernel
theorem dX8_count_99 : decode cX8_count 99 = .ok (.aload_n 0, 1) := by decide +kernel
theorem dX8_count_100 : decode cX8_count 100 = .ok (.getfield 7, 3) := by decide +kernel
theorem dX8_count_103 : decode cX8_count 103 = .ok (.iconst 5, 1) := by decide +kernel
theorem dX8_count_104 : decode cX8_count 104 = .ok (.iaload, 1) := by decide +kernel
theorem dX8_count_105 : decode cX8_count 105 = .ok (.ireturn, 1) := by decide +kernel
theorem dX8_count_106 : decode cX8_count 106 = .ok (.aload_n 0, 1) := by decide +kernel
theorem dX8_count_107 : decode cX8_count 107 = .ok (.getfield 7, 3) := by decide +kernel
theorem dX8_count_110 : decode cX8_count 110 = .ok (.bipush 9, 2) := by decide +kernel
theorem dX8_count_112 : decode cX8_count 112 = .ok (.iaload, 1) := by decide +kernel
theorem dX8_count_113 : decode cX8_count 113 = .ok (.ireturn, 1) := by decide +kernel
theorem dX8_count_114 : decode cX8_count 114 = .ok (.aload_n 0, 1) := by decide +kernel
theorem dX8_count_115 : decode cX8_count 115 = .ok (.invokevirtual 63, 3) := by decide +kernel
theorem dX8_count_118 : decode cX8_count 118 = .ok (.ireturn, 1) := by decide +kernel
theorem dX8_count_119 : decode cX8_count 119 = .ok (.aload_n 0, 1) := by decide +kernel
theorem dX8_count_120 : decode cX8_count 120 = .ok (.invokevirtual 67, 3) := by decide +kernel
theorem dX8_count_123 : decode cX8_count 123 = .ok (.ireturn, 1) := by decide +kernel
theorem dX8_count_124 : decode cX8_count 124 = .ok (.aload_n 0, 1) := by decide +kernel
theorem dX8_count_125 : decode cX8_count 125 = .ok (.getfield 19, 3) := by decide +kernel
theorem dX8_count_128 : decode cX8_count 128 = .ok (.ireturn, 1) := by decide +kernel
theorem dX8_count_129 : decode cX8_count 129 = .ok (.aload_n 0, 1) := by decide +kernel
theorem dX8_count_130 : decode cX8_count 130 = .ok (.getfield 70, 3) := by decide +kernel
theorem dX8_count_133 : decode cX8_count 133 = .ok (.ireturn, 1) := by decide +kernel
theorem dX8_count_134 : decode cX8_count 134 = .ok (.aload_n 0, 1) := by decide +kernel
theorem dX8_count_135 : decode cX8_count 135 = .ok (.getfield 7, 3) := by decide +kernel
theorem dX8_count_138 : decode cX8_count 138 = .ok (.iconst 4, 1) := by decide +kernel
theorem dX8_count_139 : decode cX8_count 139 = .ok (.iaload, 1) := by decide +kernel
theorem dX8_count_140 : decode cX8_count 140 = .ok (.ifCond .ne 7, 3) := by decide +kernel
theorem dX8_count_143 : decode cX8_count 143 = .ok (.iconst 0, 1) := by decide +kernel
theorem dX8_count_144 : decode cX8_count 144 = .ok (.goto 25, 3) := by decide +kernel
theorem dX8_count_147 : decode cX8_count 147 = .ok (.aload_n 0, 1) := by decide +kernel
theorem dX8_count_148 : decode cX8_count 148 = .ok (.getfield 7, 3) := by decide +kernel
theorem dX8_count_151 : decode cX8_count 151 = .ok (.bipush 7, 2) := by decide +kernel
theorem dX8_count_153 : decode cX8_count 153 = .ok (.iaload, 1) := by decide +kernel
theorem dX8_count_154 : decode cX8_count 154 = .ok (.aload_n 0, 1) := by decide +kernel
theorem dX8_count_155 : decode cX8_count 155 = .ok (.getfield 7, 3) := by decide +kernel
theorem dX8_count_158 : decode cX8_count 158 = .ok (.iconst 3, 1) := by decide +kernel
theorem dX8_count_159 : decode cX8_count 159 = .ok (.iaload, 1) := by decide +kernel
theorem dX8_count_160 : decode cX8_count 160 = .ok (.isub, 1) := by decide +kernel
theorem dX8_count_161 : decode cX8_count 161 = .ok (.aload_n 0, 1) := by decide +kernel
theorem dX8_count_162 : decode cX8_count 162 = .ok (.getfield 7, 3) := by decide +kernel
theorem dX8_count_165 : decode cX8_count 165 = .ok (.bipush 6, 2) := by decide +kernel
theorem dX8_count_167 : decode cX8_count 167 = .ok (.iaload, 1) := by decide +kernel
theorem dX8_count_168 : decode cX8_count 168 = .ok (.iadd, 1) := by decide +kernel
theorem dX8_count_169 : decode cX8_count 169 = .ok (.ireturn, 1) := by decide +kernel
theorem dX8_count_170 : decode cX8_count 170 = .ok (.iload_n 1, 1) := by decide +kernel
theorem dX8_count_171 : decode cX8_count 171 = .ok (.bipush 20, 2) := by decide +kernel
theorem dX8_count_173 : decode cX8_count 173 = .ok (.bipush 24, 2) := by decide +kernel
theorem dX8_count_175 : decode cX8_count 175 = .ok (.invokestatic 23, 3) := by decide +kernel
theorem dX8_count_178 : decode cX8_count 178 = .ok (.ifCond .eq 18, 3) := by decide +kernel
theorem dX8_count_181 : decode cX8_count 181 = .ok (.aload_n 0, 1) := by decide +kernel
theorem dX8_count_182 : decode cX8_count 182 = .ok (.getfield 7, 3) := by decide +kernel
theorem dX8_count_185 : decode cX8_count 185 = .ok (.bipush 12, 2) := by decide +kernel
theorem dX8_count_187 : decode cX8_count 187 = .ok (.iload_n 1, 1) := by decide +kernel
theorem dX8_count_188 : decode cX8_count 188 = .ok (.iadd, 1) := by decide +kernel
theorem dX8_count_189 : decode cX8_count 189 = .ok (.bipush 20, 2) := by decide +kernel
theorem dX8_count_191 : decode cX8_count 191 = .ok (.isub, 1) := by decide +kernel
theorem dX8_count_192 : decode cX8_count 192 = .ok (.iaload, 1) := by decide +kernel
theorem dX8_count_193 : decode cX8_count 193 = .ok (.goto 4, 3) := by decide +kernel
theorem dX8_count_196 : decode cX8_count 196 = .ok (.iconst (-1), 1) := by decide +kernel
theorem dX8_count_197 : decode cX8_count 197 = .ok (.ireturn, 1) := by decide +kernel
theorem dX8_open_0 : decode cX8_open 0 = .ok (.aload_n 0, 1) := by decide +kernel
theorem dX8_open_1 : decode cX8_open 1 = .ok (.getfield 7, 3) := by decide +kernel
theorem dX8_open_4 : decode cX8_open 4 = .ok (.iconst 4, 1) := by decide +kernel
theorem dX8_open_5 : decode cX8_open 5 = .ok (.iaload, 1) := by decide +kernel
theorem dX8_open_6 : decode cX8_open 6 = .ok (.iconst 1, 1) := by decide +kernel
theorem dX8_open_7 : decode cX8_open 7 = .ok (.if_icmp .eq 19, 3) := by decide +kernel
theorem dX8_open_10 : decode cX8_open 10 = .ok (.aload_n 0, 1) := by decide +kernel
theorem dX8_open_11 : decode cX8_open 11 = .ok (.invokevirtual 63, 3) := by decide +kernel
theorem dX8_open_14 : decode cX8_open 14 = .ok (.ifCond .gt 12, 3) := by decide +kernel
theorem dX8_open_17 : decode cX8_open 17 = .ok (.aload_n 0, 1) := by decide +kernel
theorem dX8_open_18 : decode cX8_open 18 = .ok (.getfield 7, 3) := by decide +kernel
theorem dX8_open_21 : decode cX8_open 21 = .ok (.iconst 1, 1) := by decide +kernel
theorem dX8_open_22 : decode cX8_open 22 = .ok (.iaload, 1) := by decide +kernel
theorem dX8_open_23 : decode cX8_open 23 = .ok (.ifCond .ne 6, 3) := by decide +kernel
theorem dX8_open_26 : decode cX8_open 26 = .ok (.bipush (-2), 2) := by decide +kernel
theorem dX8_open_28 : decode cX8_open 28 = .ok (.ireturn, 1) := by decide +kernel
theorem dX8_open_29 : decode cX8_open 29 = .ok (.aload_n 0, 1) := by decide +kernel
theorem dX8_open_30 : decode cX8_open 30 = .ok (.getfield 7, 3) := by decide +kernel
theorem dX8_open_33 : decode cX8_open 33 = .ok (.iconst 2, 1) := by decide +kernel
theorem dX8_open_34 : decode cX8_open 34 = .ok (.iaload, 1) := by decide +kernel
theorem dX8_open_35 : decode cX8_open 35 = .ok (.bipush 12, 2) := by decide +kernel
theorem dX8_open_37 : decode cX8_open 37 = .ok (.if_icmp .ne 6, 3) := by decide +kernel
theorem dX8_open_40 : decode cX8_open 40 = .ok (.bipush (-3), 2) := by decide +kernel
theorem dX8_open_42 : decode cX8_open 42 = .ok (.ireturn, 1) := by decide +kernel
theorem dX8_open_43 : decode cX8_open 43 = .ok (.aload_n 0, 1) := by decide +kernel
theorem dX8_open_44 : decode cX8_open 44 = .ok (.invokevirtual 31, 3) := by decide +kernel
theorem dX8_open_47 : decode cX8_open 47 = .ok (.aload_n 0, 1) := by decide +kernel
theorem dX8_open_48 : decode cX8_open 48 = .ok (.getfield 7, 3) := by decide +kernel
theorem dX8_open_51 : decode cX8_open 51 = .ok (.iconst 4, 1) := by decide +kernel
theorem dX8_open_52 : decode cX8_open 52 = .ok (.iconst 1, 1) := by decide +kernel
theorem dX8_open_53 : decode cX8_open 53 = .ok (.iastore, 1) := by decide +kernel
theorem dX8_open_54 : decode cX8_open 54 = .ok (.aload_n 0, 1) := by decide +kernel
theorem dX8_open_55 : decode cX8_open 55 = .ok (.getfield 7, 3) := by decide +kernel
theorem dX8_open_58 : decode cX8_open 58 = .ok (.iconst 5, 1) := by decide +kernel
theorem dX8_open_59 : decode cX8_open 59 = .ok (.dup2, 1) := by decide +kernel
theorem dX8_open_60 : decode cX8_open 60 = .ok (.iaload, 1) := by decide +kernel
theorem dX8_open_61 : decode cX8_open 61 = .ok (.iconst 1, 1) := by decide +kernel
theorem dX8_open_62 : decode cX8_open 62 = .ok (.iadd, 1) := by decide +kernel
theorem dX8_open_63 : decode cX8_open 63 = .ok (.iastore, 1) := by decide +kernel
theorem dX8_open_64 : decode cX8_open 64 = .ok (.aload_n 0, 1) := by decide +kernel
theorem dX8_open_65 : decode cX8_open 65 = .ok (.getfield 7, 3) := by decide +kernel
theorem dX8_open_68 : decode cX8_open 68 = .ok (.bipush 6, 2) := by decide +kernel
theorem dX8_open_70 : decode cX8_open 70 = .ok (.aload_n 0, 1) := by decide +kernel
theorem dX8_open_71 : decode cX8_open 71 = .ok (.getfield 7, 3) := by decide +kernel
theorem dX8_open_74 : decode cX8_open 74 = .ok (.iconst 3, 1) := by decide +kernel
theorem dX8_open_75 : decode cX8_open 75 = .ok (.iaload, 1) := by decide +kernel
theorem dX8_open_76 : decode cX8_open 76 = .ok (.iastore, 1) := by decide +kernel
theorem dX8_open_77 : decode cX8_open 77 = .ok (.aload_n 0, 1) := by decide +kernel
theorem dX8_open_78 : decode cX8_open 78 = .ok (.getfield 7, 3) := by decide +kernel
theorem dX8_open_81 : decode cX8_open 81 = .ok (.bipush 7, 2) := by decide +kernel
theorem dX8_open_83 : decode cX8_open 83 = .ok (.aload_n 0, 1) := by decide +kernel
theorem dX8_open_84 : decode cX8_open 84 = .ok (.getfield 7, 3) := by decide +kernel
theorem dX8_open_87 : decode cX8_open 87 = .ok (.bipush 14, 2) := by decide +kernel
theorem dX8_open_89 : decode cX8_open 89 = .ok (.iaload, 1) := by decide +kernel
theorem dX8_open_90 : decode cX8_open 90 = .ok (.iastore, 1) := by decide +kernel
theorem dX8_open_91 : decode cX8_open 91 = .ok (.aload_n 0, 1) := by decide +kernel
theorem dX8_open_92 : decode cX8_open 92 = .ok (.getfield 7, 3) := by decide +kernel
theorem dX8_open_95 : decode cX8_open 95 = .ok (.bipush 8, 2) := by decide +kernel
theorem dX8_open_97 : decode cX8_open 97 = .ok (.iconst 0, 1) := by decide +kernel
theorem dX8_open_98 : decode cX8_open 98 = .ok (.iastore, 1) := by decide +kernel
theorem dX8_open_99 : decode cX8_open 99 = .ok (.aload_n 0, 1) := by decide +kernel
theorem dX8_open_100 : decode cX8_open 100 = .ok (.getfield 7, 3) := by decide +kernel
theorem dX8_open_103 : decode cX8_open 103 = .ok (.bipush 9, 2) := by decide +kernel
theorem dX8_open_105 : decode cX8_open 105 = .ok (.iconst 0, 1) := by decide +kernel
theorem dX8_open_106 : decode cX8_open 106 = .ok (.iastore, 1) := by decide +kernel
theorem dX8_open_107 : decode cX8_open 107 = .ok (.aload_n 0, 1) := by decide +kernel
theorem dX8_open_108 : decode cX8_open 108 = .ok (.getfield 7, 3) := by decide +kernel
theorem dX8_open_111 : decode cX8_open 111 = .ok (.bipush 10, 2) := by decide +kernel
theorem dX8_open_113 : decode cX8_open 113 = .ok (.iconst 0, 1) := by decide +kernel
theorem dX8_open_114 : decode cX8_open 114 = .ok (.iastore, 1) := by decide +kernel
theorem dX8_open_115 : decode cX8_open 115 = .ok (.aload_n 0, 1) := by decide +kernel
theorem dX8_open_116 : decode cX8_open 116 = .ok (.getfield 7, 3) := by decide +kernel
theorem dX8_open_119 : decode cX8_open 119 = .ok (.bipush 11, 2) := by decide +kernel
theorem dX8_open_121 : decode cX8_open 121 = .ok (.iconst 0, 1) := by decide +kernel
theorem dX8_open_122 : decode cX8_open 122 = .ok (.iastore, 1) := by decide +kernel
theorem dX8_open_123 : decode cX8_open 123 = .ok (.iconst 0, 1) := by decide +kernel
theorem dX8_open_124 : decode cX8_open 124 = .ok (.istore_n 1, 1) := by decide +kernel
theorem dX8_open_125 : decode cX8_open 125 = .ok (.iload_n 1, 1) := by decide +kernel
theorem dX8_open_126 : decode cX8_open 126 = .ok (.aload_n 0, 1) := by decide +kernel
theorem dX8_open_127 : decode cX8_open 127 = .ok (.getfield 7, 3) := by decide +kernel
theorem dX8_open_130 : decode cX8_open 130 = .ok (.iconst 0, 1) := by decide +kernel
theorem dX8_open_131 : decode cX8_open 131 = .ok (.iaload, 1) := by decide +kernel
theorem dX8_open_132 : decode cX8_open 132 = .ok (.if_icmp .ge 21, 3) := by decide +kernel
theorem dX8_open_135 : decode cX8_open 135 = .ok (.aload_n 0, 1) := by decide +kernel
theorem dX8_open_136 : decode cX8_open 136 = .ok (.getfield 7, 3) := by decide +kernel
theorem dX8_open_139 : decode cX8_open 139 = .ok (.iload_n 1, 1) := by decide +kernel
theorem dX8_open_140 : decode cX8_open 140 = .ok (.invokestatic 27, 3) := by decide +kernel
theorem dX8_open_143 : decode cX8_open 143 = .ok (.iconst 2, 1) := by decide +kernel
theorem dX8_open_144 : decode cX8_open 144 = .ok (.iadd, 1) := by decide +kernel
theorem dX8_open_145 : decode cX8_open 145 = .ok (.iconst 0, 1) := by decide +kernel
theorem dX8_open_146 : decode cX8_open 146 = .ok (.iastore, 1) := by decide +kernel
theorem dX8_open_147 : decode cX8_open 147 = .ok (.iinc 1 1, 3) := by decide +kernel
theorem dX8_open_150 : decode cX8_open 150 = .ok (.goto (-25), 3) := by decide +kernel
theorem dX8_open_153 : decode cX8_open 153 = .ok (.iconst 0, 1) := by decide +kernel
theorem dX8_open_154 : decode cX8_open 154 = .ok (.istore_n 1, 1) := by decide +kernel
theorem dX8_open_155 : decode cX8_open 155 = .ok (.iload_n 1, 1) := by decide +kernel
theorem dX8_open_156 : decode cX8_open 156 = .ok (.aload_n 0, 1) := by decide +kernel
theorem dX8_open_157 : decode cX8_open 157 = .ok (.getfield 7, 3) := by decide +kernel
theorem dX8_open_160 : decode cX8_open 160 = .ok (.iconst 1, 1) := by decide +kernel
theorem dX8_open_161 : decode cX8_open 161 = .ok (.iaload, 1) := by decide +kernel
theorem dX8_open_162 : decode cX8_open 162 = .ok (.if_icmp .ge 31, 3) := by decide +kernel
theorem dX8_open_165 : decode cX8_open 165 = .ok (.aload_n 0, 1) := by decide +kernel
theorem dX8_open_166 : decode cX8_open 166 = .ok (.getfield 7, 3) := by decide +kernel
theorem dX8_open_169 : decode cX8_open 169 = .ok (.iload_n 1, 1) := by decide +kernel
theorem dX8_open_170 : decode cX8_open 170 = .ok (.invokestatic 34, 3) := by decide +kernel
theorem dX8_open_173 : decode cX8_open 173 = .ok (.iconst 2, 1) := by decide +kernel
theorem dX8_open_174 : decode cX8_open 174 = .ok (.iadd, 1) := by decide +kernel
theorem dX8_open_175 : decode cX8_open 175 = .ok (.aload_n 0, 1) := by decide +kernel
theorem dX8_open_176 : decode cX8_open 176 = .ok (.getfield 7, 3) := by decide +kernel
theorem dX8_open_179 : decode cX8_open 179 = .ok (.iload_n 1, 1) := by decide +kernel
theorem dX8_open_180 : decode cX8_open 180 = .ok (.invokestatic 34, 3) := by decide +kernel
theorem dX8_open_183 : decode cX8_open 183 = .ok (.iconst 1, 1) := by decide +kernel
theorem dX8_open_184 : decode cX8_open 184 = .ok (.iadd, 1) := by decide +kernel
theorem dX8_open_185 : decode cX8_open 185 = .ok (.iaload, 1) := by decide +kernel
theorem dX8_open_186 : decode cX8_open 186 = .ok (.iastore, 1) := by decide +kernel
theorem dX8_open_187 : decode cX8_open 187 = .ok (.iinc 1 1, 3) := by decide +kernel
theorem dX8_open_190 : decode cX8_open 190 = .ok (.goto (-35), 3) := by decide +kernel
theorem dX8_open_193 : decode cX8_open 193 = .ok (.aload_n 0, 1) := by decide +kernel
theorem dX8_open_194 : decode cX8_open 194 = .ok (.getfield 7, 3) := by decide +kernel
theorem dX8_open_197 : decode cX8_open 197 = .ok (.iconst 5, 1) := by decide +kernel
theorem dX8_open_198 : decode cX8_open 198 = .ok (.iaload, 1) := by decide +kernel
theorem dX8_open_199 : decode cX8_open 199 = .ok (.ireturn, 1) := by decide +kernel
theorem dX8_vote_0 : decode cX8_vote 0 = .ok (.aload_n 0, 1) := by decide +kernel
theorem dX8_vote_1 : decode cX8_vote 1 = .ok (.iload_n 1, 1) := by decide +kernel
theorem dX8_vote_2 : decode cX8_vote 2 = .ok (.invokevirtual 51, 3) := by decide +kernel
theorem dX8_vote_5 : decode cX8_vote 5 = .ok (.ifCond .eq 12, 3) := by decide +kernel
theorem dX8_vote_8 : decode cX8_vote 8 = .ok (.iload_n 2, 1) := by decide +kernel
theorem dX8_vote_9 : decode cX8_vote 9 = .ok (.iconst 0, 1) := by decide +kernel
theorem dX8_vote_10 : decode cX8_vote 10 = .ok (.iconst 2, 1) := by decide +kernel
theorem dX8_vote_11 : decode cX8_vote 11 = .ok (.invokestatic 23, 3) := by decide +kernel
theorem dX8_vote_14 : decode cX8_vote 14 = .ok (.ifCond .ne 5, 3) := by decide +kernel
theorem dX8_vote_17 : decode cX8_vote 17 = .ok (.iconst (-1), 1) := by decide +kernel
theorem dX8_vote_18 : decode cX8_vote 18 = .ok (.ireturn, 1) := by decide +kernel
theorem dX8_vote_19 : decode cX8_vote 19 = .ok (.aload_n 0, 1) := by decide +kernel
theorem dX8_vote_20 : decode cX8_vote 20 = .ok (.getfield 7, 3) := by decide +kernel
theorem dX8_vote_23 : decode cX8_vote 23 = .ok (.iconst 4, 1) := by decide +kernel
theorem dX8_vote_24 : decode cX8_vote 24 = .ok (.iaload, 1) := by decide +kernel
theorem dX8_vote_25 : decode cX8_vote 25 = .ok (.ifCond .ne 6, 3) := by decide +kernel
theorem dX8_vote_28 : decode cX8_vote 28 = .ok (.bipush (-2), 2) := by decide +kernel
theorem dX8_vote_30 : decode cX8_vote 30 = .ok (.ireturn, 1) := by decide +kernel
theorem dX8_vote_31 : decode cX8_vote 31 = .ok (.aload_n 0, 1) := by decide +kernel
theorem dX8_vote_32 : decode cX8_vote 32 = .ok (.invokevirtual 31, 3) := by decide +kernel
theorem dX8_vote_35 : decode cX8_vote 35 = .ok (.aload_n 0, 1) := by decide +kernel
theorem dX8_vote_36 : decode cX8_vote 36 = .ok (.getfield 7, 3) := by decide +kernel
theorem dX8_vote_39 : decode cX8_vote 39 = .ok (.iload_n 1, 1) := by decide +kernel
theorem dX8_vote_40 : decode cX8_vote 40 = .ok (.invokestatic 27, 3) := by decide +kernel
theorem dX8_vote_43 : decode cX8_vote 43 = .ok (.iconst 2, 1) := by decide +kernel
theorem dX8_vote_44 : decode cX8_vote 44 = .ok (.iadd, 1) := by decide +kernel
theorem dX8_vote_45 : decode cX8_vote 45 = .ok (.iconst 1, 1) := by decide +kernel
theorem dX8_vote_46 : decode cX8_vote 46 = .ok (.iload_n 2, 1) := by decide +kernel
theorem dX8_vote_47 : decode cX8_vote 47 = .ok (.iadd, 1) := by decide +kernel
theorem dX8_vote_48 : decode cX8_vote 48 = .ok (.iastore, 1) := by decide +kernel
theorem dX8_vote_49 : decode cX8_vote 49 = .ok (.iconst 0, 1) := by decide +kernel
theorem dX8_vote_50 : decode cX8_vote 50 = .ok (.istore_n 3, 1) := by decide +kernel
theorem dX8_vote_51 : decode cX8_vote 51 = .ok (.iconst 0, 1) := by decide +kernel
theorem dX8_vote_52 : decode cX8_vote 52 = .ok (.istore 4, 2) := by decide +kernel
theorem dX8_vote_54 : decode cX8_vote 54 = .ok (.iload 4, 2) := by decide +kernel
theorem dX8_vote_56 : decode cX8_vote 56 = .ok (.aload_n 0, 1) := by decide +kernel
theorem dX8_vote_57 : decode cX8_vote 57 = .ok (.getfield 7, 3) := by decide +kernel
theorem dX8_vote_60 : decode cX8_vote 60 = .ok (.iconst 0, 1) := by decide +kernel
theorem dX8_vote_61 : decode cX8_vote 61 = .ok (.iaload, 1) := by decide +kernel
theorem dX8_vote_62 : decode cX8_vote 62 = .ok (.if_icmp .ge 32, 3) := by decide +kernel
theorem dX8_vote_65 : decode cX8_vote 65 = .ok (.iload_n 3, 1) := by decide +kernel
theorem dX8_vote_66 : decode cX8_vote 66 = .ok (.aload_n 0, 1) := by decide +kernel
theorem dX8_vote_67 : decode cX8_vote 67 = .ok (.getfield 7, 3) := by decide +kernel
theorem dX8_vote_70 : decode cX8_vote 70 = .ok (.iload 4, 2) := by decide +kernel
theorem dX8_vote_72 : decode cX8_vote 72 = .ok (.invokestatic 27, 3) := by decide +kernel
theorem dX8_vote_75 : decode cX8_vote 75 = .ok (.iconst 2, 1) := by decide +kernel
theorem dX8_vote_76 : decode cX8_vote 76 = .ok (.iadd, 1) := by decide +kernel
theorem dX8_vote_77 : decode cX8_vote 77 = .ok (.iaload, 1) := by decide +kernel
theorem dX8_vote_78 : decode cX8_vote 78 = .ok (.ifCond .le 7, 3) := by decide +kernel
theorem dX8_vote_81 : decode cX8_vote 81 = .ok (.iconst 1, 1) := by decide +kernel
theorem dX8_vote_82 : decode cX8_vote 82 = .ok (.goto 4, 3) := by decide +kernel
theorem dX8_vote_85 : decode cX8_vote 85 = .ok (.iconst 0, 1) := by decide +kernel
theorem dX8_vote_86 : decode cX8_vote 86 = .ok (.iadd, 1) := by decide +kernel
theorem dX8_vote_87 : decode cX8_vote 87 = .ok (.istore_n 3, 1) := by decide +kernel
theorem dX8_vote_88 : decode cX8_vote 88 = .ok (.iinc 4 1, 3) := by decide +kernel
theorem dX8_vote_91 : decode cX8_vote 91 = .ok (.goto (-37), 3) := by decide +kernel
theorem dX8_vote_94 : decode cX8_vote 94 = .ok (.iload_n 3, 1) := by decide +kernel
theorem dX8_vote_95 : decode cX8_vote 95 = .ok (.ireturn, 1) := by decide +kernel
theorem dX8_isTechnical_0 : decode cX8_isTechnical 0 = .ok (.iconst 0, 1) := by decide +kernel
theorem dX8_isTechnical_1 : decode cX8_isTechnical 1 = .ok (.istore_n 2, 1) := by decide +kernel
theorem dX8_isTechnical_2 : decode cX8_isTechnical 2 = .ok (.iconst 0, 1) := by decide +kernel
theorem dX8_isTechnical_3 : decode cX8_isTechnical 3 = .ok (.istore_n 3, 1) := by decide +kernel
theorem dX8_isTechnical_4 : decode cX8_isTechnical 4 = .ok (.iload_n 3, 1) := by decide +kernel
theorem dX8_isTechnical_5 : decode cX8_isTechnical 5 = .ok (.aload_n 0, 1) := by decide +kernel
theorem dX8_isTechnical_6 : decode cX8_isTechnical 6 = .ok (.getfield 7, 3) := by decide +kernel
theorem dX8_isTechnical_9 : decode cX8_isTechnical 9 = .ok (.bipush 9, 2) := by decide +kernel
theorem dX8_isTechnical_11 : decode cX8_isTechnical 11 = .ok (.iaload, 1) := by decide +kernel
theorem dX8_isTechnical_12 : decode cX8_isTechnical 12 = .ok (.if_icmp .ge 49, 3) := by decide +kernel
theorem dX8_isTechnical_15 : decode cX8_isTechnical 15 = .ok (.iload_n 2, 1) := by decide +kernel
theorem dX8_isTechnical_16 : decode cX8_isTechnical 16 = .ok (.ifCond .ne 33, 3) := by decide +kernel
theorem dX8_isTechnical_19 : decode cX8_isTechnical 19 = .ok (.aload_n 0, 1) := by decide +kernel
theorem dX8_isTechnical_20 : decode cX8_isTechnical 20 = .ok (.getfield 7, 3) := by decide +kernel
theorem dX8_isTechnical_23 : decode cX8_isTechnical 23 = .ok (.iload_n 3, 1) := by decide +kernel
theorem dX8_isTechnical_24 : decode cX8_isTechnical 24 = .ok (.invokestatic 48, 3) := by decide +kernel
theorem dX8_isTechnical_27 : decode cX8_isTechnical 27 = .ok (.iconst 0, 1) := by decide +kernel
theorem dX8_isTechnical_28 : decode cX8_isTechnical 28 = .ok (.iadd, 1) := by decide +kernel
theorem dX8_isTechnical_29 : decode cX8_isTechnical 29 = .ok (.iaload, 1) := by decide +kernel
theorem dX8_isTechnical_30 : decode cX8_isTechnical 30 = .ok (.iload_n 1, 1) := by decide +kernel
theorem dX8_isTechnical_31 : decode cX8_isTechnical 31 = .ok (.if_icmp .ne 22, 3) := by decide +kernel
theorem dX8_isTechnical_34 : decode cX8_isTechnical 34 = .ok (.aload_n 0, 1) := by decide +kernel
theorem dX8_isTechnical_35 : decode cX8_isTechnical 35 = .ok (.getfield 7, 3) := by decide +kernel
theorem dX8_isTechnical_38 : decode cX8_isTechnical 38 = .ok (.iload_n 3, 1) := by decide +kernel
theorem dX8_isTechnical_39 : decode cX8_isTechnical 39 = .ok (.invokestatic 48, 3) := by decide +kernel
theorem dX8_isTechnical_42 : decode cX8_isTechnical 42 = .ok (.iconst 2, 1) := by decide +kernel
theorem dX8_isTechnical_43 : decode cX8_isTechnical 43 = .ok (.iadd, 1) := by decide +kernel
theorem dX8_isTechnical_44 : decode cX8_isTechnical 44 = .ok (.iaload, 1) := by decide +kernel
theorem dX8_isTechnical_45 : decode cX8_isTechnical 45 = .ok (.iconst 1, 1) := by decide +kernel
theorem dX8_isTechnical_46 : decode cX8_isTechnical 46 = .ok (.if_icmp .ne 7, 3) := by decide +kernel
theorem dX8_isTechnical_49 : decode cX8_isTechnical 49 = .ok (.iconst 1, 1) := by decide +kernel
theorem dX8_isTechnical_50 : decode cX8_isTechnical 50 = .ok (.goto 4, 3) := by decide +kernel
theorem dX8_isTechnical_53 : decode cX8_isTechnical 53 = .ok (.iconst 0, 1) := by decide +kernel
theorem dX8_isTechnical_54 : decode cX8_isTechnical 54 = .ok (.istore_n 2, 1) := by decide +kernel
theorem dX8_isTechnical_55 : decode cX8_isTechnical 55 = .ok (.iinc 3 1, 3) := by decide +kernel
theorem dX8_isTechnical_58 : decode cX8_isTechnical 58 = .ok (.goto (-54), 3) := by decide +kernel
theorem dX8_isTechnical_61 : decode cX8_isTechnical 61 = .ok (.iload_n 2, 1) := by decide +kernel
theorem dX8_isTechnical_62 : decode cX8_isTechnical 62 = .ok (.ireturn, 1) := by decide +kernel
theorem dX8_carries_0 : decode cX8_carries 0 = .ok (.iload_n 1, 1) := by decide +kernel
theorem dX8_carries_1 : decode cX8_carries 1 = .ok (.ifCond .le 49, 3) := by decide +kernel
theorem dX8_carries_4 : decode cX8_carries 4 = .ok (.iload_n 2, 1) := by decide +kernel
theorem dX8_carries_5 : decode cX8_carries 5 = .ok (.bipush 100, 2) := by decide +kernel
theorem dX8_carries_7 : decode cX8_carries 7 = .ok (.imul, 1) := by decide +kernel
theorem dX8_carries_8 : decode cX8_carries 8 = .ok (.aload_n 0, 1) := by decide +kernel
theorem dX8_carries_9 : decode cX8_carries 9 = .ok (.getfield 7, 3) := by decide +kernel
theorem dX8_carries_12 : decode cX8_carries 12 = .ok (.bipush 12, 2) := by decide +kernel
theorem dX8_carries_14 : decode cX8_carries 14 = .ok (.iaload, 1) := by decide +kernel
theorem dX8_carries_15 : decode cX8_carries 15 = .ok (.iload_n 1, 1) := by decide +kernel
theorem dX8_carries_16 : decode cX8_carries 16 = .ok (.imul, 1) := by decide +kernel
theorem dX8_carries_17 : decode cX8_carries 17 = .ok (.if_icmp .lt 33, 3) := by decide +kernel
theorem dX8_carries_20 : decode cX8_carries 20 = .ok (.iload_n 3, 1) := by decide +kernel
theorem dX8_carries_21 : decode cX8_carries 21 = .ok (.iload 4, 2) := by decide +kernel
theorem dX8_carries_23 : decode cX8_carries 23 = .ok (.iadd, 1) := by decide +kernel
theorem dX8_carries_24 : decode cX8_carries 24 = .ok (.ifCond .le 26, 3) := by decide +kernel
theorem dX8_carries_27 : decode cX8_carries 27 = .ok (.iload_n 3, 1) := by decide +kernel
theorem dX8_carries_28 : decode cX8_carries 28 = .ok (.bipush 100, 2) := by decide +kernel
theorem dX8_carries_30 : decode cX8_carries 30 = .ok (.imul, 1) := by decide +kernel
theorem dX8_carries_31 : decode cX8_carries 31 = .ok (.aload_n 0, 1) := by decide +kernel
theorem dX8_carries_32 : decode cX8_carries 32 = .ok (.getfield 7, 3) := by decide +kernel
theorem dX8_carries_35 : decode cX8_carries 35 = .ok (.bipush 13, 2) := by decide +kernel
theorem dX8_carries_37 : decode cX8_carries 37 = .ok (.iaload, 1) := by decide +kernel
theorem dX8_carries_38 : decode cX8_carries 38 = .ok (.iload_n 3, 1) := by decide +kernel
theorem dX8_carries_39 : decode cX8_carries 39 = .ok (.iload 4, 2) := by decide +kernel
theorem dX8_carries_41 : decode cX8_carries 41 = .ok (.iadd, 1) := by decide +kernel
theorem dX8_carries_42 : decode cX8_carries 42 = .ok (.imul, 1) := by decide +kernel
theorem dX8_carries_43 : decode cX8_carries 43 = .ok (.if_icmp .lt 7, 3) := by decide +kernel
theorem dX8_carries_46 : decode cX8_carries 46 = .ok (.iconst 1, 1) := by decide +kernel
theorem dX8_carries_47 : decode cX8_carries 47 = .ok (.goto 4, 3) := by decide +kernel
theorem dX8_carries_50 : decode cX8_carries 50 = .ok (.iconst 0, 1) := by decide +kernel
theorem dX8_carries_51 : decode cX8_carries 51 = .ok (.ireturn, 1) := by decide +kernel
theorem dX8_tallies_0 : decode cX8_tallies 0 = .ok (.iconst 0, 1) := by decide +kernel
theorem dX8_tallies_1 : decode cX8_tallies 1 = .ok (.istore_n 1, 1) := by decide +kernel
theorem dX8_tallies_2 : decode cX8_tallies 2 = .ok (.iload_n 1, 1) := by decide +kernel
theorem dX8_tallies_3 : decode cX8_tallies 3 = .ok (.bipush 6, 2) := by decide +kernel
theorem dX8_tallies_5 : decode cX8_tallies 5 = .ok (.if_icmp .ge 19, 3) := by decide +kernel
theorem dX8_tallies_8 : decode cX8_tallies 8 = .ok (.aload_n 0, 1) := by decide +kernel
theorem dX8_tallies_9 : decode cX8_tallies 9 = .ok (.getfield 7, 3) := by decide +kernel
theorem dX8_tallies_12 : decode cX8_tallies 12 = .ok (.bipush 17, 2) := by decide +kernel
theorem dX8_tallies_14 : decode cX8_tallies 14 = .ok (.iload_n 1, 1) := by decide +kernel
theorem dX8_tallies_15 : decode cX8_tallies 15 = .ok (.iadd, 1) := by decide +kernel
theorem dX8_tallies_16 : decode cX8_tallies 16 = .ok (.iconst 0, 1) := by decide +kernel
theorem dX8_tallies_17 : decode cX8_tallies 17 = .ok (.iastore, 1) := by decide +kernel
theorem dX8_tallies_18 : decode cX8_tallies 18 = .ok (.iinc 1 1, 3) := by decide +kernel
theorem dX8_tallies_21 : decode cX8_tallies 21 = .ok (.goto (-19), 3) := by decide +kernel
theorem dX8_tallies_24 : decode cX8_tallies 24 = .ok (.aload_n 0, 1) := by decide +kernel
theorem dX8_tallies_25 : decode cX8_tallies 25 = .ok (.getfield 7, 3) := by decide +kernel
theorem dX8_tallies_28 : decode cX8_tallies 28 = .ok (.bipush 17, 2) := by decide +kernel
theorem dX8_tallies_30 : decode cX8_tallies 30 = .ok (.aload_n 0, 1) := by decide +kernel
theorem dX8_tallies_31 : decode cX8_tallies 31 = .ok (.invokevirtual 67, 3) := by decide +kernel
theorem dX8_tallies_34 : decode cX8_tallies 34 = .ok (.iastore, 1) := by decide +kernel
theorem dX8_tallies_35 : decode cX8_tallies 35 = .ok (.iconst 0, 1) := by decide +kernel
theorem dX8_tallies_36 : decode cX8_tallies 36 = .ok (.istore_n 1, 1) := by decide +kernel
theorem dX8_tallies_37 : decode cX8_tallies 37 = .ok (.iload_n 1, 1) := by decide +kernel
theorem dX8_tallies_38 : decode cX8_tallies 38 = .ok (.aload_n 0, 1) := by decide +kernel
theorem dX8_tallies_39 : decode cX8_tallies 39 = .ok (.getfield 7, 3) := by decide +kernel
theorem dX8_tallies_42 : decode cX8_tallies 42 = .ok (.iconst 0, 1) := by decide +kernel
theorem dX8_tallies_43 : decode cX8_tallies 43 = .ok (.iaload, 1) := by decide +kernel
theorem dX8_tallies_44 : decode cX8_tallies 44 = .ok (.if_icmp .ge 96, 3) := by decide +kernel
theorem dX8_tallies_47 : decode cX8_tallies 47 = .ok (.aload_n 0, 1) := by decide +kernel
theorem dX8_tallies_48 : decode cX8_tallies 48 = .ok (.getfield 7, 3) := by decide +kernel
theorem dX8_tallies_51 : decode cX8_tallies 51 = .ok (.iload_n 1, 1) := by decide +kernel
theorem dX8_tallies_52 : decode cX8_tallies 52 = .ok (.invokestatic 27, 3) := by decide +kernel
theorem dX8_tallies_55 : decode cX8_tallies 55 = .ok (.iconst 2, 1) := by decide +kernel
theorem dX8_tallies_56 : decode cX8_tallies 56 = .ok (.iadd, 1) := by decide +kernel
theorem dX8_tallies_57 : decode cX8_tallies 57 = .ok (.iaload, 1) := by decide +kernel
theorem dX8_tallies_58 : decode cX8_tallies 58 = .ok (.istore_n 2, 1) := by decide +kernel
theorem dX8_tallies_59 : decode cX8_tallies 59 = .ok (.iload_n 2, 1) := by decide +kernel
theorem dX8_tallies_60 : decode cX8_tallies 60 = .ok (.ifCond .le 74, 3) := by decide +kernel
theorem dX8_tallies_63 : decode cX8_tallies 63 = .ok (.aload_n 0, 1) := by decide +kernel
theorem dX8_tallies_64 : decode cX8_tallies 64 = .ok (.iload_n 1, 1) := by decide +kernel
theorem dX8_tallies_65 : decode cX8_tallies 65 = .ok (.invokevirtual 54, 3) := by decide +kernel
theorem dX8_tallies_68 : decode cX8_tallies 68 = .ok (.ifCond .ne 66, 3) := by decide +kernel
theorem dX8_tallies_71 : decode cX8_tallies 71 = .ok (.iload_n 2, 1) := by decide +kernel
theorem dX8_tallies_72 : decode cX8_tallies 72 = .ok (.iconst 2, 1) := by decide +kernel
theorem dX8_tallies_73 : decode cX8_tallies 73 = .ok (.if_icmp .ne 15, 3) := by decide +kernel
theorem dX8_tallies_76 : decode cX8_tallies 76 = .ok (.aload_n 0, 1) := by decide +kernel
theorem dX8_tallies_77 : decode cX8_tallies 77 = .ok (.iload_n 1, 1) := by decide +kernel
theorem dX8_tallies_78 : decode cX8_tallies 78 = .ok (.invokevirtual 73, 3) := by decide +kernel
theorem dX8_tallies_81 : decode cX8_tallies 81 = .ok (.ifCond .ne 7, 3) := by decide +kernel
theorem dX8_tallies_84 : decode cX8_tallies 84 = .ok (.iconst 3, 1) := by decide +kernel
theorem dX8_tallies_85 : decode cX8_tallies 85 = .ok (.goto 4, 3) := by decide +kernel
theorem dX8_tallies_88 : decode cX8_tallies 88 = .ok (.iload_n 2, 1) := by decide +kernel
theorem dX8_tallies_89 : decode cX8_tallies 89 = .ok (.istore_n 3, 1) := by decide +kernel
theorem dX8_tallies_90 : decode cX8_tallies 90 = .ok (.aload_n 0, 1) := by decide +kernel
theorem dX8_tallies_91 : decode cX8_tallies 91 = .ok (.getfield 7, 3) := by decide +kernel
theorem dX8_tallies_94 : decode cX8_tallies 94 = .ok (.bipush 18, 2) := by decide +kernel
theorem dX8_tallies_96 : decode cX8_tallies 96 = .ok (.dup2, 1) := by decide +kernel
theorem dX8_tallies_97 : decode cX8_tallies 97 = .ok (.iaload, 1) := by decide +kernel
theorem dX8_tallies_98 : decode cX8_tallies 98 = .ok (.aload_n 0, 1) := by decide +kernel
theorem dX8_tallies_99 : decode cX8_tallies 99 = .ok (.getfield 7, 3) := by decide +kernel
theorem dX8_tallies_102 : decode cX8_tallies 102 = .ok (.iload_n 1, 1) := by decide +kernel
theorem dX8_tallies_103 : decode cX8_tallies 103 = .ok (.invokestatic 27, 3) := by decide +kernel
theorem dX8_tallies_106 : decode cX8_tallies 106 = .ok (.iconst 0, 1) := by decide +kernel
theorem dX8_tallies_107 : decode cX8_tallies 107 = .ok (.iadd, 1) := by decide +kernel
theorem dX8_tallies_108 : decode cX8_tallies 108 = .ok (.iaload, 1) := by decide +kernel
theorem dX8_tallies_109 : decode cX8_tallies 109 = .ok (.iadd, 1) := by decide +kernel
theorem dX8_tallies_110 : decode cX8_tallies 110 = .ok (.iastore, 1) := by decide +kernel
theorem dX8_tallies_111 : decode cX8_tallies 111 = .ok (.aload_n 0, 1) := by decide +kernel
theorem dX8_tallies_112 : decode cX8_tallies 112 = .ok (.getfield 7, 3) := by decide +kernel
theorem dX8_tallies_115 : decode cX8_tallies 115 = .ok (.bipush 18, 2) := by decide +kernel
theorem dX8_tallies_117 : decode cX8_tallies 117 = .ok (.iload_n 3, 1) := by decide +kernel
theorem dX8_tallies_118 : decode cX8_tallies 118 = .ok (.iadd, 1) := by decide +kernel
theorem dX8_tallies_119 : decode cX8_tallies 119 = .ok (.dup2, 1) := by decide +kernel
theorem dX8_tallies_120 : decode cX8_tallies 120 = .ok (.iaload, 1) := by decide +kernel
theorem dX8_tallies_121 : decode cX8_tallies 121 = .ok (.aload_n 0, 1) := by decide +kernel
theorem dX8_tallies_122 : decode cX8_tallies 122 = .ok (.getfield 7, 3) := by decide +kernel
theorem dX8_tallies_125 : decode cX8_tallies 125 = .ok (.iload_n 1, 1) := by decide +kernel
theorem dX8_tallies_126 : decode cX8_tallies 126 = .ok (.invokestatic 27, 3) := by decide +kernel
theorem dX8_tallies_129 : decode cX8_tallies 129 = .ok (.iconst 0, 1) := by decide +kernel
theorem dX8_tallies_130 : decode cX8_tallies 130 = .ok (.iadd, 1) := by decide +kernel
theorem dX8_tallies_131 : decode cX8_tallies 131 = .ok (.iaload, 1) := by decide +kernel
theorem dX8_tallies_132 : decode cX8_tallies 132 = .ok (.iadd, 1) := by decide +kernel
theorem dX8_tallies_133 : decode cX8_tallies 133 = .ok (.iastore, 1) := by decide +kernel
theorem dX8_tallies_134 : decode cX8_tallies 134 = .ok (.iinc 1 1, 3) := by decide +kernel
theorem dX8_tallies_137 : decode cX8_tallies 137 = .ok (.goto (-100), 3) := by decide +kernel
theorem dX8_tallies_140 : decode cX8_tallies 140 = .ok (.aload_n 0, 1) := by decide +kernel
theorem dX8_tallies_141 : decode cX8_tallies 141 = .ok (.getfield 7, 3) := by decide +kernel
theorem dX8_tallies_144 : decode cX8_tallies 144 = .ok (.bipush 22, 2) := by decide +kernel
theorem dX8_tallies_146 : decode cX8_tallies 146 = .ok (.aload_n 0, 1) := by decide +kernel
theorem dX8_tallies_147 : decode cX8_tallies 147 = .ok (.aload_n 0, 1) := by decide +kernel
theorem dX8_tallies_148 : decode cX8_tallies 148 = .ok (.getfield 7, 3) := by decide +kernel
theorem dX8_tallies_151 : decode cX8_tallies 151 = .ok (.bipush 17, 2) := by decide +kernel
theorem dX8_tallies_153 : decode cX8_tallies 153 = .ok (.iaload, 1) := by decide +kernel
theorem dX8_tallies_154 : decode cX8_tallies 154 = .ok (.aload_n 0, 1) := by decide +kernel
theorem dX8_tallies_155 : decode cX8_tallies 155 = .ok (.getfield 7, 3) := by decide +kernel
theorem dX8_tallies_158 : decode cX8_tallies 158 = .ok (.bipush 18, 2) := by decide +kernel
theorem dX8_tallies_160 : decode cX8_tallies 160 = .ok (.iaload, 1) := by decide +kernel
theorem dX8_tallies_161 : decode cX8_tallies 161 = .ok (.aload_n 0, 1) := by decide +kernel
theorem dX8_tallies_162 : decode cX8_tallies 162 = .ok (.getfield 7, 3) := by decide +kernel
theorem dX8_tallies_165 : decode cX8_tallies 165 = .ok (.bipush 19, 2) := by decide +kernel
theorem dX8_tallies_167 : decode cX8_tallies 167 = .ok (.iaload, 1) := by decide +kernel
theorem dX8_tallies_168 : decode cX8_tallies 168 = .ok (.aload_n 0, 1) := by decide +kernel
theorem dX8_tallies_169 : decode cX8_tallies 169 = .ok (.getfield 7, 3) := by decide +kernel
theorem dX8_tallies_172 : decode cX8_tallies 172 = .ok (.bipush 20, 2) := by decide +kernel
theorem dX8_tallies_174 : decode cX8_tallies 174 = .ok (.iaload, 1) := by decide +kernel
theorem dX8_tallies_175 : decode cX8_tallies 175 = .ok (.invokevirtual 76, 3) := by decide +kernel
theorem dX8_tallies_178 : decode cX8_tallies 178 = .ok (.ifCond .eq 7, 3) := by decide +kernel
theorem dX8_tallies_181 : decode cX8_tallies 181 = .ok (.iconst 1, 1) := by decide +kernel
theorem dX8_tallies_182 : decode cX8_tallies 182 = .ok (.goto 4, 3) := by decide +kernel
theorem dX8_tallies_185 : decode cX8_tallies 185 = .ok (.iconst 0, 1) := by decide +kernel
theorem dX8_tallies_186 : decode cX8_tallies 186 = .ok (.iastore, 1) := by decide +kernel
theorem dX8_tallies_187 : decode cX8_tallies 187 = .ok (.return_, 1) := by decide +kernel
theorem dX8_ends_0 : decode cX8_ends 0 = .ok (.aload_n 0, 1) := by decide +kernel
theorem dX8_ends_1 : decode cX8_ends 1 = .ok (.invokevirtual 80, 3) := by decide +kernel
theorem dX8_ends_4 : decode cX8_ends 4 = .ok (.iconst 0, 1) := by decide +kernel
theorem dX8_ends_5 : decode cX8_ends 5 = .ok (.istore_n 1, 1) := by decide +kernel
theorem dX8_ends_6 : decode cX8_ends 6 = .ok (.iload_n 1, 1) := by decide +kernel
theorem dX8_ends_7 : decode cX8_ends 7 = .ok (.aload_n 0, 1) := by decide +kernel
theorem dX8_ends_8 : decode cX8_ends 8 = .ok (.getfield 7, 3) := by decide +kernel
theorem dX8_ends_11 : decode cX8_ends 11 = .ok (.iconst 0, 1) := by decide +kernel
theorem dX8_ends_12 : decode cX8_ends 12 = .ok (.iaload, 1) := by decide +kernel
theorem dX8_ends_13 : decode cX8_ends 13 = .ok (.if_icmp .ge 74, 3) := by decide +kernel
theorem dX8_ends_16 : decode cX8_ends 16 = .ok (.iload_n 1, 1) := by decide +kernel
theorem dX8_ends_17 : decode cX8_ends 17 = .ok (.invokestatic 27, 3) := by decide +kernel
theorem dX8_ends_20 : decode cX8_ends 20 = .ok (.istore_n 2, 1) := by decide +kernel
theorem dX8_ends_21 : decode cX8_ends 21 = .ok (.aload_n 0, 1) := by decide +kernel
theorem dX8_ends_22 : decode cX8_ends 22 = .ok (.getfield 7, 3) := by decide +kernel
theorem dX8_ends_25 : decode cX8_ends 25 = .ok (.iload_n 2, 1) := by decide +kernel
theorem dX8_ends_26 : decode cX8_ends 26 = .ok (.iconst 1, 1) := by decide +kernel
theorem dX8_ends_27 : decode cX8_ends 27 = .ok (.iadd, 1) := by decide +kernel
theorem dX8_ends_28 : decode cX8_ends 28 = .ok (.aload_n 0, 1) := by decide +kernel
theorem dX8_ends_29 : decode cX8_ends 29 = .ok (.getfield 7, 3) := by decide +kernel
theorem dX8_ends_32 : decode cX8_ends 32 = .ok (.iload_n 2, 1) := by decide +kernel
theorem dX8_ends_33 : decode cX8_ends 33 = .ok (.iconst 2, 1) := by decide +kernel
theorem dX8_ends_34 : decode cX8_ends 34 = .ok (.iadd, 1) := by decide +kernel
theorem dX8_ends_35 : decode cX8_ends 35 = .ok (.iaload, 1) := by decide +kernel
theorem dX8_ends_36 : decode cX8_ends 36 = .ok (.ifCond .ne 16, 3) := by decide +kernel
theorem dX8_ends_39 : decode cX8_ends 39 = .ok (.aload_n 0, 1) := by decide +kernel
theorem dX8_ends_40 : decode cX8_ends 40 = .ok (.getfield 7, 3) := by decide +kernel
theorem dX8_ends_43 : decode cX8_ends 43 = .ok (.iload_n 2, 1) := by decide +kernel
theorem dX8_ends_44 : decode cX8_ends 44 = .ok (.iconst 1, 1) := by decide +kernel
theorem dX8_ends_45 : decode cX8_ends 45 = .ok (.iadd, 1) := by decide +kernel
theorem dX8_ends_46 : decode cX8_ends 46 = .ok (.iaload, 1) := by decide +kernel
theorem dX8_ends_47 : decode cX8_ends 47 = .ok (.iconst 1, 1) := by decide +kernel
theorem dX8_ends_48 : decode cX8_ends 48 = .ok (.iadd, 1) := by decide +kernel
theorem dX8_ends_49 : decode cX8_ends 49 = .ok (.goto 4, 3) := by decide +kernel
theorem dX8_ends_52 : decode cX8_ends 52 = .ok (.iconst 0, 1) := by decide +kernel
theorem dX8_ends_53 : decode cX8_ends 53 = .ok (.iastore, 1) := by decide +kernel
theorem dX8_ends_54 : decode cX8_ends 54 = .ok (.aload_n 0, 1) := by decide +kernel
theorem dX8_ends_55 : decode cX8_ends 55 = .ok (.getfield 7, 3) := by decide +kernel
theorem dX8_ends_58 : decode cX8_ends 58 = .ok (.iload_n 2, 1) := by decide +kernel
theorem dX8_ends_59 : decode cX8_ends 59 = .ok (.iconst 3, 1) := by decide +kernel
theorem dX8_ends_60 : decode cX8_ends 60 = .ok (.iadd, 1) := by decide +kernel
theorem dX8_ends_61 : decode cX8_ends 61 = .ok (.dup2, 1) := by decide +kernel
theorem dX8_ends_62 : decode cX8_ends 62 = .ok (.iaload, 1) := by decide +kernel
theorem dX8_ends_63 : decode cX8_ends 63 = .ok (.aload_n 0, 1) := by decide +kernel
theorem dX8_ends_64 : decode cX8_ends 64 = .ok (.getfield 7, 3) := by decide +kernel
theorem dX8_ends_67 : decode cX8_ends 67 = .ok (.iload_n 2, 1) := by decide +kernel
theorem dX8_ends_68 : decode cX8_ends 68 = .ok (.iconst 2, 1) := by decide +kernel
theorem dX8_ends_69 : decode cX8_ends 69 = .ok (.iadd, 1) := by decide +kernel
theorem dX8_ends_70 : decode cX8_ends 70 = .ok (.iaload, 1) := by decide +kernel
theorem dX8_ends_71 : decode cX8_ends 71 = .ok (.ifCond .ne 7, 3) := by decide +kernel
theorem dX8_ends_74 : decode cX8_ends 74 = .ok (.iconst 0, 1) := by decide +kernel
theorem dX8_ends_75 : decode cX8_ends 75 = .ok (.goto 4, 3) := by decide +kernel
theorem dX8_ends_78 : decode cX8_ends 78 = .ok (.iconst 1, 1) := by decide +kernel
theorem dX8_ends_79 : decode cX8_ends 79 = .ok (.iadd, 1) := by decide +kernel
theorem dX8_ends_80 : decode cX8_ends 80 = .ok (.iastore, 1) := by decide +kernel
theorem dX8_ends_81 : decode cX8_ends 81 = .ok (.iinc 1 1, 3) := by decide +kernel
theorem dX8_ends_84 : decode cX8_ends 84 = .ok (.goto (-78), 3) := by decide +kernel
theorem dX8_ends_87 : decode cX8_ends 87 = .ok (.aload_n 0, 1) := by decide +kernel
theorem dX8_ends_88 : decode cX8_ends 88 = .ok (.getfield 7, 3) := by decide +kernel
theorem dX8_ends_91 : decode cX8_ends 91 = .ok (.iconst 4, 1) := by decide +kernel
theorem dX8_ends_92 : decode cX8_ends 92 = .ok (.iconst 0, 1) := by decide +kernel
theorem dX8_ends_93 : decode cX8_ends 93 = .ok (.iastore, 1) := by decide +kernel
theorem dX8_ends_94 : decode cX8_ends 94 = .ok (.aload_n 0, 1) := by decide +kernel
theorem dX8_ends_95 : decode cX8_ends 95 = .ok (.getfield 7, 3) := by decide +kernel
theorem dX8_ends_98 : decode cX8_ends 98 = .ok (.bipush 8, 2) := by decide +kernel
theorem dX8_ends_100 : decode cX8_ends 100 = .ok (.aload_n 0, 1) := by decide +kernel
theorem dX8_ends_101 : decode cX8_ends 101 = .ok (.getfield 7, 3) := by decide +kernel
theorem dX8_ends_104 : decode cX8_ends 104 = .ok (.bipush 22, 2) := by decide +kernel
theorem dX8_ends_106 : decode cX8_ends 106 = .ok (.iaload, 1) := by decide +kernel
theorem dX8_ends_107 : decode cX8_ends 107 = .ok (.iastore, 1) := by decide +kernel
theorem dX8_ends_108 : decode cX8_ends 108 = .ok (.aload_n 0, 1) := by decide +kernel
theorem dX8_ends_109 : decode cX8_ends 109 = .ok (.getfield 7, 3) := by decide +kernel
theorem dX8_ends_112 : decode cX8_ends 112 = .ok (.bipush 9, 2) := by decide +kernel
theorem dX8_ends_114 : decode cX8_ends 114 = .ok (.aload_n 0, 1) := by decide +kernel
theorem dX8_ends_115 : decode cX8_ends 115 = .ok (.getfield 7, 3) := by decide +kernel
theorem dX8_ends_118 : decode cX8_ends 118 = .ok (.bipush 8, 2) := by decide +kernel
theorem dX8_ends_120 : decode cX8_ends 120 = .ok (.iaload, 1) := by decide +kernel
theorem dX8_ends_121 : decode cX8_ends 121 = .ok (.ifCond .ne 7, 3) := by decide +kernel
theorem dX8_ends_124 : decode cX8_ends 124 = .ok (.iconst 0, 1) := by decide +kernel
theorem dX8_ends_125 : decode cX8_ends 125 = .ok (.goto 10, 3) := by decide +kernel
theorem dX8_ends_128 : decode cX8_ends 128 = .ok (.aload_n 0, 1) := by decide +kernel
theorem dX8_ends_129 : decode cX8_ends 129 = .ok (.getfield 7, 3) := by decide +kernel
theorem dX8_ends_132 : decode cX8_ends 132 = .ok (.bipush 9, 2) := by decide +kernel
theorem dX8_ends_134 : decode cX8_ends 134 = .ok (.iaload, 1) := by decide +kernel
theorem dX8_ends_135 : decode cX8_ends 135 = .ok (.iastore, 1) := by decide +kernel
theorem dX8_ends_136 : decode cX8_ends 136 = .ok (.iconst 0, 1) := by decide +kernel
theorem dX8_ends_137 : decode cX8_ends 137 = .ok (.istore_n 1, 1) := by decide +kernel
theorem dX8_ends_138 : decode cX8_ends 138 = .ok (.iload_n 1, 1) := by decide +kernel
theorem dX8_ends_139 : decode cX8_ends 139 = .ok (.aload_n 0, 1) := by decide +kernel
theorem dX8_ends_140 : decode cX8_ends 140 = .ok (.getfield 7, 3) := by decide +kernel
theorem dX8_ends_143 : decode cX8_ends 143 = .ok (.bipush 9, 2) := by decide +kernel
theorem dX8_ends_145 : decode cX8_ends 145 = .ok (.iaload, 1) := by decide +kernel
theorem dX8_ends_146 : decode cX8_ends 146 = .ok (.if_icmp .ge 21, 3) := by decide +kernel
theorem dX8_ends_149 : decode cX8_ends 149 = .ok (.aload_n 0, 1) := by decide +kernel
theorem dX8_ends_150 : decode cX8_ends 150 = .ok (.getfield 7, 3) := by decide +kernel
theorem dX8_ends_153 : decode cX8_ends 153 = .ok (.iload_n 1, 1) := by decide +kernel
theorem dX8_ends_154 : decode cX8_ends 154 = .ok (.invokestatic 48, 3) := by decide +kernel
theorem dX8_ends_157 : decode cX8_ends 157 = .ok (.iconst 4, 1) := by decide +kernel
theorem dX8_ends_158 : decode cX8_ends 158 = .ok (.iadd, 1) := by decide +kernel
theorem dX8_ends_159 : decode cX8_ends 159 = .ok (.iconst 1, 1) := by decide +kernel
theorem dX8_ends_160 : decode cX8_ends 160 = .ok (.iastore, 1) := by decide +kernel
theorem dX8_ends_161 : decode cX8_ends 161 = .ok (.iinc 1 1, 3) := by decide +kernel
theorem dX8_ends_164 : decode cX8_ends 164 = .ok (.goto (-26), 3) := by decide +kernel
theorem dX8_ends_167 : decode cX8_ends 167 = .ok (.aload_n 0, 1) := by decide +kernel
theorem dX8_ends_168 : decode cX8_ends 168 = .ok (.getfield 7, 3) := by decide +kernel
theorem dX8_ends_171 : decode cX8_ends 171 = .ok (.bipush 8, 2) := by decide +kernel
theorem dX8_ends_173 : decode cX8_ends 173 = .ok (.iaload, 1) := by decide +kernel
theorem dX8_ends_174 : decode cX8_ends 174 = .ok (.iconst 1, 1) := by decide +kernel
theorem dX8_ends_175 : decode cX8_ends 175 = .ok (.if_icmp .ne 7, 3) := by decide +kernel
theorem dX8_ends_178 : decode cX8_ends 178 = .ok (.iconst 1, 1) := by decide +kernel
theorem dX8_ends_179 : decode cX8_ends 179 = .ok (.goto 4, 3) := by decide +kernel
theorem dX8_ends_182 : decode cX8_ends 182 = .ok (.iconst 0, 1) := by decide +kernel
theorem dX8_ends_183 : decode cX8_ends 183 = .ok (.ireturn, 1) := by decide +kernel
theorem dX8_pass_0 : decode cX8_pass 0 = .ok (.iload_n 1, 1) := by decide +kernel
theorem dX8_pass_1 : decode cX8_pass 1 = .ok (.iconst 1, 1) := by decide +kernel
theorem dX8_pass_2 : decode cX8_pass 2 = .ok (.sipush 365, 3) := by decide +kernel
theorem dX8_pass_5 : decode cX8_pass 5 = .ok (.invokestatic 23, 3) := by decide +kernel
theorem dX8_pass_8 : decode cX8_pass 8 = .ok (.ifCond .ne 5, 3) := by decide +kernel
theorem dX8_pass_11 : decode cX8_pass 11 = .ok (.iconst (-1), 1) := by decide +kernel
theorem dX8_pass_12 : decode cX8_pass 12 = .ok (.ireturn, 1) := by decide +kernel
theorem dX8_pass_13 : decode cX8_pass 13 = .ok (.aload_n 0, 1) := by decide +kernel
theorem dX8_pass_14 : decode cX8_pass 14 = .ok (.getfield 7, 3) := by decide +kernel
theorem dX8_pass_17 : decode cX8_pass 17 = .ok (.iconst 3, 1) := by decide +kernel
theorem dX8_pass_18 : decode cX8_pass 18 = .ok (.iaload, 1) := by decide +kernel
theorem dX8_pass_19 : decode cX8_pass 19 = .ok (.iload_n 1, 1) := by decide +kernel
theorem dX8_pass_20 : decode cX8_pass 20 = .ok (.iadd, 1) := by decide +kernel
theorem dX8_pass_21 : decode cX8_pass 21 = .ok (.sipush 10000, 3) := by decide +kernel
theorem dX8_pass_24 : decode cX8_pass 24 = .ok (.if_icmp .le 6, 3) := by decide +kernel
theorem dX8_pass_27 : decode cX8_pass 27 = .ok (.bipush (-3), 2) := by decide +kernel
theorem dX8_pass_29 : decode cX8_pass 29 = .ok (.ireturn, 1) := by decide +kernel
theorem dX8_pass_30 : decode cX8_pass 30 = .ok (.aload_n 0, 1) := by decide +kernel
theorem dX8_pass_31 : decode cX8_pass 31 = .ok (.invokevirtual 31, 3) := by decide +kernel
theorem dX8_pass_34 : decode cX8_pass 34 = .ok (.aload_n 0, 1) := by decide +kernel
theorem dX8_pass_35 : decode cX8_pass 35 = .ok (.getfield 7, 3) := by decide +kernel
theorem dX8_pass_38 : decode cX8_pass 38 = .ok (.iconst 3, 1) := by decide +kernel
theorem dX8_pass_39 : decode cX8_pass 39 = .ok (.dup2, 1) := by decide +kernel
theorem dX8_pass_40 : decode cX8_pass 40 = .ok (.iaload, 1) := by decide +kernel
theorem dX8_pass_41 : decode cX8_pass 41 = .ok (.iload_n 1, 1) := by decide +kernel
theorem dX8_pass_42 : decode cX8_pass 42 = .ok (.iadd, 1) := by decide +kernel
theorem dX8_pass_43 : decode cX8_pass 43 = .ok (.iastore, 1) := by decide +kernel
theorem dX8_pass_44 : decode cX8_pass 44 = .ok (.aload_n 0, 1) := by decide +kernel
theorem dX8_pass_45 : decode cX8_pass 45 = .ok (.getfield 7, 3) := by decide +kernel
theorem dX8_pass_48 : decode cX8_pass 48 = .ok (.iconst 4, 1) := by decide +kernel
theorem dX8_pass_49 : decode cX8_pass 49 = .ok (.iaload, 1) := by decide +kernel
theorem dX8_pass_50 : decode cX8_pass 50 = .ok (.iconst 1, 1) := by decide +kernel
theorem dX8_pass_51 : decode cX8_pass 51 = .ok (.if_icmp .ne 31, 3) := by decide +kernel
theorem dX8_pass_54 : decode cX8_pass 54 = .ok (.aload_n 0, 1) := by decide +kernel
theorem dX8_pass_55 : decode cX8_pass 55 = .ok (.getfield 7, 3) := by decide +kernel
theorem dX8_pass_58 : decode cX8_pass 58 = .ok (.iconst 3, 1) := by decide +kernel
theorem dX8_pass_59 : decode cX8_pass 59 = .ok (.iaload, 1) := by decide +kernel
theorem dX8_pass_60 : decode cX8_pass 60 = .ok (.aload_n 0, 1) := by decide +kernel
theorem dX8_pass_61 : decode cX8_pass 61 = .ok (.getfield 7, 3) := by decide +kernel
theorem dX8_pass_64 : decode cX8_pass 64 = .ok (.bipush 6, 2) := by decide +kernel
theorem dX8_pass_66 : decode cX8_pass 66 = .ok (.iaload, 1) := by decide +kernel
theorem dX8_pass_67 : decode cX8_pass 67 = .ok (.isub, 1) := by decide +kernel
theorem dX8_pass_68 : decode cX8_pass 68 = .ok (.aload_n 0, 1) := by decide +kernel
theorem dX8_pass_69 : decode cX8_pass 69 = .ok (.getfield 7, 3) := by decide +kernel
theorem dX8_pass_72 : decode cX8_pass 72 = .ok (.bipush 7, 2) := by decide +kernel
theorem dX8_pass_74 : decode cX8_pass 74 = .ok (.iaload, 1) := by decide +kernel
theorem dX8_pass_75 : decode cX8_pass 75 = .ok (.if_icmp .lt 7, 3) := by decide +kernel
theorem dX8_pass_78 : decode cX8_pass 78 = .ok (.iconst 1, 1) := by decide +kernel
theorem dX8_pass_79 : decode cX8_pass 79 = .ok (.goto 4, 3) := by decide +kernel
theorem dX8_pass_82 : decode cX8_pass 82 = .ok (.iconst 0, 1) := by decide +kernel
theorem dX8_pass_83 : decode cX8_pass 83 = .ok (.istore_n 2, 1) := by decide +kernel
theorem dX8_pass_84 : decode cX8_pass 84 = .ok (.iload_n 2, 1) := by decide +kernel
theorem dX8_pass_85 : decode cX8_pass 85 = .ok (.ifCond .ne 7, 3) := by decide +kernel
theorem dX8_pass_88 : decode cX8_pass 88 = .ok (.iconst 0, 1) := by decide +kernel
theorem dX8_pass_89 : decode cX8_pass 89 = .ok (.goto 15, 3) := by decide +kernel
theorem dX8_pass_92 : decode cX8_pass 92 = .ok (.aload_n 0, 1) := by decide +kernel
theorem dX8_pass_93 : decode cX8_pass 93 = .ok (.invokevirtual 83, 3) := by decide +kernel
theorem dX8_pass_96 : decode cX8_pass 96 = .ok (.ifCond .eq 7, 3) := by decide +kernel
theorem dX8_pass_99 : decode cX8_pass 99 = .ok (.iconst 2, 1) := by decide +kernel
theorem dX8_pass_100 : decode cX8_pass 100 = .ok (.goto 4, 3) := by decide +kernel
theorem dX8_pass_103 : decode cX8_pass 103 = .ok (.iconst 1, 1) := by decide +kernel
theorem dX8_pass_104 : decode cX8_pass 104 = .ok (.ireturn, 1) := by decide +kernel
theorem dX8_tally_0 : decode cX8_tally 0 = .ok (.iload_n 1, 1) := by decide +kernel
theorem dX8_tally_1 : decode cX8_tally 1 = .ok (.iconst 0, 1) := by decide +kernel
theorem dX8_tally_2 : decode cX8_tally 2 = .ok (.iconst 5, 1) := by decide +kernel
theorem dX8_tally_3 : decode cX8_tally 3 = .ok (.invokestatic 23, 3) := by decide +kernel
theorem dX8_tally_6 : decode cX8_tally 6 = .ok (.ifCond .ne 5, 3) := by decide +kernel
theorem dX8_tally_9 : decode cX8_tally 9 = .ok (.iconst (-1), 1) := by decide +kernel
theorem dX8_tally_10 : decode cX8_tally 10 = .ok (.ireturn, 1) := by decide +kernel
theorem dX8_tally_11 : decode cX8_tally 11 = .ok (.aload_n 0, 1) := by decide +kernel
theorem dX8_tally_12 : decode cX8_tally 12 = .ok (.getfield 7, 3) := by decide +kernel
theorem dX8_tally_15 : decode cX8_tally 15 = .ok (.iconst 5, 1) := by decide +kernel
theorem dX8_tally_16 : decode cX8_tally 16 = .ok (.iaload, 1) := by decide +kernel
theorem dX8_tally_17 : decode cX8_tally 17 = .ok (.ifCond .ne 6, 3) := by decide +kernel
theorem dX8_tally_20 : decode cX8_tally 20 = .ok (.bipush (-4), 2) := by decide +kernel
theorem dX8_tally_22 : decode cX8_tally 22 = .ok (.ireturn, 1) := by decide +kernel
theorem dX8_tally_23 : decode cX8_tally 23 = .ok (.aload_n 0, 1) := by decide +kernel
theorem dX8_tally_24 : decode cX8_tally 24 = .ok (.getfield 7, 3) := by decide +kernel
theorem dX8_tally_27 : decode cX8_tally 27 = .ok (.iconst 4, 1) := by decide +kernel
theorem dX8_tally_28 : decode cX8_tally 28 = .ok (.iaload, 1) := by decide +kernel
theorem dX8_tally_29 : decode cX8_tally 29 = .ok (.iconst 1, 1) := by decide +kernel
theorem dX8_tally_30 : decode cX8_tally 30 = .ok (.if_icmp .ne 7, 3) := by decide +kernel
theorem dX8_tally_33 : decode cX8_tally 33 = .ok (.aload_n 0, 1) := by decide +kernel
theorem dX8_tally_34 : decode cX8_tally 34 = .ok (.invokevirtual 80, 3) := by decide +kernel
theorem dX8_tally_37 : decode cX8_tally 37 = .ok (.aload_n 0, 1) := by decide +kernel
theorem dX8_tally_38 : decode cX8_tally 38 = .ok (.getfield 7, 3) := by decide +kernel
theorem dX8_tally_41 : decode cX8_tally 41 = .ok (.bipush 17, 2) := by decide +kernel
theorem dX8_tally_43 : decode cX8_tally 43 = .ok (.iload_n 1, 1) := by decide +kernel
theorem dX8_tally_44 : decode cX8_tally 44 = .ok (.iadd, 1) := by decide +kernel
theorem dX8_tally_45 : decode cX8_tally 45 = .ok (.iaload, 1) := by decide +kernel
theorem dX8_tally_46 : decode cX8_tally 46 = .ok (.ireturn, 1) := by decide +kernel
theorem dX8_lacking_0 : decode cX8_lacking 0 = .ok (.aload_n 0, 1) := by decide +kernel
theorem dX8_lacking_1 : decode cX8_lacking 1 = .ok (.getfield 7, 3) := by decide +kernel
theorem dX8_lacking_4 : decode cX8_lacking 4 = .ok (.iconst 4, 1) := by decide +kernel
theorem dX8_lacking_5 : decode cX8_lacking 5 = .ok (.iaload, 1) := by decide +kernel
theorem dX8_lacking_6 : decode cX8_lacking 6 = .ok (.ifCond .ne 6, 3) := by decide +kernel
theorem dX8_lacking_9 : decode cX8_lacking 9 = .ok (.bipush (-2), 2) := by decide +kernel
theorem dX8_lacking_11 : decode cX8_lacking 11 = .ok (.ireturn, 1) := by decide +kernel
theorem dX8_lacking_12 : decode cX8_lacking 12 = .ok (.aload_n 0, 1) := by decide +kernel
theorem dX8_lacking_13 : decode cX8_lacking 13 = .ok (.invokevirtual 80, 3) := by decide +kernel
theorem dX8_lacking_16 : decode cX8_lacking 16 = .ok (.aload_n 0, 1) := by decide +kernel
theorem dX8_lacking_17 : decode cX8_lacking 17 = .ok (.getfield 7, 3) := by decide +kernel
theorem dX8_lacking_20 : decode cX8_lacking 20 = .ok (.bipush 17, 2) := by decide +kernel
theorem dX8_lacking_22 : decode cX8_lacking 22 = .ok (.iaload, 1) := by decide +kernel
theorem dX8_lacking_23 : decode cX8_lacking 23 = .ok (.istore_n 1, 1) := by decide +kernel
theorem dX8_lacking_24 : decode cX8_lacking 24 = .ok (.aload_n 0, 1) := by decide +kernel
theorem dX8_lacking_25 : decode cX8_lacking 25 = .ok (.getfield 7, 3) := by decide +kernel
theorem dX8_lacking_28 : decode cX8_lacking 28 = .ok (.bipush 20, 2) := by decide +kernel
theorem dX8_lacking_30 : decode cX8_lacking 30 = .ok (.iaload, 1) := by decide +kernel
theorem dX8_lacking_31 : decode cX8_lacking 31 = .ok (.istore_n 2, 1) := by decide +kernel
theorem dX8_lacking_32 : decode cX8_lacking 32 = .ok (.iload_n 1, 1) := by decide +kernel
theorem dX8_lacking_33 : decode cX8_lacking 33 = .ok (.ifCond .eq 19, 3) := by decide +kernel
theorem dX8_lacking_36 : decode cX8_lacking 36 = .ok (.aload_n 0, 1) := by decide +kernel
theorem dX8_lacking_37 : decode cX8_lacking 37 = .ok (.getfield 7, 3) := by decide +kernel
theorem dX8_lacking_40 : decode cX8_lacking 40 = .ok (.bipush 13, 2) := by decide +kernel
theorem dX8_lacking_42 : decode cX8_lacking 42 = .ok (.iaload, 1) := by decide +kernel
theorem dX8_lacking_43 : decode cX8_lacking 43 = .ok (.bipush 100, 2) := by decide +kernel
theorem dX8_lacking_45 : decode cX8_lacking 45 = .ok (.if_icmp .ne 10, 3) := by decide +kernel
theorem dX8_lacking_48 : decode cX8_lacking 48 = .ok (.iload_n 2, 1) := by decide +kernel
theorem dX8_lacking_49 : decode cX8_lacking 49 = .ok (.ifCond .le 6, 3) := by decide +kernel
theorem dX8_lacking_52 : decode cX8_lacking 52 = .ok (.bipush (-4), 2) := by decide +kernel
theorem dX8_lacking_54 : decode cX8_lacking 54 = .ok (.ireturn, 1) := by decide +kernel
theorem dX8_lacking_55 : decode cX8_lacking 55 = .ok (.iconst 0, 1) := by decide +kernel
theorem dX8_lacking_56 : decode cX8_lacking 56 = .ok (.istore_n 3, 1) := by decide +kernel
theorem dX8_lacking_57 : decode cX8_lacking 57 = .ok (.aload_n 0, 1) := by decide +kernel
theorem dX8_lacking_58 : decode cX8_lacking 58 = .ok (.iload_n 1, 1) := by decide +kernel
theorem dX8_lacking_59 : decode cX8_lacking 59 = .ok (.aload_n 0, 1) := by decide +kernel
theorem dX8_lacking_60 : decode cX8_lacking 60 = .ok (.getfield 7, 3) := by decide +kernel
theorem dX8_lacking_63 : decode cX8_lacking 63 = .ok (.bipush 18, 2) := by decide +kernel
theorem dX8_lacking_65 : decode cX8_lacking 65 = .ok (.iaload, 1) := by decide +kernel
theorem dX8_lacking_66 : decode cX8_lacking 66 = .ok (.iload_n 3, 1) := by decide +kernel
theorem dX8_lacking_67 : decode cX8_lacking 67 = .ok (.iadd, 1) := by decide +kernel
theorem dX8_lacking_68 : decode cX8_lacking 68 = .ok (.aload_n 0, 1) := by decide +kernel
theorem dX8_lacking_69 : decode cX8_lacking 69 = .ok (.getfield 7, 3) := by decide +kernel
theorem dX8_lacking_72 : decode cX8_lacking 72 = .ok (.bipush 19, 2) := by decide +kernel
theorem dX8_lacking_74 : decode cX8_lacking 74 = .ok (.iaload, 1) := by decide +kernel
theorem dX8_lacking_75 : decode cX8_lacking 75 = .ok (.iload_n 3, 1) := by decide +kernel
theorem dX8_lacking_76 : decode cX8_lacking 76 = .ok (.iadd, 1) := by decide +kernel
theorem dX8_lacking_77 : decode cX8_lacking 77 = .ok (.iload_n 2, 1) := by decide +kernel
theorem dX8_lacking_78 : decode cX8_lacking 78 = .ok (.invokevirtual 76, 3) := by decide +kernel
theorem dX8_lacking_81 : decode cX8_lacking 81 = .ok (.ifCond .ne 9, 3) := by decide +kernel
theorem dX8_lacking_84 : decode cX8_lacking 84 = .ok (.iinc 3 1, 3) := by decide +kernel
theorem dX8_lacking_87 : decode cX8_lacking 87 = .ok (.goto (-30), 3) := by decide +kernel
theorem dX8_lacking_90 : decode cX8_lacking 90 = .ok (.iload_n 3, 1) := by decide +kernel
theorem dX8_lacking_91 : decode cX8_lacking 91 = .ok (.ireturn, 1) := by decide +kernel
theorem dX8_commentAt_0 : decode cX8_commentAt 0 = .ok (.sipush 973, 3) := by decide +kernel
theorem dX8_commentAt_3 : decode cX8_commentAt 3 = .ok (.bipush 8, 2) := by decide +kernel
theorem dX8_commentAt_5 : decode cX8_commentAt 5 = .ok (.iload_n 0, 1) := by decide +kernel
theorem dX8_commentAt_6 : decode cX8_commentAt 6 = .ok (.imul, 1) := by decide +kernel
theorem dX8_commentAt_7 : decode cX8_commentAt 7 = .ok (.iadd, 1) := by decide +kernel
theorem dX8_commentAt_8 : decode cX8_commentAt 8 = .ok (.ireturn, 1) := by decide +kernel
theorem dX8_isComment_0 : decode cX8_isComment 0 = .ok (.iload_n 1, 1) := by decide +kernel
theorem dX8_isComment_1 : decode cX8_isComment 1 = .ok (.iconst 0, 1) := by decide +kernel
theorem dX8_isComment_2 : decode cX8_isComment 2 = .ok (.aload_n 0, 1) := by decide +kernel
theorem dX8_isComment_3 : decode cX8_isComment 3 = .ok (.getfield 7, 3) := by decide +kernel
theorem dX8_isComment_6 : decode cX8_isComment 6 = .ok (.bipush 9, 2) := by decide +kernel
theorem dX8_isComment_8 : decode cX8_isComment 8 = .ok (.iaload, 1) := by decide +kernel
theorem dX8_isComment_9 : decode cX8_isComment 9 = .ok (.iconst 1, 1) := by decide +kernel
theorem dX8_isComment_10 : decode cX8_isComment 10 = .ok (.isub, 1) := by decide +kernel
theorem dX8_isComment_11 : decode cX8_isComment 11 = .ok (.invokestatic 23, 3) := by decide +kernel
theorem dX8_isComment_14 : decode cX8_isComment 14 = .ok (.ireturn, 1) := by decide +kernel
theorem dX8_comes_0 : decode cX8_comes 0 = .ok (.aload_n 0, 1) := by decide +kernel
theorem dX8_comes_1 : decode cX8_comes 1 = .ok (.getfield 7, 3) := by decide +kernel
theorem dX8_comes_4 : decode cX8_comes 4 = .ok (.bipush 9, 2) := by decide +kernel
theorem dX8_comes_6 : decode cX8_comes 6 = .ok (.iaload, 1) := by decide +kernel
theorem dX8_comes_7 : decode cX8_comes 7 = .ok (.invokestatic 48, 3) := by decide +kernel
theorem dX8_comes_10 : decode cX8_comes 10 = .ok (.istore 5, 2) := by decide +kernel
theorem dX8_comes_12 : decode cX8_comes 12 = .ok (.iconst 0, 1) := by decide +kernel
theorem dX8_comes_13 : decode cX8_comes 13 = .ok (.istore 6, 2) := by decide +kernel
theorem dX8_comes_15 : decode cX8_comes 15 = .ok (.iload 6, 2) := by decide +kernel
theorem dX8_comes_17 : decode cX8_comes 17 = .ok (.bipush 8, 2) := by decide +kernel
theorem dX8_comes_19 : decode cX8_comes 19 = .ok (.if_icmp .ge 20, 3) := by decide +kernel
theorem dX8_comes_22 : decode cX8_comes 22 = .ok (.aload_n 0, 1) := by decide +kernel
theorem dX8_comes_23 : decode cX8_comes 23 = .ok (.getfield 7, 3) := by decide +kernel
theorem dX8_comes_26 : decode cX8_comes 26 = .ok (.iload 5, 2) := by decide +kernel
theorem dX8_comes_28 : decode cX8_comes 28 = .ok (.iload 6, 2) := by decide +kernel
theorem dX8_comes_30 : decode cX8_comes 30 = .ok (.iadd, 1) := by decide +kernel
theorem dX8_comes_31 : decode cX8_comes 31 = .ok (.iconst 0, 1) := by decide +kernel
theorem dX8_comes_32 : decode cX8_comes 32 = .ok (.iastore, 1) := by decide +kernel
theorem dX8_comes_33 : decode cX8_comes 33 = .ok (.iinc 6 1, 3) := by decide +kernel
theorem dX8_comes_36 : decode cX8_comes 36 = .ok (.goto (-21), 3) := by decide +kernel
theorem dX8_comes_39 : decode cX8_comes 39 = .ok (.aload_n 0, 1) := by decide +kernel
theorem dX8_comes_40 : decode cX8_comes 40 = .ok (.getfield 7, 3) := by decide +kernel
theorem dX8_comes_43 : decode cX8_comes 43 = .ok (.iload 5, 2) := by decide +kernel
theorem dX8_comes_45 : decode cX8_comes 45 = .ok (.iconst 0, 1) := by decide +kernel
theorem dX8_comes_46 : decode cX8_comes 46 = .ok (.iadd, 1) := by decide +kernel
theorem dX8_comes_47 : decode cX8_comes 47 = .ok (.iload_n 1, 1) := by decide +kernel
theorem dX8_comes_48 : decode cX8_comes 48 = .ok (.iastore, 1) := by decide +kernel
theorem dX8_comes_49 : decode cX8_comes 49 = .ok (.aload_n 0, 1) := by decide +kernel
theorem dX8_comes_50 : decode cX8_comes 50 = .ok (.getfield 7, 3) := by decide +kernel
theorem dX8_comes_53 : decode cX8_comes 53 = .ok (.iload 5, 2) := by decide +kernel
theorem dX8_comes_55 : decode cX8_comes 55 = .ok (.iconst 1, 1) := by decide +kernel
theorem dX8_comes_56 : decode cX8_comes 56 = .ok (.iadd, 1) := by decide +kernel
theorem dX8_comes_57 : decode cX8_comes 57 = .ok (.iload_n 2, 1) := by decide +kernel
theorem dX8_comes_58 : decode cX8_comes 58 = .ok (.iastore, 1) := by decide +kernel
theorem dX8_comes_59 : decode cX8_comes 59 = .ok (.aload_n 0, 1) := by decide +kernel
theorem dX8_comes_60 : decode cX8_comes 60 = .ok (.getfield 7, 3) := by decide +kernel
theorem dX8_comes_63 : decode cX8_comes 63 = .ok (.iload 5, 2) := by decide +kernel
theorem dX8_comes_65 : decode cX8_comes 65 = .ok (.iconst 2, 1) := by decide +kernel
theorem dX8_comes_66 : decode cX8_comes 66 = .ok (.iadd, 1) := by decide +kernel
theorem dX8_comes_67 : decode cX8_comes 67 = .ok (.iload_n 3, 1) := by decide +kernel
theorem dX8_comes_68 : decode cX8_comes 68 = .ok (.iastore, 1) := by decide +kernel
theorem dX8_comes_69 : decode cX8_comes 69 = .ok (.aload_n 0, 1) := by decide +kernel
theorem dX8_comes_70 : decode cX8_comes 70 = .ok (.getfield 7, 3) := by decide +kernel
theorem dX8_comes_73 : decode cX8_comes 73 = .ok (.iload 5, 2) := by decide +kernel
theorem dX8_comes_75 : decode cX8_comes 75 = .ok (.iconst 3, 1) := by decide +kernel
theorem dX8_comes_76 : decode cX8_comes 76 = .ok (.iadd, 1) := by decide +kernel
theorem dX8_comes_77 : decode cX8_comes 77 = .ok (.iload 4, 2) := by decide +kernel
theorem dX8_comes_79 : decode cX8_comes 79 = .ok (.iastore, 1) := by decide +kernel
theorem dX8_comes_80 : decode cX8_comes 80 = .ok (.aload_n 0, 1) := by decide +kernel
theorem dX8_comes_81 : decode cX8_comes 81 = .ok (.getfield 7, 3) := by decide +kernel
theorem dX8_comes_84 : decode cX8_comes 84 = .ok (.bipush 9, 2) := by decide +kernel
theorem dX8_comes_86 : decode cX8_comes 86 = .ok (.dup2, 1) := by decide +kernel
theorem dX8_comes_87 : decode cX8_comes 87 = .ok (.iaload, 1) := by decide +kernel
theorem dX8_comes_88 : decode cX8_comes 88 = .ok (.iconst 1, 1) := by decide +kernel
theorem dX8_comes_89 : decode cX8_comes 89 = .ok (.iadd, 1) := by decide +kernel
theorem dX8_comes_90 : decode cX8_comes 90 = .ok (.iastore, 1) := by decide +kernel
theorem dX8_comes_91 : decode cX8_comes 91 = .ok (.aload_n 0, 1) := by decide +kernel
theorem dX8_comes_92 : decode cX8_comes 92 = .ok (.getfield 7, 3) := by decide +kernel
theorem dX8_comes_95 : decode cX8_comes 95 = .ok (.bipush 9, 2) := by decide +kernel
theorem dX8_comes_97 : decode cX8_comes 97 = .ok (.iaload, 1) := by decide +kernel
theorem dX8_comes_98 : decode cX8_comes 98 = .ok (.iconst 1, 1) := by decide +kernel
theorem dX8_comes_99 : decode cX8_comes 99 = .ok (.isub, 1) := by decide +kernel
theorem dX8_comes_100 : decode cX8_comes 100 = .ok (.ireturn, 1) := by decide +kernel
theorem dX8_comment_0 : decode cX8_comment 0 = .ok (.aload_n 0, 1) := by decide +kernel
theorem dX8_comment_1 : decode cX8_comment 1 = .ok (.iload_n 2, 1) := by decide +kernel
theorem dX8_comment_2 : decode cX8_comment 2 = .ok (.invokevirtual 41, 3) := by decide +kernel
theorem dX8_comment_5 : decode cX8_comment 5 = .ok (.istore 5, 2) := by decide +kernel
theorem dX8_comment_7 : decode cX8_comment 7 = .ok (.aload_n 0, 1) := by decide +kernel
theorem dX8_comment_8 : decode cX8_comment 8 = .ok (.iload_n 1, 1) := by decide +kernel
theorem dX8_comment_9 : decode cX8_comment 9 = .ok (.invokevirtual 51, 3) := by decide +kernel
theorem dX8_comment_12 : decode cX8_comment 12 = .ok (.ifCond .eq 25, 3) := by decide +kernel
theorem dX8_comment_15 : decode cX8_comment 15 = .ok (.iload 5, 2) := by decide +kernel
theorem dX8_comment_17 : decode cX8_comment 17 = .ok (.ifCond .lt 20, 3) := by decide +kernel
theorem dX8_comment_20 : decode cX8_comment 20 = .ok (.iload_n 3, 1) := by decide +kernel
theorem dX8_comment_21 : decode cX8_comment 21 = .ok (.iconst 0, 1) := by decide +kernel
theorem dX8_comment_22 : decode cX8_comment 22 = .ok (.iconst 1, 1) := by decide +kernel
theorem dX8_comment_23 : decode cX8_comment 23 = .ok (.invokestatic 23, 3) := by decide +kernel
theorem dX8_comment_26 : decode cX8_comment 26 = .ok (.ifCond .eq 11, 3) := by decide +kernel
theorem dX8_comment_29 : decode cX8_comment 29 = .ok (.iload 4, 2) := by decide +kernel
theorem dX8_comment_31 : decode cX8_comment 31 = .ok (.invokestatic 37, 3) := by decide +kernel
theorem dX8_comment_34 : decode cX8_comment 34 = .ok (.ifCond .ne 5, 3) := by decide +kernel
theorem dX8_comment_37 : decode cX8_comment 37 = .ok (.iconst (-1), 1) := by decide +kernel
theorem dX8_comment_38 : decode cX8_comment 38 = .ok (.ireturn, 1) := by decide +kernel
theorem dX8_comment_39 : decode cX8_comment 39 = .ok (.aload_n 0, 1) := by decide +kernel
theorem dX8_comment_40 : decode cX8_comment 40 = .ok (.getfield 7, 3) := by decide +kernel
theorem dX8_comment_43 : decode cX8_comment 43 = .ok (.iconst 4, 1) := by decide +kernel
theorem dX8_comment_44 : decode cX8_comment 44 = .ok (.iaload, 1) := by decide +kernel
theorem dX8_comment_45 : decode cX8_comment 45 = .ok (.ifCond .eq 20, 3) := by decide +kernel
theorem dX8_comment_48 : decode cX8_comment 48 = .ok (.aload_n 0, 1) := by decide +kernel
theorem dX8_comment_49 : decode cX8_comment 49 = .ok (.getfield 7, 3) := by decide +kernel
theorem dX8_comment_52 : decode cX8_comment 52 = .ok (.iload 5, 2) := by decide +kernel
theorem dX8_comment_54 : decode cX8_comment 54 = .ok (.invokestatic 34, 3) := by decide +kernel
theorem dX8_comment_57 : decode cX8_comment 57 = .ok (.iconst 1, 1) := by decide +kernel
theorem dX8_comment_58 : decode cX8_comment 58 = .ok (.iadd, 1) := by decide +kernel
theorem dX8_comment_59 : decode cX8_comment 59 = .ok (.iaload, 1) := by decide +kernel
theorem dX8_comment_60 : decode cX8_comment 60 = .ok (.iload 4, 2) := by decide +kernel
theorem dX8_comment_62 : decode cX8_comment 62 = .ok (.if_icmp .ne 6, 3) := by decide +kernel
theorem dX8_comment_65 : decode cX8_comment 65 = .ok (.bipush (-2), 2) := by decide +kernel
theorem dX8_comment_67 : decode cX8_comment 67 = .ok (.ireturn, 1) := by decide +kernel
theorem dX8_comment_68 : decode cX8_comment 68 = .ok (.aload_n 0, 1) := by decide +kernel
theorem dX8_comment_69 : decode cX8_comment 69 = .ok (.getfield 7, 3) := by decide +kernel
theorem dX8_comment_72 : decode cX8_comment 72 = .ok (.bipush 9, 2) := by decide +kernel
theorem dX8_comment_74 : decode cX8_comment 74 = .ok (.iaload, 1) := by decide +kernel
theorem dX8_comment_75 : decode cX8_comment 75 = .ok (.bipush 30, 2) := by decide +kernel
theorem dX8_comment_77 : decode cX8_comment 77 = .ok (.if_icmp .ne 6, 3) := by decide +kernel
theorem dX8_comment_80 : decode cX8_comment 80 = .ok (.bipush (-3), 2) := by decide +kernel
theorem dX8_comment_82 : decode cX8_comment 82 = .ok (.ireturn, 1) := by decide +kernel
theorem dX8_comment_83 : decode cX8_comment 83 = .ok (.aload_n 0, 1) := by decide +kernel
theorem dX8_comment_84 : decode cX8_comment 84 = .ok (.invokevirtual 31, 3) := by decide +kernel
theorem dX8_comment_87 : decode cX8_comment 87 = .ok (.aload_n 0, 1) := by decide +kernel
theorem dX8_comment_88 : decode cX8_comment 88 = .ok (.iload_n 1, 1) := by decide +kernel
theorem dX8_comment_89 : decode cX8_comment 89 = .ok (.iload_n 2, 1) := by decide +kernel
theorem dX8_comment_90 : decode cX8_comment 90 = .ok (.iload_n 3, 1) := by decide +kernel
theorem dX8_comment_91 : decode cX8_comment 91 = .ok (.iload 4, 2) := by decide +kernel
theorem dX8_comment_93 : decode cX8_comment 93 = .ok (.invokevirtual 87, 3) := by decide +kernel
theorem dX8_comment_96 : decode cX8_comment 96 = .ok (.ireturn, 1) := by decide +kernel
theorem dX8_told_0 : decode cX8_told 0 = .ok (.aload_n 0, 1) := by decide +kernel
theorem dX8_told_1 : decode cX8_told 1 = .ok (.iload_n 1, 1) := by decide +kernel
theorem dX8_told_2 : decode cX8_told 2 = .ok (.invokevirtual 91, 3) := by decide +kernel
theorem dX8_told_5 : decode cX8_told 5 = .ok (.ifCond .eq 13, 3) := by decide +kernel
theorem dX8_told_8 : decode cX8_told 8 = .ok (.iload_n 2, 1) := by decide +kernel
theorem dX8_told_9 : decode cX8_told 9 = .ok (.iconst 0, 1) := by decide +kernel
theorem dX8_told_10 : decode cX8_told 10 = .ok (.bipush 6, 2) := by decide +kernel
theorem dX8_told_12 : decode cX8_told 12 = .ok (.invokestatic 23, 3) := by decide +kernel
theorem dX8_told_15 : decode cX8_told 15 = .ok (.ifCond .ne 5, 3) := by decide +kernel
theorem dX8_told_18 : decode cX8_told 18 = .ok (.iconst (-1), 1) := by decide +kernel
theorem dX8_told_19 : decode cX8_told 19 = .ok (.ireturn, 1) := by decide +kernel
theorem dX8_told_20 : decode cX8_told 20 = .ok (.iload_n 1, 1) := by decide +kernel
theorem dX8_told_21 : decode cX8_told 21 = .ok (.invokestatic 48, 3) := by decide +kernel
theorem dX8_told_24 : decode cX8_told 24 = .ok (.istore_n 3, 1) := by decide +kernel
theorem dX8_told_25 : decode cX8_told 25 = .ok (.aload_n 0, 1) := by decide +kernel
theorem dX8_told_26 : decode cX8_told 26 = .ok (.getfield 7, 3) := by decide +kernel
theorem dX8_told_29 : decode cX8_told 29 = .ok (.iload_n 3, 1) := by decide +kernel
theorem dX8_told_30 : decode cX8_told 30 = .ok (.iconst 4, 1) := by decide +kernel
theorem dX8_told_31 : decode cX8_told 31 = .ok (.iadd, 1) := by decide +kernel
theorem dX8_told_32 : decode cX8_told 32 = .ok (.iaload, 1) := by decide +kernel
theorem dX8_told_33 : decode cX8_told 33 = .ok (.istore 4, 2) := by decide +kernel
theorem dX8_told_35 : decode cX8_told 35 = .ok (.iload_n 2, 1) := by decide +kernel
theorem dX8_told_36 : decode cX8_told 36 = .ok (.iconst 5, 1) := by decide +kernel
theorem dX8_told_37 : decode cX8_told 37 = .ok (.if_icmp .ne 9, 3) := by decide +kernel
theorem dX8_told_40 : decode cX8_told 40 = .ok (.iload 4, 2) := by decide +kernel
theorem dX8_told_42 : decode cX8_told 42 = .ok (.iconst 2, 1) := by decide +kernel
theorem dX8_told_43 : decode cX8_told 43 = .ok (.if_icmp .lt 21, 3) := by decide +kernel
theorem dX8_told_46 : decode cX8_told 46 = .ok (.iload_n 2, 1) := by decide +kernel
theorem dX8_told_47 : decode cX8_told 47 = .ok (.bipush 6, 2) := by decide +kernel
theorem dX8_told_49 : decode cX8_told 49 = .ok (.if_icmp .ne 18, 3) := by decide +kernel
theorem dX8_told_52 : decode cX8_told 52 = .ok (.iload 4, 2) := by decide +kernel
theorem dX8_told_54 : decode cX8_told 54 = .ok (.iconst 2, 1) := by decide +kernel
theorem dX8_told_55 : decode cX8_told 55 = .ok (.if_icmp .eq 12, 3) := by decide +kernel
theorem dX8_told_58 : decode cX8_told 58 = .ok (.iload 4, 2) := by decide +kernel
theorem dX8_told_60 : decode cX8_told 60 = .ok (.iconst 3, 1) := by decide +kernel
theorem dX8_told_61 : decode cX8_told 61 = .ok (.if_icmp .eq 6, 3) := by decide +kernel
theorem dX8_told_64 : decode cX8_told 64 = .ok (.bipush (-4), 2) := by decide +kernel
theorem dX8_told_66 : decode cX8_told 66 = .ok (.ireturn, 1) := by decide +kernel
theorem dX8_told_67 : decode cX8_told 67 = .ok (.aload_n 0, 1) := by decide +kernel
theorem dX8_told_68 : decode cX8_told 68 = .ok (.getfield 7, 3) := by decide +kernel
theorem dX8_told_71 : decode cX8_told 71 = .ok (.iload_n 3, 1) := by decide +kernel
theorem dX8_told_72 : decode cX8_told 72 = .ok (.iload_n 2, 1) := by decide +kernel
theorem dX8_told_73 : decode cX8_told 73 = .ok (.iadd, 1) := by decide +kernel
theorem dX8_told_74 : decode cX8_told 74 = .ok (.iaload, 1) := by decide +kernel
theorem dX8_told_75 : decode cX8_told 75 = .ok (.ireturn, 1) := by decide +kernel
theorem dX8_isAhead_0 : decode cX8_isAhead 0 = .ok (.iload_n 1, 1) := by decide +kernel
theorem dX8_isAhead_1 : decode cX8_isAhead 1 = .ok (.invokestatic 48, 3) := by decide +kernel
theorem dX8_isAhead_4 : decode cX8_isAhead 4 = .ok (.istore_n 3, 1) := by decide +kernel
theorem dX8_isAhead_5 : decode cX8_isAhead 5 = .ok (.iload_n 2, 1) := by decide +kernel
theorem dX8_isAhead_6 : decode cX8_isAhead 6 = .ok (.invokestatic 48, 3) := by decide +kernel
theorem dX8_isAhead_9 : decode cX8_isAhead 9 = .ok (.istore 4, 2) := by decide +kernel
theorem dX8_isAhead_11 : decode cX8_isAhead 11 = .ok (.aload_n 0, 1) := by decide +kernel
theorem dX8_isAhead_12 : decode cX8_isAhead 12 = .ok (.getfield 7, 3) := by decide +kernel
theorem dX8_isAhead_15 : decode cX8_isAhead 15 = .ok (.iload_n 3, 1) := by decide +kernel
theorem dX8_isAhead_16 : decode cX8_isAhead 16 = .ok (.iconst 2, 1) := by decide +kernel
theorem dX8_isAhead_17 : decode cX8_isAhead 17 = .ok (.iadd, 1) := by decide +kernel
theorem dX8_isAhead_18 : decode cX8_isAhead 18 = .ok (.iaload, 1) := by decide +kernel
theorem dX8_isAhead_19 : decode cX8_isAhead 19 = .ok (.aload_n 0, 1) := by decide +kernel
theorem dX8_isAhead_20 : decode cX8_isAhead 20 = .ok (.getfield 7, 3) := by decide +kernel
theorem dX8_isAhead_23 : decode cX8_isAhead 23 = .ok (.iload 4, 2) := by decide +kernel
theorem dX8_isAhead_25 : decode cX8_isAhead 25 = .ok (.iconst 2, 1) := by decide +kernel
theorem dX8_isAhead_26 : decode cX8_isAhead 26 = .ok (.iadd, 1) := by decide +kernel
theorem dX8_isAhead_27 : decode cX8_isAhead 27 = .ok (.iaload, 1) := by decide +kernel
theorem dX8_isAhead_28 : decode cX8_isAhead 28 = .ok (.if_icmp .eq 21, 3) := by decide +kernel
theorem dX8_isAhead_31 : decode cX8_isAhead 31 = .ok (.aload_n 0, 1) := by decide +kernel
theorem dX8_isAhead_32 : decode cX8_isAhead 32 = .ok (.getfield 7, 3) := by decide +kernel
theorem dX8_isAhead_35 : decode cX8_isAhead 35 = .ok (.iload_n 3, 1) := by decide +kernel
theorem dX8_isAhead_36 : decode cX8_isAhead 36 = .ok (.iconst 2, 1) := by decide +kernel
theorem dX8_isAhead_37 : decode cX8_isAhead 37 = .ok (.iadd, 1) := by decide +kernel
theorem dX8_isAhead_38 : decode cX8_isAhead 38 = .ok (.iaload, 1) := by decide +kernel
theorem dX8_isAhead_39 : decode cX8_isAhead 39 = .ok (.iconst 1, 1) := by decide +kernel
theorem dX8_isAhead_40 : decode cX8_isAhead 40 = .ok (.if_icmp .ne 7, 3) := by decide +kernel
theorem dX8_isAhead_43 : decode cX8_isAhead 43 = .ok (.iconst 1, 1) := by decide +kernel
theorem dX8_isAhead_44 : decode cX8_isAhead 44 = .ok (.goto 4, 3) := by decide +kernel
theorem dX8_isAhead_47 : decode cX8_isAhead 47 = .ok (.iconst 0, 1) := by decide +kernel
theorem dX8_isAhead_48 : decode cX8_isAhead 48 = .ok (.ireturn, 1) := by decide +kernel
theorem dX8_isAhead_49 : decode cX8_isAhead 49 = .ok (.aload_n 0, 1) := by decide +kernel
theorem dX8_isAhead_50 : decode cX8_isAhead 50 = .ok (.getfield 7, 3) := by decide +kernel
theorem dX8_isAhead_53 : decode cX8_isAhead 53 = .ok (.iload_n 3, 1) := by decide +kernel
theorem dX8_isAhead_54 : decode cX8_isAhead 54 = .ok (.iconst 1, 1) := by decide +kernel
theorem dX8_isAhead_55 : decode cX8_isAhead 55 = .ok (.iadd, 1) := by decide +kernel
theorem dX8_isAhead_56 : decode cX8_isAhead 56 = .ok (.iaload, 1) := by decide +kernel
theorem dX8_isAhead_57 : decode cX8_isAhead 57 = .ok (.aload_n 0, 1) := by decide +kernel
theorem dX8_isAhead_58 : decode cX8_isAhead 58 = .ok (.getfield 7, 3) := by decide +kernel
theorem dX8_isAhead_61 : decode cX8_isAhead 61 = .ok (.iload 4, 2) := by decide +kernel
theorem dX8_isAhead_63 : decode cX8_isAhead 63 = .ok (.iconst 1, 1) := by decide +kernel
theorem dX8_isAhead_64 : decode cX8_isAhead 64 = .ok (.iadd, 1) := by decide +kernel
theorem dX8_isAhead_65 : decode cX8_isAhead 65 = .ok (.iaload, 1) := by decide +kernel
theorem dX8_isAhead_66 : decode cX8_isAhead 66 = .ok (.if_icmp .eq 29, 3) := by decide +kernel
theorem dX8_isAhead_69 : decode cX8_isAhead 69 = .ok (.aload_n 0, 1) := by decide +kernel
theorem dX8_isAhead_70 : decode cX8_isAhead 70 = .ok (.getfield 7, 3) := by decide +kernel
theorem dX8_isAhead_73 : decode cX8_isAhead 73 = .ok (.iload_n 3, 1) := by decide +kernel
theorem dX8_isAhead_74 : decode cX8_isAhead 74 = .ok (.iconst 1, 1) := by decide +kernel
theorem dX8_isAhead_75 : decode cX8_isAhead 75 = .ok (.iadd, 1) := by decide +kernel
theorem dX8_isAhead_76 : decode cX8_isAhead 76 = .ok (.iaload, 1) := by decide +kernel
theorem dX8_isAhead_77 : decode cX8_isAhead 77 = .ok (.aload_n 0, 1) := by decide +kernel
theorem dX8_isAhead_78 : decode cX8_isAhead 78 = .ok (.getfield 7, 3) := by decide +kernel
theorem dX8_isAhead_81 : decode cX8_isAhead 81 = .ok (.iload 4, 2) := by decide +kernel
theorem dX8_isAhead_83 : decode cX8_isAhead 83 = .ok (.iconst 1, 1) := by decide +kernel
theorem dX8_isAhead_84 : decode cX8_isAhead 84 = .ok (.iadd, 1) := by decide +kernel
theorem dX8_isAhead_85 : decode cX8_isAhead 85 = .ok (.iaload, 1) := by decide +kernel
theorem dX8_isAhead_86 : decode cX8_isAhead 86 = .ok (.if_icmp .ge 7, 3) := by decide +kernel
theorem dX8_isAhead_89 : decode cX8_isAhead 89 = .ok (.iconst 1, 1) := by decide +kernel
theorem dX8_isAhead_90 : decode cX8_isAhead 90 = .ok (.goto 4, 3) := by decide +kernel
theorem dX8_isAhead_93 : decode cX8_isAhead 93 = .ok (.iconst 0, 1) := by decide +kernel
theorem dX8_isAhead_94 : decode cX8_isAhead 94 = .ok (.ireturn, 1) := by decide +kernel
theorem dX8_isAhead_95 : decode cX8_isAhead 95 = .ok (.aload_n 0, 1) := by decide +kernel
theorem dX8_isAhead_96 : decode cX8_isAhead 96 = .ok (.getfield 7, 3) := by decide +kernel
theorem dX8_isAhead_99 : decode cX8_isAhead 99 = .ok (.aload_n 0, 1) := by decide +kernel
theorem dX8_isAhead_100 : decode cX8_isAhead 100 = .ok (.getfield 7, 3) := by decide +kernel
theorem dX8_isAhead_103 : decode cX8_isAhead 103 = .ok (.iload_n 3, 1) := by decide +kernel
theorem dX8_isAhead_104 : decode cX8_isAhead 104 = .ok (.iconst 0, 1) := by decide +kernel
theorem dX8_isAhead_105 : decode cX8_isAhead 105 = .ok (.iadd, 1) := by decide +kernel
theorem dX8_isAhead_106 : decode cX8_isAhead 106 = .ok (.iaload, 1) := by decide +kernel
theorem dX8_isAhead_107 : decode cX8_isAhead 107 = .ok (.invokestatic 27, 3) := by decide +kernel
theorem dX8_isAhead_110 : decode cX8_isAhead 110 = .ok (.iconst 0, 1) := by decide +kernel
theorem dX8_isAhead_111 : decode cX8_isAhead 111 = .ok (.iadd, 1) := by decide +kernel
theorem dX8_isAhead_112 : decode cX8_isAhead 112 = .ok (.iaload, 1) := by decide +kernel
theorem dX8_isAhead_113 : decode cX8_isAhead 113 = .ok (.istore 5, 2) := by decide +kernel
theorem dX8_isAhead_115 : decode cX8_isAhead 115 = .ok (.aload_n 0, 1) := by decide +kernel
theorem dX8_isAhead_116 : decode cX8_isAhead 116 = .ok (.getfield 7, 3) := by decide +kernel
theorem dX8_isAhead_119 : decode cX8_isAhead 119 = .ok (.aload_n 0, 1) := by decide +kernel
theorem dX8_isAhead_120 : decode cX8_isAhead 120 = .ok (.getfield 7, 3) := by decide +kernel
theorem dX8_isAhead_123 : decode cX8_isAhead 123 = .ok (.iload 4, 2) := by decide +kernel
theorem dX8_isAhead_125 : decode cX8_isAhead 125 = .ok (.iconst 0, 1) := by decide +kernel
theorem dX8_isAhead_126 : decode cX8_isAhead 126 = .ok (.iadd, 1) := by decide +kernel
theorem dX8_isAhead_127 : decode cX8_isAhead 127 = .ok (.iaload, 1) := by decide +kernel
theorem dX8_isAhead_128 : decode cX8_isAhead 128 = .ok (.invokestatic 27, 3) := by decide +kernel
theorem dX8_isAhead_131 : decode cX8_isAhead 131 = .ok (.iconst 0, 1) := by decide +kernel
theorem dX8_isAhead_132 : decode cX8_isAhead 132 = .ok (.iadd, 1) := by decide +kernel
theorem dX8_isAhead_133 : decode cX8_isAhead 133 = .ok (.iaload, 1) := by decide +kernel
theorem dX8_isAhead_134 : decode cX8_isAhead 134 = .ok (.istore 6, 2) := by decide +kernel
theorem dX8_isAhead_136 : decode cX8_isAhead 136 = .ok (.iload 5, 2) := by decide +kernel
theorem dX8_isAhead_138 : decode cX8_isAhead 138 = .ok (.iload 6, 2) := by decide +kernel
theorem dX8_isAhead_140 : decode cX8_isAhead 140 = .ok (.if_icmp .eq 18, 3) := by decide +kernel
theorem dX8_isAhead_143 : decode cX8_isAhead 143 = .ok (.iload 5, 2) := by decide +kernel
theorem dX8_isAhead_145 : decode cX8_isAhead 145 = .ok (.iload 6, 2) := by decide +kernel
theorem dX8_isAhead_147 : decode cX8_isAhead 147 = .ok (.if_icmp .le 7, 3) := by decide +kernel
theorem dX8_isAhead_150 : decode cX8_isAhead 150 = .ok (.iconst 1, 1) := by decide +kernel
theorem dX8_isAhead_151 : decode cX8_isAhead 151 = .ok (.goto 17, 3) := by decide +kernel
theorem dX8_isAhead_154 : decode cX8_isAhead 154 = .ok (.iconst 0, 1) := by decide +kernel
theorem dX8_isAhead_155 : decode cX8_isAhead 155 = .ok (.goto 13, 3) := by decide +kernel
theorem dX8_isAhead_158 : decode cX8_isAhead 158 = .ok (.iload_n 1, 1) := by decide +kernel
theorem dX8_isAhead_159 : decode cX8_isAhead 159 = .ok (.iload_n 2, 1) := by decide +kernel
theorem dX8_isAhead_160 : decode cX8_isAhead 160 = .ok (.if_icmp .ge 7, 3) := by decide +kernel
theorem dX8_isAhead_163 : decode cX8_isAhead 163 = .ok (.iconst 1, 1) := by decide +kernel
theorem dX8_isAhead_164 : decode cX8_isAhead 164 = .ok (.goto 4, 3) := by decide +kernel
theorem dX8_isAhead_167 : decode cX8_isAhead 167 = .ok (.iconst 0, 1) := by decide +kernel
theorem dX8_isAhead_168 : decode cX8_isAhead 168 = .ok (.ireturn, 1) := by decide +kernel
theorem dX8_next_0 : decode cX8_next 0 = .ok (.bipush (-4), 2) := by decide +kernel
theorem dX8_next_2 : decode cX8_next 2 = .ok (.istore_n 1, 1) := by decide +kernel
theorem dX8_next_3 : decode cX8_next 3 = .ok (.iconst 0, 1) := by decide +kernel
theorem dX8_next_4 : decode cX8_next 4 = .ok (.istore_n 2, 1) := by decide +kernel
theorem dX8_next_5 : decode cX8_next 5 = .ok (.iload_n 2, 1) := by decide +kernel
theorem dX8_next_6 : decode cX8_next 6 = .ok (.aload_n 0, 1) := by decide +kernel
theorem dX8_next_7 : decode cX8_next 7 = .ok (.getfield 7, 3) := by decide +kernel
theorem dX8_next_10 : decode cX8_next 10 = .ok (.bipush 9, 2) := by decide +kernel
theorem dX8_next_12 : decode cX8_next 12 = .ok (.iaload, 1) := by decide +kernel
theorem dX8_next_13 : decode cX8_next 13 = .ok (.if_icmp .ge 55, 3) := by decide +kernel
theorem dX8_next_16 : decode cX8_next 16 = .ok (.aload_n 0, 1) := by decide +kernel
theorem dX8_next_17 : decode cX8_next 17 = .ok (.getfield 7, 3) := by decide +kernel
theorem dX8_next_20 : decode cX8_next 20 = .ok (.iload_n 2, 1) := by decide +kernel
theorem dX8_next_21 : decode cX8_next 21 = .ok (.invokestatic 48, 3) := by decide +kernel
theorem dX8_next_24 : decode cX8_next 24 = .ok (.iconst 4, 1) := by decide +kernel
theorem dX8_next_25 : decode cX8_next 25 = .ok (.iadd, 1) := by decide +kernel
theorem dX8_next_26 : decode cX8_next 26 = .ok (.iaload, 1) := by decide +kernel
theorem dX8_next_27 : decode cX8_next 27 = .ok (.iconst 1, 1) := by decide +kernel
theorem dX8_next_28 : decode cX8_next 28 = .ok (.if_icmp .ne 22, 3) := by decide +kernel
theorem dX8_next_31 : decode cX8_next 31 = .ok (.iload_n 1, 1) := by decide +kernel
theorem dX8_next_32 : decode cX8_next 32 = .ok (.bipush (-4), 2) := by decide +kernel
theorem dX8_next_34 : decode cX8_next 34 = .ok (.if_icmp .eq 12, 3) := by decide +kernel
theorem dX8_next_37 : decode cX8_next 37 = .ok (.aload_n 0, 1) := by decide +kernel
theorem dX8_next_38 : decode cX8_next 38 = .ok (.iload_n 2, 1) := by decide +kernel
theorem dX8_next_39 : decode cX8_next 39 = .ok (.iload_n 1, 1) := by decide +kernel
theorem dX8_next_40 : decode cX8_next 40 = .ok (.invokevirtual 94, 3) := by decide +kernel
theorem dX8_next_43 : decode cX8_next 43 = .ok (.ifCond .eq 7, 3) := by decide +kernel
theorem dX8_next_46 : decode cX8_next 46 = .ok (.iconst 1, 1) := by decide +kernel
theorem dX8_next_47 : decode cX8_next 47 = .ok (.goto 4, 3) := by decide +kernel
theorem dX8_next_50 : decode cX8_next 50 = .ok (.iconst 0, 1) := by decide +kernel
theorem dX8_next_51 : decode cX8_next 51 = .ok (.istore_n 3, 1) := by decide +kernel
theorem dX8_next_52 : decode cX8_next 52 = .ok (.iload_n 3, 1) := by decide +kernel
theorem dX8_next_53 : decode cX8_next 53 = .ok (.ifCond .eq 7, 3) := by decide +kernel
theorem dX8_next_56 : decode cX8_next 56 = .ok (.iload_n 2, 1) := by decide +kernel
theorem dX8_next_57 : decode cX8_next 57 = .ok (.goto 4, 3) := by decide +kernel
theorem dX8_next_60 : decode cX8_next 60 = .ok (.iload_n 1, 1) := by decide +kernel
theorem dX8_next_61 : decode cX8_next 61 = .ok (.istore_n 1, 1) := by decide +kernel
theorem dX8_next_62 : decode cX8_next 62 = .ok (.iinc 2 1, 3) := by decide +kernel
theorem dX8_next_65 : decode cX8_next 65 = .ok (.goto (-60), 3) := by decide +kernel
theorem dX8_next_68 : decode cX8_next 68 = .ok (.iload_n 1, 1) := by decide +kernel
theorem dX8_next_69 : decode cX8_next 69 = .ok (.ireturn, 1) := by decide +kernel
theorem dX8_canGet_0 : decode cX8_canGet 0 = .ok (.iload_n 1, 1) := by decide +kernel
theorem dX8_canGet_1 : decode cX8_canGet 1 = .ok (.invokestatic 34, 3) := by decide +kernel
theorem dX8_canGet_4 : decode cX8_canGet 4 = .ok (.istore_n 3, 1) := by decide +kernel
theorem dX8_canGet_5 : decode cX8_canGet 5 = .ok (.aload_n 0, 1) := by decide +kernel
theorem dX8_canGet_6 : decode cX8_canGet 6 = .ok (.getfield 7, 3) := by decide +kernel
theorem dX8_canGet_9 : decode cX8_canGet 9 = .ok (.iload_n 3, 1) := by decide +kernel
theorem dX8_canGet_10 : decode cX8_canGet 10 = .ok (.iconst 1, 1) := by decide +kernel
theorem dX8_canGet_11 : decode cX8_canGet 11 = .ok (.iadd, 1) := by decide +kernel
theorem dX8_canGet_12 : decode cX8_canGet 12 = .ok (.iaload, 1) := by decide +kernel
theorem dX8_canGet_13 : decode cX8_canGet 13 = .ok (.aload_n 0, 1) := by decide +kernel
theorem dX8_canGet_14 : decode cX8_canGet 14 = .ok (.getfield 7, 3) := by decide +kernel
theorem dX8_canGet_17 : decode cX8_canGet 17 = .ok (.iload_n 3, 1) := by decide +kernel
theorem dX8_canGet_18 : decode cX8_canGet 18 = .ok (.iconst 2, 1) := by decide +kernel
theorem dX8_canGet_19 : decode cX8_canGet 19 = .ok (.iadd, 1) := by decide +kernel
theorem dX8_canGet_20 : decode cX8_canGet 20 = .ok (.iaload, 1) := by decide +kernel
theorem dX8_canGet_21 : decode cX8_canGet 21 = .ok (.if_icmp .eq 15, 3) := by decide +kernel
theorem dX8_canGet_24 : decode cX8_canGet 24 = .ok (.aload_n 0, 1) := by decide +kernel
theorem dX8_canGet_25 : decode cX8_canGet 25 = .ok (.getfield 7, 3) := by decide +kernel
theorem dX8_canGet_28 : decode cX8_canGet 28 = .ok (.iload_n 3, 1) := by decide +kernel
theorem dX8_canGet_29 : decode cX8_canGet 29 = .ok (.iconst 1, 1) := by decide +kernel
theorem dX8_canGet_30 : decode cX8_canGet 30 = .ok (.iadd, 1) := by decide +kernel
theorem dX8_canGet_31 : decode cX8_canGet 31 = .ok (.iaload, 1) := by decide +kernel
theorem dX8_canGet_32 : decode cX8_canGet 32 = .ok (.iload_n 2, 1) := by decide +kernel
theorem dX8_canGet_33 : decode cX8_canGet 33 = .ok (.if_icmp .ne 7, 3) := by decide +kernel
theorem dX8_canGet_36 : decode cX8_canGet 36 = .ok (.iconst 1, 1) := by decide +kernel
theorem dX8_canGet_37 : decode cX8_canGet 37 = .ok (.goto 4, 3) := by decide +kernel
theorem dX8_canGet_40 : decode cX8_canGet 40 = .ok (.iconst 0, 1) := by decide +kernel
theorem dX8_canGet_41 : decode cX8_canGet 41 = .ok (.ireturn, 1) := by decide +kernel
theorem dX8_giver_0 : decode cX8_giver 0 = .ok (.iconst (-1), 1) := by decide +kernel
theorem dX8_giver_1 : decode cX8_giver 1 = .ok (.istore_n 3, 1) := by decide +kernel
theorem dX8_giver_2 : decode cX8_giver 2 = .ok (.iconst 0, 1) := by decide +kernel
theorem dX8_giver_3 : decode cX8_giver 3 = .ok (.istore 4, 2) := by decide +kernel
theorem dX8_giver_5 : decode cX8_giver 5 = .ok (.iload 4, 2) := by decide +kernel
theorem dX8_giver_7 : decode cX8_giver 7 = .ok (.aload_n 0, 1) := by decide +kernel
theorem dX8_giver_8 : decode cX8_giver 8 = .ok (.getfield 7, 3) := by decide +kernel
theorem dX8_giver_11 : decode cX8_giver 11 = .ok (.bipush 9, 2) := by decide +kernel
theorem dX8_giver_13 : decode cX8_giver 13 = .ok (.iaload, 1) := by decide +kernel
theorem dX8_giver_14 : decode cX8_giver 14 = .ok (.if_icmp .ge 117, 3) := by decide +kernel
theorem dX8_giver_17 : decode cX8_giver 17 = .ok (.iload 4, 2) := by decide +kernel
theorem dX8_giver_19 : decode cX8_giver 19 = .ok (.invokestatic 48, 3) := by decide +kernel
theorem dX8_giver_22 : decode cX8_giver 22 = .ok (.istore 5, 2) := by decide +kernel
theorem dX8_giver_24 : decode cX8_giver 24 = .ok (.aload_n 0, 1) := by decide +kernel
theorem dX8_giver_25 : decode cX8_giver 25 = .ok (.getfield 7, 3) := by decide +kernel
theorem dX8_giver_28 : decode cX8_giver 28 = .ok (.iload 5, 2) := by decide +kernel
theorem dX8_giver_30 : decode cX8_giver 30 = .ok (.iconst 4, 1) := by decide +kernel
theorem dX8_giver_31 : decode cX8_giver 31 = .ok (.iadd, 1) := by decide +kernel
theorem dX8_giver_32 : decode cX8_giver 32 = .ok (.iaload, 1) := by decide +kernel
theorem dX8_giver_33 : decode cX8_giver 33 = .ok (.iconst 2, 1) := by decide +kernel
theorem dX8_giver_34 : decode cX8_giver 34 = .ok (.if_icmp .eq 16, 3) := by decide +kernel
theorem dX8_giver_37 : decode cX8_giver 37 = .ok (.aload_n 0, 1) := by decide +kernel
theorem dX8_giver_38 : decode cX8_giver 38 = .ok (.getfield 7, 3) := by decide +kernel
theorem dX8_giver_41 : decode cX8_giver 41 = .ok (.iload 5, 2) := by decide +kernel
theorem dX8_giver_43 : decode cX8_giver 43 = .ok (.iconst 4, 1) := by decide +kernel
theorem dX8_giver_44 : decode cX8_giver 44 = .ok (.iadd, 1) := by decide +kernel
theorem dX8_giver_45 : decode cX8_giver 45 = .ok (.iaload, 1) := by decide +kernel
theorem dX8_giver_46 : decode cX8_giver 46 = .ok (.iconst 3, 1) := by decide +kernel
theorem dX8_giver_47 : decode cX8_giver 47 = .ok (.if_icmp .ne 34, 3) := by decide +kernel
theorem dX8_giver_50 : decode cX8_giver 50 = .ok (.aload_n 0, 1) := by decide +kernel
theorem dX8_giver_51 : decode cX8_giver 51 = .ok (.getfield 7, 3) := by decide +kernel
theorem dX8_giver_54 : decode cX8_giver 54 = .ok (.iload 5, 2) := by decide +kernel
theorem dX8_giver_56 : decode cX8_giver 56 = .ok (.iconst 1, 1) := by decide +kernel
theorem dX8_giver_57 : decode cX8_giver 57 = .ok (.iadd, 1) := by decide +kernel
theorem dX8_giver_58 : decode cX8_giver 58 = .ok (.iaload, 1) := by decide +kernel
theorem dX8_giver_59 : decode cX8_giver 59 = .ok (.iload_n 1, 1) := by decide +kernel
theorem dX8_giver_60 : decode cX8_giver 60 = .ok (.if_icmp .ne 21, 3) := by decide +kernel
theorem dX8_giver_63 : decode cX8_giver 63 = .ok (.aload_n 0, 1) := by decide +kernel
theorem dX8_giver_64 : decode cX8_giver 64 = .ok (.getfield 7, 3) := by decide +kernel
theorem dX8_giver_67 : decode cX8_giver 67 = .ok (.iload 5, 2) := by decide +kernel
theorem dX8_giver_69 : decode cX8_giver 69 = .ok (.bipush 6, 2) := by decide +kernel
theorem dX8_giver_71 : decode cX8_giver 71 = .ok (.iadd, 1) := by decide +kernel
theorem dX8_giver_72 : decode cX8_giver 72 = .ok (.iaload, 1) := by decide +kernel
theorem dX8_giver_73 : decode cX8_giver 73 = .ok (.iload_n 2, 1) := by decide +kernel
theorem dX8_giver_74 : decode cX8_giver 74 = .ok (.if_icmp .ne 7, 3) := by decide +kernel
theorem dX8_giver_77 : decode cX8_giver 77 = .ok (.iconst 1, 1) := by decide +kernel
theorem dX8_giver_78 : decode cX8_giver 78 = .ok (.goto 4, 3) := by decide +kernel
theorem dX8_giver_81 : decode cX8_giver 81 = .ok (.iconst 0, 1) := by decide +kernel
theorem dX8_giver_82 : decode cX8_giver 82 = .ok (.istore 6, 2) := by decide +kernel
theorem dX8_giver_84 : decode cX8_giver 84 = .ok (.iload 6, 2) := by decide +kernel
theorem dX8_giver_86 : decode cX8_giver 86 = .ok (.ifCond .eq 37, 3) := by decide +kernel
theorem dX8_giver_89 : decode cX8_giver 89 = .ok (.iload_n 3, 1) := by decide +kernel
theorem dX8_giver_90 : decode cX8_giver 90 = .ok (.ifCond .lt 28, 3) := by decide +kernel
theorem dX8_giver_93 : decode cX8_giver 93 = .ok (.aload_n 0, 1) := by decide +kernel
theorem dX8_giver_94 : decode cX8_giver 94 = .ok (.getfield 7, 3) := by decide +kernel
theorem dX8_giver_97 : decode cX8_giver 97 = .ok (.iload 5, 2) := by decide +kernel
theorem dX8_giver_99 : decode cX8_giver 99 = .ok (.bipush 7, 2) := by decide +kernel
theorem dX8_giver_101 : decode cX8_giver 101 = .ok (.iadd, 1) := by decide +kernel
theorem dX8_giver_102 : decode cX8_giver 102 = .ok (.iaload, 1) := by decide +kernel
theorem dX8_giver_103 : decode cX8_giver 103 = .ok (.aload_n 0, 1) := by decide +kernel
theorem dX8_giver_104 : decode cX8_giver 104 = .ok (.getfield 7, 3) := by decide +kernel
theorem dX8_giver_107 : decode cX8_giver 107 = .ok (.iload_n 3, 1) := by decide +kernel
theorem dX8_giver_108 : decode cX8_giver 108 = .ok (.invokestatic 48, 3) := by decide +kernel
theorem dX8_giver_111 : decode cX8_giver 111 = .ok (.bipush 7, 2) := by decide +kernel
theorem dX8_giver_113 : decode cX8_giver 113 = .ok (.iadd, 1) := by decide +kernel
theorem dX8_giver_114 : decode cX8_giver 114 = .ok (.iaload, 1) := by decide +kernel
theorem dX8_giver_115 : decode cX8_giver 115 = .ok (.if_icmp .ge 8, 3) := by decide +kernel
theorem dX8_giver_118 : decode cX8_giver 118 = .ok (.iload 4, 2) := by decide +kernel
theorem dX8_giver_120 : decode cX8_giver 120 = .ok (.goto 4, 3) := by decide +kernel
theorem dX8_giver_123 : decode cX8_giver 123 = .ok (.iload_n 3, 1) := by decide +kernel
theorem dX8_giver_124 : decode cX8_giver 124 = .ok (.istore_n 3, 1) := by decide +kernel
theorem dX8_giver_125 : decode cX8_giver 125 = .ok (.iinc 4 1, 3) := by decide +kernel
theorem dX8_giver_128 : decode cX8_giver 128 = .ok (.goto (-123), 3) := by decide +kernel
theorem dX8_giver_131 : decode cX8_giver 131 = .ok (.iload_n 3, 1) := by decide +kernel
theorem dX8_giver_132 : decode cX8_giver 132 = .ok (.ireturn, 1) := by decide +kernel
theorem dX8_comesEdition_0 : decode cX8_comesEdition 0 = .ok (.iconst 0, 1) := by decide +kernel
theorem dX8_comesEdition_1 : decode cX8_comesEdition 1 = .ok (.istore_n 1, 1) := by decide +kernel
theorem dX8_comesEdition_2 : decode cX8_comesEdition 2 = .ok (.iconst 0, 1) := by decide +kernel
theorem dX8_comesEdition_3 : decode cX8_comesEdition 3 = .ok (.istore_n 2, 1) := by decide +kernel
theorem dX8_comesEdition_4 : decode cX8_comesEdition 4 = .ok (.iload_n 2, 1) := by decide +kernel
theorem dX8_comesEdition_5 : decode cX8_comesEdition 5 = .ok (.aload_n 0, 1) := by decide +kernel
theorem dX8_comesEdition_6 : decode cX8_comesEdition 6 = .ok (.getfield 7, 3) := by decide +kernel
theorem dX8_comesEdition_9 : decode cX8_comesEdition 9 = .ok (.iconst 1, 1) := by decide +kernel
theorem dX8_comesEdition_10 : decode cX8_comesEdition 10 = .ok (.iaload, 1) := by decide +kernel
theorem dX8_comesEdition_11 : decode cX8_comesEdition 11 = .ok (.if_icmp .ge 50, 3) := by decide +kernel
theorem dX8_comesEdition_14 : decode cX8_comesEdition 14 = .ok (.iload_n 2, 1) := by decide +kernel
theorem dX8_comesEdition_15 : decode cX8_comesEdition 15 = .ok (.invokestatic 34, 3) := by decide +kernel
theorem dX8_comesEdition_18 : decode cX8_comesEdition 18 = .ok (.istore_n 3, 1) := by decide +kernel
theorem dX8_comesEdition_19 : decode cX8_comesEdition 19 = .ok (.iload_n 1, 1) := by decide +kernel
theorem dX8_comesEdition_20 : decode cX8_comesEdition 20 = .ok (.ifCond .ne 29, 3) := by decide +kernel
theorem dX8_comesEdition_23 : decode cX8_comesEdition 23 = .ok (.aload_n 0, 1) := by decide +kernel
theorem dX8_comesEdition_24 : decode cX8_comesEdition 24 = .ok (.getfield 7, 3) := by decide +kernel
theorem dX8_comesEdition_27 : decode cX8_comesEdition 27 = .ok (.iload_n 3, 1) := by decide +kernel
theorem dX8_comesEdition_28 : decode cX8_comesEdition 28 = .ok (.iconst 1, 1) := by decide +kernel
theorem dX8_comesEdition_29 : decode cX8_comesEdition 29 = .ok (.iadd, 1) := by decide +kernel
theorem dX8_comesEdition_30 : decode cX8_comesEdition 30 = .ok (.iaload, 1) := by decide +kernel
theorem dX8_comesEdition_31 : decode cX8_comesEdition 31 = .ok (.aload_n 0, 1) := by decide +kernel
theorem dX8_comesEdition_32 : decode cX8_comesEdition 32 = .ok (.getfield 7, 3) := by decide +kernel
theorem dX8_comesEdition_35 : decode cX8_comesEdition 35 = .ok (.iload_n 3, 1) := by decide +kernel
theorem dX8_comesEdition_36 : decode cX8_comesEdition 36 = .ok (.iconst 3, 1) := by decide +kernel
theorem dX8_comesEdition_37 : decode cX8_comesEdition 37 = .ok (.iadd, 1) := by decide +kernel
theorem dX8_comesEdition_38 : decode cX8_comesEdition 38 = .ok (.aload_n 0, 1) := by decide +kernel
theorem dX8_comesEdition_39 : decode cX8_comesEdition 39 = .ok (.getfield 7, 3) := by decide +kernel
theorem dX8_comesEdition_42 : decode cX8_comesEdition 42 = .ok (.iconst 2, 1) := by decide +kernel
theorem dX8_comesEdition_43 : decode cX8_comesEdition 43 = .ok (.iaload, 1) := by decide +kernel
theorem dX8_comesEdition_44 : decode cX8_comesEdition 44 = .ok (.iadd, 1) := by decide +kernel
theorem dX8_comesEdition_45 : decode cX8_comesEdition 45 = .ok (.iaload, 1) := by decide +kernel
theorem dX8_comesEdition_46 : decode cX8_comesEdition 46 = .ok (.if_icmp .eq 7, 3) := by decide +kernel
theorem dX8_comesEdition_49 : decode cX8_comesEdition 49 = .ok (.iconst 1, 1) := by decide +kernel
theorem dX8_comesEdition_50 : decode cX8_comesEdition 50 = .ok (.goto 4, 3) := by decide +kernel
theorem dX8_comesEdition_53 : decode cX8_comesEdition 53 = .ok (.iconst 0, 1) := by decide +kernel
theorem dX8_comesEdition_54 : decode cX8_comesEdition 54 = .ok (.istore_n 1, 1) := by decide +kernel
theorem dX8_comesEdition_55 : decode cX8_comesEdition 55 = .ok (.iinc 2 1, 3) := by decide +kernel
theorem dX8_comesEdition_58 : decode cX8_comesEdition 58 = .ok (.goto (-54), 3) := by decide +kernel
theorem dX8_comesEdition_61 : decode cX8_comesEdition 61 = .ok (.iload_n 1, 1) := by decide +kernel
theorem dX8_comesEdition_62 : decode cX8_comesEdition 62 = .ok (.ifCond .ne 4, 3) := by decide +kernel
theorem dX8_comesEdition_65 : decode cX8_comesEdition 65 = .ok (.return_, 1) := by decide +kernel
theorem dX8_comesEdition_66 : decode cX8_comesEdition 66 = .ok (.aload_n 0, 1) := by decide +kernel
theorem dX8_comesEdition_67 : decode cX8_comesEdition 67 = .ok (.getfield 7, 3) := by decide +kernel
theorem dX8_comesEdition_70 : decode cX8_comesEdition 70 = .ok (.iconst 2, 1) := by decide +kernel
theorem dX8_comesEdition_71 : decode cX8_comesEdition 71 = .ok (.dup2, 1) := by decide +kernel
theorem dX8_comesEdition_72 : decode cX8_comesEdition 72 = .ok (.iaload, 1) := by decide +kernel
theorem dX8_comesEdition_73 : decode cX8_comesEdition 73 = .ok (.iconst 1, 1) := by decide +kernel
theorem dX8_comesEdition_74 : decode cX8_comesEdition 74 = .ok (.iadd, 1) := by decide +kernel
theorem dX8_comesEdition_75 : decode cX8_comesEdition 75 = .ok (.iastore, 1) := by decide +kernel
theorem dX8_comesEdition_76 : decode cX8_comesEdition 76 = .ok (.aload_n 0, 1) := by decide +kernel
theorem dX8_comesEdition_77 : decode cX8_comesEdition 77 = .ok (.getfield 7, 3) := by decide +kernel
theorem dX8_comesEdition_80 : decode cX8_comesEdition 80 = .ok (.bipush 11, 2) := by decide +kernel
theorem dX8_comesEdition_82 : decode cX8_comesEdition 82 = .ok (.iconst 1, 1) := by decide +kernel
theorem dX8_comesEdition_83 : decode cX8_comesEdition 83 = .ok (.iastore, 1) := by decide +kernel
theorem dX8_comesEdition_84 : decode cX8_comesEdition 84 = .ok (.iconst 0, 1) := by decide +kernel
theorem dX8_comesEdition_85 : decode cX8_comesEdition 85 = .ok (.istore_n 2, 1) := by decide +kernel
theorem dX8_comesEdition_86 : decode cX8_comesEdition 86 = .ok (.iload_n 2, 1) := by decide +kernel
theorem dX8_comesEdition_87 : decode cX8_comesEdition 87 = .ok (.aload_n 0, 1) := by decide +kernel
theorem dX8_comesEdition_88 : decode cX8_comesEdition 88 = .ok (.getfield 7, 3) := by decide +kernel
theorem dX8_comesEdition_91 : decode cX8_comesEdition 91 = .ok (.iconst 1, 1) := by decide +kernel
theorem dX8_comesEdition_92 : decode cX8_comesEdition 92 = .ok (.iaload, 1) := by decide +kernel
theorem dX8_comesEdition_93 : decode cX8_comesEdition 93 = .ok (.if_icmp .ge 95, 3) := by decide +kernel
theorem dX8_comesEdition_96 : decode cX8_comesEdition 96 = .ok (.iload_n 2, 1) := by decide +kernel
theorem dX8_comesEdition_97 : decode cX8_comesEdition 97 = .ok (.invokestatic 34, 3) := by decide +kernel
theorem dX8_comesEdition_100 : decode cX8_comesEdition 100 = .ok (.istore_n 3, 1) := by decide +kernel
theorem dX8_comesEdition_101 : decode cX8_comesEdition 101 = .ok (.aload_n 0, 1) := by decide +kernel
theorem dX8_comesEdition_102 : decode cX8_comesEdition 102 = .ok (.getfield 7, 3) := by decide +kernel
theorem dX8_comesEdition_105 : decode cX8_comesEdition 105 = .ok (.iload_n 3, 1) := by decide +kernel
theorem dX8_comesEdition_106 : decode cX8_comesEdition 106 = .ok (.iconst 3, 1) := by decide +kernel
theorem dX8_comesEdition_107 : decode cX8_comesEdition 107 = .ok (.iadd, 1) := by decide +kernel
theorem dX8_comesEdition_108 : decode cX8_comesEdition 108 = .ok (.aload_n 0, 1) := by decide +kernel
theorem dX8_comesEdition_109 : decode cX8_comesEdition 109 = .ok (.getfield 7, 3) := by decide +kernel
theorem dX8_comesEdition_112 : decode cX8_comesEdition 112 = .ok (.iconst 2, 1) := by decide +kernel
theorem dX8_comesEdition_113 : decode cX8_comesEdition 113 = .ok (.iaload, 1) := by decide +kernel
theorem dX8_comesEdition_114 : decode cX8_comesEdition 114 = .ok (.iadd, 1) := by decide +kernel
theorem dX8_comesEdition_115 : decode cX8_comesEdition 115 = .ok (.aload_n 0, 1) := by decide +kernel
theorem dX8_comesEdition_116 : decode cX8_comesEdition 116 = .ok (.getfield 7, 3) := by decide +kernel
theorem dX8_comesEdition_119 : decode cX8_comesEdition 119 = .ok (.iload_n 3, 1) := by decide +kernel
theorem dX8_comesEdition_120 : decode cX8_comesEdition 120 = .ok (.iconst 1, 1) := by decide +kernel
theorem dX8_comesEdition_121 : decode cX8_comesEdition 121 = .ok (.iadd, 1) := by decide +kernel
theorem dX8_comesEdition_122 : decode cX8_comesEdition 122 = .ok (.iaload, 1) := by decide +kernel
theorem dX8_comesEdition_123 : decode cX8_comesEdition 123 = .ok (.iastore, 1) := by decide +kernel
theorem dX8_comesEdition_124 : decode cX8_comesEdition 124 = .ok (.aload_n 0, 1) := by decide +kernel
theorem dX8_comesEdition_125 : decode cX8_comesEdition 125 = .ok (.getfield 7, 3) := by decide +kernel
theorem dX8_comesEdition_128 : decode cX8_comesEdition 128 = .ok (.iload_n 3, 1) := by decide +kernel
theorem dX8_comesEdition_129 : decode cX8_comesEdition 129 = .ok (.bipush 17, 2) := by decide +kernel
theorem dX8_comesEdition_131 : decode cX8_comesEdition 131 = .ok (.iadd, 1) := by decide +kernel
theorem dX8_comesEdition_132 : decode cX8_comesEdition 132 = .ok (.aload_n 0, 1) := by decide +kernel
theorem dX8_comesEdition_133 : decode cX8_comesEdition 133 = .ok (.getfield 7, 3) := by decide +kernel
theorem dX8_comesEdition_136 : decode cX8_comesEdition 136 = .ok (.iconst 2, 1) := by decide +kernel
theorem dX8_comesEdition_137 : decode cX8_comesEdition 137 = .ok (.iaload, 1) := by decide +kernel
theorem dX8_comesEdition_138 : decode cX8_comesEdition 138 = .ok (.iadd, 1) := by decide +kernel
theorem dX8_comesEdition_139 : decode cX8_comesEdition 139 = .ok (.aload_n 0, 1) := by decide +kernel
theorem dX8_comesEdition_140 : decode cX8_comesEdition 140 = .ok (.getfield 7, 3) := by decide +kernel
theorem dX8_comesEdition_143 : decode cX8_comesEdition 143 = .ok (.iconst 5, 1) := by decide +kernel
theorem dX8_comesEdition_144 : decode cX8_comesEdition 144 = .ok (.iaload, 1) := by decide +kernel
theorem dX8_comesEdition_145 : decode cX8_comesEdition 145 = .ok (.iastore, 1) := by decide +kernel
theorem dX8_comesEdition_146 : decode cX8_comesEdition 146 = .ok (.aload_n 0, 1) := by decide +kernel
theorem dX8_comesEdition_147 : decode cX8_comesEdition 147 = .ok (.getfield 7, 3) := by decide +kernel
theorem dX8_comesEdition_150 : decode cX8_comesEdition 150 = .ok (.iload_n 3, 1) := by decide +kernel
theorem dX8_comesEdition_151 : decode cX8_comesEdition 151 = .ok (.bipush 31, 2) := by decide +kernel
theorem dX8_comesEdition_153 : decode cX8_comesEdition 153 = .ok (.iadd, 1) := by decide +kernel
theorem dX8_comesEdition_154 : decode cX8_comesEdition 154 = .ok (.aload_n 0, 1) := by decide +kernel
theorem dX8_comesEdition_155 : decode cX8_comesEdition 155 = .ok (.getfield 7, 3) := by decide +kernel
theorem dX8_comesEdition_158 : decode cX8_comesEdition 158 = .ok (.iconst 2, 1) := by decide +kernel
theorem dX8_comesEdition_159 : decode cX8_comesEdition 159 = .ok (.iaload, 1) := by decide +kernel
theorem dX8_comesEdition_160 : decode cX8_comesEdition 160 = .ok (.iadd, 1) := by decide +kernel
theorem dX8_comesEdition_161 : decode cX8_comesEdition 161 = .ok (.aload_n 0, 1) := by decide +kernel
theorem dX8_comesEdition_162 : decode cX8_comesEdition 162 = .ok (.aload_n 0, 1) := by decide +kernel
theorem dX8_comesEdition_163 : decode cX8_comesEdition 163 = .ok (.getfield 7, 3) := by decide +kernel
theorem dX8_comesEdition_166 : decode cX8_comesEdition 166 = .ok (.iload_n 3, 1) := by decide +kernel
theorem dX8_comesEdition_167 : decode cX8_comesEdition 167 = .ok (.iconst 0, 1) := by decide +kernel
theorem dX8_comesEdition_168 : decode cX8_comesEdition 168 = .ok (.iadd, 1) := by decide +kernel
theorem dX8_comesEdition_169 : decode cX8_comesEdition 169 = .ok (.iaload, 1) := by decide +kernel
theorem dX8_comesEdition_170 : decode cX8_comesEdition 170 = .ok (.aload_n 0, 1) := by decide +kernel
theorem dX8_comesEdition_171 : decode cX8_comesEdition 171 = .ok (.getfield 7, 3) := by decide +kernel
theorem dX8_comesEdition_174 : decode cX8_comesEdition 174 = .ok (.iload_n 3, 1) := by decide +kernel
theorem dX8_comesEdition_175 : decode cX8_comesEdition 175 = .ok (.iconst 1, 1) := by decide +kernel
theorem dX8_comesEdition_176 : decode cX8_comesEdition 176 = .ok (.iadd, 1) := by decide +kernel
theorem dX8_comesEdition_177 : decode cX8_comesEdition 177 = .ok (.iaload, 1) := by decide +kernel
theorem dX8_comesEdition_178 : decode cX8_comesEdition 178 = .ok (.invokevirtual 97, 3) := by decide +kernel
theorem dX8_comesEdition_181 : decode cX8_comesEdition 181 = .ok (.iastore, 1) := by decide +kernel
theorem dX8_comesEdition_182 : decode cX8_comesEdition 182 = .ok (.iinc 2 1, 3) := by decide +kernel
theorem dX8_comesEdition_185 : decode cX8_comesEdition 185 = .ok (.goto (-99), 3) := by decide +kernel
theorem dX8_comesEdition_188 : decode cX8_comesEdition 188 = .ok (.return_, 1) := by decide +kernel
theorem dX8_resolve_0 : decode cX8_resolve 0 = .ok (.iload_n 1, 1) := by decide +kernel
theorem dX8_resolve_1 : decode cX8_resolve 1 = .ok (.iconst 0, 1) := by decide +kernel
theorem dX8_resolve_2 : decode cX8_resolve 2 = .ok (.iconst 2, 1) := by decide +kernel
theorem dX8_resolve_3 : decode cX8_resolve 3 = .ok (.invokestatic 23, 3) := by decide +kernel
theorem dX8_resolve_6 : decode cX8_resolve 6 = .ok (.ifCond .eq 19, 3) := by decide +kernel
theorem dX8_resolve_9 : decode cX8_resolve 9 = .ok (.iload_n 2, 1) := by decide +kernel
theorem dX8_resolve_10 : decode cX8_resolve 10 = .ok (.invokestatic 37, 3) := by decide +kernel
theorem dX8_resolve_13 : decode cX8_resolve 13 = .ok (.ifCond .eq 12, 3) := by decide +kernel
theorem dX8_resolve_16 : decode cX8_resolve 16 = .ok (.iload_n 1, 1) := by decide +kernel
theorem dX8_resolve_17 : decode cX8_resolve 17 = .ok (.iconst 1, 1) := by decide +kernel
theorem dX8_resolve_18 : decode cX8_resolve 18 = .ok (.if_icmp .eq 9, 3) := by decide +kernel
theorem dX8_resolve_21 : decode cX8_resolve 21 = .ok (.iload_n 2, 1) := by decide +kernel
theorem dX8_resolve_22 : decode cX8_resolve 22 = .ok (.ifCond .eq 5, 3) := by decide +kernel
theorem dX8_resolve_25 : decode cX8_resolve 25 = .ok (.iconst (-1), 1) := by decide +kernel
theorem dX8_resolve_26 : decode cX8_resolve 26 = .ok (.ireturn, 1) := by decide +kernel
theorem dX8_resolve_27 : decode cX8_resolve 27 = .ok (.aload_n 0, 1) := by decide +kernel
theorem dX8_resolve_28 : decode cX8_resolve 28 = .ok (.invokevirtual 101, 3) := by decide +kernel
theorem dX8_resolve_31 : decode cX8_resolve 31 = .ok (.istore_n 3, 1) := by decide +kernel
theorem dX8_resolve_32 : decode cX8_resolve 32 = .ok (.iload_n 3, 1) := by decide +kernel
theorem dX8_resolve_33 : decode cX8_resolve 33 = .ok (.ifCond .ge 6, 3) := by decide +kernel
theorem dX8_resolve_36 : decode cX8_resolve 36 = .ok (.bipush (-2), 2) := by decide +kernel
theorem dX8_resolve_38 : decode cX8_resolve 38 = .ok (.ireturn, 1) := by decide +kernel
theorem dX8_resolve_39 : decode cX8_resolve 39 = .ok (.iload_n 3, 1) := by decide +kernel
theorem dX8_resolve_40 : decode cX8_resolve 40 = .ok (.invokestatic 48, 3) := by decide +kernel
theorem dX8_resolve_43 : decode cX8_resolve 43 = .ok (.istore 4, 2) := by decide +kernel
theorem dX8_resolve_45 : decode cX8_resolve 45 = .ok (.aload_n 0, 1) := by decide +kernel
theorem dX8_resolve_46 : decode cX8_resolve 46 = .ok (.aload_n 0, 1) := by decide +kernel
theorem dX8_resolve_47 : decode cX8_resolve 47 = .ok (.getfield 7, 3) := by decide +kernel
theorem dX8_resolve_50 : decode cX8_resolve 50 = .ok (.iload 4, 2) := by decide +kernel
theorem dX8_resolve_52 : decode cX8_resolve 52 = .ok (.iconst 1, 1) := by decide +kernel
theorem dX8_resolve_53 : decode cX8_resolve 53 = .ok (.iadd, 1) := by decide +kernel
theorem dX8_resolve_54 : decode cX8_resolve 54 = .ok (.iaload, 1) := by decide +kernel
theorem dX8_resolve_55 : decode cX8_resolve 55 = .ok (.invokevirtual 41, 3) := by decide +kernel
theorem dX8_resolve_58 : decode cX8_resolve 58 = .ok (.istore 5, 2) := by decide +kernel
theorem dX8_resolve_60 : decode cX8_resolve 60 = .ok (.iload_n 1, 1) := by decide +kernel
theorem dX8_resolve_61 : decode cX8_resolve 61 = .ok (.ifCond .ne 15, 3) := by decide +kernel
theorem dX8_resolve_64 : decode cX8_resolve 64 = .ok (.aload_n 0, 1) := by decide +kernel
theorem dX8_resolve_65 : decode cX8_resolve 65 = .ok (.getfield 7, 3) := by decide +kernel
theorem dX8_resolve_68 : decode cX8_resolve 68 = .ok (.iload 4, 2) := by decide +kernel
theorem dX8_resolve_70 : decode cX8_resolve 70 = .ok (.iconst 3, 1) := by decide +kernel
theorem dX8_resolve_71 : decode cX8_resolve 71 = .ok (.iadd, 1) := by decide +kernel
theorem dX8_resolve_72 : decode cX8_resolve 72 = .ok (.iaload, 1) := by decide +kernel
theorem dX8_resolve_73 : decode cX8_resolve 73 = .ok (.goto 4, 3) := by decide +kernel
theorem dX8_resolve_76 : decode cX8_resolve 76 = .ok (.iload_n 2, 1) := by decide +kernel
theorem dX8_resolve_77 : decode cX8_resolve 77 = .ok (.istore 6, 2) := by decide +kernel
theorem dX8_resolve_79 : decode cX8_resolve 79 = .ok (.iload_n 1, 1) := by decide +kernel
theorem dX8_resolve_80 : decode cX8_resolve 80 = .ok (.iconst 2, 1) := by decide +kernel
theorem dX8_resolve_81 : decode cX8_resolve 81 = .ok (.if_icmp .ge 17, 3) := by decide +kernel
theorem dX8_resolve_84 : decode cX8_resolve 84 = .ok (.aload_n 0, 1) := by decide +kernel
theorem dX8_resolve_85 : decode cX8_resolve 85 = .ok (.iload 5, 2) := by decide +kernel
theorem dX8_resolve_87 : decode cX8_resolve 87 = .ok (.iload 6, 2) := by decide +kernel
theorem dX8_resolve_89 : decode cX8_resolve 89 = .ok (.invokevirtual 104, 3) := by decide +kernel
theorem dX8_resolve_92 : decode cX8_resolve 92 = .ok (.ifCond .ne 6, 3) := by decide +kernel
theorem dX8_resolve_95 : decode cX8_resolve 95 = .ok (.bipush (-2), 2) := by decide +kernel
theorem dX8_resolve_97 : decode cX8_resolve 97 = .ok (.ireturn, 1) := by decide +kernel
theorem dX8_resolve_98 : decode cX8_resolve 98 = .ok (.aload_n 0, 1) := by decide +kernel
theorem dX8_resolve_99 : decode cX8_resolve 99 = .ok (.invokevirtual 31, 3) := by decide +kernel
theorem dX8_resolve_102 : decode cX8_resolve 102 = .ok (.aload_n 0, 1) := by decide +kernel
theorem dX8_resolve_103 : decode cX8_resolve 103 = .ok (.getfield 7, 3) := by decide +kernel
theorem dX8_resolve_106 : decode cX8_resolve 106 = .ok (.iload 4, 2) := by decide +kernel
theorem dX8_resolve_108 : decode cX8_resolve 108 = .ok (.iconst 4, 1) := by decide +kernel
theorem dX8_resolve_109 : decode cX8_resolve 109 = .ok (.iadd, 1) := by decide +kernel
theorem dX8_resolve_110 : decode cX8_resolve 110 = .ok (.iconst 2, 1) := by decide +kernel
theorem dX8_resolve_111 : decode cX8_resolve 111 = .ok (.iload_n 1, 1) := by decide +kernel
theorem dX8_resolve_112 : decode cX8_resolve 112 = .ok (.iadd, 1) := by decide +kernel
theorem dX8_resolve_113 : decode cX8_resolve 113 = .ok (.iastore, 1) := by decide +kernel
theorem dX8_resolve_114 : decode cX8_resolve 114 = .ok (.aload_n 0, 1) := by decide +kernel
theorem dX8_resolve_115 : decode cX8_resolve 115 = .ok (.getfield 7, 3) := by decide +kernel
theorem dX8_resolve_118 : decode cX8_resolve 118 = .ok (.iload 4, 2) := by decide +kernel
theorem dX8_resolve_120 : decode cX8_resolve 120 = .ok (.iconst 5, 1) := by decide +kernel
theorem dX8_resolve_121 : decode cX8_resolve 121 = .ok (.iadd, 1) := by decide +kernel
theorem dX8_resolve_122 : decode cX8_resolve 122 = .ok (.aload_n 0, 1) := by decide +kernel
theorem dX8_resolve_123 : decode cX8_resolve 123 = .ok (.getfield 7, 3) := by decide +kernel
theorem dX8_resolve_126 : decode cX8_resolve 126 = .ok (.iconst 3, 1) := by decide +kernel
theorem dX8_resolve_127 : decode cX8_resolve 127 = .ok (.iaload, 1) := by decide +kernel
theorem dX8_resolve_128 : decode cX8_resolve 128 = .ok (.iastore, 1) := by decide +kernel
theorem dX8_resolve_129 : decode cX8_resolve 129 = .ok (.aload_n 0, 1) := by decide +kernel
theorem dX8_resolve_130 : decode cX8_resolve 130 = .ok (.getfield 7, 3) := by decide +kernel
theorem dX8_resolve_133 : decode cX8_resolve 133 = .ok (.iload 4, 2) := by decide +kernel
theorem dX8_resolve_135 : decode cX8_resolve 135 = .ok (.bipush 7, 2) := by decide +kernel
theorem dX8_resolve_137 : decode cX8_resolve 137 = .ok (.iadd, 1) := by decide +kernel
theorem dX8_resolve_138 : decode cX8_resolve 138 = .ok (.aload_n 0, 1) := by decide +kernel
theorem dX8_resolve_139 : decode cX8_resolve 139 = .ok (.getfield 7, 3) := by decide +kernel
theorem dX8_resolve_142 : decode cX8_resolve 142 = .ok (.bipush 10, 2) := by decide +kernel
theorem dX8_resolve_144 : decode cX8_resolve 144 = .ok (.iaload, 1) := by decide +kernel
theorem dX8_resolve_145 : decode cX8_resolve 145 = .ok (.iastore, 1) := by decide +kernel
theorem dX8_resolve_146 : decode cX8_resolve 146 = .ok (.aload_n 0, 1) := by decide +kernel
theorem dX8_resolve_147 : decode cX8_resolve 147 = .ok (.getfield 7, 3) := by decide +kernel
theorem dX8_resolve_150 : decode cX8_resolve 150 = .ok (.bipush 10, 2) := by decide +kernel
theorem dX8_resolve_152 : decode cX8_resolve 152 = .ok (.dup2, 1) := by decide +kernel
theorem dX8_resolve_153 : decode cX8_resolve 153 = .ok (.iaload, 1) := by decide +kernel
theorem dX8_resolve_154 : decode cX8_resolve 154 = .ok (.iconst 1, 1) := by decide +kernel
theorem dX8_resolve_155 : decode cX8_resolve 155 = .ok (.iadd, 1) := by decide +kernel
theorem dX8_resolve_156 : decode cX8_resolve 156 = .ok (.iastore, 1) := by decide +kernel
theorem dX8_resolve_157 : decode cX8_resolve 157 = .ok (.iload_n 1, 1) := by decide +kernel
theorem dX8_resolve_158 : decode cX8_resolve 158 = .ok (.iconst 2, 1) := by decide +kernel
theorem dX8_resolve_159 : decode cX8_resolve 159 = .ok (.if_icmp .ge 29, 3) := by decide +kernel
theorem dX8_resolve_162 : decode cX8_resolve 162 = .ok (.aload_n 0, 1) := by decide +kernel
theorem dX8_resolve_163 : decode cX8_resolve 163 = .ok (.getfield 7, 3) := by decide +kernel
theorem dX8_resolve_166 : decode cX8_resolve 166 = .ok (.iload 4, 2) := by decide +kernel
theorem dX8_resolve_168 : decode cX8_resolve 168 = .ok (.bipush 6, 2) := by decide +kernel
theorem dX8_resolve_170 : decode cX8_resolve 170 = .ok (.iadd, 1) := by decide +kernel
theorem dX8_resolve_171 : decode cX8_resolve 171 = .ok (.iload 6, 2) := by decide +kernel
theorem dX8_resolve_173 : decode cX8_resolve 173 = .ok (.iastore, 1) := by decide +kernel
theorem dX8_resolve_174 : decode cX8_resolve 174 = .ok (.aload_n 0, 1) := by decide +kernel
theorem dX8_resolve_175 : decode cX8_resolve 175 = .ok (.getfield 7, 3) := by decide +kernel
theorem dX8_resolve_178 : decode cX8_resolve 178 = .ok (.iload 5, 2) := by decide +kernel
theorem dX8_resolve_180 : decode cX8_resolve 180 = .ok (.invokestatic 34, 3) := by decide +kernel
theorem dX8_resolve_183 : decode cX8_resolve 183 = .ok (.iconst 1, 1) := by decide +kernel
theorem dX8_resolve_184 : decode cX8_resolve 184 = .ok (.iadd, 1) := by decide +kernel
theorem dX8_resolve_185 : decode cX8_resolve 185 = .ok (.iload 6, 2) := by decide +kernel
theorem dX8_resolve_187 : decode cX8_resolve 187 = .ok (.iastore, 1) := by decide +kernel
theorem dX8_resolve_188 : decode cX8_resolve 188 = .ok (.aload_n 0, 1) := by decide +kernel
theorem dX8_resolve_189 : decode cX8_resolve 189 = .ok (.invokevirtual 63, 3) := by decide +kernel
theorem dX8_resolve_192 : decode cX8_resolve 192 = .ok (.istore 7, 2) := by decide +kernel
theorem dX8_resolve_194 : decode cX8_resolve 194 = .ok (.iload 7, 2) := by decide +kernel
theorem dX8_resolve_196 : decode cX8_resolve 196 = .ok (.ifCond .ne 7, 3) := by decide +kernel
theorem dX8_resolve_199 : decode cX8_resolve 199 = .ok (.aload_n 0, 1) := by decide +kernel
theorem dX8_resolve_200 : decode cX8_resolve 200 = .ok (.invokevirtual 107, 3) := by decide +kernel
theorem dX8_resolve_203 : decode cX8_resolve 203 = .ok (.iload 7, 2) := by decide +kernel
theorem dX8_resolve_205 : decode cX8_resolve 205 = .ok (.ireturn, 1) := by decide +kernel
theorem dX8_reopens_0 : decode cX8_reopens 0 = .ok (.iload_n 1, 1) := by decide +kernel
theorem dX8_reopens_1 : decode cX8_reopens 1 = .ok (.invokestatic 48, 3) := by decide +kernel
theorem dX8_reopens_4 : decode cX8_reopens 4 = .ok (.istore_n 2, 1) := by decide +kernel
theorem dX8_reopens_5 : decode cX8_reopens 5 = .ok (.aload_n 0, 1) := by decide +kernel
theorem dX8_reopens_6 : decode cX8_reopens 6 = .ok (.getfield 7, 3) := by decide +kernel
theorem dX8_reopens_9 : decode cX8_reopens 9 = .ok (.iload_n 2, 1) := by decide +kernel
theorem dX8_reopens_10 : decode cX8_reopens 10 = .ok (.iconst 4, 1) := by decide +kernel
theorem dX8_reopens_11 : decode cX8_reopens 11 = .ok (.iadd, 1) := by decide +kernel
theorem dX8_reopens_12 : decode cX8_reopens 12 = .ok (.iaload, 1) := by decide +kernel
theorem dX8_reopens_13 : decode cX8_reopens 13 = .ok (.istore_n 3, 1) := by decide +kernel
theorem dX8_reopens_14 : decode cX8_reopens 14 = .ok (.aload_n 0, 1) := by decide +kernel
theorem dX8_reopens_15 : decode cX8_reopens 15 = .ok (.getfield 7, 3) := by decide +kernel
theorem dX8_reopens_18 : decode cX8_reopens 18 = .ok (.iload_n 2, 1) := by decide +kernel
theorem dX8_reopens_19 : decode cX8_reopens 19 = .ok (.iconst 1, 1) := by decide +kernel
theorem dX8_reopens_20 : decode cX8_reopens 20 = .ok (.iadd, 1) := by decide +kernel
theorem dX8_reopens_21 : decode cX8_reopens 21 = .ok (.iaload, 1) := by decide +kernel
theorem dX8_reopens_22 : decode cX8_reopens 22 = .ok (.istore 4, 2) := by decide +kernel
theorem dX8_reopens_24 : decode cX8_reopens 24 = .ok (.aload_n 0, 1) := by decide +kernel
theorem dX8_reopens_25 : decode cX8_reopens 25 = .ok (.iload 4, 2) := by decide +kernel
theorem dX8_reopens_27 : decode cX8_reopens 27 = .ok (.invokevirtual 41, 3) := by decide +kernel
theorem dX8_reopens_30 : decode cX8_reopens 30 = .ok (.invokestatic 34, 3) := by decide +kernel
theorem dX8_reopens_33 : decode cX8_reopens 33 = .ok (.istore 5, 2) := by decide +kernel
theorem dX8_reopens_35 : decode cX8_reopens 35 = .ok (.aload_n 0, 1) := by decide +kernel
theorem dX8_reopens_36 : decode cX8_reopens 36 = .ok (.getfield 7, 3) := by decide +kernel
theorem dX8_reopens_39 : decode cX8_reopens 39 = .ok (.iload_n 2, 1) := by decide +kernel
theorem dX8_reopens_40 : decode cX8_reopens 40 = .ok (.iconst 4, 1) := by decide +kernel
theorem dX8_reopens_41 : decode cX8_reopens 41 = .ok (.iadd, 1) := by decide +kernel
theorem dX8_reopens_42 : decode cX8_reopens 42 = .ok (.iconst 1, 1) := by decide +kernel
theorem dX8_reopens_43 : decode cX8_reopens 43 = .ok (.iastore, 1) := by decide +kernel
theorem dX8_reopens_44 : decode cX8_reopens 44 = .ok (.iload_n 3, 1) := by decide +kernel
theorem dX8_reopens_45 : decode cX8_reopens 45 = .ok (.iconst 4, 1) := by decide +kernel
theorem dX8_reopens_46 : decode cX8_reopens 46 = .ok (.if_icmp .ge 39, 3) := by decide +kernel
theorem dX8_reopens_49 : decode cX8_reopens 49 = .ok (.aload_n 0, 1) := by decide +kernel
theorem dX8_reopens_50 : decode cX8_reopens 50 = .ok (.iload 4, 2) := by decide +kernel
theorem dX8_reopens_52 : decode cX8_reopens 52 = .ok (.aload_n 0, 1) := by decide +kernel
theorem dX8_reopens_53 : decode cX8_reopens 53 = .ok (.getfield 7, 3) := by decide +kernel
theorem dX8_reopens_56 : decode cX8_reopens 56 = .ok (.iload 5, 2) := by decide +kernel
theorem dX8_reopens_58 : decode cX8_reopens 58 = .ok (.iconst 1, 1) := by decide +kernel
theorem dX8_reopens_59 : decode cX8_reopens 59 = .ok (.iadd, 1) := by decide +kernel
theorem dX8_reopens_60 : decode cX8_reopens 60 = .ok (.iaload, 1) := by decide +kernel
theorem dX8_reopens_61 : decode cX8_reopens 61 = .ok (.invokevirtual 97, 3) := by decide +kernel
theorem dX8_reopens_64 : decode cX8_reopens 64 = .ok (.ifCond .ge 21, 3) := by decide +kernel
theorem dX8_reopens_67 : decode cX8_reopens 67 = .ok (.aload_n 0, 1) := by decide +kernel
theorem dX8_reopens_68 : decode cX8_reopens 68 = .ok (.getfield 7, 3) := by decide +kernel
theorem dX8_reopens_71 : decode cX8_reopens 71 = .ok (.iload 5, 2) := by decide +kernel
theorem dX8_reopens_73 : decode cX8_reopens 73 = .ok (.iconst 1, 1) := by decide +kernel
theorem dX8_reopens_74 : decode cX8_reopens 74 = .ok (.iadd, 1) := by decide +kernel
theorem dX8_reopens_75 : decode cX8_reopens 75 = .ok (.aload_n 0, 1) := by decide +kernel
theorem dX8_reopens_76 : decode cX8_reopens 76 = .ok (.getfield 7, 3) := by decide +kernel
theorem dX8_reopens_79 : decode cX8_reopens 79 = .ok (.iload 5, 2) := by decide +kernel
theorem dX8_reopens_81 : decode cX8_reopens 81 = .ok (.iconst 2, 1) := by decide +kernel
theorem dX8_reopens_82 : decode cX8_reopens 82 = .ok (.iadd, 1) := by decide +kernel
theorem dX8_reopens_83 : decode cX8_reopens 83 = .ok (.iaload, 1) := by decide +kernel
theorem dX8_reopens_84 : decode cX8_reopens 84 = .ok (.iastore, 1) := by decide +kernel
theorem dX8_reopens_85 : decode cX8_reopens 85 = .ok (.aload_n 0, 1) := by decide +kernel
theorem dX8_reopens_86 : decode cX8_reopens 86 = .ok (.getfield 7, 3) := by decide +kernel
theorem dX8_reopens_89 : decode cX8_reopens 89 = .ok (.bipush 11, 2) := by decide +kernel
theorem dX8_reopens_91 : decode cX8_reopens 91 = .ok (.iaload, 1) := by decide +kernel
theorem dX8_reopens_92 : decode cX8_reopens 92 = .ok (.iconst 1, 1) := by decide +kernel
theorem dX8_reopens_93 : decode cX8_reopens 93 = .ok (.if_icmp .ne 21, 3) := by decide +kernel
theorem dX8_reopens_96 : decode cX8_reopens 96 = .ok (.aload_n 0, 1) := by decide +kernel
theorem dX8_reopens_97 : decode cX8_reopens 97 = .ok (.getfield 7, 3) := by decide +kernel
theorem dX8_reopens_100 : decode cX8_reopens 100 = .ok (.bipush 11, 2) := by decide +kernel
theorem dX8_reopens_102 : decode cX8_reopens 102 = .ok (.iconst 0, 1) := by decide +kernel
theorem dX8_reopens_103 : decode cX8_reopens 103 = .ok (.iastore, 1) := by decide +kernel
theorem dX8_reopens_104 : decode cX8_reopens 104 = .ok (.aload_n 0, 1) := by decide +kernel
theorem dX8_reopens_105 : decode cX8_reopens 105 = .ok (.getfield 7, 3) := by decide +kernel
theorem dX8_reopens_108 : decode cX8_reopens 108 = .ok (.iconst 2, 1) := by decide +kernel
theorem dX8_reopens_109 : decode cX8_reopens 109 = .ok (.dup2, 1) := by decide +kernel
theorem dX8_reopens_110 : decode cX8_reopens 110 = .ok (.iaload, 1) := by decide +kernel
theorem dX8_reopens_111 : decode cX8_reopens 111 = .ok (.iconst 1, 1) := by decide +kernel
theorem dX8_reopens_112 : decode cX8_reopens 112 = .ok (.isub, 1) := by decide +kernel
theorem dX8_reopens_113 : decode cX8_reopens 113 = .ok (.iastore, 1) := by decide +kernel
theorem dX8_reopens_114 : decode cX8_reopens 114 = .ok (.return_, 1) := by decide +kernel
theorem dX8_appeal_0 : decode cX8_appeal 0 = .ok (.aload_n 0, 1) := by decide +kernel
theorem dX8_appeal_1 : decode cX8_appeal 1 = .ok (.iload_n 1, 1) := by decide +kernel
theorem dX8_appeal_2 : decode cX8_appeal 2 = .ok (.invokevirtual 91, 3) := by decide +kernel
theorem dX8_appeal_5 : decode cX8_appeal 5 = .ok (.ifCond .eq 39, 3) := by decide +kernel
theorem dX8_appeal_8 : decode cX8_appeal 8 = .ok (.aload_n 0, 1) := by decide +kernel
theorem dX8_appeal_9 : decode cX8_appeal 9 = .ok (.iload_n 2, 1) := by decide +kernel
theorem dX8_appeal_10 : decode cX8_appeal 10 = .ok (.invokevirtual 51, 3) := by decide +kernel
theorem dX8_appeal_13 : decode cX8_appeal 13 = .ok (.ifCond .eq 31, 3) := by decide +kernel
theorem dX8_appeal_16 : decode cX8_appeal 16 = .ok (.iload_n 3, 1) := by decide +kernel
theorem dX8_appeal_17 : decode cX8_appeal 17 = .ok (.ifCond .lt 27, 3) := by decide +kernel
theorem dX8_appeal_20 : decode cX8_appeal 20 = .ok (.iload_n 3, 1) := by decide +kernel
theorem dX8_appeal_21 : decode cX8_appeal 21 = .ok (.aload_n 0, 1) := by decide +kernel
theorem dX8_appeal_22 : decode cX8_appeal 22 = .ok (.getfield 7, 3) := by decide +kernel
theorem dX8_appeal_25 : decode cX8_appeal 25 = .ok (.iconst 0, 1) := by decide +kernel
theorem dX8_appeal_26 : decode cX8_appeal 26 = .ok (.iaload, 1) := by decide +kernel
theorem dX8_appeal_27 : decode cX8_appeal 27 = .ok (.ishr, 1) := by decide +kernel
theorem dX8_appeal_28 : decode cX8_appeal 28 = .ok (.ifCond .ne 16, 3) := by decide +kernel
theorem dX8_appeal_31 : decode cX8_appeal 31 = .ok (.iload_n 3, 1) := by decide +kernel
theorem dX8_appeal_32 : decode cX8_appeal 32 = .ok (.iload_n 2, 1) := by decide +kernel
theorem dX8_appeal_33 : decode cX8_appeal 33 = .ok (.ishr, 1) := by decide +kernel
theorem dX8_appeal_34 : decode cX8_appeal 34 = .ok (.iconst 1, 1) := by decide +kernel
theorem dX8_appeal_35 : decode cX8_appeal 35 = .ok (.iand, 1) := by decide +kernel
theorem dX8_appeal_36 : decode cX8_appeal 36 = .ok (.iconst 1, 1) := by decide +kernel
theorem dX8_appeal_37 : decode cX8_appeal 37 = .ok (.if_icmp .ne 7, 3) := by decide +kernel
theorem dX8_appeal_40 : decode cX8_appeal 40 = .ok (.iconst 1, 1) := by decide +kernel
theorem dX8_appeal_41 : decode cX8_appeal 41 = .ok (.goto 4, 3) := by decide +kernel
theorem dX8_appeal_44 : decode cX8_appeal 44 = .ok (.iconst 0, 1) := by decide +kernel
theorem dX8_appeal_45 : decode cX8_appeal 45 = .ok (.istore 4, 2) := by decide +kernel
theorem dX8_appeal_47 : decode cX8_appeal 47 = .ok (.iload 4, 2) := by decide +kernel
theorem dX8_appeal_49 : decode cX8_appeal 49 = .ok (.ifCond .ne 5, 3) := by decide +kernel
theorem dX8_appeal_52 : decode cX8_appeal 52 = .ok (.iconst (-1), 1) := by decide +kernel
theorem dX8_appeal_53 : decode cX8_appeal 53 = .ok (.ireturn, 1) := by decide +kernel
theorem dX8_appeal_54 : decode cX8_appeal 54 = .ok (.iload_n 1, 1) := by decide +kernel
theorem dX8_appeal_55 : decode cX8_appeal 55 = .ok (.invokestatic 48, 3) := by decide +kernel
theorem dX8_appeal_58 : decode cX8_appeal 58 = .ok (.istore 5, 2) := by decide +kernel
theorem dX8_appeal_60 : decode cX8_appeal 60 = .ok (.aload_n 0, 1) := by decide +kernel
theorem dX8_appeal_61 : decode cX8_appeal 61 = .ok (.getfield 7, 3) := by decide +kernel
theorem dX8_appeal_64 : decode cX8_appeal 64 = .ok (.iconst 4, 1) := by decide +kernel
theorem dX8_appeal_65 : decode cX8_appeal 65 = .ok (.iaload, 1) := by decide +kernel
theorem dX8_appeal_66 : decode cX8_appeal 66 = .ok (.iconst 1, 1) := by decide +kernel
theorem dX8_appeal_67 : decode cX8_appeal 67 = .ok (.if_icmp .eq 42, 3) := by decide +kernel
theorem dX8_appeal_70 : decode cX8_appeal 70 = .ok (.aload_n 0, 1) := by decide +kernel
theorem dX8_appeal_71 : decode cX8_appeal 71 = .ok (.getfield 7, 3) := by decide +kernel
theorem dX8_appeal_74 : decode cX8_appeal 74 = .ok (.iload 5, 2) := by decide +kernel
theorem dX8_appeal_76 : decode cX8_appeal 76 = .ok (.iconst 4, 1) := by decide +kernel
theorem dX8_appeal_77 : decode cX8_appeal 77 = .ok (.iadd, 1) := by decide +kernel
theorem dX8_appeal_78 : decode cX8_appeal 78 = .ok (.iaload, 1) := by decide +kernel
theorem dX8_appeal_79 : decode cX8_appeal 79 = .ok (.iconst 2, 1) := by decide +kernel
theorem dX8_appeal_80 : decode cX8_appeal 80 = .ok (.if_icmp .lt 29, 3) := by decide +kernel
theorem dX8_appeal_83 : decode cX8_appeal 83 = .ok (.aload_n 0, 1) := by decide +kernel
theorem dX8_appeal_84 : decode cX8_appeal 84 = .ok (.getfield 7, 3) := by decide +kernel
theorem dX8_appeal_87 : decode cX8_appeal 87 = .ok (.iconst 3, 1) := by decide +kernel
theorem dX8_appeal_88 : decode cX8_appeal 88 = .ok (.iaload, 1) := by decide +kernel
theorem dX8_appeal_89 : decode cX8_appeal 89 = .ok (.aload_n 0, 1) := by decide +kernel
theorem dX8_appeal_90 : decode cX8_appeal 90 = .ok (.getfield 7, 3) := by decide +kernel
theorem dX8_appeal_93 : decode cX8_appeal 93 = .ok (.iload 5, 2) := by decide +kernel
theorem dX8_appeal_95 : decode cX8_appeal 95 = .ok (.iconst 5, 1) := by decide +kernel
theorem dX8_appeal_96 : decode cX8_appeal 96 = .ok (.iadd, 1) := by decide +kernel
theorem dX8_appeal_97 : decode cX8_appeal 97 = .ok (.iaload, 1) := by decide +kernel
theorem dX8_appeal_98 : decode cX8_appeal 98 = .ok (.aload_n 0, 1) := by decide +kernel
theorem dX8_appeal_99 : decode cX8_appeal 99 = .ok (.getfield 7, 3) := by decide +kernel
theorem dX8_appeal_102 : decode cX8_appeal 102 = .ok (.bipush 15, 2) := by decide +kernel
theorem dX8_appeal_104 : decode cX8_appeal 104 = .ok (.iaload, 1) := by decide +kernel
theorem dX8_appeal_105 : decode cX8_appeal 105 = .ok (.iadd, 1) := by decide +kernel
theorem dX8_appeal_106 : decode cX8_appeal 106 = .ok (.if_icmp .le 6, 3) := by decide +kernel
theorem dX8_appeal_109 : decode cX8_appeal 109 = .ok (.bipush (-2), 2) := by decide +kernel
theorem dX8_appeal_111 : decode cX8_appeal 111 = .ok (.ireturn, 1) := by decide +kernel
theorem dX8_appeal_112 : decode cX8_appeal 112 = .ok (.aload_n 0, 1) := by decide +kernel
theorem dX8_appeal_113 : decode cX8_appeal 113 = .ok (.invokevirtual 31, 3) := by decide +kernel
theorem dX8_appeal_116 : decode cX8_appeal 116 = .ok (.iconst 0, 1) := by decide +kernel
theorem dX8_appeal_117 : decode cX8_appeal 117 = .ok (.istore 6, 2) := by decide +kernel
theorem dX8_appeal_119 : decode cX8_appeal 119 = .ok (.iconst 0, 1) := by decide +kernel
theorem dX8_appeal_120 : decode cX8_appeal 120 = .ok (.istore 7, 2) := by decide +kernel
theorem dX8_appeal_122 : decode cX8_appeal 122 = .ok (.iload 7, 2) := by decide +kernel
theorem dX8_appeal_124 : decode cX8_appeal 124 = .ok (.aload_n 0, 1) := by decide +kernel
theorem dX8_appeal_125 : decode cX8_appeal 125 = .ok (.getfield 7, 3) := by decide +kernel
theorem dX8_appeal_128 : decode cX8_appeal 128 = .ok (.iconst 0, 1) := by decide +kernel
theorem dX8_appeal_129 : decode cX8_appeal 129 = .ok (.iaload, 1) := by decide +kernel
theorem dX8_appeal_130 : decode cX8_appeal 130 = .ok (.if_icmp .ge 49, 3) := by decide +kernel
theorem dX8_appeal_133 : decode cX8_appeal 133 = .ok (.iload 6, 2) := by decide +kernel
theorem dX8_appeal_135 : decode cX8_appeal 135 = .ok (.iload_n 3, 1) := by decide +kernel
theorem dX8_appeal_136 : decode cX8_appeal 136 = .ok (.iload 7, 2) := by decide +kernel
theorem dX8_appeal_138 : decode cX8_appeal 138 = .ok (.ishr, 1) := by decide +kernel
theorem dX8_appeal_139 : decode cX8_appeal 139 = .ok (.iconst 1, 1) := by decide +kernel
theorem dX8_appeal_140 : decode cX8_appeal 140 = .ok (.iand, 1) := by decide +kernel
theorem dX8_appeal_141 : decode cX8_appeal 141 = .ok (.iconst 1, 1) := by decide +kernel
theorem dX8_appeal_142 : decode cX8_appeal 142 = .ok (.if_icmp .ne 27, 3) := by decide +kernel
theorem dX8_appeal_145 : decode cX8_appeal 145 = .ok (.aload_n 0, 1) := by decide +kernel
theorem dX8_appeal_146 : decode cX8_appeal 146 = .ok (.iload 7, 2) := by decide +kernel
theorem dX8_appeal_148 : decode cX8_appeal 148 = .ok (.invokevirtual 54, 3) := by decide +kernel
theorem dX8_appeal_151 : decode cX8_appeal 151 = .ok (.ifCond .ne 18, 3) := by decide +kernel
theorem dX8_appeal_154 : decode cX8_appeal 154 = .ok (.aload_n 0, 1) := by decide +kernel
theorem dX8_appeal_155 : decode cX8_appeal 155 = .ok (.getfield 7, 3) := by decide +kernel
theorem dX8_appeal_158 : decode cX8_appeal 158 = .ok (.iload 7, 2) := by decide +kernel
theorem dX8_appeal_160 : decode cX8_appeal 160 = .ok (.invokestatic 27, 3) := by decide +kernel
theorem dX8_appeal_163 : decode cX8_appeal 163 = .ok (.iconst 0, 1) := by decide +kernel
theorem dX8_appeal_164 : decode cX8_appeal 164 = .ok (.iadd, 1) := by decide +kernel
theorem dX8_appeal_165 : decode cX8_appeal 165 = .ok (.iaload, 1) := by decide +kernel
theorem dX8_appeal_166 : decode cX8_appeal 166 = .ok (.goto 4, 3) := by decide +kernel
theorem dX8_appeal_169 : decode cX8_appeal 169 = .ok (.iconst 0, 1) := by decide +kernel
theorem dX8_appeal_170 : decode cX8_appeal 170 = .ok (.iadd, 1) := by decide +kernel
theorem dX8_appeal_171 : decode cX8_appeal 171 = .ok (.istore 6, 2) := by decide +kernel
theorem dX8_appeal_173 : decode cX8_appeal 173 = .ok (.iinc 7 1, 3) := by decide +kernel
theorem dX8_appeal_176 : decode cX8_appeal 176 = .ok (.goto (-54), 3) := by decide +kernel
theorem dX8_appeal_179 : decode cX8_appeal 179 = .ok (.iconst 2, 1) := by decide +kernel
theorem dX8_appeal_180 : decode cX8_appeal 180 = .ok (.iload 6, 2) := by decide +kernel
theorem dX8_appeal_182 : decode cX8_appeal 182 = .ok (.imul, 1) := by decide +kernel
theorem dX8_appeal_183 : decode cX8_appeal 183 = .ok (.aload_n 0, 1) := by decide +kernel
theorem dX8_appeal_184 : decode cX8_appeal 184 = .ok (.invokevirtual 67, 3) := by decide +kernel
theorem dX8_appeal_187 : decode cX8_appeal 187 = .ok (.if_icmp .gt 5, 3) := by decide +kernel
theorem dX8_appeal_190 : decode cX8_appeal 190 = .ok (.iconst 0, 1) := by decide +kernel
theorem dX8_appeal_191 : decode cX8_appeal 191 = .ok (.ireturn, 1) := by decide +kernel
theorem dX8_appeal_192 : decode cX8_appeal 192 = .ok (.aload_n 0, 1) := by decide +kernel
theorem dX8_appeal_193 : decode cX8_appeal 193 = .ok (.iload_n 1, 1) := by decide +kernel
theorem dX8_appeal_194 : decode cX8_appeal 194 = .ok (.invokevirtual 110, 3) := by decide +kernel
theorem dX8_appeal_197 : decode cX8_appeal 197 = .ok (.iconst 1, 1) := by decide +kernel
theorem dX8_appeal_198 : decode cX8_appeal 198 = .ok (.ireturn, 1) := by decide +kernel
theorem dX8_isChanged_0 : decode cX8_isChanged 0 = .ok (.iload_n 1, 1) := by decide +kernel
theorem dX8_isChanged_1 : decode cX8_isChanged 1 = .ok (.invokestatic 34, 3) := by decide +kernel
theorem dX8_isChanged_4 : decode cX8_isChanged 4 = .ok (.iconst 3, 1) := by decide +kernel
theorem dX8_isChanged_5 : decode cX8_isChanged 5 = .ok (.iadd, 1) := by decide +kernel
theorem dX8_isChanged_6 : decode cX8_isChanged 6 = .ok (.iload_n 2, 1) := by decide +kernel
theorem dX8_isChanged_7 : decode cX8_isChanged 7 = .ok (.iadd, 1) := by decide +kernel
theorem dX8_isChanged_8 : decode cX8_isChanged 8 = .ok (.istore_n 3, 1) := by decide +kernel
theorem dX8_isChanged_9 : decode cX8_isChanged 9 = .ok (.iload_n 2, 1) := by decide +kernel
theorem dX8_isChanged_10 : decode cX8_isChanged 10 = .ok (.iconst 1, 1) := by decide +kernel
theorem dX8_isChanged_11 : decode cX8_isChanged 11 = .ok (.if_icmp .le 24, 3) := by decide +kernel
theorem dX8_isChanged_14 : decode cX8_isChanged 14 = .ok (.aload_n 0, 1) := by decide +kernel
theorem dX8_isChanged_15 : decode cX8_isChanged 15 = .ok (.getfield 7, 3) := by decide +kernel
theorem dX8_isChanged_18 : decode cX8_isChanged 18 = .ok (.iload_n 3, 1) := by decide +kernel
theorem dX8_isChanged_19 : decode cX8_isChanged 19 = .ok (.iaload, 1) := by decide +kernel
theorem dX8_isChanged_20 : decode cX8_isChanged 20 = .ok (.aload_n 0, 1) := by decide +kernel
theorem dX8_isChanged_21 : decode cX8_isChanged 21 = .ok (.getfield 7, 3) := by decide +kernel
theorem dX8_isChanged_24 : decode cX8_isChanged 24 = .ok (.iload_n 3, 1) := by decide +kernel
theorem dX8_isChanged_25 : decode cX8_isChanged 25 = .ok (.iconst 1, 1) := by decide +kernel
theorem dX8_isChanged_26 : decode cX8_isChanged 26 = .ok (.isub, 1) := by decide +kernel
theorem dX8_isChanged_27 : decode cX8_isChanged 27 = .ok (.iaload, 1) := by decide +kernel
theorem dX8_isChanged_28 : decode cX8_isChanged 28 = .ok (.if_icmp .eq 7, 3) := by decide +kernel
theorem dX8_isChanged_31 : decode cX8_isChanged 31 = .ok (.iconst 1, 1) := by decide +kernel
theorem dX8_isChanged_32 : decode cX8_isChanged 32 = .ok (.goto 4, 3) := by decide +kernel
theorem dX8_isChanged_35 : decode cX8_isChanged 35 = .ok (.iconst 0, 1) := by decide +kernel
theorem dX8_isChanged_36 : decode cX8_isChanged 36 = .ok (.ireturn, 1) := by decide +kernel
theorem dX8_changes_0 : decode cX8_changes 0 = .ok (.aload_n 0, 1) := by decide +kernel
theorem dX8_changes_1 : decode cX8_changes 1 = .ok (.iload_n 1, 1) := by decide +kernel
theorem dX8_changes_2 : decode cX8_changes 2 = .ok (.invokevirtual 60, 3) := by decide +kernel
theorem dX8_changes_5 : decode cX8_changes 5 = .ok (.ifCond .ne 5, 3) := by decide +kernel
theorem dX8_changes_8 : decode cX8_changes 8 = .ok (.iconst (-1), 1) := by decide +kernel
theorem dX8_changes_9 : decode cX8_changes 9 = .ok (.ireturn, 1) := by decide +kernel
theorem dX8_changes_10 : decode cX8_changes 10 = .ok (.iconst 0, 1) := by decide +kernel
theorem dX8_changes_11 : decode cX8_changes 11 = .ok (.istore_n 2, 1) := by decide +kernel
theorem dX8_changes_12 : decode cX8_changes 12 = .ok (.iconst 0, 1) := by decide +kernel
theorem dX8_changes_13 : decode cX8_changes 13 = .ok (.istore_n 3, 1) := by decide +kernel
theorem dX8_changes_14 : decode cX8_changes 14 = .ok (.iload_n 3, 1) := by decide +kernel
theorem dX8_changes_15 : decode cX8_changes 15 = .ok (.aload_n 0, 1) := by decide +kernel
theorem dX8_changes_16 : decode cX8_changes 16 = .ok (.getfield 7, 3) := by decide +kernel
theorem dX8_changes_19 : decode cX8_changes 19 = .ok (.iconst 1, 1) := by decide +kernel
theorem dX8_changes_20 : decode cX8_changes 20 = .ok (.iaload, 1) := by decide +kernel
theorem dX8_changes_21 : decode cX8_changes 21 = .ok (.if_icmp .ge 26, 3) := by decide +kernel
theorem dX8_changes_24 : decode cX8_changes 24 = .ok (.iload_n 2, 1) := by decide +kernel
theorem dX8_changes_25 : decode cX8_changes 25 = .ok (.aload_n 0, 1) := by decide +kernel
theorem dX8_changes_26 : decode cX8_changes 26 = .ok (.iload_n 3, 1) := by decide +kernel
theorem dX8_changes_27 : decode cX8_changes 27 = .ok (.iload_n 1, 1) := by decide +kernel
theorem dX8_changes_28 : decode cX8_changes 28 = .ok (.invokevirtual 114, 3) := by decide +kernel
theorem dX8_changes_31 : decode cX8_changes 31 = .ok (.ifCond .eq 7, 3) := by decide +kernel
theorem dX8_changes_34 : decode cX8_changes 34 = .ok (.iconst 1, 1) := by decide +kernel
theorem dX8_changes_35 : decode cX8_changes 35 = .ok (.goto 4, 3) := by decide +kernel
theorem dX8_changes_38 : decode cX8_changes 38 = .ok (.iconst 0, 1) := by decide +kernel
theorem dX8_changes_39 : decode cX8_changes 39 = .ok (.iadd, 1) := by decide +kernel
theorem dX8_changes_40 : decode cX8_changes 40 = .ok (.istore_n 2, 1) := by decide +kernel
theorem dX8_changes_41 : decode cX8_changes 41 = .ok (.iinc 3 1, 3) := by decide +kernel
theorem dX8_changes_44 : decode cX8_changes 44 = .ok (.goto (-30), 3) := by decide +kernel
theorem dX8_changes_47 : decode cX8_changes 47 = .ok (.iload_n 2, 1) := by decide +kernel
theorem dX8_changes_48 : decode cX8_changes 48 = .ok (.ireturn, 1) := by decide +kernel
theorem dX8_change_0 : decode cX8_change 0 = .ok (.aload_n 0, 1) := by decide +kernel
theorem dX8_change_1 : decode cX8_change 1 = .ok (.iload_n 1, 1) := by decide +kernel
theorem dX8_change_2 : decode cX8_change 2 = .ok (.invokevirtual 60, 3) := by decide +kernel
theorem dX8_change_5 : decode cX8_change 5 = .ok (.ifCond .eq 16, 3) := by decide +kernel
theorem dX8_change_8 : decode cX8_change 8 = .ok (.iload_n 2, 1) := by decide +kernel
theorem dX8_change_9 : decode cX8_change 9 = .ok (.ifCond .lt 12, 3) := by decide +kernel
theorem dX8_change_12 : decode cX8_change 12 = .ok (.iload_n 3, 1) := by decide +kernel
theorem dX8_change_13 : decode cX8_change 13 = .ok (.iconst 0, 1) := by decide +kernel
theorem dX8_change_14 : decode cX8_change 14 = .ok (.iconst 2, 1) := by decide +kernel
theorem dX8_change_15 : decode cX8_change 15 = .ok (.invokestatic 23, 3) := by decide +kernel
theorem dX8_change_18 : decode cX8_change 18 = .ok (.ifCond .ne 5, 3) := by decide +kernel
theorem dX8_change_21 : decode cX8_change 21 = .ok (.iconst (-1), 1) := by decide +kernel
theorem dX8_change_22 : decode cX8_change 22 = .ok (.ireturn, 1) := by decide +kernel
theorem dX8_change_23 : decode cX8_change 23 = .ok (.iconst 0, 1) := by decide +kernel
theorem dX8_change_24 : decode cX8_change 24 = .ok (.istore 4, 2) := by decide +kernel
theorem dX8_change_26 : decode cX8_change 26 = .ok (.iconst 0, 1) := by decide +kernel
theorem dX8_change_27 : decode cX8_change 27 = .ok (.istore 5, 2) := by decide +kernel
theorem dX8_change_29 : decode cX8_change 29 = .ok (.iload 5, 2) := by decide +kernel
theorem dX8_change_31 : decode cX8_change 31 = .ok (.aload_n 0, 1) := by decide +kernel
theorem dX8_change_32 : decode cX8_change 32 = .ok (.getfield 7, 3) := by decide +kernel
theorem dX8_change_35 : decode cX8_change 35 = .ok (.iconst 1, 1) := by decide +kernel
theorem dX8_change_36 : decode cX8_change 36 = .ok (.iaload, 1) := by decide +kernel
theorem dX8_change_37 : decode cX8_change 37 = .ok (.if_icmp .ge 74, 3) := by decide +kernel
theorem dX8_change_40 : decode cX8_change 40 = .ok (.aload_n 0, 1) := by decide +kernel
theorem dX8_change_41 : decode cX8_change 41 = .ok (.iload 5, 2) := by decide +kernel
theorem dX8_change_43 : decode cX8_change 43 = .ok (.iload_n 1, 1) := by decide +kernel
theorem dX8_change_44 : decode cX8_change 44 = .ok (.invokevirtual 114, 3) := by decide +kernel
theorem dX8_change_47 : decode cX8_change 47 = .ok (.ifCond .eq 58, 3) := by decide +kernel
theorem dX8_change_50 : decode cX8_change 50 = .ok (.iload 4, 2) := by decide +kernel
theorem dX8_change_52 : decode cX8_change 52 = .ok (.iload_n 2, 1) := by decide +kernel
theorem dX8_change_53 : decode cX8_change 53 = .ok (.if_icmp .ne 49, 3) := by decide +kernel
theorem dX8_change_56 : decode cX8_change 56 = .ok (.iload 5, 2) := by decide +kernel
theorem dX8_change_58 : decode cX8_change 58 = .ok (.invokestatic 34, 3) := by decide +kernel
theorem dX8_change_61 : decode cX8_change 61 = .ok (.istore 6, 2) := by decide +kernel
theorem dX8_change_63 : decode cX8_change 63 = .ok (.iload_n 3, 1) := by decide +kernel
theorem dX8_change_64 : decode cX8_change 64 = .ok (.ifCond .ne 15, 3) := by decide +kernel
theorem dX8_change_67 : decode cX8_change 67 = .ok (.aload_n 0, 1) := by decide +kernel
theorem dX8_change_68 : decode cX8_change 68 = .ok (.getfield 7, 3) := by decide +kernel
theorem dX8_change_71 : decode cX8_change 71 = .ok (.iload 6, 2) := by decide +kernel
theorem dX8_change_73 : decode cX8_change 73 = .ok (.iconst 0, 1) := by decide +kernel
theorem dX8_change_74 : decode cX8_change 74 = .ok (.iadd, 1) := by decide +kernel
theorem dX8_change_75 : decode cX8_change 75 = .ok (.iaload, 1) := by decide +kernel
theorem dX8_change_76 : decode cX8_change 76 = .ok (.goto 25, 3) := by decide +kernel
theorem dX8_change_79 : decode cX8_change 79 = .ok (.aload_n 0, 1) := by decide +kernel
theorem dX8_change_80 : decode cX8_change 80 = .ok (.getfield 7, 3) := by decide +kernel
theorem dX8_change_83 : decode cX8_change 83 = .ok (.iload 6, 2) := by decide +kernel
theorem dX8_change_85 : decode cX8_change 85 = .ok (.iload_n 3, 1) := by decide +kernel
theorem dX8_change_86 : decode cX8_change 86 = .ok (.iconst 1, 1) := by decide +kernel
theorem dX8_change_87 : decode cX8_change 87 = .ok (.if_icmp .ne 8, 3) := by decide +kernel
theorem dX8_change_90 : decode cX8_change 90 = .ok (.bipush 17, 2) := by decide +kernel
theorem dX8_change_92 : decode cX8_change 92 = .ok (.goto 5, 3) := by decide +kernel
theorem dX8_change_95 : decode cX8_change 95 = .ok (.bipush 31, 2) := by decide +kernel
theorem dX8_change_97 : decode cX8_change 97 = .ok (.iadd, 1) := by decide +kernel
theorem dX8_change_98 : decode cX8_change 98 = .ok (.iload_n 1, 1) := by decide +kernel
theorem dX8_change_99 : decode cX8_change 99 = .ok (.iadd, 1) := by decide +kernel
theorem dX8_change_100 : decode cX8_change 100 = .ok (.iaload, 1) := by decide +kernel
theorem dX8_change_101 : decode cX8_change 101 = .ok (.ireturn, 1) := by decide +kernel
theorem dX8_change_102 : decode cX8_change 102 = .ok (.iinc 4 1, 3) := by decide +kernel
theorem dX8_change_105 : decode cX8_change 105 = .ok (.iinc 5 1, 3) := by decide +kernel
theorem dX8_change_108 : decode cX8_change 108 = .ok (.goto (-79), 3) := by decide +kernel
theorem dX8_change_111 : decode cX8_change 111 = .ok (.bipush (-4), 2) := by decide +kernel
theorem dX8_change_113 : decode cX8_change 113 = .ok (.ireturn, 1) := by decide +kernel
theorem dX8_type_0 : decode cX8_type 0 = .ok (.iload_n 1, 1) := by decide +kernel
theorem dX8_type_1 : decode cX8_type 1 = .ok (.bipush 32, 2) := by decide +kernel
theorem dX8_type_3 : decode cX8_type 3 = .ok (.bipush 126, 2) := by decide +kernel
theorem dX8_type_5 : decode cX8_type 5 = .ok (.invokestatic 23, 3) := by decide +kernel
theorem dX8_type_8 : decode cX8_type 8 = .ok (.ifCond .ne 5, 3) := by decide +kernel
theorem dX8_type_11 : decode cX8_type 11 = .ok (.iconst (-1), 1) := by decide +kernel
theorem dX8_type_12 : decode cX8_type 12 = .ok (.ireturn, 1) := by decide +kernel
theorem dX8_type_13 : decode cX8_type 13 = .ok (.aload_n 0, 1) := by decide +kernel
theorem dX8_type_14 : decode cX8_type 14 = .ok (.getfield 70, 3) := by decide +kernel
theorem dX8_type_17 : decode cX8_type 17 = .ok (.bipush 80, 2) := by decide +kernel
theorem dX8_type_19 : decode cX8_type 19 = .ok (.if_icmp .ne 6, 3) := by decide +kernel
theorem dX8_type_22 : decode cX8_type 22 = .ok (.bipush (-3), 2) := by decide +kernel
theorem dX8_type_24 : decode cX8_type 24 = .ok (.ireturn, 1) := by decide +kernel
theorem dX8_type_25 : decode cX8_type 25 = .ok (.aload_n 0, 1) := by decide +kernel
theorem dX8_type_26 : decode cX8_type 26 = .ok (.getfield 16, 3) := by decide +kernel
theorem dX8_type_29 : decode cX8_type 29 = .ok (.aload_n 0, 1) := by decide +kernel
theorem dX8_type_30 : decode cX8_type 30 = .ok (.getfield 70, 3) := by decide +kernel
theorem dX8_type_33 : decode cX8_type 33 = .ok (.iload_n 1, 1) := by decide +kernel
theorem dX8_type_34 : decode cX8_type 34 = .ok (.iastore, 1) := by decide +kernel
theorem dX8_type_35 : decode cX8_type 35 = .ok (.aload_n 0, 1) := by decide +kernel
theorem dX8_type_36 : decode cX8_type 36 = .ok (.dup, 1) := by decide +kernel
theorem dX8_type_37 : decode cX8_type 37 = .ok (.getfield 70, 3) := by decide +kernel
theorem dX8_type_40 : decode cX8_type 40 = .ok (.iconst 1, 1) := by decide +kernel
theorem dX8_type_41 : decode cX8_type 41 = .ok (.iadd, 1) := by decide +kernel
theorem dX8_type_42 : decode cX8_type 42 = .ok (.putfield 70, 3) := by decide +kernel
theorem dX8_type_45 : decode cX8_type 45 = .ok (.aload_n 0, 1) := by decide +kernel
theorem dX8_type_46 : decode cX8_type 46 = .ok (.getfield 70, 3) := by decide +kernel
theorem dX8_type_49 : decode cX8_type 49 = .ok (.ireturn, 1) := by decide +kernel
theorem dX8_clearText_0 : decode cX8_clearText 0 = .ok (.aload_n 0, 1) := by decide +kernel
theorem dX8_clearText_1 : decode cX8_clearText 1 = .ok (.getfield 70, 3) := by decide +kernel
theorem dX8_clearText_4 : decode cX8_clearText 4 = .ok (.istore_n 1, 1) := by decide +kernel
theorem dX8_clearText_5 : decode cX8_clearText 5 = .ok (.aload_n 0, 1) := by decide +kernel
theorem dX8_clearText_6 : decode cX8_clearText 6 = .ok (.iconst 0, 1) := by decide +kernel
theorem dX8_clearText_7 : decode cX8_clearText 7 = .ok (.putfield 70, 3) := by decide +kernel
theorem dX8_clearText_10 : decode cX8_clearText 10 = .ok (.iload_n 1, 1) := by decide +kernel
theorem dX8_clearText_11 : decode cX8_clearText 11 = .ok (.ireturn, 1) := by decide +kernel
theorem dX8_here_0 : decode cX8_here 0 = .ok (.aload_n 0, 1) := by decide +kernel
theorem dX8_here_1 : decode cX8_here 1 = .ok (.getfield 117, 3) := by decide +kernel
theorem dX8_here_4 : decode cX8_here 4 = .ok (.aload_n 0, 1) := by decide +kernel
theorem dX8_here_5 : decode cX8_here 5 = .ok (.getfield 70, 3) := by decide +kernel
theorem dX8_here_8 : decode cX8_here 8 = .ok (.if_icmp .ge 15, 3) := by decide +kernel
theorem dX8_here_11 : decode cX8_here 11 = .ok (.aload_n 0, 1) := by decide +kernel
theorem dX8_here_12 : decode cX8_here 12 = .ok (.getfield 16, 3) := by decide +kernel
theorem dX8_here_15 : decode cX8_here 15 = .ok (.aload_n 0, 1) := by decide +kernel
theorem dX8_here_16 : decode cX8_here 16 = .ok (.getfield 117, 3) := by decide +kernel
theorem dX8_here_19 : decode cX8_here 19 = .ok (.iaload, 1) := by decide +kernel
theorem dX8_here_20 : decode cX8_here 20 = .ok (.goto 4, 3) := by decide +kernel
theorem dX8_here_23 : decode cX8_here 23 = .ok (.iconst (-1), 1) := by decide +kernel
theorem dX8_here_24 : decode cX8_here 24 = .ok (.ireturn, 1) := by decide +kernel
theorem dX8_readNumber_0 : decode cX8_readNumber 0 = .ok (.iconst (-1), 1) := by decide +kernel
theorem dX8_readNumber_1 : decode cX8_readNumber 1 = .ok (.istore_n 2, 1) := by decide +kernel
theorem dX8_readNumber_2 : decode cX8_readNumber 2 = .ok (.aload_n 0, 1) := by decide +kernel
theorem dX8_readNumber_3 : decode cX8_readNumber 3 = .ok (.getfield 117, 3) := by decide +kernel
theorem dX8_readNumber_6 : decode cX8_readNumber 6 = .ok (.iload_n 1, 1) := by decide +kernel
theorem dX8_readNumber_7 : decode cX8_readNumber 7 = .ok (.iadd, 1) := by decide +kernel
theorem dX8_readNumber_8 : decode cX8_readNumber 8 = .ok (.istore_n 3, 1) := by decide +kernel
theorem dX8_readNumber_9 : decode cX8_readNumber 9 = .ok (.aload_n 0, 1) := by decide +kernel
theorem dX8_readNumber_10 : decode cX8_readNumber 10 = .ok (.getfield 117, 3) := by decide +kernel
theorem dX8_readNumber_13 : decode cX8_readNumber 13 = .ok (.iload_n 3, 1) := by decide +kernel
theorem dX8_readNumber_14 : decode cX8_readNumber 14 = .ok (.if_icmp .ge 51, 3) := by decide +kernel
theorem dX8_readNumber_17 : decode cX8_readNumber 17 = .ok (.aload_n 0, 1) := by decide +kernel
theorem dX8_readNumber_18 : decode cX8_readNumber 18 = .ok (.invokevirtual 120, 3) := by decide +kernel
theorem dX8_readNumber_21 : decode cX8_readNumber 21 = .ok (.bipush 48, 2) := by decide +kernel
theorem dX8_readNumber_23 : decode cX8_readNumber 23 = .ok (.bipush 57, 2) := by decide +kernel
theorem dX8_readNumber_25 : decode cX8_readNumber 25 = .ok (.invokestatic 23, 3) := by decide +kernel
theorem dX8_readNumber_28 : decode cX8_readNumber 28 = .ok (.ifCond .eq 37, 3) := by decide +kernel
theorem dX8_readNumber_31 : decode cX8_readNumber 31 = .ok (.bipush 10, 2) := by decide +kernel
theorem dX8_readNumber_33 : decode cX8_readNumber 33 = .ok (.iload_n 2, 1) := by decide +kernel
theorem dX8_readNumber_34 : decode cX8_readNumber 34 = .ok (.ifCond .ge 7, 3) := by decide +kernel
theorem dX8_readNumber_37 : decode cX8_readNumber 37 = .ok (.iconst 0, 1) := by decide +kernel
theorem dX8_readNumber_38 : decode cX8_readNumber 38 = .ok (.goto 4, 3) := by decide +kernel
theorem dX8_readNumber_41 : decode cX8_readNumber 41 = .ok (.iload_n 2, 1) := by decide +kernel
theorem dX8_readNumber_42 : decode cX8_readNumber 42 = .ok (.imul, 1) := by decide +kernel
theorem dX8_readNumber_43 : decode cX8_readNumber 43 = .ok (.aload_n 0, 1) := by decide +kernel
theorem dX8_readNumber_44 : decode cX8_readNumber 44 = .ok (.invokevirtual 120, 3) := by decide +kernel
theorem dX8_readNumber_47 : decode cX8_readNumber 47 = .ok (.iadd, 1) := by decide +kernel
theorem dX8_readNumber_48 : decode cX8_readNumber 48 = .ok (.bipush 48, 2) := by decide +kernel
theorem dX8_readNumber_50 : decode cX8_readNumber 50 = .ok (.isub, 1) := by decide +kernel
theorem dX8_readNumber_51 : decode cX8_readNumber 51 = .ok (.istore_n 2, 1) := by decide +kernel
theorem dX8_readNumber_52 : decode cX8_readNumber 52 = .ok (.aload_n 0, 1) := by decide +kernel
theorem dX8_readNumber_53 : decode cX8_readNumber 53 = .ok (.dup, 1) := by decide +kernel
theorem dX8_readNumber_54 : decode cX8_readNumber 54 = .ok (.getfield 117, 3) := by decide +kernel
theorem dX8_readNumber_57 : decode cX8_readNumber 57 = .ok (.iconst 1, 1) := by decide +kernel
theorem dX8_readNumber_58 : decode cX8_readNumber 58 = .ok (.iadd, 1) := by decide +kernel
theorem dX8_readNumber_59 : decode cX8_readNumber 59 = .ok (.putfield 117, 3) := by decide +kernel
theorem dX8_readNumber_62 : decode cX8_readNumber 62 = .ok (.goto (-53), 3) := by decide +kernel
theorem dX8_readNumber_65 : decode cX8_readNumber 65 = .ok (.iload_n 2, 1) := by decide +kernel
theorem dX8_readNumber_66 : decode cX8_readNumber 66 = .ok (.ireturn, 1) := by decide +kernel
theorem dX8_takes_0 : decode cX8_takes 0 = .ok (.aload_n 0, 1) := by decide +kernel
theorem dX8_takes_1 : decode cX8_takes 1 = .ok (.invokevirtual 120, 3) := by decide +kernel
theorem dX8_takes_4 : decode cX8_takes 4 = .ok (.iload_n 1, 1) := by decide +kernel
theorem dX8_takes_5 : decode cX8_takes 5 = .ok (.if_icmp .ne 7, 3) := by decide +kernel
theorem dX8_takes_8 : decode cX8_takes 8 = .ok (.iconst 1, 1) := by decide +kernel
theorem dX8_takes_9 : decode cX8_takes 9 = .ok (.goto 4, 3) := by decide +kernel
theorem dX8_takes_12 : decode cX8_takes 12 = .ok (.iconst 0, 1) := by decide +kernel
theorem dX8_takes_13 : decode cX8_takes 13 = .ok (.istore_n 2, 1) := by decide +kernel
theorem dX8_takes_14 : decode cX8_takes 14 = .ok (.aload_n 0, 1) := by decide +kernel
theorem dX8_takes_15 : decode cX8_takes 15 = .ok (.dup, 1) := by decide +kernel
theorem dX8_takes_16 : decode cX8_takes 16 = .ok (.getfield 117, 3) := by decide +kernel
theorem dX8_takes_19 : decode cX8_takes 19 = .ok (.iload_n 2, 1) := by decide +kernel
theorem dX8_takes_20 : decode cX8_takes 20 = .ok (.ifCond .eq 7, 3) := by decide +kernel
theorem dX8_takes_23 : decode cX8_takes 23 = .ok (.iconst 1, 1) := by decide +kernel
theorem dX8_takes_24 : decode cX8_takes 24 = .ok (.goto 4, 3) := by decide +kernel
theorem dX8_takes_27 : decode cX8_takes 27 = .ok (.iconst 0, 1) := by decide +kernel
theorem dX8_takes_28 : decode cX8_takes 28 = .ok (.iadd, 1) := by decide +kernel
theorem dX8_takes_29 : decode cX8_takes 29 = .ok (.putfield 117, 3) := by decide +kernel
theorem dX8_takes_32 : decode cX8_takes 32 = .ok (.iload_n 2, 1) := by decide +kernel
theorem dX8_takes_33 : decode cX8_takes 33 = .ok (.ireturn, 1) := by decide +kernel
theorem dX8_readsComment_0 : decode cX8_readsComment 0 = .ok (.aload_n 0, 1) := by decide +kernel
theorem dX8_readsComment_1 : decode cX8_readsComment 1 = .ok (.aload_n 0, 1) := by decide +kernel
theorem dX8_readsComment_2 : decode cX8_readsComment 2 = .ok (.iconst 2, 1) := by decide +kernel
theorem dX8_readsComment_3 : decode cX8_readsComment 3 = .ok (.invokevirtual 123, 3) := by decide +kernel
theorem dX8_readsComment_6 : decode cX8_readsComment 6 = .ok (.putfield 126, 3) := by decide +kernel
theorem dX8_readsComment_9 : decode cX8_readsComment 9 = .ok (.aload_n 0, 1) := by decide +kernel
theorem dX8_readsComment_10 : decode cX8_readsComment 10 = .ok (.aload_n 0, 1) := by decide +kernel
theorem dX8_readsComment_11 : decode cX8_readsComment 11 = .ok (.invokevirtual 120, 3) := by decide +kernel
theorem dX8_readsComment_14 : decode cX8_readsComment 14 = .ok (.bipush 116, 2) := by decide +kernel
theorem dX8_readsComment_16 : decode cX8_readsComment 16 = .ok (.if_icmp .ne 7, 3) := by decide +kernel
theorem dX8_readsComment_19 : decode cX8_readsComment 19 = .ok (.iconst 1, 1) := by decide +kernel
theorem dX8_readsComment_20 : decode cX8_readsComment 20 = .ok (.goto 17, 3) := by decide +kernel
theorem dX8_readsComment_23 : decode cX8_readsComment 23 = .ok (.aload_n 0, 1) := by decide +kernel
theorem dX8_readsComment_24 : decode cX8_readsComment 24 = .ok (.invokevirtual 120, 3) := by decide +kernel
theorem dX8_readsComment_27 : decode cX8_readsComment 27 = .ok (.bipush 101, 2) := by decide +kernel
theorem dX8_readsComment_29 : decode cX8_readsComment 29 = .ok (.if_icmp .ne 7, 3) := by decide +kernel
theorem dX8_readsComment_32 : decode cX8_readsComment 32 = .ok (.iconst 0, 1) := by decide +kernel
theorem dX8_readsComment_33 : decode cX8_readsComment 33 = .ok (.goto 4, 3) := by decide +kernel
theorem dX8_readsComment_36 : decode cX8_readsComment 36 = .ok (.iconst (-1), 1) := by decide +kernel
theorem dX8_readsComment_37 : decode cX8_readsComment 37 = .ok (.putfield 129, 3) := by decide +kernel
theorem dX8_readsComment_40 : decode cX8_readsComment 40 = .ok (.aload_n 0, 1) := by decide +kernel
theorem dX8_readsComment_41 : decode cX8_readsComment 41 = .ok (.getfield 126, 3) := by decide +kernel
theorem dX8_readsComment_44 : decode cX8_readsComment 44 = .ok (.ifCond .lt 10, 3) := by decide +kernel
theorem dX8_readsComment_47 : decode cX8_readsComment 47 = .ok (.aload_n 0, 1) := by decide +kernel
theorem dX8_readsComment_48 : decode cX8_readsComment 48 = .ok (.getfield 129, 3) := by decide +kernel
theorem dX8_readsComment_51 : decode cX8_readsComment 51 = .ok (.ifCond .ge 5, 3) := by decide +kernel
theorem dX8_readsComment_54 : decode cX8_readsComment 54 = .ok (.iconst 0, 1) := by decide +kernel
theorem dX8_readsComment_55 : decode cX8_readsComment 55 = .ok (.ireturn, 1) := by decide +kernel
theorem dX8_readsComment_56 : decode cX8_readsComment 56 = .ok (.aload_n 0, 1) := by decide +kernel
theorem dX8_readsComment_57 : decode cX8_readsComment 57 = .ok (.dup, 1) := by decide +kernel
theorem dX8_readsComment_58 : decode cX8_readsComment 58 = .ok (.getfield 117, 3) := by decide +kernel
theorem dX8_readsComment_61 : decode cX8_readsComment 61 = .ok (.iconst 1, 1) := by decide +kernel
theorem dX8_readsComment_62 : decode cX8_readsComment 62 = .ok (.iadd, 1) := by decide +kernel
theorem dX8_readsComment_63 : decode cX8_readsComment 63 = .ok (.putfield 117, 3) := by decide +kernel
theorem dX8_readsComment_66 : decode cX8_readsComment 66 = .ok (.aload_n 0, 1) := by decide +kernel
theorem dX8_readsComment_67 : decode cX8_readsComment 67 = .ok (.bipush 61, 2) := by decide +kernel
theorem dX8_readsComment_69 : decode cX8_readsComment 69 = .ok (.invokevirtual 132, 3) := by decide +kernel
theorem dX8_readsComment_72 : decode cX8_readsComment 72 = .ok (.ifCond .ne 5, 3) := by decide +kernel
theorem dX8_readsComment_75 : decode cX8_readsComment 75 = .ok (.iconst 0, 1) := by decide +kernel
theorem dX8_readsComment_76 : decode cX8_readsComment 76 = .ok (.ireturn, 1) := by decide +kernel
theorem dX8_readsComment_77 : decode cX8_readsComment 77 = .ok (.aload_n 0, 1) := by decide +kernel
theorem dX8_readsComment_78 : decode cX8_readsComment 78 = .ok (.aload_n 0, 1) := by decide +kernel
theorem dX8_readsComment_79 : decode cX8_readsComment 79 = .ok (.iconst 4, 1) := by decide +kernel
theorem dX8_readsComment_80 : decode cX8_readsComment 80 = .ok (.invokevirtual 123, 3) := by decide +kernel
theorem dX8_readsComment_83 : decode cX8_readsComment 83 = .ok (.putfield 135, 3) := by decide +kernel
theorem dX8_readsComment_86 : decode cX8_readsComment 86 = .ok (.aload_n 0, 1) := by decide +kernel
theorem dX8_readsComment_87 : decode cX8_readsComment 87 = .ok (.getfield 135, 3) := by decide +kernel
theorem dX8_readsComment_90 : decode cX8_readsComment 90 = .ok (.ifCond .lt 16, 3) := by decide +kernel
theorem dX8_readsComment_93 : decode cX8_readsComment 93 = .ok (.aload_n 0, 1) := by decide +kernel
theorem dX8_readsComment_94 : decode cX8_readsComment 94 = .ok (.bipush 59, 2) := by decide +kernel
theorem dX8_readsComment_96 : decode cX8_readsComment 96 = .ok (.invokevirtual 132, 3) := by decide +kernel
theorem dX8_readsComment_99 : decode cX8_readsComment 99 = .ok (.ifCond .eq 7, 3) := by decide +kernel
theorem dX8_readsComment_102 : decode cX8_readsComment 102 = .ok (.iconst 1, 1) := by decide +kernel
theorem dX8_readsComment_103 : decode cX8_readsComment 103 = .ok (.goto 4, 3) := by decide +kernel
theorem dX8_readsComment_106 : decode cX8_readsComment 106 = .ok (.iconst 0, 1) := by decide +kernel
theorem dX8_readsComment_107 : decode cX8_readsComment 107 = .ok (.ireturn, 1) := by decide +kernel
theorem dX8_hasFault_0 : decode cX8_hasFault 0 = .ok (.aload_n 0, 1) := by decide +kernel
theorem dX8_hasFault_1 : decode cX8_hasFault 1 = .ok (.iconst 0, 1) := by decide +kernel
theorem dX8_hasFault_2 : decode cX8_hasFault 2 = .ok (.putfield 117, 3) := by decide +kernel
theorem dX8_hasFault_5 : decode cX8_hasFault 5 = .ok (.aload_n 0, 1) := by decide +kernel
theorem dX8_hasFault_6 : decode cX8_hasFault 6 = .ok (.iconst 0, 1) := by decide +kernel
theorem dX8_hasFault_7 : decode cX8_hasFault 7 = .ok (.putfield 138, 3) := by decide +kernel
theorem dX8_hasFault_10 : decode cX8_hasFault 10 = .ok (.aload_n 0, 1) := by decide +kernel
theorem dX8_hasFault_11 : decode cX8_hasFault 11 = .ok (.getfield 117, 3) := by decide +kernel
theorem dX8_hasFault_14 : decode cX8_hasFault 14 = .ok (.aload_n 0, 1) := by decide +kernel
theorem dX8_hasFault_15 : decode cX8_hasFault 15 = .ok (.getfield 70, 3) := by decide +kernel
theorem dX8_hasFault_18 : decode cX8_hasFault 18 = .ok (.if_icmp .ge 123, 3) := by decide +kernel
theorem dX8_hasFault_21 : decode cX8_hasFault 21 = .ok (.aload_n 0, 1) := by decide +kernel
theorem dX8_hasFault_22 : decode cX8_hasFault 22 = .ok (.getfield 117, 3) := by decide +kernel
theorem dX8_hasFault_25 : decode cX8_hasFault 25 = .ok (.istore_n 1, 1) := by decide +kernel
theorem dX8_hasFault_26 : decode cX8_hasFault 26 = .ok (.aload_n 0, 1) := by decide +kernel
theorem dX8_hasFault_27 : decode cX8_hasFault 27 = .ok (.invokevirtual 141, 3) := by decide +kernel
theorem dX8_hasFault_30 : decode cX8_hasFault 30 = .ok (.istore_n 2, 1) := by decide +kernel
theorem dX8_hasFault_31 : decode cX8_hasFault 31 = .ok (.iload_n 2, 1) := by decide +kernel
theorem dX8_hasFault_32 : decode cX8_hasFault 32 = .ok (.ifCond .eq 14, 3) := by decide +kernel
theorem dX8_hasFault_35 : decode cX8_hasFault 35 = .ok (.aload_n 0, 1) := by decide +kernel
theorem dX8_hasFault_36 : decode cX8_hasFault 36 = .ok (.aload_n 0, 1) := by decide +kernel
theorem dX8_hasFault_37 : decode cX8_hasFault 37 = .ok (.getfield 126, 3) := by decide +kernel
theorem dX8_hasFault_40 : decode cX8_hasFault 40 = .ok (.invokevirtual 41, 3) := by decide +kernel
theorem dX8_hasFault_43 : decode cX8_hasFault 43 = .ok (.goto 4, 3) := by decide +kernel
theorem dX8_hasFault_46 : decode cX8_hasFault 46 = .ok (.iconst (-1), 1) := by decide +kernel
theorem dX8_hasFault_47 : decode cX8_hasFault 47 = .ok (.istore_n 3, 1) := by decide +kernel
theorem dX8_hasFault_48 : decode cX8_hasFault 48 = .ok (.iload_n 2, 1) := by decide +kernel
theorem dX8_hasFault_49 : decode cX8_hasFault 49 = .ok (.ifCond .ne 7, 3) := by decide +kernel
theorem dX8_hasFault_52 : decode cX8_hasFault 52 = .ok (.iconst 1, 1) := by decide +kernel
theorem dX8_hasFault_53 : decode cX8_hasFault 53 = .ok (.goto 55, 3) := by decide +kernel
theorem dX8_hasFault_56 : decode cX8_hasFault 56 = .ok (.iload_n 3, 1) := by decide +kernel
theorem dX8_hasFault_57 : decode cX8_hasFault 57 = .ok (.ifCond .ge 7, 3) := by decide +kernel
theorem dX8_hasFault_60 : decode cX8_hasFault 60 = .ok (.iconst 2, 1) := by decide +kernel
theorem dX8_hasFault_61 : decode cX8_hasFault 61 = .ok (.goto 47, 3) := by decide +kernel
theorem dX8_hasFault_64 : decode cX8_hasFault 64 = .ok (.aload_n 0, 1) := by decide +kernel
theorem dX8_hasFault_65 : decode cX8_hasFault 65 = .ok (.getfield 7, 3) := by decide +kernel
theorem dX8_hasFault_68 : decode cX8_hasFault 68 = .ok (.iload_n 3, 1) := by decide +kernel
theorem dX8_hasFault_69 : decode cX8_hasFault 69 = .ok (.invokestatic 34, 3) := by decide +kernel
theorem dX8_hasFault_72 : decode cX8_hasFault 72 = .ok (.iconst 1, 1) := by decide +kernel
theorem dX8_hasFault_73 : decode cX8_hasFault 73 = .ok (.iadd, 1) := by decide +kernel
theorem dX8_hasFault_74 : decode cX8_hasFault 74 = .ok (.iaload, 1) := by decide +kernel
theorem dX8_hasFault_75 : decode cX8_hasFault 75 = .ok (.aload_n 0, 1) := by decide +kernel
theorem dX8_hasFault_76 : decode cX8_hasFault 76 = .ok (.getfield 135, 3) := by decide +kernel
theorem dX8_hasFault_79 : decode cX8_hasFault 79 = .ok (.if_icmp .ne 7, 3) := by decide +kernel
theorem dX8_hasFault_82 : decode cX8_hasFault 82 = .ok (.iconst 3, 1) := by decide +kernel
theorem dX8_hasFault_83 : decode cX8_hasFault 83 = .ok (.goto 25, 3) := by decide +kernel
theorem dX8_hasFault_86 : decode cX8_hasFault 86 = .ok (.aload_n 0, 1) := by decide +kernel
theorem dX8_hasFault_87 : decode cX8_hasFault 87 = .ok (.getfield 7, 3) := by decide +kernel
theorem dX8_hasFault_90 : decode cX8_hasFault 90 = .ok (.bipush 9, 2) := by decide +kernel
theorem dX8_hasFault_92 : decode cX8_hasFault 92 = .ok (.iaload, 1) := by decide +kernel
theorem dX8_hasFault_93 : decode cX8_hasFault 93 = .ok (.aload_n 0, 1) := by decide +kernel
theorem dX8_hasFault_94 : decode cX8_hasFault 94 = .ok (.getfield 138, 3) := by decide +kernel
theorem dX8_hasFault_97 : decode cX8_hasFault 97 = .ok (.iadd, 1) := by decide +kernel
theorem dX8_hasFault_98 : decode cX8_hasFault 98 = .ok (.bipush 30, 2) := by decide +kernel
theorem dX8_hasFault_100 : decode cX8_hasFault 100 = .ok (.if_icmp .lt 7, 3) := by decide +kernel
theorem dX8_hasFault_103 : decode cX8_hasFault 103 = .ok (.iconst 4, 1) := by decide +kernel
theorem dX8_hasFault_104 : decode cX8_hasFault 104 = .ok (.goto 4, 3) := by decide +kernel
theorem dX8_hasFault_107 : decode cX8_hasFault 107 = .ok (.iconst 0, 1) := by decide +kernel
theorem dX8_hasFault_108 : decode cX8_hasFault 108 = .ok (.istore 4, 2) := by decide +kernel
theorem dX8_hasFault_110 : decode cX8_hasFault 110 = .ok (.iload 4, 2) := by decide +kernel
theorem dX8_hasFault_112 : decode cX8_hasFault 112 = .ok (.ifCond .le 16, 3) := by decide +kernel
theorem dX8_hasFault_115 : decode cX8_hasFault 115 = .ok (.aload_n 0, 1) := by decide +kernel
theorem dX8_hasFault_116 : decode cX8_hasFault 116 = .ok (.iload_n 1, 1) := by decide +kernel
theorem dX8_hasFault_117 : decode cX8_hasFault 117 = .ok (.putfield 144, 3) := by decide +kernel
theorem dX8_hasFault_120 : decode cX8_hasFault 120 = .ok (.aload_n 0, 1) := by decide +kernel
theorem dX8_hasFault_121 : decode cX8_hasFault 121 = .ok (.iload 4, 2) := by decide +kernel
theorem dX8_hasFault_123 : decode cX8_hasFault 123 = .ok (.putfield 147, 3) := by decide +kernel
theorem dX8_hasFault_126 : decode cX8_hasFault 126 = .ok (.iconst 1, 1) := by decide +kernel
theorem dX8_hasFault_127 : decode cX8_hasFault 127 = .ok (.ireturn, 1) := by decide +kernel
theorem dX8_hasFault_128 : decode cX8_hasFault 128 = .ok (.aload_n 0, 1) := by decide +kernel
theorem dX8_hasFault_129 : decode cX8_hasFault 129 = .ok (.dup, 1) := by decide +kernel
theorem dX8_hasFault_130 : decode cX8_hasFault 130 = .ok (.getfield 138, 3) := by decide +kernel
theorem dX8_hasFault_133 : decode cX8_hasFault 133 = .ok (.iconst 1, 1) := by decide +kernel
theorem dX8_hasFault_134 : decode cX8_hasFault 134 = .ok (.iadd, 1) := by decide +kernel
theorem dX8_hasFault_135 : decode cX8_hasFault 135 = .ok (.putfield 138, 3) := by decide +kernel
theorem dX8_hasFault_138 : decode cX8_hasFault 138 = .ok (.goto (-128), 3) := by decide +kernel
theorem dX8_hasFault_141 : decode cX8_hasFault 141 = .ok (.iconst 0, 1) := by decide +kernel
theorem dX8_hasFault_142 : decode cX8_hasFault 142 = .ok (.ireturn, 1) := by decide +kernel
theorem dX8_fault_0 : decode cX8_fault 0 = .ok (.iload_n 1, 1) := by decide +kernel
theorem dX8_fault_1 : decode cX8_fault 1 = .ok (.iconst 0, 1) := by decide +kernel
theorem dX8_fault_2 : decode cX8_fault 2 = .ok (.iconst 1, 1) := by decide +kernel
theorem dX8_fault_3 : decode cX8_fault 3 = .ok (.invokestatic 23, 3) := by decide +kernel
theorem dX8_fault_6 : decode cX8_fault 6 = .ok (.ifCond .ne 5, 3) := by decide +kernel
theorem dX8_fault_9 : decode cX8_fault 9 = .ok (.iconst (-1), 1) := by decide +kernel
theorem dX8_fault_10 : decode cX8_fault 10 = .ok (.ireturn, 1) := by decide +kernel
theorem dX8_fault_11 : decode cX8_fault 11 = .ok (.aload_n 0, 1) := by decide +kernel
theorem dX8_fault_12 : decode cX8_fault 12 = .ok (.invokevirtual 150, 3) := by decide +kernel
theorem dX8_fault_15 : decode cX8_fault 15 = .ok (.ifCond .ne 8, 3) := by decide +kernel
theorem dX8_fault_18 : decode cX8_fault 18 = .ok (.bipush (-4), 2) := by decide +kernel
theorem dX8_fault_20 : decode cX8_fault 20 = .ok (.goto 18, 3) := by decide +kernel
theorem dX8_fault_23 : decode cX8_fault 23 = .ok (.iload_n 1, 1) := by decide +kernel
theorem dX8_fault_24 : decode cX8_fault 24 = .ok (.ifCond .ne 10, 3) := by decide +kernel
theorem dX8_fault_27 : decode cX8_fault 27 = .ok (.aload_n 0, 1) := by decide +kernel
theorem dX8_fault_28 : decode cX8_fault 28 = .ok (.getfield 144, 3) := by decide +kernel
theorem dX8_fault_31 : decode cX8_fault 31 = .ok (.goto 7, 3) := by decide +kernel
theorem dX8_fault_34 : decode cX8_fault 34 = .ok (.aload_n 0, 1) := by decide +kernel
theorem dX8_fault_35 : decode cX8_fault 35 = .ok (.getfield 147, 3) := by decide +kernel
theorem dX8_fault_38 : decode cX8_fault 38 = .ok (.ireturn, 1) := by decide +kernel
theorem dX8_enter_0 : decode cX8_enter 0 = .ok (.aload_n 0, 1) := by decide +kernel
theorem dX8_enter_1 : decode cX8_enter 1 = .ok (.iload_n 1, 1) := by decide +kernel
theorem dX8_enter_2 : decode cX8_enter 2 = .ok (.invokevirtual 51, 3) := by decide +kernel
theorem dX8_enter_5 : decode cX8_enter 5 = .ok (.ifCond .ne 5, 3) := by decide +kernel
theorem dX8_enter_8 : decode cX8_enter 8 = .ok (.iconst (-1), 1) := by decide +kernel
theorem dX8_enter_9 : decode cX8_enter 9 = .ok (.ireturn, 1) := by decide +kernel
theorem dX8_enter_10 : decode cX8_enter 10 = .ok (.aload_n 0, 1) := by decide +kernel
theorem dX8_enter_11 : decode cX8_enter 11 = .ok (.getfield 7, 3) := by decide +kernel
theorem dX8_enter_14 : decode cX8_enter 14 = .ok (.iconst 4, 1) := by decide +kernel
theorem dX8_enter_15 : decode cX8_enter 15 = .ok (.iaload, 1) := by decide +kernel
theorem dX8_enter_16 : decode cX8_enter 16 = .ok (.ifCond .eq 10, 3) := by decide +kernel
theorem dX8_enter_19 : decode cX8_enter 19 = .ok (.aload_n 0, 1) := by decide +kernel
theorem dX8_enter_20 : decode cX8_enter 20 = .ok (.invokevirtual 150, 3) := by decide +kernel
theorem dX8_enter_23 : decode cX8_enter 23 = .ok (.ifCond .eq 6, 3) := by decide +kernel
theorem dX8_enter_26 : decode cX8_enter 26 = .ok (.bipush (-2), 2) := by decide +kernel
theorem dX8_enter_28 : decode cX8_enter 28 = .ok (.ireturn, 1) := by decide +kernel
theorem dX8_enter_29 : decode cX8_enter 29 = .ok (.aload_n 0, 1) := by decide +kernel
theorem dX8_enter_30 : decode cX8_enter 30 = .ok (.invokevirtual 31, 3) := by decide +kernel
theorem dX8_enter_33 : decode cX8_enter 33 = .ok (.aload_n 0, 1) := by decide +kernel
theorem dX8_enter_34 : decode cX8_enter 34 = .ok (.getfield 138, 3) := by decide +kernel
theorem dX8_enter_37 : decode cX8_enter 37 = .ok (.istore_n 2, 1) := by decide +kernel
theorem dX8_enter_38 : decode cX8_enter 38 = .ok (.aload_n 0, 1) := by decide +kernel
theorem dX8_enter_39 : decode cX8_enter 39 = .ok (.iconst 0, 1) := by decide +kernel
theorem dX8_enter_40 : decode cX8_enter 40 = .ok (.putfield 117, 3) := by decide +kernel
theorem dX8_enter_43 : decode cX8_enter 43 = .ok (.iconst 0, 1) := by decide +kernel
theorem dX8_enter_44 : decode cX8_enter 44 = .ok (.istore_n 3, 1) := by decide +kernel
theorem dX8_enter_45 : decode cX8_enter 45 = .ok (.iload_n 3, 1) := by decide +kernel
theorem dX8_enter_46 : decode cX8_enter 46 = .ok (.iload_n 2, 1) := by decide +kernel
theorem dX8_enter_47 : decode cX8_enter 47 = .ok (.if_icmp .ge 34, 3) := by decide +kernel
theorem dX8_enter_50 : decode cX8_enter 50 = .ok (.aload_n 0, 1) := by decide +kernel
theorem dX8_enter_51 : decode cX8_enter 51 = .ok (.invokevirtual 141, 3) := by decide +kernel
theorem dX8_enter_54 : decode cX8_enter 54 = .ok (.istore 4, 2) := by decide +kernel
theorem dX8_enter_56 : decode cX8_enter 56 = .ok (.aload_n 0, 1) := by decide +kernel
theorem dX8_enter_57 : decode cX8_enter 57 = .ok (.iload_n 1, 1) := by decide +kernel
theorem dX8_enter_58 : decode cX8_enter 58 = .ok (.aload_n 0, 1) := by decide +kernel
theorem dX8_enter_59 : decode cX8_enter 59 = .ok (.getfield 126, 3) := by decide +kernel
theorem dX8_enter_62 : decode cX8_enter 62 = .ok (.aload_n 0, 1) := by decide +kernel
theorem dX8_enter_63 : decode cX8_enter 63 = .ok (.getfield 129, 3) := by decide +kernel
theorem dX8_enter_66 : decode cX8_enter 66 = .ok (.aload_n 0, 1) := by decide +kernel
theorem dX8_enter_67 : decode cX8_enter 67 = .ok (.getfield 135, 3) := by decide +kernel
theorem dX8_enter_70 : decode cX8_enter 70 = .ok (.invokevirtual 87, 3) := by decide +kernel
theorem dX8_enter_73 : decode cX8_enter 73 = .ok (.istore 5, 2) := by decide +kernel
theorem dX8_enter_75 : decode cX8_enter 75 = .ok (.iinc 3 1, 3) := by decide +kernel
theorem dX8_enter_78 : decode cX8_enter 78 = .ok (.goto (-33), 3) := by decide +kernel
theorem dX8_enter_81 : decode cX8_enter 81 = .ok (.iload_n 2, 1) := by decide +kernel
theorem dX8_enter_82 : decode cX8_enter 82 = .ok (.ireturn, 1) := by decide +kernel
