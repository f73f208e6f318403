theorem dX7_init_0 : decode cX7_init 0 = .ok (.aload_n 0, 1) := by decide +kernel
theorem dX7_init_1 : decode cX7_init 1 = .ok (.invokespecial 1, 3) := by decide +kernel
theorem dX7_init_4 : decode cX7_init 4 = .ok (.aload_n 0, 1) := by decide +kernel
theorem dX7_init_5 : decode cX7_init 5 = .ok (.new 7, 3) := by decide +kernel
theorem dX7_init_8 : decode cX7_init 8 = .ok (.dup, 1) := by decide +kernel
theorem dX7_init_9 : decode cX7_init 9 = .ok (.invokespecial 9, 3) := by decide +kernel
theorem dX7_init_12 : decode cX7_init 12 = .ok (.putfield 10, 3) := by decide +kernel
theorem dX7_init_15 : decode cX7_init 15 = .ok (.aload_n 0, 1) := by decide +kernel
theorem dX7_init_16 : decode cX7_init 16 = .ok (.new 16, 3) := by decide +kernel
theorem dX7_init_19 : decode cX7_init 19 = .ok (.dup, 1) := by decide +kernel
theorem dX7_init_20 : decode cX7_init 20 = .ok (.invokespecial 18, 3) := by decide +kernel
theorem dX7_init_23 : decode cX7_init 23 = .ok (.putfield 19, 3) := by decide +kernel
theorem dX7_init_26 : decode cX7_init 26 = .ok (.aload_n 0, 1) := by decide +kernel
theorem dX7_init_27 : decode cX7_init 27 = .ok (.new 23, 3) := by decide +kernel
theorem dX7_init_30 : decode cX7_init 30 = .ok (.dup, 1) := by decide +kernel
theorem dX7_init_31 : decode cX7_init 31 = .ok (.invokespecial 25, 3) := by decide +kernel
theorem dX7_init_34 : decode cX7_init 34 = .ok (.putfield 26, 3) := by decide +kernel
theorem dX7_init_37 : decode cX7_init 37 = .ok (.return_, 1) := by decide +kernel
theorem dX7_addMember_0 : decode cX7_addMember 0 = .ok (.iload_n 1, 1) := by decide +kernel
theorem dX7_addMember_1 : decode cX7_addMember 1 = .ok (.iconst 1, 1) := by decide +kernel
theorem dX7_addMember_2 : decode cX7_addMember 2 = .ok (.if_icmp .lt 9, 3) := by decide +kernel
theorem dX7_addMember_5 : decode cX7_addMember 5 = .ok (.iload_n 1, 1) := by decide +kernel
theorem dX7_addMember_6 : decode cX7_addMember 6 = .ok (.bipush 9, 2) := by decide +kernel
theorem dX7_addMember_8 : decode cX7_addMember 8 = .ok (.if_icmp .le 5, 3) := by decide +kernel
theorem dX7_addMember_11 : decode cX7_addMember 11 = .ok (.iconst (-1), 1) := by decide +kernel
theorem dX7_addMember_12 : decode cX7_addMember 12 = .ok (.ireturn, 1) := by decide +kernel
theorem dX7_addMember_13 : decode cX7_addMember 13 = .ok (.aload_n 0, 1) := by decide +kernel
theorem dX7_addMember_14 : decode cX7_addMember 14 = .ok (.getfield 10, 3) := by decide +kernel
theorem dX7_addMember_17 : decode cX7_addMember 17 = .ok (.getfield 30, 3) := by decide +kernel
theorem dX7_addMember_20 : decode cX7_addMember 20 = .ok (.getfield 34, 3) := by decide +kernel
theorem dX7_addMember_23 : decode cX7_addMember 23 = .ok (.bipush 10, 2) := by decide +kernel
theorem dX7_addMember_25 : decode cX7_addMember 25 = .ok (.if_icmp .lt 6, 3) := by decide +kernel
theorem dX7_addMember_28 : decode cX7_addMember 28 = .ok (.bipush (-3), 2) := by decide +kernel
theorem dX7_addMember_30 : decode cX7_addMember 30 = .ok (.ireturn, 1) := by decide +kernel
theorem dX7_addMember_31 : decode cX7_addMember 31 = .ok (.aload_n 0, 1) := by decide +kernel
theorem dX7_addMember_32 : decode cX7_addMember 32 = .ok (.getfield 19, 3) := by decide +kernel
theorem dX7_addMember_35 : decode cX7_addMember 35 = .ok (.aload_n 0, 1) := by decide +kernel
theorem dX7_addMember_36 : decode cX7_addMember 36 = .ok (.getfield 10, 3) := by decide +kernel
theorem dX7_addMember_39 : decode cX7_addMember 39 = .ok (.invokevirtual 40, 3) := by decide +kernel
theorem dX7_addMember_42 : decode cX7_addMember 42 = .ok (.aload_n 0, 1) := by decide +kernel
theorem dX7_addMember_43 : decode cX7_addMember 43 = .ok (.getfield 10, 3) := by decide +kernel
theorem dX7_addMember_46 : decode cX7_addMember 46 = .ok (.getfield 30, 3) := by decide +kernel
theorem dX7_addMember_49 : decode cX7_addMember 49 = .ok (.iload_n 1, 1) := by decide +kernel
theorem dX7_addMember_50 : decode cX7_addMember 50 = .ok (.invokevirtual 44, 3) := by decide +kernel
theorem dX7_addMember_53 : decode cX7_addMember 53 = .ok (.ireturn, 1) := by decide +kernel
theorem dX7_addClause_0 : decode cX7_addClause 0 = .ok (.iload_n 1, 1) := by decide +kernel
theorem dX7_addClause_1 : decode cX7_addClause 1 = .ok (.iconst 1, 1) := by decide +kernel
theorem dX7_addClause_2 : decode cX7_addClause 2 = .ok (.if_icmp .lt 16, 3) := by decide +kernel
theorem dX7_addClause_5 : decode cX7_addClause 5 = .ok (.iload_n 1, 1) := by decide +kernel
theorem dX7_addClause_6 : decode cX7_addClause 6 = .ok (.bipush 99, 2) := by decide +kernel
theorem dX7_addClause_8 : decode cX7_addClause 8 = .ok (.if_icmp .gt 10, 3) := by decide +kernel
theorem dX7_addClause_11 : decode cX7_addClause 11 = .ok (.iload_n 2, 1) := by decide +kernel
theorem dX7_addClause_12 : decode cX7_addClause 12 = .ok (.invokestatic 48, 3) := by decide +kernel
theorem dX7_addClause_15 : decode cX7_addClause 15 = .ok (.ifCond .ne 5, 3) := by decide +kernel
theorem dX7_addClause_18 : decode cX7_addClause 18 = .ok (.iconst (-1), 1) := by decide +kernel
theorem dX7_addClause_19 : decode cX7_addClause 19 = .ok (.ireturn, 1) := by decide +kernel
theorem dX7_addClause_20 : decode cX7_addClause 20 = .ok (.aload_n 0, 1) := by decide +kernel
theorem dX7_addClause_21 : decode cX7_addClause 21 = .ok (.getfield 10, 3) := by decide +kernel
theorem dX7_addClause_24 : decode cX7_addClause 24 = .ok (.getfield 52, 3) := by decide +kernel
theorem dX7_addClause_27 : decode cX7_addClause 27 = .ok (.getfield 56, 3) := by decide +kernel
theorem dX7_addClause_30 : decode cX7_addClause 30 = .ok (.ifCond .gt 18, 3) := by decide +kernel
theorem dX7_addClause_33 : decode cX7_addClause 33 = .ok (.aload_n 0, 1) := by decide +kernel
theorem dX7_addClause_34 : decode cX7_addClause 34 = .ok (.getfield 10, 3) := by decide +kernel
theorem dX7_addClause_37 : decode cX7_addClause 37 = .ok (.getfield 61, 3) := by decide +kernel
theorem dX7_addClause_40 : decode cX7_addClause 40 = .ok (.iload_n 1, 1) := by decide +kernel
theorem dX7_addClause_41 : decode cX7_addClause 41 = .ok (.invokevirtual 65, 3) := by decide +kernel
theorem dX7_addClause_44 : decode cX7_addClause 44 = .ok (.iconst (-1), 1) := by decide +kernel
theorem dX7_addClause_45 : decode cX7_addClause 45 = .ok (.if_icmp .eq 6, 3) := by decide +kernel
theorem dX7_addClause_48 : decode cX7_addClause 48 = .ok (.bipush (-2), 2) := by decide +kernel
theorem dX7_addClause_50 : decode cX7_addClause 50 = .ok (.ireturn, 1) := by decide +kernel
theorem dX7_addClause_51 : decode cX7_addClause 51 = .ok (.aload_n 0, 1) := by decide +kernel
theorem dX7_addClause_52 : decode cX7_addClause 52 = .ok (.getfield 10, 3) := by decide +kernel
theorem dX7_addClause_55 : decode cX7_addClause 55 = .ok (.getfield 61, 3) := by decide +kernel
theorem dX7_addClause_58 : decode cX7_addClause 58 = .ok (.getfield 70, 3) := by decide +kernel
theorem dX7_addClause_61 : decode cX7_addClause 61 = .ok (.bipush 20, 2) := by decide +kernel
theorem dX7_addClause_63 : decode cX7_addClause 63 = .ok (.if_icmp .lt 6, 3) := by decide +kernel
theorem dX7_addClause_66 : decode cX7_addClause 66 = .ok (.bipush (-3), 2) := by decide +kernel
theorem dX7_addClause_68 : decode cX7_addClause 68 = .ok (.ireturn, 1) := by decide +kernel
theorem dX7_addClause_69 : decode cX7_addClause 69 = .ok (.aload_n 0, 1) := by decide +kernel
theorem dX7_addClause_70 : decode cX7_addClause 70 = .ok (.getfield 19, 3) := by decide +kernel
theorem dX7_addClause_73 : decode cX7_addClause 73 = .ok (.aload_n 0, 1) := by decide +kernel
theorem dX7_addClause_74 : decode cX7_addClause 74 = .ok (.getfield 10, 3) := by decide +kernel
theorem dX7_addClause_77 : decode cX7_addClause 77 = .ok (.invokevirtual 40, 3) := by decide +kernel
theorem dX7_addClause_80 : decode cX7_addClause 80 = .ok (.aload_n 0, 1) := by decide +kernel
theorem dX7_addClause_81 : decode cX7_addClause 81 = .ok (.getfield 10, 3) := by decide +kernel
theorem dX7_addClause_84 : decode cX7_addClause 84 = .ok (.getfield 61, 3) := by decide +kernel
theorem dX7_addClause_87 : decode cX7_addClause 87 = .ok (.iload_n 1, 1) := by decide +kernel
theorem dX7_addClause_88 : decode cX7_addClause 88 = .ok (.iload_n 2, 1) := by decide +kernel
theorem dX7_addClause_89 : decode cX7_addClause 89 = .ok (.invokevirtual 71, 3) := by decide +kernel
theorem dX7_addClause_92 : decode cX7_addClause 92 = .ok (.aload_n 0, 1) := by decide +kernel
theorem dX7_addClause_93 : decode cX7_addClause 93 = .ok (.getfield 10, 3) := by decide +kernel
theorem dX7_addClause_96 : decode cX7_addClause 96 = .ok (.getfield 61, 3) := by decide +kernel
theorem dX7_addClause_99 : decode cX7_addClause 99 = .ok (.getfield 70, 3) := by decide +kernel
theorem dX7_addClause_102 : decode cX7_addClause 102 = .ok (.ireturn, 1) := by decide +kernel
theorem dX7_set_0 : decode cX7_set 0 = .ok (.iload_n 1, 1) := by decide +kernel
theorem dX7_set_1 : decode cX7_set 1 = .ok (.ifCond .lt 8, 3) := by decide +kernel
theorem dX7_set_4 : decode cX7_set 4 = .ok (.iload_n 1, 1) := by decide +kernel
theorem dX7_set_5 : decode cX7_set 5 = .ok (.iconst 5, 1) := by decide +kernel
theorem dX7_set_6 : decode cX7_set 6 = .ok (.if_icmp .lt 5, 3) := by decide +kernel
theorem dX7_set_9 : decode cX7_set 9 = .ok (.iconst (-1), 1) := by decide +kernel
theorem dX7_set_10 : decode cX7_set 10 = .ok (.ireturn, 1) := by decide +kernel
theorem dX7_set_11 : decode cX7_set 11 = .ok (.iload_n 2, 1) := by decide +kernel
theorem dX7_set_12 : decode cX7_set 12 = .ok (.getstatic 75, 3) := by decide +kernel
theorem dX7_set_15 : decode cX7_set 15 = .ok (.iload_n 1, 1) := by decide +kernel
theorem dX7_set_16 : decode cX7_set 16 = .ok (.iaload, 1) := by decide +kernel
theorem dX7_set_17 : decode cX7_set 17 = .ok (.if_icmp .lt 12, 3) := by decide +kernel
theorem dX7_set_20 : decode cX7_set 20 = .ok (.iload_n 2, 1) := by decide +kernel
theorem dX7_set_21 : decode cX7_set 21 = .ok (.getstatic 79, 3) := by decide +kernel
theorem dX7_set_24 : decode cX7_set 24 = .ok (.iload_n 1, 1) := by decide +kernel
theorem dX7_set_25 : decode cX7_set 25 = .ok (.iaload, 1) := by decide +kernel
theorem dX7_set_26 : decode cX7_set 26 = .ok (.if_icmp .le 5, 3) := by decide +kernel
theorem dX7_set_29 : decode cX7_set 29 = .ok (.iconst (-1), 1) := by decide +kernel
theorem dX7_set_30 : decode cX7_set 30 = .ok (.ireturn, 1) := by decide +kernel
theorem dX7_set_31 : decode cX7_set 31 = .ok (.aload_n 0, 1) := by decide +kernel
theorem dX7_set_32 : decode cX7_set 32 = .ok (.getfield 19, 3) := by decide +kernel
theorem dX7_set_35 : decode cX7_set 35 = .ok (.aload_n 0, 1) := by decide +kernel
theorem dX7_set_36 : decode cX7_set 36 = .ok (.getfield 10, 3) := by decide +kernel
theorem dX7_set_39 : decode cX7_set 39 = .ok (.invokevirtual 40, 3) := by decide +kernel
theorem dX7_set_42 : decode cX7_set 42 = .ok (.aload_n 0, 1) := by decide +kernel
theorem dX7_set_43 : decode cX7_set 43 = .ok (.getfield 10, 3) := by decide +kernel
theorem dX7_set_46 : decode cX7_set 46 = .ok (.getfield 82, 3) := by decide +kernel
theorem dX7_set_49 : decode cX7_set 49 = .ok (.iload_n 1, 1) := by decide +kernel
theorem dX7_set_50 : decode cX7_set 50 = .ok (.iaload, 1) := by decide +kernel
theorem dX7_set_51 : decode cX7_set 51 = .ok (.istore_n 3, 1) := by decide +kernel
theorem dX7_set_52 : decode cX7_set 52 = .ok (.aload_n 0, 1) := by decide +kernel
theorem dX7_set_53 : decode cX7_set 53 = .ok (.getfield 10, 3) := by decide +kernel
theorem dX7_set_56 : decode cX7_set 56 = .ok (.getfield 82, 3) := by decide +kernel
theorem dX7_set_59 : decode cX7_set 59 = .ok (.iload_n 1, 1) := by decide +kernel
theorem dX7_set_60 : decode cX7_set 60 = .ok (.iload_n 2, 1) := by decide +kernel
theorem dX7_set_61 : decode cX7_set 61 = .ok (.iastore, 1) := by decide +kernel
theorem dX7_set_62 : decode cX7_set 62 = .ok (.iload_n 3, 1) := by decide +kernel
theorem dX7_set_63 : decode cX7_set 63 = .ok (.ireturn, 1) := by decide +kernel
theorem dX7_member_0 : decode cX7_member 0 = .ok (.aload_n 0, 1) := by decide +kernel
theorem dX7_member_1 : decode cX7_member 1 = .ok (.getfield 10, 3) := by decide +kernel
theorem dX7_member_4 : decode cX7_member 4 = .ok (.getfield 30, 3) := by decide +kernel
theorem dX7_member_7 : decode cX7_member 7 = .ok (.iload_n 1, 1) := by decide +kernel
theorem dX7_member_8 : decode cX7_member 8 = .ok (.invokevirtual 85, 3) := by decide +kernel
theorem dX7_member_11 : decode cX7_member 11 = .ok (.ifCond .ne 5, 3) := by decide +kernel
theorem dX7_member_14 : decode cX7_member 14 = .ok (.iconst (-1), 1) := by decide +kernel
theorem dX7_member_15 : decode cX7_member 15 = .ok (.ireturn, 1) := by decide +kernel
theorem dX7_member_16 : decode cX7_member 16 = .ok (.iload_n 2, 1) := by decide +kernel
theorem dX7_member_17 : decode cX7_member 17 = .ok (.tableswitch 139 0 5 #[39, 52, 65, 82, 114, 126], 39) := by decide +kernel
theorem dX7_member_56 : decode cX7_member 56 = .ok (.aload_n 0, 1) := by decide +kernel
theorem dX7_member_57 : decode cX7_member 57 = .ok (.getfield 10, 3) := by decide +kernel
theorem dX7_member_60 : decode cX7_member 60 = .ok (.getfield 30, 3) := by decide +kernel
theorem dX7_member_63 : decode cX7_member 63 = .ok (.getfield 88, 3) := by decide +kernel
theorem dX7_member_66 : decode cX7_member 66 = .ok (.iload_n 1, 1) := by decide +kernel
theorem dX7_member_67 : decode cX7_member 67 = .ok (.iaload, 1) := by decide +kernel
theorem dX7_member_68 : decode cX7_member 68 = .ok (.ireturn, 1) := by decide +kernel
theorem dX7_member_69 : decode cX7_member 69 = .ok (.aload_n 0, 1) := by decide +kernel
theorem dX7_member_70 : decode cX7_member 70 = .ok (.getfield 10, 3) := by decide +kernel
theorem dX7_member_73 : decode cX7_member 73 = .ok (.getfield 30, 3) := by decide +kernel
theorem dX7_member_76 : decode cX7_member 76 = .ok (.getfield 91, 3) := by decide +kernel
theorem dX7_member_79 : decode cX7_member 79 = .ok (.iload_n 1, 1) := by decide +kernel
theorem dX7_member_80 : decode cX7_member 80 = .ok (.iaload, 1) := by decide +kernel
theorem dX7_member_81 : decode cX7_member 81 = .ok (.ireturn, 1) := by decide +kernel
theorem dX7_member_82 : decode cX7_member 82 = .ok (.aload_n 0, 1) := by decide +kernel
theorem dX7_member_83 : decode cX7_member 83 = .ok (.getfield 10, 3) := by decide +kernel
theorem dX7_member_86 : decode cX7_member 86 = .ok (.iload_n 1, 1) := by decide +kernel
theorem dX7_member_87 : decode cX7_member 87 = .ok (.invokevirtual 94, 3) := by decide +kernel
theorem dX7_member_90 : decode cX7_member 90 = .ok (.ifCond .eq 7, 3) := by decide +kernel
theorem dX7_member_93 : decode cX7_member 93 = .ok (.iconst 1, 1) := by decide +kernel
theorem dX7_member_94 : decode cX7_member 94 = .ok (.goto 4, 3) := by decide +kernel
theorem dX7_member_97 : decode cX7_member 97 = .ok (.iconst 0, 1) := by decide +kernel
theorem dX7_member_98 : decode cX7_member 98 = .ok (.ireturn, 1) := by decide +kernel
theorem dX7_member_99 : decode cX7_member 99 = .ok (.aload_n 0, 1) := by decide +kernel
theorem dX7_member_100 : decode cX7_member 100 = .ok (.getfield 10, 3) := by decide +kernel
theorem dX7_member_103 : decode cX7_member 103 = .ok (.getfield 30, 3) := by decide +kernel
theorem dX7_member_106 : decode cX7_member 106 = .ok (.iload_n 1, 1) := by decide +kernel
theorem dX7_member_107 : decode cX7_member 107 = .ok (.invokevirtual 97, 3) := by decide +kernel
theorem dX7_member_110 : decode cX7_member 110 = .ok (.ifCond .eq 18, 3) := by decide +kernel
theorem dX7_member_113 : decode cX7_member 113 = .ok (.aload_n 0, 1) := by decide +kernel
theorem dX7_member_114 : decode cX7_member 114 = .ok (.getfield 10, 3) := by decide +kernel
theorem dX7_member_117 : decode cX7_member 117 = .ok (.getfield 30, 3) := by decide +kernel
theorem dX7_member_120 : decode cX7_member 120 = .ok (.getfield 100, 3) := by decide +kernel
theorem dX7_member_123 : decode cX7_member 123 = .ok (.iload_n 1, 1) := by decide +kernel
theorem dX7_member_124 : decode cX7_member 124 = .ok (.iaload, 1) := by decide +kernel
theorem dX7_member_125 : decode cX7_member 125 = .ok (.goto 5, 3) := by decide +kernel
theorem dX7_member_128 : decode cX7_member 128 = .ok (.bipush (-4), 2) := by decide +kernel
theorem dX7_member_130 : decode cX7_member 130 = .ok (.ireturn, 1) := by decide +kernel
theorem dX7_member_131 : decode cX7_member 131 = .ok (.aload_n 0, 1) := by decide +kernel
theorem dX7_member_132 : decode cX7_member 132 = .ok (.getfield 10, 3) := by decide +kernel
theorem dX7_member_135 : decode cX7_member 135 = .ok (.getfield 103, 3) := by decide +kernel
theorem dX7_member_138 : decode cX7_member 138 = .ok (.iload_n 1, 1) := by decide +kernel
theorem dX7_member_139 : decode cX7_member 139 = .ok (.invokevirtual 107, 3) := by decide +kernel
theorem dX7_member_142 : decode cX7_member 142 = .ok (.ireturn, 1) := by decide +kernel
theorem dX7_member_143 : decode cX7_member 143 = .ok (.aload_n 0, 1) := by decide +kernel
theorem dX7_member_144 : decode cX7_member 144 = .ok (.getfield 10, 3) := by decide +kernel
theorem dX7_member_147 : decode cX7_member 147 = .ok (.getfield 30, 3) := by decide +kernel
theorem dX7_member_150 : decode cX7_member 150 = .ok (.getfield 112, 3) := by decide +kernel
theorem dX7_member_153 : decode cX7_member 153 = .ok (.iload_n 1, 1) := by decide +kernel
theorem dX7_member_154 : decode cX7_member 154 = .ok (.iaload, 1) := by decide +kernel
theorem dX7_member_155 : decode cX7_member 155 = .ok (.ireturn, 1) := by decide +kernel
theorem dX7_member_156 : decode cX7_member 156 = .ok (.iconst (-1), 1) := by decide +kernel
theorem dX7_member_157 : decode cX7_member 157 = .ok (.ireturn, 1) := by decide +kernel
theorem dX7_value_0 : decode cX7_value 0 = .ok (.aload_n 0, 1) := by decide +kernel
theorem dX7_value_1 : decode cX7_value 1 = .ok (.getfield 10, 3) := by decide +kernel
theorem dX7_value_4 : decode cX7_value 4 = .ok (.getfield 61, 3) := by decide +kernel
theorem dX7_value_7 : decode cX7_value 7 = .ok (.iload_n 1, 1) := by decide +kernel
theorem dX7_value_8 : decode cX7_value 8 = .ok (.invokevirtual 65, 3) := by decide +kernel
theorem dX7_value_11 : decode cX7_value 11 = .ok (.istore_n 2, 1) := by decide +kernel
theorem dX7_value_12 : decode cX7_value 12 = .ok (.iload_n 2, 1) := by decide +kernel
theorem dX7_value_13 : decode cX7_value 13 = .ok (.iconst (-1), 1) := by decide +kernel
theorem dX7_value_14 : decode cX7_value 14 = .ok (.if_icmp .ne 7, 3) := by decide +kernel
theorem dX7_value_17 : decode cX7_value 17 = .ok (.iconst (-1), 1) := by decide +kernel
theorem dX7_value_18 : decode cX7_value 18 = .ok (.goto 15, 3) := by decide +kernel
theorem dX7_value_21 : decode cX7_value 21 = .ok (.aload_n 0, 1) := by decide +kernel
theorem dX7_value_22 : decode cX7_value 22 = .ok (.getfield 10, 3) := by decide +kernel
theorem dX7_value_25 : decode cX7_value 25 = .ok (.getfield 61, 3) := by decide +kernel
theorem dX7_value_28 : decode cX7_value 28 = .ok (.getfield 115, 3) := by decide +kernel
theorem dX7_value_31 : decode cX7_value 31 = .ok (.iload_n 2, 1) := by decide +kernel
theorem dX7_value_32 : decode cX7_value 32 = .ok (.iaload, 1) := by decide +kernel
theorem dX7_value_33 : decode cX7_value 33 = .ok (.ireturn, 1) := by decide +kernel
theorem dX7_valueIn_0 : decode cX7_valueIn 0 = .ok (.aload_n 0, 1) := by decide +kernel
theorem dX7_valueIn_1 : decode cX7_valueIn 1 = .ok (.getfield 10, 3) := by decide +kernel
theorem dX7_valueIn_4 : decode cX7_valueIn 4 = .ok (.getfield 61, 3) := by decide +kernel
theorem dX7_valueIn_7 : decode cX7_valueIn 7 = .ok (.iload_n 1, 1) := by decide +kernel
theorem dX7_valueIn_8 : decode cX7_valueIn 8 = .ok (.invokevirtual 65, 3) := by decide +kernel
theorem dX7_valueIn_11 : decode cX7_valueIn 11 = .ok (.istore_n 3, 1) := by decide +kernel
theorem dX7_valueIn_12 : decode cX7_valueIn 12 = .ok (.iload_n 3, 1) := by decide +kernel
theorem dX7_valueIn_13 : decode cX7_valueIn 13 = .ok (.iconst (-1), 1) := by decide +kernel
theorem dX7_valueIn_14 : decode cX7_valueIn 14 = .ok (.if_icmp .eq 17, 3) := by decide +kernel
theorem dX7_valueIn_17 : decode cX7_valueIn 17 = .ok (.aload_n 0, 1) := by decide +kernel
theorem dX7_valueIn_18 : decode cX7_valueIn 18 = .ok (.getfield 10, 3) := by decide +kernel
theorem dX7_valueIn_21 : decode cX7_valueIn 21 = .ok (.getfield 61, 3) := by decide +kernel
theorem dX7_valueIn_24 : decode cX7_valueIn 24 = .ok (.iload_n 2, 1) := by decide +kernel
theorem dX7_valueIn_25 : decode cX7_valueIn 25 = .ok (.invokevirtual 118, 3) := by decide +kernel
theorem dX7_valueIn_28 : decode cX7_valueIn 28 = .ok (.ifCond .ne 5, 3) := by decide +kernel
theorem dX7_valueIn_31 : decode cX7_valueIn 31 = .ok (.iconst (-1), 1) := by decide +kernel
theorem dX7_valueIn_32 : decode cX7_valueIn 32 = .ok (.ireturn, 1) := by decide +kernel
theorem dX7_valueIn_33 : decode cX7_valueIn 33 = .ok (.aload_n 0, 1) := by decide +kernel
theorem dX7_valueIn_34 : decode cX7_valueIn 34 = .ok (.getfield 10, 3) := by decide +kernel
theorem dX7_valueIn_37 : decode cX7_valueIn 37 = .ok (.getfield 61, 3) := by decide +kernel
theorem dX7_valueIn_40 : decode cX7_valueIn 40 = .ok (.getfield 121, 3) := by decide +kernel
theorem dX7_valueIn_43 : decode cX7_valueIn 43 = .ok (.iload_n 2, 1) := by decide +kernel
theorem dX7_valueIn_44 : decode cX7_valueIn 44 = .ok (.iload_n 3, 1) := by decide +kernel
theorem dX7_valueIn_45 : decode cX7_valueIn 45 = .ok (.invokestatic 124, 3) := by decide +kernel
theorem dX7_valueIn_48 : decode cX7_valueIn 48 = .ok (.iaload, 1) := by decide +kernel
theorem dX7_valueIn_49 : decode cX7_valueIn 49 = .ok (.ireturn, 1) := by decide +kernel
theorem dX7_clause_0 : decode cX7_clause 0 = .ok (.iload_n 1, 1) := by decide +kernel
theorem dX7_clause_1 : decode cX7_clause 1 = .ok (.ifCond .ge 5, 3) := by decide +kernel
theorem dX7_clause_4 : decode cX7_clause 4 = .ok (.iconst (-1), 1) := by decide +kernel
theorem dX7_clause_5 : decode cX7_clause 5 = .ok (.ireturn, 1) := by decide +kernel
theorem dX7_clause_6 : decode cX7_clause 6 = .ok (.iload_n 1, 1) := by decide +kernel
theorem dX7_clause_7 : decode cX7_clause 7 = .ok (.aload_n 0, 1) := by decide +kernel
theorem dX7_clause_8 : decode cX7_clause 8 = .ok (.getfield 10, 3) := by decide +kernel
theorem dX7_clause_11 : decode cX7_clause 11 = .ok (.getfield 61, 3) := by decide +kernel
theorem dX7_clause_14 : decode cX7_clause 14 = .ok (.getfield 70, 3) := by decide +kernel
theorem dX7_clause_17 : decode cX7_clause 17 = .ok (.if_icmp .ge 18, 3) := by decide +kernel
theorem dX7_clause_20 : decode cX7_clause 20 = .ok (.aload_n 0, 1) := by decide +kernel
theorem dX7_clause_21 : decode cX7_clause 21 = .ok (.getfield 10, 3) := by decide +kernel
theorem dX7_clause_24 : decode cX7_clause 24 = .ok (.getfield 61, 3) := by decide +kernel
theorem dX7_clause_27 : decode cX7_clause 27 = .ok (.getfield 128, 3) := by decide +kernel
theorem dX7_clause_30 : decode cX7_clause 30 = .ok (.iload_n 1, 1) := by decide +kernel
theorem dX7_clause_31 : decode cX7_clause 31 = .ok (.iaload, 1) := by decide +kernel
theorem dX7_clause_32 : decode cX7_clause 32 = .ok (.goto 5, 3) := by decide +kernel
theorem dX7_clause_35 : decode cX7_clause 35 = .ok (.bipush (-4), 2) := by decide +kernel
theorem dX7_clause_37 : decode cX7_clause 37 = .ok (.ireturn, 1) := by decide +kernel
theorem dX7_count_0 : decode cX7_count 0 = .ok (.iload_n 1, 1) := by decide +kernel
theorem dX7_count_1 : decode cX7_count 1 = .ok (.bipush 20, 2) := by decide +kernel
theorem dX7_count_3 : decode cX7_count 3 = .ok (.if_icmp .lt 22, 3) := by decide +kernel
theorem dX7_count_6 : decode cX7_count 6 = .ok (.iload_n 1, 1) := by decide +kernel
theorem dX7_count_7 : decode cX7_count 7 = .ok (.bipush 25, 2) := by decide +kernel
theorem dX7_count_9 : decode cX7_count 9 = .ok (.if_icmp .ge 16, 3) := by decide +kernel
theorem dX7_count_12 : decode cX7_count 12 = .ok (.aload_n 0, 1) := by decide +kernel
theorem dX7_count_13 : decode cX7_count 13 = .ok (.getfield 10, 3) := by decide +kernel
theorem dX7_count_16 : decode cX7_count 16 = .ok (.getfield 82, 3) := by decide +kernel
theorem dX7_count_19 : decode cX7_count 19 = .ok (.iload_n 1, 1) := by decide +kernel
theorem dX7_count_20 : decode cX7_count 20 = .ok (.bipush 20, 2) := by decide +kernel
theorem dX7_count_22 : decode cX7_count 22 = .ok (.isub, 1) := by decide +kernel
theorem dX7_count_23 : decode cX7_count 23 = .ok (.iaload, 1) := by decide +kernel
theorem dX7_count_24 : decode cX7_count 24 = .ok (.ireturn, 1) := by decide +kernel
theorem dX7_count_25 : decode cX7_count 25 = .ok (.iload_n 1, 1) := by decide +kernel
theorem dX7_count_26 : decode cX7_count 26 = .ok (.tableswitch 215 0 11 #[62, 73, 84, 95, 103, 122, 133, 144, 155, 163, 171, 179], 62) := by decide +kernel
theorem dX7_count_88 : decode cX7_count 88 = .ok (.aload_n 0, 1) := by decide +kernel
theorem dX7_count_89 : decode cX7_count 89 = .ok (.getfield 10, 3) := by decide +kernel
theorem dX7_count_92 : decode cX7_count 92 = .ok (.getfield 30, 3) := by decide +kernel
theorem dX7_count_95 : decode cX7_count 95 = .ok (.getfield 34, 3) := by decide +kernel
theorem dX7_count_98 : decode cX7_count 98 = .ok (.ireturn, 1) := by decide +kernel
theorem dX7_count_99 : decode cX7_count 99 = .ok (.aload_n 0, 1) := by decide +kernel
theorem dX7_count_100 : decode cX7_count 100 = .ok (.getfield 10, 3) := by decide +kernel
theorem dX7_count_103 : decode cX7_count 103 = .ok (.getfield 61, 3) := by decide +kernel
theorem dX7_count_106 : decode cX7_count 106 = .ok (.getfield 70, 3) := by decide +kernel
theorem dX7_count_109 : decode cX7_count 109 = .ok (.ireturn, 1) := by decide +kernel
theorem dX7_count_110 : decode cX7_count 110 = .ok (.aload_n 0, 1) := by decide +kernel
theorem dX7_count_111 : decode cX7_count 111 = .ok (.getfield 10, 3) := by decide +kernel
theorem dX7_count_114 : decode cX7_count 114 = .ok (.getfield 61, 3) := by decide +kernel
theorem dX7_count_117 : decode cX7_count 117 = .ok (.getfield 130, 3) := by decide +kernel
theorem dX7_count_120 : decode cX7_count 120 = .ok (.ireturn, 1) := by decide +kernel
theorem dX7_count_121 : decode cX7_count 121 = .ok (.aload_n 0, 1) := by decide +kernel
theorem dX7_count_122 : decode cX7_count 122 = .ok (.getfield 10, 3) := by decide +kernel
theorem dX7_count_125 : decode cX7_count 125 = .ok (.getfield 133, 3) := by decide +kernel
theorem dX7_count_128 : decode cX7_count 128 = .ok (.ireturn, 1) := by decide +kernel
theorem dX7_count_129 : decode cX7_count 129 = .ok (.aload_n 0, 1) := by decide +kernel
theorem dX7_count_130 : decode cX7_count 130 = .ok (.getfield 10, 3) := by decide +kernel
theorem dX7_count_133 : decode cX7_count 133 = .ok (.getfield 52, 3) := by decide +kernel
theorem dX7_count_136 : decode cX7_count 136 = .ok (.getfield 136, 3) := by decide +kernel
theorem dX7_count_139 : decode cX7_count 139 = .ok (.ifCond .eq 7, 3) := by decide +kernel
theorem dX7_count_142 : decode cX7_count 142 = .ok (.iconst 1, 1) := by decide +kernel
theorem dX7_count_143 : decode cX7_count 143 = .ok (.goto 4, 3) := by decide +kernel
theorem dX7_count_146 : decode cX7_count 146 = .ok (.iconst 0, 1) := by decide +kernel
theorem dX7_count_147 : decode cX7_count 147 = .ok (.ireturn, 1) := by decide +kernel
theorem dX7_count_148 : decode cX7_count 148 = .ok (.aload_n 0, 1) := by decide +kernel
theorem dX7_count_149 : decode cX7_count 149 = .ok (.getfield 10, 3) := by decide +kernel
theorem dX7_count_152 : decode cX7_count 152 = .ok (.getfield 52, 3) := by decide +kernel
theorem dX7_count_155 : decode cX7_count 155 = .ok (.getfield 56, 3) := by decide +kernel
theorem dX7_count_158 : decode cX7_count 158 = .ok (.ireturn, 1) := by decide +kernel
theorem dX7_count_159 : decode cX7_count 159 = .ok (.aload_n 0, 1) := by decide +kernel
theorem dX7_count_160 : decode cX7_count 160 = .ok (.getfield 10, 3) := by decide +kernel
theorem dX7_count_163 : decode cX7_count 163 = .ok (.getfield 103, 3) := by decide +kernel
theorem dX7_count_166 : decode cX7_count 166 = .ok (.getfield 140, 3) := by decide +kernel
theorem dX7_count_169 : decode cX7_count 169 = .ok (.ireturn, 1) := by decide +kernel
theorem dX7_count_170 : decode cX7_count 170 = .ok (.aload_n 0, 1) := by decide +kernel
theorem dX7_count_171 : decode cX7_count 171 = .ok (.getfield 10, 3) := by decide +kernel
theorem dX7_count_174 : decode cX7_count 174 = .ok (.getfield 103, 3) := by decide +kernel
theorem dX7_count_177 : decode cX7_count 177 = .ok (.invokevirtual 141, 3) := by decide +kernel
theorem dX7_count_180 : decode cX7_count 180 = .ok (.ireturn, 1) := by decide +kernel
theorem dX7_count_181 : decode cX7_count 181 = .ok (.aload_n 0, 1) := by decide +kernel
theorem dX7_count_182 : decode cX7_count 182 = .ok (.getfield 10, 3) := by decide +kernel
theorem dX7_count_185 : decode cX7_count 185 = .ok (.invokevirtual 145, 3) := by decide +kernel
theorem dX7_count_188 : decode cX7_count 188 = .ok (.ireturn, 1) := by decide +kernel
theorem dX7_count_189 : decode cX7_count 189 = .ok (.aload_n 0, 1) := by decide +kernel
theorem dX7_count_190 : decode cX7_count 190 = .ok (.getfield 19, 3) := by decide +kernel
theorem dX7_count_193 : decode cX7_count 193 = .ok (.getfield 148, 3) := by decide +kernel
theorem dX7_count_196 : decode cX7_count 196 = .ok (.ireturn, 1) := by decide +kernel
theorem dX7_count_197 : decode cX7_count 197 = .ok (.aload_n 0, 1) := by decide +kernel
theorem dX7_count_198 : decode cX7_count 198 = .ok (.getfield 26, 3) := by decide +kernel
theorem dX7_count_201 : decode cX7_count 201 = .ok (.getfield 149, 3) := by decide +kernel
theorem dX7_count_204 : decode cX7_count 204 = .ok (.ireturn, 1) := by decide +kernel
theorem dX7_count_205 : decode cX7_count 205 = .ok (.aload_n 0, 1) := by decide +kernel
theorem dX7_count_206 : decode cX7_count 206 = .ok (.getfield 10, 3) := by decide +kernel
theorem dX7_count_209 : decode cX7_count 209 = .ok (.getfield 52, 3) := by decide +kernel
theorem dX7_count_212 : decode cX7_count 212 = .ok (.getfield 136, 3) := by decide +kernel
theorem dX7_count_215 : decode cX7_count 215 = .ok (.ifCond .eq 24, 3) := by decide +kernel
theorem dX7_count_218 : decode cX7_count 218 = .ok (.aload_n 0, 1) := by decide +kernel
theorem dX7_count_219 : decode cX7_count 219 = .ok (.getfield 10, 3) := by decide +kernel
theorem dX7_count_222 : decode cX7_count 222 = .ok (.getfield 52, 3) := by decide +kernel
theorem dX7_count_225 : decode cX7_count 225 = .ok (.getfield 152, 3) := by decide +kernel
theorem dX7_count_228 : decode cX7_count 228 = .ok (.aload_n 0, 1) := by decide +kernel
theorem dX7_count_229 : decode cX7_count 229 = .ok (.getfield 10, 3) := by decide +kernel
theorem dX7_count_232 : decode cX7_count 232 = .ok (.getfield 133, 3) := by decide +kernel
theorem dX7_count_235 : decode cX7_count 235 = .ok (.isub, 1) := by decide +kernel
theorem dX7_count_236 : decode cX7_count 236 = .ok (.goto 4, 3) := by decide +kernel
theorem dX7_count_239 : decode cX7_count 239 = .ok (.iconst 0, 1) := by decide +kernel
theorem dX7_count_240 : decode cX7_count 240 = .ok (.ireturn, 1) := by decide +kernel
theorem dX7_count_241 : decode cX7_count 241 = .ok (.iconst (-1), 1) := by decide +kernel
theorem dX7_count_242 : decode cX7_count 242 = .ok (.ireturn, 1) := by decide +kernel
theorem dX7_open_0 : decode cX7_open 0 = .ok (.aload_n 0, 1) := by decide +kernel
theorem dX7_open_1 : decode cX7_open 1 = .ok (.getfield 10, 3) := by decide +kernel
theorem dX7_open_4 : decode cX7_open 4 = .ok (.getfield 52, 3) := by decide +kernel
theorem dX7_open_7 : decode cX7_open 7 = .ok (.getfield 136, 3) := by decide +kernel
theorem dX7_open_10 : decode cX7_open 10 = .ok (.ifCond .ne 29, 3) := by decide +kernel
theorem dX7_open_13 : decode cX7_open 13 = .ok (.aload_n 0, 1) := by decide +kernel
theorem dX7_open_14 : decode cX7_open 14 = .ok (.getfield 10, 3) := by decide +kernel
theorem dX7_open_17 : decode cX7_open 17 = .ok (.getfield 103, 3) := by decide +kernel
theorem dX7_open_20 : decode cX7_open 20 = .ok (.invokevirtual 141, 3) := by decide +kernel
theorem dX7_open_23 : decode cX7_open 23 = .ok (.ifCond .gt 16, 3) := by decide +kernel
theorem dX7_open_26 : decode cX7_open 26 = .ok (.aload_n 0, 1) := by decide +kernel
theorem dX7_open_27 : decode cX7_open 27 = .ok (.getfield 10, 3) := by decide +kernel
theorem dX7_open_30 : decode cX7_open 30 = .ok (.getfield 61, 3) := by decide +kernel
theorem dX7_open_33 : decode cX7_open 33 = .ok (.getfield 70, 3) := by decide +kernel
theorem dX7_open_36 : decode cX7_open 36 = .ok (.ifCond .ne 6, 3) := by decide +kernel
theorem dX7_open_39 : decode cX7_open 39 = .ok (.bipush (-2), 2) := by decide +kernel
theorem dX7_open_41 : decode cX7_open 41 = .ok (.ireturn, 1) := by decide +kernel
theorem dX7_open_42 : decode cX7_open 42 = .ok (.aload_n 0, 1) := by decide +kernel
theorem dX7_open_43 : decode cX7_open 43 = .ok (.getfield 10, 3) := by decide +kernel
theorem dX7_open_46 : decode cX7_open 46 = .ok (.getfield 61, 3) := by decide +kernel
theorem dX7_open_49 : decode cX7_open 49 = .ok (.getfield 130, 3) := by decide +kernel
theorem dX7_open_52 : decode cX7_open 52 = .ok (.bipush 12, 2) := by decide +kernel
theorem dX7_open_54 : decode cX7_open 54 = .ok (.if_icmp .lt 6, 3) := by decide +kernel
theorem dX7_open_57 : decode cX7_open 57 = .ok (.bipush (-3), 2) := by decide +kernel
theorem dX7_open_59 : decode cX7_open 59 = .ok (.ireturn, 1) := by decide +kernel
theorem dX7_open_60 : decode cX7_open 60 = .ok (.aload_n 0, 1) := by decide +kernel
theorem dX7_open_61 : decode cX7_open 61 = .ok (.getfield 19, 3) := by decide +kernel
theorem dX7_open_64 : decode cX7_open 64 = .ok (.aload_n 0, 1) := by decide +kernel
theorem dX7_open_65 : decode cX7_open 65 = .ok (.getfield 10, 3) := by decide +kernel
theorem dX7_open_68 : decode cX7_open 68 = .ok (.invokevirtual 40, 3) := by decide +kernel
theorem dX7_open_71 : decode cX7_open 71 = .ok (.aload_n 0, 1) := by decide +kernel
theorem dX7_open_72 : decode cX7_open 72 = .ok (.getfield 10, 3) := by decide +kernel
theorem dX7_open_75 : decode cX7_open 75 = .ok (.invokevirtual 155, 3) := by decide +kernel
theorem dX7_open_78 : decode cX7_open 78 = .ok (.aload_n 0, 1) := by decide +kernel
theorem dX7_open_79 : decode cX7_open 79 = .ok (.getfield 10, 3) := by decide +kernel
theorem dX7_open_82 : decode cX7_open 82 = .ok (.getfield 52, 3) := by decide +kernel
theorem dX7_open_85 : decode cX7_open 85 = .ok (.getfield 56, 3) := by decide +kernel
theorem dX7_open_88 : decode cX7_open 88 = .ok (.ireturn, 1) := by decide +kernel
theorem dX7_vote_0 : decode cX7_vote 0 = .ok (.aload_n 0, 1) := by decide +kernel
theorem dX7_vote_1 : decode cX7_vote 1 = .ok (.getfield 10, 3) := by decide +kernel
theorem dX7_vote_4 : decode cX7_vote 4 = .ok (.getfield 30, 3) := by decide +kernel
theorem dX7_vote_7 : decode cX7_vote 7 = .ok (.iload_n 1, 1) := by decide +kernel
theorem dX7_vote_8 : decode cX7_vote 8 = .ok (.invokevirtual 85, 3) := by decide +kernel
theorem dX7_vote_11 : decode cX7_vote 11 = .ok (.ifCond .eq 12, 3) := by decide +kernel
theorem dX7_vote_14 : decode cX7_vote 14 = .ok (.iload_n 2, 1) := by decide +kernel
theorem dX7_vote_15 : decode cX7_vote 15 = .ok (.ifCond .lt 8, 3) := by decide +kernel
theorem dX7_vote_18 : decode cX7_vote 18 = .ok (.iload_n 2, 1) := by decide +kernel
theorem dX7_vote_19 : decode cX7_vote 19 = .ok (.iconst 2, 1) := by decide +kernel
theorem dX7_vote_20 : decode cX7_vote 20 = .ok (.if_icmp .le 5, 3) := by decide +kernel
theorem dX7_vote_23 : decode cX7_vote 23 = .ok (.iconst (-1), 1) := by decide +kernel
theorem dX7_vote_24 : decode cX7_vote 24 = .ok (.ireturn, 1) := by decide +kernel
theorem dX7_vote_25 : decode cX7_vote 25 = .ok (.aload_n 0, 1) := by decide +kernel
theorem dX7_vote_26 : decode cX7_vote 26 = .ok (.getfield 10, 3) := by decide +kernel
theorem dX7_vote_29 : decode cX7_vote 29 = .ok (.getfield 52, 3) := by decide +kernel
theorem dX7_vote_32 : decode cX7_vote 32 = .ok (.getfield 136, 3) := by decide +kernel
theorem dX7_vote_35 : decode cX7_vote 35 = .ok (.ifCond .ne 6, 3) := by decide +kernel
theorem dX7_vote_38 : decode cX7_vote 38 = .ok (.bipush (-2), 2) := by decide +kernel
theorem dX7_vote_40 : decode cX7_vote 40 = .ok (.ireturn, 1) := by decide +kernel
theorem dX7_vote_41 : decode cX7_vote 41 = .ok (.aload_n 0, 1) := by decide +kernel
theorem dX7_vote_42 : decode cX7_vote 42 = .ok (.getfield 19, 3) := by decide +kernel
theorem dX7_vote_45 : decode cX7_vote 45 = .ok (.aload_n 0, 1) := by decide +kernel
theorem dX7_vote_46 : decode cX7_vote 46 = .ok (.getfield 10, 3) := by decide +kernel
theorem dX7_vote_49 : decode cX7_vote 49 = .ok (.invokevirtual 40, 3) := by decide +kernel
theorem dX7_vote_52 : decode cX7_vote 52 = .ok (.aload_n 0, 1) := by decide +kernel
theorem dX7_vote_53 : decode cX7_vote 53 = .ok (.getfield 10, 3) := by decide +kernel
theorem dX7_vote_56 : decode cX7_vote 56 = .ok (.getfield 30, 3) := by decide +kernel
theorem dX7_vote_59 : decode cX7_vote 59 = .ok (.getfield 100, 3) := by decide +kernel
theorem dX7_vote_62 : decode cX7_vote 62 = .ok (.iload_n 1, 1) := by decide +kernel
theorem dX7_vote_63 : decode cX7_vote 63 = .ok (.iload_n 2, 1) := by decide +kernel
theorem dX7_vote_64 : decode cX7_vote 64 = .ok (.iastore, 1) := by decide +kernel
theorem dX7_vote_65 : decode cX7_vote 65 = .ok (.aload_n 0, 1) := by decide +kernel
theorem dX7_vote_66 : decode cX7_vote 66 = .ok (.getfield 10, 3) := by decide +kernel
theorem dX7_vote_69 : decode cX7_vote 69 = .ok (.getfield 30, 3) := by decide +kernel
theorem dX7_vote_72 : decode cX7_vote 72 = .ok (.invokevirtual 158, 3) := by decide +kernel
theorem dX7_vote_75 : decode cX7_vote 75 = .ok (.ireturn, 1) := by decide +kernel
theorem dX7_pass_0 : decode cX7_pass 0 = .ok (.iload_n 1, 1) := by decide +kernel
theorem dX7_pass_1 : decode cX7_pass 1 = .ok (.iconst 1, 1) := by decide +kernel
theorem dX7_pass_2 : decode cX7_pass 2 = .ok (.if_icmp .lt 10, 3) := by decide +kernel
theorem dX7_pass_5 : decode cX7_pass 5 = .ok (.iload_n 1, 1) := by decide +kernel
theorem dX7_pass_6 : decode cX7_pass 6 = .ok (.sipush 365, 3) := by decide +kernel
theorem dX7_pass_9 : decode cX7_pass 9 = .ok (.if_icmp .le 5, 3) := by decide +kernel
theorem dX7_pass_12 : decode cX7_pass 12 = .ok (.iconst (-1), 1) := by decide +kernel
theorem dX7_pass_13 : decode cX7_pass 13 = .ok (.ireturn, 1) := by decide +kernel
theorem dX7_pass_14 : decode cX7_pass 14 = .ok (.aload_n 0, 1) := by decide +kernel
theorem dX7_pass_15 : decode cX7_pass 15 = .ok (.getfield 10, 3) := by decide +kernel
theorem dX7_pass_18 : decode cX7_pass 18 = .ok (.getfield 133, 3) := by decide +kernel
theorem dX7_pass_21 : decode cX7_pass 21 = .ok (.iload_n 1, 1) := by decide +kernel
theorem dX7_pass_22 : decode cX7_pass 22 = .ok (.iadd, 1) := by decide +kernel
theorem dX7_pass_23 : decode cX7_pass 23 = .ok (.sipush 10000, 3) := by decide +kernel
theorem dX7_pass_26 : decode cX7_pass 26 = .ok (.if_icmp .le 6, 3) := by decide +kernel
theorem dX7_pass_29 : decode cX7_pass 29 = .ok (.bipush (-3), 2) := by decide +kernel
theorem dX7_pass_31 : decode cX7_pass 31 = .ok (.ireturn, 1) := by decide +kernel
theorem dX7_pass_32 : decode cX7_pass 32 = .ok (.aload_n 0, 1) := by decide +kernel
theorem dX7_pass_33 : decode cX7_pass 33 = .ok (.getfield 19, 3) := by decide +kernel
theorem dX7_pass_36 : decode cX7_pass 36 = .ok (.aload_n 0, 1) := by decide +kernel
theorem dX7_pass_37 : decode cX7_pass 37 = .ok (.getfield 10, 3) := by decide +kernel
theorem dX7_pass_40 : decode cX7_pass 40 = .ok (.invokevirtual 40, 3) := by decide +kernel
theorem dX7_pass_43 : decode cX7_pass 43 = .ok (.aload_n 0, 1) := by decide +kernel
theorem dX7_pass_44 : decode cX7_pass 44 = .ok (.getfield 10, 3) := by decide +kernel
theorem dX7_pass_47 : decode cX7_pass 47 = .ok (.dup, 1) := by decide +kernel
theorem dX7_pass_48 : decode cX7_pass 48 = .ok (.getfield 133, 3) := by decide +kernel
theorem dX7_pass_51 : decode cX7_pass 51 = .ok (.iload_n 1, 1) := by decide +kernel
theorem dX7_pass_52 : decode cX7_pass 52 = .ok (.iadd, 1) := by decide +kernel
theorem dX7_pass_53 : decode cX7_pass 53 = .ok (.putfield 133, 3) := by decide +kernel
theorem dX7_pass_56 : decode cX7_pass 56 = .ok (.aload_n 0, 1) := by decide +kernel
theorem dX7_pass_57 : decode cX7_pass 57 = .ok (.getfield 10, 3) := by decide +kernel
theorem dX7_pass_60 : decode cX7_pass 60 = .ok (.getfield 52, 3) := by decide +kernel
theorem dX7_pass_63 : decode cX7_pass 63 = .ok (.getfield 136, 3) := by decide +kernel
theorem dX7_pass_66 : decode cX7_pass 66 = .ok (.ifCond .eq 23, 3) := by decide +kernel
theorem dX7_pass_69 : decode cX7_pass 69 = .ok (.aload_n 0, 1) := by decide +kernel
theorem dX7_pass_70 : decode cX7_pass 70 = .ok (.getfield 10, 3) := by decide +kernel
theorem dX7_pass_73 : decode cX7_pass 73 = .ok (.getfield 133, 3) := by decide +kernel
theorem dX7_pass_76 : decode cX7_pass 76 = .ok (.aload_n 0, 1) := by decide +kernel
theorem dX7_pass_77 : decode cX7_pass 77 = .ok (.getfield 10, 3) := by decide +kernel
theorem dX7_pass_80 : decode cX7_pass 80 = .ok (.getfield 52, 3) := by decide +kernel
theorem dX7_pass_83 : decode cX7_pass 83 = .ok (.getfield 152, 3) := by decide +kernel
theorem dX7_pass_86 : decode cX7_pass 86 = .ok (.if_icmp .ge 5, 3) := by decide +kernel
theorem dX7_pass_89 : decode cX7_pass 89 = .ok (.iconst 0, 1) := by decide +kernel
theorem dX7_pass_90 : decode cX7_pass 90 = .ok (.ireturn, 1) := by decide +kernel
theorem dX7_pass_91 : decode cX7_pass 91 = .ok (.aload_n 0, 1) := by decide +kernel
theorem dX7_pass_92 : decode cX7_pass 92 = .ok (.getfield 10, 3) := by decide +kernel
theorem dX7_pass_95 : decode cX7_pass 95 = .ok (.invokevirtual 161, 3) := by decide +kernel
theorem dX7_pass_98 : decode cX7_pass 98 = .ok (.aload_n 0, 1) := by decide +kernel
theorem dX7_pass_99 : decode cX7_pass 99 = .ok (.getfield 10, 3) := by decide +kernel
theorem dX7_pass_102 : decode cX7_pass 102 = .ok (.getfield 52, 3) := by decide +kernel
theorem dX7_pass_105 : decode cX7_pass 105 = .ok (.getfield 164, 3) := by decide +kernel
theorem dX7_pass_108 : decode cX7_pass 108 = .ok (.iconst 5, 1) := by decide +kernel
theorem dX7_pass_109 : decode cX7_pass 109 = .ok (.iaload, 1) := by decide +kernel
theorem dX7_pass_110 : decode cX7_pass 110 = .ok (.iconst 1, 1) := by decide +kernel
theorem dX7_pass_111 : decode cX7_pass 111 = .ok (.if_icmp .ne 7, 3) := by decide +kernel
theorem dX7_pass_114 : decode cX7_pass 114 = .ok (.iconst 2, 1) := by decide +kernel
theorem dX7_pass_115 : decode cX7_pass 115 = .ok (.goto 4, 3) := by decide +kernel
theorem dX7_pass_118 : decode cX7_pass 118 = .ok (.iconst 1, 1) := by decide +kernel
theorem dX7_pass_119 : decode cX7_pass 119 = .ok (.ireturn, 1) := by decide +kernel
theorem dX7_tally_0 : decode cX7_tally 0 = .ok (.iload_n 1, 1) := by decide +kernel
theorem dX7_tally_1 : decode cX7_tally 1 = .ok (.ifCond .lt 9, 3) := by decide +kernel
theorem dX7_tally_4 : decode cX7_tally 4 = .ok (.iload_n 1, 1) := by decide +kernel
theorem dX7_tally_5 : decode cX7_tally 5 = .ok (.bipush 6, 2) := by decide +kernel
theorem dX7_tally_7 : decode cX7_tally 7 = .ok (.if_icmp .lt 5, 3) := by decide +kernel
theorem dX7_tally_10 : decode cX7_tally 10 = .ok (.iconst (-1), 1) := by decide +kernel
theorem dX7_tally_11 : decode cX7_tally 11 = .ok (.ireturn, 1) := by decide +kernel
theorem dX7_tally_12 : decode cX7_tally 12 = .ok (.aload_n 0, 1) := by decide +kernel
theorem dX7_tally_13 : decode cX7_tally 13 = .ok (.getfield 10, 3) := by decide +kernel
theorem dX7_tally_16 : decode cX7_tally 16 = .ok (.getfield 52, 3) := by decide +kernel
theorem dX7_tally_19 : decode cX7_tally 19 = .ok (.getfield 56, 3) := by decide +kernel
theorem dX7_tally_22 : decode cX7_tally 22 = .ok (.ifCond .ne 6, 3) := by decide +kernel
theorem dX7_tally_25 : decode cX7_tally 25 = .ok (.bipush (-4), 2) := by decide +kernel
theorem dX7_tally_27 : decode cX7_tally 27 = .ok (.ireturn, 1) := by decide +kernel
theorem dX7_tally_28 : decode cX7_tally 28 = .ok (.aload_n 0, 1) := by decide +kernel
theorem dX7_tally_29 : decode cX7_tally 29 = .ok (.getfield 10, 3) := by decide +kernel
theorem dX7_tally_32 : decode cX7_tally 32 = .ok (.getfield 52, 3) := by decide +kernel
theorem dX7_tally_35 : decode cX7_tally 35 = .ok (.getfield 136, 3) := by decide +kernel
theorem dX7_tally_38 : decode cX7_tally 38 = .ok (.ifCond .eq 10, 3) := by decide +kernel
theorem dX7_tally_41 : decode cX7_tally 41 = .ok (.aload_n 0, 1) := by decide +kernel
theorem dX7_tally_42 : decode cX7_tally 42 = .ok (.getfield 10, 3) := by decide +kernel
theorem dX7_tally_45 : decode cX7_tally 45 = .ok (.invokevirtual 167, 3) := by decide +kernel
theorem dX7_tally_48 : decode cX7_tally 48 = .ok (.aload_n 0, 1) := by decide +kernel
theorem dX7_tally_49 : decode cX7_tally 49 = .ok (.getfield 10, 3) := by decide +kernel
theorem dX7_tally_52 : decode cX7_tally 52 = .ok (.getfield 52, 3) := by decide +kernel
theorem dX7_tally_55 : decode cX7_tally 55 = .ok (.getfield 164, 3) := by decide +kernel
theorem dX7_tally_58 : decode cX7_tally 58 = .ok (.iload_n 1, 1) := by decide +kernel
theorem dX7_tally_59 : decode cX7_tally 59 = .ok (.iaload, 1) := by decide +kernel
theorem dX7_tally_60 : decode cX7_tally 60 = .ok (.ireturn, 1) := by decide +kernel
theorem dX7_lacking_0 : decode cX7_lacking 0 = .ok (.aload_n 0, 1) := by decide +kernel
theorem dX7_lacking_1 : decode cX7_lacking 1 = .ok (.getfield 10, 3) := by decide +kernel
theorem dX7_lacking_4 : decode cX7_lacking 4 = .ok (.getfield 52, 3) := by decide +kernel
theorem dX7_lacking_7 : decode cX7_lacking 7 = .ok (.getfield 136, 3) := by decide +kernel
theorem dX7_lacking_10 : decode cX7_lacking 10 = .ok (.ifCond .ne 6, 3) := by decide +kernel
theorem dX7_lacking_13 : decode cX7_lacking 13 = .ok (.bipush (-2), 2) := by decide +kernel
theorem dX7_lacking_15 : decode cX7_lacking 15 = .ok (.ireturn, 1) := by decide +kernel
theorem dX7_lacking_16 : decode cX7_lacking 16 = .ok (.aload_n 0, 1) := by decide +kernel
theorem dX7_lacking_17 : decode cX7_lacking 17 = .ok (.getfield 10, 3) := by decide +kernel
theorem dX7_lacking_20 : decode cX7_lacking 20 = .ok (.invokevirtual 167, 3) := by decide +kernel
theorem dX7_lacking_23 : decode cX7_lacking 23 = .ok (.aload_n 0, 1) := by decide +kernel
theorem dX7_lacking_24 : decode cX7_lacking 24 = .ok (.getfield 10, 3) := by decide +kernel
theorem dX7_lacking_27 : decode cX7_lacking 27 = .ok (.getfield 52, 3) := by decide +kernel
theorem dX7_lacking_30 : decode cX7_lacking 30 = .ok (.getfield 164, 3) := by decide +kernel
theorem dX7_lacking_33 : decode cX7_lacking 33 = .ok (.astore_n 1, 1) := by decide +kernel
theorem dX7_lacking_34 : decode cX7_lacking 34 = .ok (.aload_n 0, 1) := by decide +kernel
theorem dX7_lacking_35 : decode cX7_lacking 35 = .ok (.getfield 10, 3) := by decide +kernel
theorem dX7_lacking_38 : decode cX7_lacking 38 = .ok (.getfield 82, 3) := by decide +kernel
theorem dX7_lacking_41 : decode cX7_lacking 41 = .ok (.iconst 1, 1) := by decide +kernel
theorem dX7_lacking_42 : decode cX7_lacking 42 = .ok (.iaload, 1) := by decide +kernel
theorem dX7_lacking_43 : decode cX7_lacking 43 = .ok (.istore_n 2, 1) := by decide +kernel
theorem dX7_lacking_44 : decode cX7_lacking 44 = .ok (.aload_n 1, 1) := by decide +kernel
theorem dX7_lacking_45 : decode cX7_lacking 45 = .ok (.iconst 0, 1) := by decide +kernel
theorem dX7_lacking_46 : decode cX7_lacking 46 = .ok (.iaload, 1) := by decide +kernel
theorem dX7_lacking_47 : decode cX7_lacking 47 = .ok (.ifCond .eq 15, 3) := by decide +kernel
theorem dX7_lacking_50 : decode cX7_lacking 50 = .ok (.iload_n 2, 1) := by decide +kernel
theorem dX7_lacking_51 : decode cX7_lacking 51 = .ok (.bipush 100, 2) := by decide +kernel
theorem dX7_lacking_53 : decode cX7_lacking 53 = .ok (.if_icmp .ne 12, 3) := by decide +kernel
theorem dX7_lacking_56 : decode cX7_lacking 56 = .ok (.aload_n 1, 1) := by decide +kernel
theorem dX7_lacking_57 : decode cX7_lacking 57 = .ok (.iconst 3, 1) := by decide +kernel
theorem dX7_lacking_58 : decode cX7_lacking 58 = .ok (.iaload, 1) := by decide +kernel
theorem dX7_lacking_59 : decode cX7_lacking 59 = .ok (.ifCond .le 6, 3) := by decide +kernel
theorem dX7_lacking_62 : decode cX7_lacking 62 = .ok (.bipush (-4), 2) := by decide +kernel
theorem dX7_lacking_64 : decode cX7_lacking 64 = .ok (.ireturn, 1) := by decide +kernel
theorem dX7_lacking_65 : decode cX7_lacking 65 = .ok (.aload_n 1, 1) := by decide +kernel
theorem dX7_lacking_66 : decode cX7_lacking 66 = .ok (.iconst 2, 1) := by decide +kernel
theorem dX7_lacking_67 : decode cX7_lacking 67 = .ok (.iaload, 1) := by decide +kernel
theorem dX7_lacking_68 : decode cX7_lacking 68 = .ok (.aload_n 1, 1) := by decide +kernel
theorem dX7_lacking_69 : decode cX7_lacking 69 = .ok (.iconst 3, 1) := by decide +kernel
theorem dX7_lacking_70 : decode cX7_lacking 70 = .ok (.iaload, 1) := by decide +kernel
theorem dX7_lacking_71 : decode cX7_lacking 71 = .ok (.iadd, 1) := by decide +kernel
theorem dX7_lacking_72 : decode cX7_lacking 72 = .ok (.ifCond .le 7, 3) := by decide +kernel
theorem dX7_lacking_75 : decode cX7_lacking 75 = .ok (.iconst 0, 1) := by decide +kernel
theorem dX7_lacking_76 : decode cX7_lacking 76 = .ok (.goto 4, 3) := by decide +kernel
theorem dX7_lacking_79 : decode cX7_lacking 79 = .ok (.iconst 1, 1) := by decide +kernel
theorem dX7_lacking_80 : decode cX7_lacking 80 = .ok (.istore_n 3, 1) := by decide +kernel
theorem dX7_lacking_81 : decode cX7_lacking 81 = .ok (.aload_n 0, 1) := by decide +kernel
theorem dX7_lacking_82 : decode cX7_lacking 82 = .ok (.getfield 10, 3) := by decide +kernel
theorem dX7_lacking_85 : decode cX7_lacking 85 = .ok (.getfield 82, 3) := by decide +kernel
theorem dX7_lacking_88 : decode cX7_lacking 88 = .ok (.iconst 0, 1) := by decide +kernel
theorem dX7_lacking_89 : decode cX7_lacking 89 = .ok (.iaload, 1) := by decide +kernel
theorem dX7_lacking_90 : decode cX7_lacking 90 = .ok (.aload_n 1, 1) := by decide +kernel
theorem dX7_lacking_91 : decode cX7_lacking 91 = .ok (.iconst 0, 1) := by decide +kernel
theorem dX7_lacking_92 : decode cX7_lacking 92 = .ok (.iaload, 1) := by decide +kernel
theorem dX7_lacking_93 : decode cX7_lacking 93 = .ok (.imul, 1) := by decide +kernel
theorem dX7_lacking_94 : decode cX7_lacking 94 = .ok (.bipush 100, 2) := by decide +kernel
theorem dX7_lacking_96 : decode cX7_lacking 96 = .ok (.invokestatic 170, 3) := by decide +kernel
theorem dX7_lacking_99 : decode cX7_lacking 99 = .ok (.aload_n 1, 1) := by decide +kernel
theorem dX7_lacking_100 : decode cX7_lacking 100 = .ok (.iconst 1, 1) := by decide +kernel
theorem dX7_lacking_101 : decode cX7_lacking 101 = .ok (.iaload, 1) := by decide +kernel
theorem dX7_lacking_102 : decode cX7_lacking 102 = .ok (.isub, 1) := by decide +kernel
theorem dX7_lacking_103 : decode cX7_lacking 103 = .ok (.istore 4, 2) := by decide +kernel
theorem dX7_lacking_105 : decode cX7_lacking 105 = .ok (.iload_n 2, 1) := by decide +kernel
theorem dX7_lacking_106 : decode cX7_lacking 106 = .ok (.aload_n 1, 1) := by decide +kernel
theorem dX7_lacking_107 : decode cX7_lacking 107 = .ok (.iconst 3, 1) := by decide +kernel
theorem dX7_lacking_108 : decode cX7_lacking 108 = .ok (.iaload, 1) := by decide +kernel
theorem dX7_lacking_109 : decode cX7_lacking 109 = .ok (.imul, 1) := by decide +kernel
theorem dX7_lacking_110 : decode cX7_lacking 110 = .ok (.bipush 100, 2) := by decide +kernel
theorem dX7_lacking_112 : decode cX7_lacking 112 = .ok (.iload_n 2, 1) := by decide +kernel
theorem dX7_lacking_113 : decode cX7_lacking 113 = .ok (.isub, 1) := by decide +kernel
theorem dX7_lacking_114 : decode cX7_lacking 114 = .ok (.invokestatic 170, 3) := by decide +kernel
theorem dX7_lacking_117 : decode cX7_lacking 117 = .ok (.aload_n 1, 1) := by decide +kernel
theorem dX7_lacking_118 : decode cX7_lacking 118 = .ok (.iconst 2, 1) := by decide +kernel
theorem dX7_lacking_119 : decode cX7_lacking 119 = .ok (.iaload, 1) := by decide +kernel
theorem dX7_lacking_120 : decode cX7_lacking 120 = .ok (.isub, 1) := by decide +kernel
theorem dX7_lacking_121 : decode cX7_lacking 121 = .ok (.istore 5, 2) := by decide +kernel
theorem dX7_lacking_123 : decode cX7_lacking 123 = .ok (.iload_n 3, 1) := by decide +kernel
theorem dX7_lacking_124 : decode cX7_lacking 124 = .ok (.iload 4, 2) := by decide +kernel
theorem dX7_lacking_126 : decode cX7_lacking 126 = .ok (.iload 5, 2) := by decide +kernel
theorem dX7_lacking_128 : decode cX7_lacking 128 = .ok (.invokestatic 173, 3) := by decide +kernel
theorem dX7_lacking_131 : decode cX7_lacking 131 = .ok (.invokestatic 173, 3) := by decide +kernel
theorem dX7_lacking_134 : decode cX7_lacking 134 = .ok (.ireturn, 1) := by decide +kernel
theorem dX7_comment_0 : decode cX7_comment 0 = .ok (.aload_n 0, 1) := by decide +kernel
theorem dX7_comment_1 : decode cX7_comment 1 = .ok (.getfield 10, 3) := by decide +kernel
theorem dX7_comment_4 : decode cX7_comment 4 = .ok (.getfield 61, 3) := by decide +kernel
theorem dX7_comment_7 : decode cX7_comment 7 = .ok (.iload_n 2, 1) := by decide +kernel
theorem dX7_comment_8 : decode cX7_comment 8 = .ok (.invokevirtual 65, 3) := by decide +kernel
theorem dX7_comment_11 : decode cX7_comment 11 = .ok (.istore 5, 2) := by decide +kernel
theorem dX7_comment_13 : decode cX7_comment 13 = .ok (.aload_n 0, 1) := by decide +kernel
theorem dX7_comment_14 : decode cX7_comment 14 = .ok (.getfield 10, 3) := by decide +kernel
theorem dX7_comment_17 : decode cX7_comment 17 = .ok (.getfield 30, 3) := by decide +kernel
theorem dX7_comment_20 : decode cX7_comment 20 = .ok (.iload_n 1, 1) := by decide +kernel
theorem dX7_comment_21 : decode cX7_comment 21 = .ok (.invokevirtual 85, 3) := by decide +kernel
theorem dX7_comment_24 : decode cX7_comment 24 = .ok (.ifCond .eq 9, 3) := by decide +kernel
theorem dX7_comment_27 : decode cX7_comment 27 = .ok (.iload 5, 2) := by decide +kernel
theorem dX7_comment_29 : decode cX7_comment 29 = .ok (.iconst (-1), 1) := by decide +kernel
theorem dX7_comment_30 : decode cX7_comment 30 = .ok (.if_icmp .ne 5, 3) := by decide +kernel
theorem dX7_comment_33 : decode cX7_comment 33 = .ok (.iconst (-1), 1) := by decide +kernel
theorem dX7_comment_34 : decode cX7_comment 34 = .ok (.ireturn, 1) := by decide +kernel
theorem dX7_comment_35 : decode cX7_comment 35 = .ok (.iload_n 3, 1) := by decide +kernel
theorem dX7_comment_36 : decode cX7_comment 36 = .ok (.ifCond .lt 16, 3) := by decide +kernel
theorem dX7_comment_39 : decode cX7_comment 39 = .ok (.iload_n 3, 1) := by decide +kernel
theorem dX7_comment_40 : decode cX7_comment 40 = .ok (.iconst 1, 1) := by decide +kernel
theorem dX7_comment_41 : decode cX7_comment 41 = .ok (.if_icmp .gt 11, 3) := by decide +kernel
theorem dX7_comment_44 : decode cX7_comment 44 = .ok (.iload 4, 2) := by decide +kernel
theorem dX7_comment_46 : decode cX7_comment 46 = .ok (.invokestatic 48, 3) := by decide +kernel
theorem dX7_comment_49 : decode cX7_comment 49 = .ok (.ifCond .ne 5, 3) := by decide +kernel
theorem dX7_comment_52 : decode cX7_comment 52 = .ok (.iconst (-1), 1) := by decide +kernel
theorem dX7_comment_53 : decode cX7_comment 53 = .ok (.ireturn, 1) := by decide +kernel
theorem dX7_comment_54 : decode cX7_comment 54 = .ok (.aload_n 0, 1) := by decide +kernel
theorem dX7_comment_55 : decode cX7_comment 55 = .ok (.getfield 10, 3) := by decide +kernel
theorem dX7_comment_58 : decode cX7_comment 58 = .ok (.getfield 52, 3) := by decide +kernel
theorem dX7_comment_61 : decode cX7_comment 61 = .ok (.getfield 136, 3) := by decide +kernel
theorem dX7_comment_64 : decode cX7_comment 64 = .ok (.ifCond .eq 21, 3) := by decide +kernel
theorem dX7_comment_67 : decode cX7_comment 67 = .ok (.aload_n 0, 1) := by decide +kernel
theorem dX7_comment_68 : decode cX7_comment 68 = .ok (.getfield 10, 3) := by decide +kernel
theorem dX7_comment_71 : decode cX7_comment 71 = .ok (.getfield 61, 3) := by decide +kernel
theorem dX7_comment_74 : decode cX7_comment 74 = .ok (.getfield 115, 3) := by decide +kernel
theorem dX7_comment_77 : decode cX7_comment 77 = .ok (.iload 5, 2) := by decide +kernel
theorem dX7_comment_79 : decode cX7_comment 79 = .ok (.iaload, 1) := by decide +kernel
theorem dX7_comment_80 : decode cX7_comment 80 = .ok (.iload 4, 2) := by decide +kernel
theorem dX7_comment_82 : decode cX7_comment 82 = .ok (.if_icmp .ne 6, 3) := by decide +kernel
theorem dX7_comment_85 : decode cX7_comment 85 = .ok (.bipush (-2), 2) := by decide +kernel
theorem dX7_comment_87 : decode cX7_comment 87 = .ok (.ireturn, 1) := by decide +kernel
theorem dX7_comment_88 : decode cX7_comment 88 = .ok (.aload_n 0, 1) := by decide +kernel
theorem dX7_comment_89 : decode cX7_comment 89 = .ok (.getfield 10, 3) := by decide +kernel
theorem dX7_comment_92 : decode cX7_comment 92 = .ok (.getfield 103, 3) := by decide +kernel
theorem dX7_comment_95 : decode cX7_comment 95 = .ok (.getfield 140, 3) := by decide +kernel
theorem dX7_comment_98 : decode cX7_comment 98 = .ok (.bipush 30, 2) := by decide +kernel
theorem dX7_comment_100 : decode cX7_comment 100 = .ok (.if_icmp .lt 6, 3) := by decide +kernel
theorem dX7_comment_103 : decode cX7_comment 103 = .ok (.bipush (-3), 2) := by decide +kernel
theorem dX7_comment_105 : decode cX7_comment 105 = .ok (.ireturn, 1) := by decide +kernel
theorem dX7_comment_106 : decode cX7_comment 106 = .ok (.aload_n 0, 1) := by decide +kernel
theorem dX7_comment_107 : decode cX7_comment 107 = .ok (.getfield 19, 3) := by decide +kernel
theorem dX7_comment_110 : decode cX7_comment 110 = .ok (.aload_n 0, 1) := by decide +kernel
theorem dX7_comment_111 : decode cX7_comment 111 = .ok (.getfield 10, 3) := by decide +kernel
theorem dX7_comment_114 : decode cX7_comment 114 = .ok (.invokevirtual 40, 3) := by decide +kernel
theorem dX7_comment_117 : decode cX7_comment 117 = .ok (.aload_n 0, 1) := by decide +kernel
theorem dX7_comment_118 : decode cX7_comment 118 = .ok (.getfield 10, 3) := by decide +kernel
theorem dX7_comment_121 : decode cX7_comment 121 = .ok (.getfield 103, 3) := by decide +kernel
theorem dX7_comment_124 : decode cX7_comment 124 = .ok (.iload_n 1, 1) := by decide +kernel
theorem dX7_comment_125 : decode cX7_comment 125 = .ok (.iload 5, 2) := by decide +kernel
theorem dX7_comment_127 : decode cX7_comment 127 = .ok (.iload_n 3, 1) := by decide +kernel
theorem dX7_comment_128 : decode cX7_comment 128 = .ok (.iload 4, 2) := by decide +kernel
theorem dX7_comment_130 : decode cX7_comment 130 = .ok (.invokevirtual 178, 3) := by decide +kernel
theorem dX7_comment_133 : decode cX7_comment 133 = .ok (.ireturn, 1) := by decide +kernel
theorem dX7_told_0 : decode cX7_told 0 = .ok (.aload_n 0, 1) := by decide +kernel
theorem dX7_told_1 : decode cX7_told 1 = .ok (.getfield 10, 3) := by decide +kernel
theorem dX7_told_4 : decode cX7_told 4 = .ok (.getfield 103, 3) := by decide +kernel
theorem dX7_told_7 : decode cX7_told 7 = .ok (.iload_n 1, 1) := by decide +kernel
theorem dX7_told_8 : decode cX7_told 8 = .ok (.invokevirtual 181, 3) := by decide +kernel
theorem dX7_told_11 : decode cX7_told 11 = .ok (.ifCond .ne 5, 3) := by decide +kernel
theorem dX7_told_14 : decode cX7_told 14 = .ok (.iconst (-1), 1) := by decide +kernel
theorem dX7_told_15 : decode cX7_told 15 = .ok (.ireturn, 1) := by decide +kernel
theorem dX7_told_16 : decode cX7_told 16 = .ok (.iload_n 2, 1) := by decide +kernel
theorem dX7_told_17 : decode cX7_told 17 = .ok (.tableswitch 183 0 6 #[43, 56, 80, 93, 106, 119, 151], 43) := by decide +kernel
theorem dX7_told_60 : decode cX7_told 60 = .ok (.aload_n 0, 1) := by decide +kernel
theorem dX7_told_61 : decode cX7_told 61 = .ok (.getfield 10, 3) := by decide +kernel
theorem dX7_told_64 : decode cX7_told 64 = .ok (.getfield 103, 3) := by decide +kernel
theorem dX7_told_67 : decode cX7_told 67 = .ok (.getfield 182, 3) := by decide +kernel
theorem dX7_told_70 : decode cX7_told 70 = .ok (.iload_n 1, 1) := by decide +kernel
theorem dX7_told_71 : decode cX7_told 71 = .ok (.iaload, 1) := by decide +kernel
theorem dX7_told_72 : decode cX7_told 72 = .ok (.ireturn, 1) := by decide +kernel
theorem dX7_told_73 : decode cX7_told 73 = .ok (.aload_n 0, 1) := by decide +kernel
theorem dX7_told_74 : decode cX7_told 74 = .ok (.getfield 10, 3) := by decide +kernel
theorem dX7_told_77 : decode cX7_told 77 = .ok (.getfield 61, 3) := by decide +kernel
theorem dX7_told_80 : decode cX7_told 80 = .ok (.getfield 128, 3) := by decide +kernel
theorem dX7_told_83 : decode cX7_told 83 = .ok (.aload_n 0, 1) := by decide +kernel
theorem dX7_told_84 : decode cX7_told 84 = .ok (.getfield 10, 3) := by decide +kernel
theorem dX7_told_87 : decode cX7_told 87 = .ok (.getfield 103, 3) := by decide +kernel
theorem dX7_told_90 : decode cX7_told 90 = .ok (.getfield 185, 3) := by decide +kernel
theorem dX7_told_93 : decode cX7_told 93 = .ok (.iload_n 1, 1) := by decide +kernel
theorem dX7_told_94 : decode cX7_told 94 = .ok (.iaload, 1) := by decide +kernel
theorem dX7_told_95 : decode cX7_told 95 = .ok (.iaload, 1) := by decide +kernel
theorem dX7_told_96 : decode cX7_told 96 = .ok (.ireturn, 1) := by decide +kernel
theorem dX7_told_97 : decode cX7_told 97 = .ok (.aload_n 0, 1) := by decide +kernel
theorem dX7_told_98 : decode cX7_told 98 = .ok (.getfield 10, 3) := by decide +kernel
theorem dX7_told_101 : decode cX7_told 101 = .ok (.getfield 103, 3) := by decide +kernel
theorem dX7_told_104 : decode cX7_told 104 = .ok (.getfield 188, 3) := by decide +kernel
theorem dX7_told_107 : decode cX7_told 107 = .ok (.iload_n 1, 1) := by decide +kernel
theorem dX7_told_108 : decode cX7_told 108 = .ok (.iaload, 1) := by decide +kernel
theorem dX7_told_109 : decode cX7_told 109 = .ok (.ireturn, 1) := by decide +kernel
theorem dX7_told_110 : decode cX7_told 110 = .ok (.aload_n 0, 1) := by decide +kernel
theorem dX7_told_111 : decode cX7_told 111 = .ok (.getfield 10, 3) := by decide +kernel
theorem dX7_told_114 : decode cX7_told 114 = .ok (.getfield 103, 3) := by decide +kernel
theorem dX7_told_117 : decode cX7_told 117 = .ok (.getfield 191, 3) := by decide +kernel
theorem dX7_told_120 : decode cX7_told 120 = .ok (.iload_n 1, 1) := by decide +kernel
theorem dX7_told_121 : decode cX7_told 121 = .ok (.iaload, 1) := by decide +kernel
theorem dX7_told_122 : decode cX7_told 122 = .ok (.ireturn, 1) := by decide +kernel
theorem dX7_told_123 : decode cX7_told 123 = .ok (.aload_n 0, 1) := by decide +kernel
theorem dX7_told_124 : decode cX7_told 124 = .ok (.getfield 10, 3) := by decide +kernel
theorem dX7_told_127 : decode cX7_told 127 = .ok (.getfield 103, 3) := by decide +kernel
theorem dX7_told_130 : decode cX7_told 130 = .ok (.getfield 194, 3) := by decide +kernel
theorem dX7_told_133 : decode cX7_told 133 = .ok (.iload_n 1, 1) := by decide +kernel
theorem dX7_told_134 : decode cX7_told 134 = .ok (.iaload, 1) := by decide +kernel
theorem dX7_told_135 : decode cX7_told 135 = .ok (.ireturn, 1) := by decide +kernel
theorem dX7_told_136 : decode cX7_told 136 = .ok (.aload_n 0, 1) := by decide +kernel
theorem dX7_told_137 : decode cX7_told 137 = .ok (.getfield 10, 3) := by decide +kernel
theorem dX7_told_140 : decode cX7_told 140 = .ok (.getfield 103, 3) := by decide +kernel
theorem dX7_told_143 : decode cX7_told 143 = .ok (.iload_n 1, 1) := by decide +kernel
theorem dX7_told_144 : decode cX7_told 144 = .ok (.invokevirtual 197, 3) := by decide +kernel
theorem dX7_told_147 : decode cX7_told 147 = .ok (.ifCond .eq 18, 3) := by decide +kernel
theorem dX7_told_150 : decode cX7_told 150 = .ok (.aload_n 0, 1) := by decide +kernel
theorem dX7_told_151 : decode cX7_told 151 = .ok (.getfield 10, 3) := by decide +kernel
theorem dX7_told_154 : decode cX7_told 154 = .ok (.getfield 103, 3) := by decide +kernel
theorem dX7_told_157 : decode cX7_told 157 = .ok (.getfield 200, 3) := by decide +kernel
theorem dX7_told_160 : decode cX7_told 160 = .ok (.iload_n 1, 1) := by decide +kernel
theorem dX7_told_161 : decode cX7_told 161 = .ok (.iaload, 1) := by decide +kernel
theorem dX7_told_162 : decode cX7_told 162 = .ok (.goto 5, 3) := by decide +kernel
theorem dX7_told_165 : decode cX7_told 165 = .ok (.bipush (-4), 2) := by decide +kernel
theorem dX7_told_167 : decode cX7_told 167 = .ok (.ireturn, 1) := by decide +kernel
theorem dX7_told_168 : decode cX7_told 168 = .ok (.aload_n 0, 1) := by decide +kernel
theorem dX7_told_169 : decode cX7_told 169 = .ok (.getfield 10, 3) := by decide +kernel
theorem dX7_told_172 : decode cX7_told 172 = .ok (.getfield 103, 3) := by decide +kernel
theorem dX7_told_175 : decode cX7_told 175 = .ok (.iload_n 1, 1) := by decide +kernel
theorem dX7_told_176 : decode cX7_told 176 = .ok (.invokevirtual 203, 3) := by decide +kernel
theorem dX7_told_179 : decode cX7_told 179 = .ok (.ifCond .eq 18, 3) := by decide +kernel
theorem dX7_told_182 : decode cX7_told 182 = .ok (.aload_n 0, 1) := by decide +kernel
theorem dX7_told_183 : decode cX7_told 183 = .ok (.getfield 10, 3) := by decide +kernel
theorem dX7_told_186 : decode cX7_told 186 = .ok (.getfield 103, 3) := by decide +kernel
theorem dX7_told_189 : decode cX7_told 189 = .ok (.getfield 206, 3) := by decide +kernel
theorem dX7_told_192 : decode cX7_told 192 = .ok (.iload_n 1, 1) := by decide +kernel
theorem dX7_told_193 : decode cX7_told 193 = .ok (.iaload, 1) := by decide +kernel
theorem dX7_told_194 : decode cX7_told 194 = .ok (.goto 5, 3) := by decide +kernel
theorem dX7_told_197 : decode cX7_told 197 = .ok (.bipush (-4), 2) := by decide +kernel
theorem dX7_told_199 : decode cX7_told 199 = .ok (.ireturn, 1) := by decide +kernel
theorem dX7_told_200 : decode cX7_told 200 = .ok (.iconst (-1), 1) := by decide +kernel
theorem dX7_told_201 : decode cX7_told 201 = .ok (.ireturn, 1) := by decide +kernel
theorem dX7_next_0 : decode cX7_next 0 = .ok (.aload_n 0, 1) := by decide +kernel
theorem dX7_next_1 : decode cX7_next 1 = .ok (.getfield 10, 3) := by decide +kernel
theorem dX7_next_4 : decode cX7_next 4 = .ok (.getfield 103, 3) := by decide +kernel
theorem dX7_next_7 : decode cX7_next 7 = .ok (.aload_n 0, 1) := by decide +kernel
theorem dX7_next_8 : decode cX7_next 8 = .ok (.getfield 10, 3) := by decide +kernel
theorem dX7_next_11 : decode cX7_next 11 = .ok (.getfield 30, 3) := by decide +kernel
theorem dX7_next_14 : decode cX7_next 14 = .ok (.invokevirtual 209, 3) := by decide +kernel
theorem dX7_next_17 : decode cX7_next 17 = .ok (.istore_n 1, 1) := by decide +kernel
theorem dX7_next_18 : decode cX7_next 18 = .ok (.iload_n 1, 1) := by decide +kernel
theorem dX7_next_19 : decode cX7_next 19 = .ok (.iconst (-1), 1) := by decide +kernel
theorem dX7_next_20 : decode cX7_next 20 = .ok (.if_icmp .ne 8, 3) := by decide +kernel
theorem dX7_next_23 : decode cX7_next 23 = .ok (.bipush (-4), 2) := by decide +kernel
theorem dX7_next_25 : decode cX7_next 25 = .ok (.goto 4, 3) := by decide +kernel
theorem dX7_next_28 : decode cX7_next 28 = .ok (.iload_n 1, 1) := by decide +kernel
theorem dX7_next_29 : decode cX7_next 29 = .ok (.ireturn, 1) := by decide +kernel
theorem dX7_resolve_0 : decode cX7_resolve 0 = .ok (.iload_n 1, 1) := by decide +kernel
theorem dX7_resolve_1 : decode cX7_resolve 1 = .ok (.ifCond .lt 15, 3) := by decide +kernel
theorem dX7_resolve_4 : decode cX7_resolve 4 = .ok (.iload_n 1, 1) := by decide +kernel
theorem dX7_resolve_5 : decode cX7_resolve 5 = .ok (.iconst 2, 1) := by decide +kernel
theorem dX7_resolve_6 : decode cX7_resolve 6 = .ok (.if_icmp .gt 10, 3) := by decide +kernel
theorem dX7_resolve_9 : decode cX7_resolve 9 = .ok (.iload_n 2, 1) := by decide +kernel
theorem dX7_resolve_10 : decode cX7_resolve 10 = .ok (.invokestatic 48, 3) := by decide +kernel
theorem dX7_resolve_13 : decode cX7_resolve 13 = .ok (.ifCond .ne 5, 3) := by decide +kernel
theorem dX7_resolve_16 : decode cX7_resolve 16 = .ok (.iconst (-1), 1) := by decide +kernel
theorem dX7_resolve_17 : decode cX7_resolve 17 = .ok (.ireturn, 1) := by decide +kernel
theorem dX7_resolve_18 : decode cX7_resolve 18 = .ok (.iload_n 1, 1) := by decide +kernel
theorem dX7_resolve_19 : decode cX7_resolve 19 = .ok (.iconst 1, 1) := by decide +kernel
theorem dX7_resolve_20 : decode cX7_resolve 20 = .ok (.if_icmp .eq 9, 3) := by decide +kernel
theorem dX7_resolve_23 : decode cX7_resolve 23 = .ok (.iload_n 2, 1) := by decide +kernel
theorem dX7_resolve_24 : decode cX7_resolve 24 = .ok (.ifCond .eq 5, 3) := by decide +kernel
theorem dX7_resolve_27 : decode cX7_resolve 27 = .ok (.iconst (-1), 1) := by decide +kernel
theorem dX7_resolve_28 : decode cX7_resolve 28 = .ok (.ireturn, 1) := by decide +kernel
theorem dX7_resolve_29 : decode cX7_resolve 29 = .ok (.aload_n 0, 1) := by decide +kernel
theorem dX7_resolve_30 : decode cX7_resolve 30 = .ok (.getfield 10, 3) := by decide +kernel
theorem dX7_resolve_33 : decode cX7_resolve 33 = .ok (.getfield 103, 3) := by decide +kernel
theorem dX7_resolve_36 : decode cX7_resolve 36 = .ok (.aload_n 0, 1) := by decide +kernel
theorem dX7_resolve_37 : decode cX7_resolve 37 = .ok (.getfield 10, 3) := by decide +kernel
theorem dX7_resolve_40 : decode cX7_resolve 40 = .ok (.getfield 30, 3) := by decide +kernel
theorem dX7_resolve_43 : decode cX7_resolve 43 = .ok (.invokevirtual 209, 3) := by decide +kernel
theorem dX7_resolve_46 : decode cX7_resolve 46 = .ok (.istore_n 3, 1) := by decide +kernel
theorem dX7_resolve_47 : decode cX7_resolve 47 = .ok (.iload_n 3, 1) := by decide +kernel
theorem dX7_resolve_48 : decode cX7_resolve 48 = .ok (.iconst (-1), 1) := by decide +kernel
theorem dX7_resolve_49 : decode cX7_resolve 49 = .ok (.if_icmp .ne 6, 3) := by decide +kernel
theorem dX7_resolve_52 : decode cX7_resolve 52 = .ok (.bipush (-2), 2) := by decide +kernel
theorem dX7_resolve_54 : decode cX7_resolve 54 = .ok (.ireturn, 1) := by decide +kernel
theorem dX7_resolve_55 : decode cX7_resolve 55 = .ok (.iload_n 1, 1) := by decide +kernel
theorem dX7_resolve_56 : decode cX7_resolve 56 = .ok (.ifCond .ne 18, 3) := by decide +kernel
theorem dX7_resolve_59 : decode cX7_resolve 59 = .ok (.aload_n 0, 1) := by decide +kernel
theorem dX7_resolve_60 : decode cX7_resolve 60 = .ok (.getfield 10, 3) := by decide +kernel
theorem dX7_resolve_63 : decode cX7_resolve 63 = .ok (.getfield 103, 3) := by decide +kernel
theorem dX7_resolve_66 : decode cX7_resolve 66 = .ok (.getfield 191, 3) := by decide +kernel
theorem dX7_resolve_69 : decode cX7_resolve 69 = .ok (.iload_n 3, 1) := by decide +kernel
theorem dX7_resolve_70 : decode cX7_resolve 70 = .ok (.iaload, 1) := by decide +kernel
theorem dX7_resolve_71 : decode cX7_resolve 71 = .ok (.goto 4, 3) := by decide +kernel
theorem dX7_resolve_74 : decode cX7_resolve 74 = .ok (.iload_n 2, 1) := by decide +kernel
theorem dX7_resolve_75 : decode cX7_resolve 75 = .ok (.istore 4, 2) := by decide +kernel
theorem dX7_resolve_77 : decode cX7_resolve 77 = .ok (.iload_n 1, 1) := by decide +kernel
theorem dX7_resolve_78 : decode cX7_resolve 78 = .ok (.iconst 2, 1) := by decide +kernel
theorem dX7_resolve_79 : decode cX7_resolve 79 = .ok (.if_icmp .eq 33, 3) := by decide +kernel
theorem dX7_resolve_82 : decode cX7_resolve 82 = .ok (.aload_n 0, 1) := by decide +kernel
theorem dX7_resolve_83 : decode cX7_resolve 83 = .ok (.getfield 10, 3) := by decide +kernel
theorem dX7_resolve_86 : decode cX7_resolve 86 = .ok (.getfield 61, 3) := by decide +kernel
theorem dX7_resolve_89 : decode cX7_resolve 89 = .ok (.aload_n 0, 1) := by decide +kernel
theorem dX7_resolve_90 : decode cX7_resolve 90 = .ok (.getfield 10, 3) := by decide +kernel
theorem dX7_resolve_93 : decode cX7_resolve 93 = .ok (.getfield 103, 3) := by decide +kernel
theorem dX7_resolve_96 : decode cX7_resolve 96 = .ok (.getfield 185, 3) := by decide +kernel
theorem dX7_resolve_99 : decode cX7_resolve 99 = .ok (.iload_n 3, 1) := by decide +kernel
theorem dX7_resolve_100 : decode cX7_resolve 100 = .ok (.iaload, 1) := by decide +kernel
theorem dX7_resolve_101 : decode cX7_resolve 101 = .ok (.iload 4, 2) := by decide +kernel
theorem dX7_resolve_103 : decode cX7_resolve 103 = .ok (.invokevirtual 213, 3) := by decide +kernel
theorem dX7_resolve_106 : decode cX7_resolve 106 = .ok (.ifCond .ne 6, 3) := by decide +kernel
theorem dX7_resolve_109 : decode cX7_resolve 109 = .ok (.bipush (-2), 2) := by decide +kernel
theorem dX7_resolve_111 : decode cX7_resolve 111 = .ok (.ireturn, 1) := by decide +kernel
theorem dX7_resolve_112 : decode cX7_resolve 112 = .ok (.aload_n 0, 1) := by decide +kernel
theorem dX7_resolve_113 : decode cX7_resolve 113 = .ok (.getfield 19, 3) := by decide +kernel
theorem dX7_resolve_116 : decode cX7_resolve 116 = .ok (.aload_n 0, 1) := by decide +kernel
theorem dX7_resolve_117 : decode cX7_resolve 117 = .ok (.getfield 10, 3) := by decide +kernel
theorem dX7_resolve_120 : decode cX7_resolve 120 = .ok (.invokevirtual 40, 3) := by decide +kernel
theorem dX7_resolve_123 : decode cX7_resolve 123 = .ok (.aload_n 0, 1) := by decide +kernel
theorem dX7_resolve_124 : decode cX7_resolve 124 = .ok (.getfield 10, 3) := by decide +kernel
theorem dX7_resolve_127 : decode cX7_resolve 127 = .ok (.iload_n 3, 1) := by decide +kernel
theorem dX7_resolve_128 : decode cX7_resolve 128 = .ok (.iload_n 1, 1) := by decide +kernel
theorem dX7_resolve_129 : decode cX7_resolve 129 = .ok (.iload 4, 2) := by decide +kernel
theorem dX7_resolve_131 : decode cX7_resolve 131 = .ok (.invokevirtual 217, 3) := by decide +kernel
theorem dX7_resolve_134 : decode cX7_resolve 134 = .ok (.aload_n 0, 1) := by decide +kernel
theorem dX7_resolve_135 : decode cX7_resolve 135 = .ok (.getfield 10, 3) := by decide +kernel
theorem dX7_resolve_138 : decode cX7_resolve 138 = .ok (.getfield 103, 3) := by decide +kernel
theorem dX7_resolve_141 : decode cX7_resolve 141 = .ok (.invokevirtual 141, 3) := by decide +kernel
theorem dX7_resolve_144 : decode cX7_resolve 144 = .ok (.ireturn, 1) := by decide +kernel
theorem dX7_appeal_0 : decode cX7_appeal 0 = .ok (.aload_n 0, 1) := by decide +kernel
theorem dX7_appeal_1 : decode cX7_appeal 1 = .ok (.getfield 10, 3) := by decide +kernel
theorem dX7_appeal_4 : decode cX7_appeal 4 = .ok (.getfield 103, 3) := by decide +kernel
theorem dX7_appeal_7 : decode cX7_appeal 7 = .ok (.iload_n 1, 1) := by decide +kernel
theorem dX7_appeal_8 : decode cX7_appeal 8 = .ok (.invokevirtual 181, 3) := by decide +kernel
theorem dX7_appeal_11 : decode cX7_appeal 11 = .ok (.ifCond .eq 17, 3) := by decide +kernel
theorem dX7_appeal_14 : decode cX7_appeal 14 = .ok (.aload_n 0, 1) := by decide +kernel
theorem dX7_appeal_15 : decode cX7_appeal 15 = .ok (.getfield 10, 3) := by decide +kernel
theorem dX7_appeal_18 : decode cX7_appeal 18 = .ok (.getfield 30, 3) := by decide +kernel
theorem dX7_appeal_21 : decode cX7_appeal 21 = .ok (.iload_n 2, 1) := by decide +kernel
theorem dX7_appeal_22 : decode cX7_appeal 22 = .ok (.invokevirtual 85, 3) := by decide +kernel
theorem dX7_appeal_25 : decode cX7_appeal 25 = .ok (.ifCond .ne 5, 3) := by decide +kernel
theorem dX7_appeal_28 : decode cX7_appeal 28 = .ok (.iconst (-1), 1) := by decide +kernel
theorem dX7_appeal_29 : decode cX7_appeal 29 = .ok (.ireturn, 1) := by decide +kernel
theorem dX7_appeal_30 : decode cX7_appeal 30 = .ok (.aload_n 0, 1) := by decide +kernel
theorem dX7_appeal_31 : decode cX7_appeal 31 = .ok (.getfield 10, 3) := by decide +kernel
theorem dX7_appeal_34 : decode cX7_appeal 34 = .ok (.getfield 30, 3) := by decide +kernel
theorem dX7_appeal_37 : decode cX7_appeal 37 = .ok (.iload_n 3, 1) := by decide +kernel
theorem dX7_appeal_38 : decode cX7_appeal 38 = .ok (.invokevirtual 221, 3) := by decide +kernel
theorem dX7_appeal_41 : decode cX7_appeal 41 = .ok (.ifCond .eq 11, 3) := by decide +kernel
theorem dX7_appeal_44 : decode cX7_appeal 44 = .ok (.iload_n 3, 1) := by decide +kernel
theorem dX7_appeal_45 : decode cX7_appeal 45 = .ok (.iload_n 2, 1) := by decide +kernel
theorem dX7_appeal_46 : decode cX7_appeal 46 = .ok (.ishr, 1) := by decide +kernel
theorem dX7_appeal_47 : decode cX7_appeal 47 = .ok (.iconst 1, 1) := by decide +kernel
theorem dX7_appeal_48 : decode cX7_appeal 48 = .ok (.iand, 1) := by decide +kernel
theorem dX7_appeal_49 : decode cX7_appeal 49 = .ok (.ifCond .ne 5, 3) := by decide +kernel
theorem dX7_appeal_52 : decode cX7_appeal 52 = .ok (.iconst (-1), 1) := by decide +kernel
theorem dX7_appeal_53 : decode cX7_appeal 53 = .ok (.ireturn, 1) := by decide +kernel
theorem dX7_appeal_54 : decode cX7_appeal 54 = .ok (.aload_n 0, 1) := by decide +kernel
theorem dX7_appeal_55 : decode cX7_appeal 55 = .ok (.getfield 10, 3) := by decide +kernel
theorem dX7_appeal_58 : decode cX7_appeal 58 = .ok (.getfield 52, 3) := by decide +kernel
theorem dX7_appeal_61 : decode cX7_appeal 61 = .ok (.getfield 136, 3) := by decide +kernel
theorem dX7_appeal_64 : decode cX7_appeal 64 = .ok (.ifCond .ne 17, 3) := by decide +kernel
theorem dX7_appeal_67 : decode cX7_appeal 67 = .ok (.aload_n 0, 1) := by decide +kernel
theorem dX7_appeal_68 : decode cX7_appeal 68 = .ok (.getfield 10, 3) := by decide +kernel
theorem dX7_appeal_71 : decode cX7_appeal 71 = .ok (.getfield 103, 3) := by decide +kernel
theorem dX7_appeal_74 : decode cX7_appeal 74 = .ok (.iload_n 1, 1) := by decide +kernel
theorem dX7_appeal_75 : decode cX7_appeal 75 = .ok (.invokevirtual 197, 3) := by decide +kernel
theorem dX7_appeal_78 : decode cX7_appeal 78 = .ok (.ifCond .ne 6, 3) := by decide +kernel
theorem dX7_appeal_81 : decode cX7_appeal 81 = .ok (.bipush (-2), 2) := by decide +kernel
theorem dX7_appeal_83 : decode cX7_appeal 83 = .ok (.ireturn, 1) := by decide +kernel
theorem dX7_appeal_84 : decode cX7_appeal 84 = .ok (.aload_n 0, 1) := by decide +kernel
theorem dX7_appeal_85 : decode cX7_appeal 85 = .ok (.getfield 10, 3) := by decide +kernel
theorem dX7_appeal_88 : decode cX7_appeal 88 = .ok (.getfield 133, 3) := by decide +kernel
theorem dX7_appeal_91 : decode cX7_appeal 91 = .ok (.aload_n 0, 1) := by decide +kernel
theorem dX7_appeal_92 : decode cX7_appeal 92 = .ok (.getfield 10, 3) := by decide +kernel
theorem dX7_appeal_95 : decode cX7_appeal 95 = .ok (.getfield 103, 3) := by decide +kernel
theorem dX7_appeal_98 : decode cX7_appeal 98 = .ok (.getfield 200, 3) := by decide +kernel
theorem dX7_appeal_101 : decode cX7_appeal 101 = .ok (.iload_n 1, 1) := by decide +kernel
theorem dX7_appeal_102 : decode cX7_appeal 102 = .ok (.iaload, 1) := by decide +kernel
theorem dX7_appeal_103 : decode cX7_appeal 103 = .ok (.aload_n 0, 1) := by decide +kernel
theorem dX7_appeal_104 : decode cX7_appeal 104 = .ok (.getfield 10, 3) := by decide +kernel
theorem dX7_appeal_107 : decode cX7_appeal 107 = .ok (.getfield 82, 3) := by decide +kernel
theorem dX7_appeal_110 : decode cX7_appeal 110 = .ok (.iconst 3, 1) := by decide +kernel
theorem dX7_appeal_111 : decode cX7_appeal 111 = .ok (.iaload, 1) := by decide +kernel
theorem dX7_appeal_112 : decode cX7_appeal 112 = .ok (.iadd, 1) := by decide +kernel
theorem dX7_appeal_113 : decode cX7_appeal 113 = .ok (.if_icmp .le 6, 3) := by decide +kernel
theorem dX7_appeal_116 : decode cX7_appeal 116 = .ok (.bipush (-2), 2) := by decide +kernel
theorem dX7_appeal_118 : decode cX7_appeal 118 = .ok (.ireturn, 1) := by decide +kernel
theorem dX7_appeal_119 : decode cX7_appeal 119 = .ok (.aload_n 0, 1) := by decide +kernel
theorem dX7_appeal_120 : decode cX7_appeal 120 = .ok (.getfield 19, 3) := by decide +kernel
theorem dX7_appeal_123 : decode cX7_appeal 123 = .ok (.aload_n 0, 1) := by decide +kernel
theorem dX7_appeal_124 : decode cX7_appeal 124 = .ok (.getfield 10, 3) := by decide +kernel
theorem dX7_appeal_127 : decode cX7_appeal 127 = .ok (.invokevirtual 40, 3) := by decide +kernel
theorem dX7_appeal_130 : decode cX7_appeal 130 = .ok (.iconst 2, 1) := by decide +kernel
theorem dX7_appeal_131 : decode cX7_appeal 131 = .ok (.aload_n 0, 1) := by decide +kernel
theorem dX7_appeal_132 : decode cX7_appeal 132 = .ok (.getfield 10, 3) := by decide +kernel
theorem dX7_appeal_135 : decode cX7_appeal 135 = .ok (.iload_n 3, 1) := by decide +kernel
theorem dX7_appeal_136 : decode cX7_appeal 136 = .ok (.invokevirtual 224, 3) := by decide +kernel
theorem dX7_appeal_139 : decode cX7_appeal 139 = .ok (.imul, 1) := by decide +kernel
theorem dX7_appeal_140 : decode cX7_appeal 140 = .ok (.aload_n 0, 1) := by decide +kernel
theorem dX7_appeal_141 : decode cX7_appeal 141 = .ok (.getfield 10, 3) := by decide +kernel
theorem dX7_appeal_144 : decode cX7_appeal 144 = .ok (.invokevirtual 145, 3) := by decide +kernel
theorem dX7_appeal_147 : decode cX7_appeal 147 = .ok (.if_icmp .gt 5, 3) := by decide +kernel
theorem dX7_appeal_150 : decode cX7_appeal 150 = .ok (.iconst 0, 1) := by decide +kernel
theorem dX7_appeal_151 : decode cX7_appeal 151 = .ok (.ireturn, 1) := by decide +kernel
theorem dX7_appeal_152 : decode cX7_appeal 152 = .ok (.aload_n 0, 1) := by decide +kernel
theorem dX7_appeal_153 : decode cX7_appeal 153 = .ok (.getfield 10, 3) := by decide +kernel
theorem dX7_appeal_156 : decode cX7_appeal 156 = .ok (.iload_n 1, 1) := by decide +kernel
theorem dX7_appeal_157 : decode cX7_appeal 157 = .ok (.invokevirtual 227, 3) := by decide +kernel
theorem dX7_appeal_160 : decode cX7_appeal 160 = .ok (.iconst 1, 1) := by decide +kernel
theorem dX7_appeal_161 : decode cX7_appeal 161 = .ok (.ireturn, 1) := by decide +kernel
theorem dX7_changes_0 : decode cX7_changes 0 = .ok (.aload_n 0, 1) := by decide +kernel
theorem dX7_changes_1 : decode cX7_changes 1 = .ok (.getfield 10, 3) := by decide +kernel
theorem dX7_changes_4 : decode cX7_changes 4 = .ok (.getfield 61, 3) := by decide +kernel
theorem dX7_changes_7 : decode cX7_changes 7 = .ok (.iload_n 1, 1) := by decide +kernel
theorem dX7_changes_8 : decode cX7_changes 8 = .ok (.invokevirtual 118, 3) := by decide +kernel
theorem dX7_changes_11 : decode cX7_changes 11 = .ok (.ifCond .eq 17, 3) := by decide +kernel
theorem dX7_changes_14 : decode cX7_changes 14 = .ok (.aload_n 0, 1) := by decide +kernel
theorem dX7_changes_15 : decode cX7_changes 15 = .ok (.getfield 10, 3) := by decide +kernel
theorem dX7_changes_18 : decode cX7_changes 18 = .ok (.getfield 61, 3) := by decide +kernel
theorem dX7_changes_21 : decode cX7_changes 21 = .ok (.iload_n 1, 1) := by decide +kernel
theorem dX7_changes_22 : decode cX7_changes 22 = .ok (.invokevirtual 231, 3) := by decide +kernel
theorem dX7_changes_25 : decode cX7_changes 25 = .ok (.goto 4, 3) := by decide +kernel
theorem dX7_changes_28 : decode cX7_changes 28 = .ok (.iconst (-1), 1) := by decide +kernel
theorem dX7_changes_29 : decode cX7_changes 29 = .ok (.ireturn, 1) := by decide +kernel
theorem dX7_change_0 : decode cX7_change 0 = .ok (.aload_n 0, 1) := by decide +kernel
theorem dX7_change_1 : decode cX7_change 1 = .ok (.getfield 10, 3) := by decide +kernel
theorem dX7_change_4 : decode cX7_change 4 = .ok (.getfield 61, 3) := by decide +kernel
theorem dX7_change_7 : decode cX7_change 7 = .ok (.iload_n 1, 1) := by decide +kernel
theorem dX7_change_8 : decode cX7_change 8 = .ok (.invokevirtual 118, 3) := by decide +kernel
theorem dX7_change_11 : decode cX7_change 11 = .ok (.ifCond .eq 16, 3) := by decide +kernel
theorem dX7_change_14 : decode cX7_change 14 = .ok (.iload_n 2, 1) := by decide +kernel
theorem dX7_change_15 : decode cX7_change 15 = .ok (.ifCond .lt 12, 3) := by decide +kernel
theorem dX7_change_18 : decode cX7_change 18 = .ok (.iload_n 3, 1) := by decide +kernel
theorem dX7_change_19 : decode cX7_change 19 = .ok (.ifCond .lt 8, 3) := by decide +kernel
theorem dX7_change_22 : decode cX7_change 22 = .ok (.iload_n 3, 1) := by decide +kernel
theorem dX7_change_23 : decode cX7_change 23 = .ok (.iconst 2, 1) := by decide +kernel
theorem dX7_change_24 : decode cX7_change 24 = .ok (.if_icmp .le 5, 3) := by decide +kernel
theorem dX7_change_27 : decode cX7_change 27 = .ok (.iconst (-1), 1) := by decide +kernel
theorem dX7_change_28 : decode cX7_change 28 = .ok (.ireturn, 1) := by decide +kernel
theorem dX7_change_29 : decode cX7_change 29 = .ok (.aload_n 0, 1) := by decide +kernel
theorem dX7_change_30 : decode cX7_change 30 = .ok (.getfield 10, 3) := by decide +kernel
theorem dX7_change_33 : decode cX7_change 33 = .ok (.getfield 61, 3) := by decide +kernel
theorem dX7_change_36 : decode cX7_change 36 = .ok (.iload_n 1, 1) := by decide +kernel
theorem dX7_change_37 : decode cX7_change 37 = .ok (.iload_n 2, 1) := by decide +kernel
theorem dX7_change_38 : decode cX7_change 38 = .ok (.invokevirtual 234, 3) := by decide +kernel
theorem dX7_change_41 : decode cX7_change 41 = .ok (.istore 4, 2) := by decide +kernel
theorem dX7_change_43 : decode cX7_change 43 = .ok (.iload 4, 2) := by decide +kernel
theorem dX7_change_45 : decode cX7_change 45 = .ok (.iconst (-1), 1) := by decide +kernel
theorem dX7_change_46 : decode cX7_change 46 = .ok (.if_icmp .ne 6, 3) := by decide +kernel
theorem dX7_change_49 : decode cX7_change 49 = .ok (.bipush (-4), 2) := by decide +kernel
theorem dX7_change_51 : decode cX7_change 51 = .ok (.ireturn, 1) := by decide +kernel
theorem dX7_change_52 : decode cX7_change 52 = .ok (.iload_n 3, 1) := by decide +kernel
theorem dX7_change_53 : decode cX7_change 53 = .ok (.lookupswitch 56 #[(0, 27), (1, 41)], 27) := by decide +kernel
theorem dX7_change_80 : decode cX7_change 80 = .ok (.aload_n 0, 1) := by decide +kernel
theorem dX7_change_81 : decode cX7_change 81 = .ok (.getfield 10, 3) := by decide +kernel
theorem dX7_change_84 : decode cX7_change 84 = .ok (.getfield 61, 3) := by decide +kernel
theorem dX7_change_87 : decode cX7_change 87 = .ok (.getfield 128, 3) := by decide +kernel
theorem dX7_change_90 : decode cX7_change 90 = .ok (.iload 4, 2) := by decide +kernel
theorem dX7_change_92 : decode cX7_change 92 = .ok (.iaload, 1) := by decide +kernel
theorem dX7_change_93 : decode cX7_change 93 = .ok (.ireturn, 1) := by decide +kernel
theorem dX7_change_94 : decode cX7_change 94 = .ok (.aload_n 0, 1) := by decide +kernel
theorem dX7_change_95 : decode cX7_change 95 = .ok (.getfield 10, 3) := by decide +kernel
theorem dX7_change_98 : decode cX7_change 98 = .ok (.getfield 61, 3) := by decide +kernel
theorem dX7_change_101 : decode cX7_change 101 = .ok (.getfield 237, 3) := by decide +kernel
theorem dX7_change_104 : decode cX7_change 104 = .ok (.iload_n 1, 1) := by decide +kernel
theorem dX7_change_105 : decode cX7_change 105 = .ok (.iconst 1, 1) := by decide +kernel
theorem dX7_change_106 : decode cX7_change 106 = .ok (.isub, 1) := by decide +kernel
theorem dX7_change_107 : decode cX7_change 107 = .ok (.iaload, 1) := by decide +kernel
theorem dX7_change_108 : decode cX7_change 108 = .ok (.ireturn, 1) := by decide +kernel
theorem dX7_change_109 : decode cX7_change 109 = .ok (.aload_n 0, 1) := by decide +kernel
theorem dX7_change_110 : decode cX7_change 110 = .ok (.getfield 10, 3) := by decide +kernel
theorem dX7_change_113 : decode cX7_change 113 = .ok (.getfield 61, 3) := by decide +kernel
theorem dX7_change_116 : decode cX7_change 116 = .ok (.getfield 240, 3) := by decide +kernel
theorem dX7_change_119 : decode cX7_change 119 = .ok (.iload_n 1, 1) := by decide +kernel
theorem dX7_change_120 : decode cX7_change 120 = .ok (.iload 4, 2) := by decide +kernel
theorem dX7_change_122 : decode cX7_change 122 = .ok (.invokestatic 124, 3) := by decide +kernel
theorem dX7_change_125 : decode cX7_change 125 = .ok (.iaload, 1) := by decide +kernel
theorem dX7_change_126 : decode cX7_change 126 = .ok (.ireturn, 1) := by decide +kernel
theorem dX7_undo_0 : decode cX7_undo 0 = .ok (.aload_n 0, 1) := by decide +kernel
theorem dX7_undo_1 : decode cX7_undo 1 = .ok (.getfield 19, 3) := by decide +kernel
theorem dX7_undo_4 : decode cX7_undo 4 = .ok (.getfield 148, 3) := by decide +kernel
theorem dX7_undo_7 : decode cX7_undo 7 = .ok (.ifCond .ne 6, 3) := by decide +kernel
theorem dX7_undo_10 : decode cX7_undo 10 = .ok (.bipush (-2), 2) := by decide +kernel
theorem dX7_undo_12 : decode cX7_undo 12 = .ok (.ireturn, 1) := by decide +kernel
theorem dX7_undo_13 : decode cX7_undo 13 = .ok (.aload_n 0, 1) := by decide +kernel
theorem dX7_undo_14 : decode cX7_undo 14 = .ok (.getfield 19, 3) := by decide +kernel
theorem dX7_undo_17 : decode cX7_undo 17 = .ok (.aload_n 0, 1) := by decide +kernel
theorem dX7_undo_18 : decode cX7_undo 18 = .ok (.getfield 10, 3) := by decide +kernel
theorem dX7_undo_21 : decode cX7_undo 21 = .ok (.invokevirtual 243, 3) := by decide +kernel
theorem dX7_undo_24 : decode cX7_undo 24 = .ok (.aload_n 0, 1) := by decide +kernel
theorem dX7_undo_25 : decode cX7_undo 25 = .ok (.getfield 19, 3) := by decide +kernel
theorem dX7_undo_28 : decode cX7_undo 28 = .ok (.getfield 148, 3) := by decide +kernel
theorem dX7_undo_31 : decode cX7_undo 31 = .ok (.ireturn, 1) := by decide +kernel
theorem dX7_type_0 : decode cX7_type 0 = .ok (.iload_n 1, 1) := by decide +kernel
theorem dX7_type_1 : decode cX7_type 1 = .ok (.bipush 32, 2) := by decide +kernel
theorem dX7_type_3 : decode cX7_type 3 = .ok (.if_icmp .lt 9, 3) := by decide +kernel
theorem dX7_type_6 : decode cX7_type 6 = .ok (.iload_n 1, 1) := by decide +kernel
theorem dX7_type_7 : decode cX7_type 7 = .ok (.bipush 126, 2) := by decide +kernel
theorem dX7_type_9 : decode cX7_type 9 = .ok (.if_icmp .le 5, 3) := by decide +kernel
theorem dX7_type_12 : decode cX7_type 12 = .ok (.iconst (-1), 1) := by decide +kernel
theorem dX7_type_13 : decode cX7_type 13 = .ok (.ireturn, 1) := by decide +kernel
theorem dX7_type_14 : decode cX7_type 14 = .ok (.aload_n 0, 1) := by decide +kernel
theorem dX7_type_15 : decode cX7_type 15 = .ok (.getfield 26, 3) := by decide +kernel
theorem dX7_type_18 : decode cX7_type 18 = .ok (.getfield 149, 3) := by decide +kernel
theorem dX7_type_21 : decode cX7_type 21 = .ok (.bipush 80, 2) := by decide +kernel
theorem dX7_type_23 : decode cX7_type 23 = .ok (.if_icmp .lt 6, 3) := by decide +kernel
theorem dX7_type_26 : decode cX7_type 26 = .ok (.bipush (-3), 2) := by decide +kernel
theorem dX7_type_28 : decode cX7_type 28 = .ok (.ireturn, 1) := by decide +kernel
theorem dX7_type_29 : decode cX7_type 29 = .ok (.aload_n 0, 1) := by decide +kernel
theorem dX7_type_30 : decode cX7_type 30 = .ok (.getfield 26, 3) := by decide +kernel
theorem dX7_type_33 : decode cX7_type 33 = .ok (.iload_n 1, 1) := by decide +kernel
theorem dX7_type_34 : decode cX7_type 34 = .ok (.i2c, 1) := by decide +kernel
theorem dX7_type_35 : decode cX7_type 35 = .ok (.invokevirtual 246, 3) := by decide +kernel
theorem dX7_type_38 : decode cX7_type 38 = .ok (.aload_n 0, 1) := by decide +kernel
theorem dX7_type_39 : decode cX7_type 39 = .ok (.getfield 26, 3) := by decide +kernel
theorem dX7_type_42 : decode cX7_type 42 = .ok (.getfield 149, 3) := by decide +kernel
theorem dX7_type_45 : decode cX7_type 45 = .ok (.ireturn, 1) := by decide +kernel
theorem dX7_fault_0 : decode cX7_fault 0 = .ok (.iload_n 1, 1) := by decide +kernel
theorem dX7_fault_1 : decode cX7_fault 1 = .ok (.ifCond .lt 8, 3) := by decide +kernel
theorem dX7_fault_4 : decode cX7_fault 4 = .ok (.iload_n 1, 1) := by decide +kernel
theorem dX7_fault_5 : decode cX7_fault 5 = .ok (.iconst 1, 1) := by decide +kernel
theorem dX7_fault_6 : decode cX7_fault 6 = .ok (.if_icmp .le 5, 3) := by decide +kernel
theorem dX7_fault_9 : decode cX7_fault 9 = .ok (.iconst (-1), 1) := by decide +kernel
theorem dX7_fault_10 : decode cX7_fault 10 = .ok (.ireturn, 1) := by decide +kernel
theorem dX7_fault_11 : decode cX7_fault 11 = .ok (.aload_n 0, 1) := by decide +kernel
theorem dX7_fault_12 : decode cX7_fault 12 = .ok (.invokevirtual 249, 3) := by decide +kernel
theorem dX7_fault_15 : decode cX7_fault 15 = .ok (.istore_n 2, 1) := by decide +kernel
theorem dX7_fault_16 : decode cX7_fault 16 = .ok (.iload_n 2, 1) := by decide +kernel
theorem dX7_fault_17 : decode cX7_fault 17 = .ok (.ifCond .ne 6, 3) := by decide +kernel
theorem dX7_fault_20 : decode cX7_fault 20 = .ok (.bipush (-4), 2) := by decide +kernel
theorem dX7_fault_22 : decode cX7_fault 22 = .ok (.ireturn, 1) := by decide +kernel
theorem dX7_fault_23 : decode cX7_fault 23 = .ok (.iload_n 1, 1) := by decide +kernel
theorem dX7_fault_24 : decode cX7_fault 24 = .ok (.ifCond .ne 13, 3) := by decide +kernel
theorem dX7_fault_27 : decode cX7_fault 27 = .ok (.aload_n 0, 1) := by decide +kernel
theorem dX7_fault_28 : decode cX7_fault 28 = .ok (.getfield 26, 3) := by decide +kernel
theorem dX7_fault_31 : decode cX7_fault 31 = .ok (.getfield 252, 3) := by decide +kernel
theorem dX7_fault_34 : decode cX7_fault 34 = .ok (.goto 4, 3) := by decide +kernel
theorem dX7_fault_37 : decode cX7_fault 37 = .ok (.iload_n 2, 1) := by decide +kernel
theorem dX7_fault_38 : decode cX7_fault 38 = .ok (.ireturn, 1) := by decide +kernel
theorem dX7_enter_0 : decode cX7_enter 0 = .ok (.aload_n 0, 1) := by decide +kernel
theorem dX7_enter_1 : decode cX7_enter 1 = .ok (.getfield 10, 3) := by decide +kernel
theorem dX7_enter_4 : decode cX7_enter 4 = .ok (.getfield 30, 3) := by decide +kernel
theorem dX7_enter_7 : decode cX7_enter 7 = .ok (.iload_n 1, 1) := by decide +kernel
theorem dX7_enter_8 : decode cX7_enter 8 = .ok (.invokevirtual 85, 3) := by decide +kernel
theorem dX7_enter_11 : decode cX7_enter 11 = .ok (.ifCond .ne 5, 3) := by decide +kernel
theorem dX7_enter_14 : decode cX7_enter 14 = .ok (.iconst (-1), 1) := by decide +kernel
theorem dX7_enter_15 : decode cX7_enter 15 = .ok (.ireturn, 1) := by decide +kernel
theorem dX7_enter_16 : decode cX7_enter 16 = .ok (.aload_n 0, 1) := by decide +kernel
theorem dX7_enter_17 : decode cX7_enter 17 = .ok (.getfield 10, 3) := by decide +kernel
theorem dX7_enter_20 : decode cX7_enter 20 = .ok (.getfield 52, 3) := by decide +kernel
theorem dX7_enter_23 : decode cX7_enter 23 = .ok (.getfield 136, 3) := by decide +kernel
theorem dX7_enter_26 : decode cX7_enter 26 = .ok (.ifCond .eq 10, 3) := by decide +kernel
theorem dX7_enter_29 : decode cX7_enter 29 = .ok (.aload_n 0, 1) := by decide +kernel
theorem dX7_enter_30 : decode cX7_enter 30 = .ok (.invokevirtual 249, 3) := by decide +kernel
theorem dX7_enter_33 : decode cX7_enter 33 = .ok (.ifCond .eq 6, 3) := by decide +kernel
theorem dX7_enter_36 : decode cX7_enter 36 = .ok (.bipush (-2), 2) := by decide +kernel
theorem dX7_enter_38 : decode cX7_enter 38 = .ok (.ireturn, 1) := by decide +kernel
theorem dX7_enter_39 : decode cX7_enter 39 = .ok (.aload_n 0, 1) := by decide +kernel
theorem dX7_enter_40 : decode cX7_enter 40 = .ok (.getfield 19, 3) := by decide +kernel
theorem dX7_enter_43 : decode cX7_enter 43 = .ok (.aload_n 0, 1) := by decide +kernel
theorem dX7_enter_44 : decode cX7_enter 44 = .ok (.getfield 10, 3) := by decide +kernel
theorem dX7_enter_47 : decode cX7_enter 47 = .ok (.invokevirtual 40, 3) := by decide +kernel
theorem dX7_enter_50 : decode cX7_enter 50 = .ok (.aload_n 0, 1) := by decide +kernel
theorem dX7_enter_51 : decode cX7_enter 51 = .ok (.getfield 10, 3) := by decide +kernel
theorem dX7_enter_54 : decode cX7_enter 54 = .ok (.getfield 103, 3) := by decide +kernel
theorem dX7_enter_57 : decode cX7_enter 57 = .ok (.getfield 140, 3) := by decide +kernel
theorem dX7_enter_60 : decode cX7_enter 60 = .ok (.istore_n 2, 1) := by decide +kernel
theorem dX7_enter_61 : decode cX7_enter 61 = .ok (.aload_n 0, 1) := by decide +kernel
theorem dX7_enter_62 : decode cX7_enter 62 = .ok (.getfield 26, 3) := by decide +kernel
theorem dX7_enter_65 : decode cX7_enter 65 = .ok (.invokevirtual 255, 3) := by decide +kernel
theorem dX7_enter_68 : decode cX7_enter 68 = .ok (.iload_n 2, 1) := by decide +kernel
theorem dX7_enter_69 : decode cX7_enter 69 = .ok (.istore_n 3, 1) := by decide +kernel
theorem dX7_enter_70 : decode cX7_enter 70 = .ok (.iload_n 3, 1) := by decide +kernel
theorem dX7_enter_71 : decode cX7_enter 71 = .ok (.bipush 30, 2) := by decide +kernel
theorem dX7_enter_73 : decode cX7_enter 73 = .ok (.if_icmp .ge 72, 3) := by decide +kernel
theorem dX7_enter_76 : decode cX7_enter 76 = .ok (.aload_n 0, 1) := by decide +kernel
theorem dX7_enter_77 : decode cX7_enter 77 = .ok (.getfield 26, 3) := by decide +kernel
theorem dX7_enter_80 : decode cX7_enter 80 = .ok (.invokevirtual 258, 3) := by decide +kernel
theorem dX7_enter_83 : decode cX7_enter 83 = .ok (.ifCond .eq 62, 3) := by decide +kernel
theorem dX7_enter_86 : decode cX7_enter 86 = .ok (.aload_n 0, 1) := by decide +kernel
theorem dX7_enter_87 : decode cX7_enter 87 = .ok (.getfield 10, 3) := by decide +kernel
theorem dX7_enter_90 : decode cX7_enter 90 = .ok (.getfield 61, 3) := by decide +kernel
theorem dX7_enter_93 : decode cX7_enter 93 = .ok (.aload_n 0, 1) := by decide +kernel
theorem dX7_enter_94 : decode cX7_enter 94 = .ok (.getfield 26, 3) := by decide +kernel
theorem dX7_enter_97 : decode cX7_enter 97 = .ok (.getfield 262, 3) := by decide +kernel
theorem dX7_enter_100 : decode cX7_enter 100 = .ok (.invokevirtual 65, 3) := by decide +kernel
theorem dX7_enter_103 : decode cX7_enter 103 = .ok (.istore 4, 2) := by decide +kernel
theorem dX7_enter_105 : decode cX7_enter 105 = .ok (.iload 4, 2) := by decide +kernel
theorem dX7_enter_107 : decode cX7_enter 107 = .ok (.iconst (-1), 1) := by decide +kernel
theorem dX7_enter_108 : decode cX7_enter 108 = .ok (.if_icmp .eq 31, 3) := by decide +kernel
theorem dX7_enter_111 : decode cX7_enter 111 = .ok (.aload_n 0, 1) := by decide +kernel
theorem dX7_enter_112 : decode cX7_enter 112 = .ok (.getfield 10, 3) := by decide +kernel
theorem dX7_enter_115 : decode cX7_enter 115 = .ok (.getfield 103, 3) := by decide +kernel
theorem dX7_enter_118 : decode cX7_enter 118 = .ok (.iload_n 1, 1) := by decide +kernel
theorem dX7_enter_119 : decode cX7_enter 119 = .ok (.iload 4, 2) := by decide +kernel
theorem dX7_enter_121 : decode cX7_enter 121 = .ok (.aload_n 0, 1) := by decide +kernel
theorem dX7_enter_122 : decode cX7_enter 122 = .ok (.getfield 26, 3) := by decide +kernel
theorem dX7_enter_125 : decode cX7_enter 125 = .ok (.getfield 265, 3) := by decide +kernel
theorem dX7_enter_128 : decode cX7_enter 128 = .ok (.aload_n 0, 1) := by decide +kernel
theorem dX7_enter_129 : decode cX7_enter 129 = .ok (.getfield 26, 3) := by decide +kernel
theorem dX7_enter_132 : decode cX7_enter 132 = .ok (.getfield 267, 3) := by decide +kernel
theorem dX7_enter_135 : decode cX7_enter 135 = .ok (.invokevirtual 178, 3) := by decide +kernel
theorem dX7_enter_138 : decode cX7_enter 138 = .ok (.pop, 1) := by decide +kernel
theorem dX7_enter_139 : decode cX7_enter 139 = .ok (.iinc 3 1, 3) := by decide +kernel
theorem dX7_enter_142 : decode cX7_enter 142 = .ok (.goto (-72), 3) := by decide +kernel
theorem dX7_enter_145 : decode cX7_enter 145 = .ok (.aload_n 0, 1) := by decide +kernel
theorem dX7_enter_146 : decode cX7_enter 146 = .ok (.getfield 10, 3) := by decide +kernel
theorem dX7_enter_149 : decode cX7_enter 149 = .ok (.getfield 103, 3) := by decide +kernel
theorem dX7_enter_152 : decode cX7_enter 152 = .ok (.getfield 140, 3) := by decide +kernel
theorem dX7_enter_155 : decode cX7_enter 155 = .ok (.iload_n 2, 1) := by decide +kernel
theorem dX7_enter_156 : decode cX7_enter 156 = .ok (.isub, 1) := by decide +kernel
theorem dX7_enter_157 : decode cX7_enter 157 = .ok (.ireturn, 1) := by decide +kernel
theorem dX7_firstFault_0 : decode cX7_firstFault 0 = .ok (.bipush 30, 2) := by decide +kernel
theorem dX7_firstFault_2 : decode cX7_firstFault 2 = .ok (.aload_n 0, 1) := by decide +kernel
theorem dX7_firstFault_3 : decode cX7_firstFault 3 = .ok (.getfield 10, 3) := by decide +kernel
theorem dX7_firstFault_6 : decode cX7_firstFault 6 = .ok (.getfield 103, 3) := by decide +kernel
theorem dX7_firstFault_9 : decode cX7_firstFault 9 = .ok (.getfield 140, 3) := by decide +kernel
theorem dX7_firstFault_12 : decode cX7_firstFault 12 = .ok (.isub, 1) := by decide +kernel
theorem dX7_firstFault_13 : decode cX7_firstFault 13 = .ok (.istore_n 1, 1) := by decide +kernel
theorem dX7_firstFault_14 : decode cX7_firstFault 14 = .ok (.aload_n 0, 1) := by decide +kernel
theorem dX7_firstFault_15 : decode cX7_firstFault 15 = .ok (.getfield 26, 3) := by decide +kernel
theorem dX7_firstFault_18 : decode cX7_firstFault 18 = .ok (.invokevirtual 255, 3) := by decide +kernel
theorem dX7_firstFault_21 : decode cX7_firstFault 21 = .ok (.iconst 0, 1) := by decide +kernel
theorem dX7_firstFault_22 : decode cX7_firstFault 22 = .ok (.istore_n 2, 1) := by decide +kernel
theorem dX7_firstFault_23 : decode cX7_firstFault 23 = .ok (.iload_n 2, 1) := by decide +kernel
theorem dX7_firstFault_24 : decode cX7_firstFault 24 = .ok (.bipush 80, 2) := by decide +kernel
theorem dX7_firstFault_26 : decode cX7_firstFault 26 = .ok (.if_icmp .ge 87, 3) := by decide +kernel
theorem dX7_firstFault_29 : decode cX7_firstFault 29 = .ok (.aload_n 0, 1) := by decide +kernel
theorem dX7_firstFault_30 : decode cX7_firstFault 30 = .ok (.getfield 26, 3) := by decide +kernel
theorem dX7_firstFault_33 : decode cX7_firstFault 33 = .ok (.invokevirtual 269, 3) := by decide +kernel
theorem dX7_firstFault_36 : decode cX7_firstFault 36 = .ok (.ifCond .ne 77, 3) := by decide +kernel
theorem dX7_firstFault_39 : decode cX7_firstFault 39 = .ok (.aload_n 0, 1) := by decide +kernel
theorem dX7_firstFault_40 : decode cX7_firstFault 40 = .ok (.getfield 26, 3) := by decide +kernel
theorem dX7_firstFault_43 : decode cX7_firstFault 43 = .ok (.invokevirtual 258, 3) := by decide +kernel
theorem dX7_firstFault_46 : decode cX7_firstFault 46 = .ok (.ifCond .ne 5, 3) := by decide +kernel
theorem dX7_firstFault_49 : decode cX7_firstFault 49 = .ok (.iconst 1, 1) := by decide +kernel
theorem dX7_firstFault_50 : decode cX7_firstFault 50 = .ok (.ireturn, 1) := by decide +kernel
theorem dX7_firstFault_51 : decode cX7_firstFault 51 = .ok (.aload_n 0, 1) := by decide +kernel
theorem dX7_firstFault_52 : decode cX7_firstFault 52 = .ok (.getfield 10, 3) := by decide +kernel
theorem dX7_firstFault_55 : decode cX7_firstFault 55 = .ok (.getfield 61, 3) := by decide +kernel
theorem dX7_firstFault_58 : decode cX7_firstFault 58 = .ok (.aload_n 0, 1) := by decide +kernel
theorem dX7_firstFault_59 : decode cX7_firstFault 59 = .ok (.getfield 26, 3) := by decide +kernel
theorem dX7_firstFault_62 : decode cX7_firstFault 62 = .ok (.getfield 262, 3) := by decide +kernel
theorem dX7_firstFault_65 : decode cX7_firstFault 65 = .ok (.invokevirtual 65, 3) := by decide +kernel
theorem dX7_firstFault_68 : decode cX7_firstFault 68 = .ok (.istore_n 3, 1) := by decide +kernel
theorem dX7_firstFault_69 : decode cX7_firstFault 69 = .ok (.iload_n 3, 1) := by decide +kernel
theorem dX7_firstFault_70 : decode cX7_firstFault 70 = .ok (.iconst (-1), 1) := by decide +kernel
theorem dX7_firstFault_71 : decode cX7_firstFault 71 = .ok (.if_icmp .ne 5, 3) := by decide +kernel
theorem dX7_firstFault_74 : decode cX7_firstFault 74 = .ok (.iconst 2, 1) := by decide +kernel
theorem dX7_firstFault_75 : decode cX7_firstFault 75 = .ok (.ireturn, 1) := by decide +kernel
theorem dX7_firstFault_76 : decode cX7_firstFault 76 = .ok (.aload_n 0, 1) := by decide +kernel
theorem dX7_firstFault_77 : decode cX7_firstFault 77 = .ok (.getfield 10, 3) := by decide +kernel
theorem dX7_firstFault_80 : decode cX7_firstFault 80 = .ok (.getfield 61, 3) := by decide +kernel
theorem dX7_firstFault_83 : decode cX7_firstFault 83 = .ok (.getfield 115, 3) := by decide +kernel
theorem dX7_firstFault_86 : decode cX7_firstFault 86 = .ok (.iload_n 3, 1) := by decide +kernel
theorem dX7_firstFault_87 : decode cX7_firstFault 87 = .ok (.iaload, 1) := by decide +kernel
theorem dX7_firstFault_88 : decode cX7_firstFault 88 = .ok (.aload_n 0, 1) := by decide +kernel
theorem dX7_firstFault_89 : decode cX7_firstFault 89 = .ok (.getfield 26, 3) := by decide +kernel
theorem dX7_firstFault_92 : decode cX7_firstFault 92 = .ok (.getfield 267, 3) := by decide +kernel
theorem dX7_firstFault_95 : decode cX7_firstFault 95 = .ok (.if_icmp .ne 5, 3) := by decide +kernel
theorem dX7_firstFault_98 : decode cX7_firstFault 98 = .ok (.iconst 3, 1) := by decide +kernel
theorem dX7_firstFault_99 : decode cX7_firstFault 99 = .ok (.ireturn, 1) := by decide +kernel
theorem dX7_firstFault_100 : decode cX7_firstFault 100 = .ok (.iload_n 2, 1) := by decide +kernel
theorem dX7_firstFault_101 : decode cX7_firstFault 101 = .ok (.iload_n 1, 1) := by decide +kernel
theorem dX7_firstFault_102 : decode cX7_firstFault 102 = .ok (.if_icmp .lt 5, 3) := by decide +kernel
theorem dX7_firstFault_105 : decode cX7_firstFault 105 = .ok (.iconst 4, 1) := by decide +kernel
theorem dX7_firstFault_106 : decode cX7_firstFault 106 = .ok (.ireturn, 1) := by decide +kernel
theorem dX7_firstFault_107 : decode cX7_firstFault 107 = .ok (.iinc 2 1, 3) := by decide +kernel
theorem dX7_firstFault_110 : decode cX7_firstFault 110 = .ok (.goto (-87), 3) := by decide +kernel
theorem dX7_firstFault_113 : decode cX7_firstFault 113 = .ok (.iconst 0, 1) := by decide +kernel
theorem dX7_firstFault_114 : decode cX7_firstFault 114 = .ok (.ireturn, 1) := by decide +kernel
theorem dX7_isValue_0 : decode cX7_isValue 0 = .ok (.iload_n 0, 1) := by decide +kernel
theorem dX7_isValue_1 : decode cX7_isValue 1 = .ok (.ifCond .lt 14, 3) := by decide +kernel
theorem dX7_isValue_4 : decode cX7_isValue 4 = .ok (.iload_n 0, 1) := by decide +kernel
theorem dX7_isValue_5 : decode cX7_isValue 5 = .ok (.sipush 9999, 3) := by decide +kernel
theorem dX7_isValue_8 : decode cX7_isValue 8 = .ok (.if_icmp .gt 7, 3) := by decide +kernel
theorem dX7_isValue_11 : decode cX7_isValue 11 = .ok (.iconst 1, 1) := by decide +kernel
theorem dX7_isValue_12 : decode cX7_isValue 12 = .ok (.goto 4, 3) := by decide +kernel
theorem dX7_isValue_15 : decode cX7_isValue 15 = .ok (.iconst 0, 1) := by decide +kernel
theorem dX7_isValue_16 : decode cX7_isValue 16 = .ok (.ireturn, 1) := by decide +kernel
theorem dX7_dividedUp_0 : decode cX7_dividedUp 0 = .ok (.iload_n 1, 1) := by decide +kernel
theorem dX7_dividedUp_1 : decode cX7_dividedUp 1 = .ok (.iconst 1, 1) := by decide +kernel
theorem dX7_dividedUp_2 : decode cX7_dividedUp 2 = .ok (.if_icmp .ge 7, 3) := by decide +kernel
theorem dX7_dividedUp_5 : decode cX7_dividedUp 5 = .ok (.iconst 0, 1) := by decide +kernel
theorem dX7_dividedUp_6 : decode cX7_dividedUp 6 = .ok (.goto 10, 3) := by decide +kernel
theorem dX7_dividedUp_9 : decode cX7_dividedUp 9 = .ok (.iload_n 0, 1) := by decide +kernel
theorem dX7_dividedUp_10 : decode cX7_dividedUp 10 = .ok (.iload_n 1, 1) := by decide +kernel
theorem dX7_dividedUp_11 : decode cX7_dividedUp 11 = .ok (.iadd, 1) := by decide +kernel
theorem dX7_dividedUp_12 : decode cX7_dividedUp 12 = .ok (.iconst 1, 1) := by decide +kernel
theorem dX7_dividedUp_13 : decode cX7_dividedUp 13 = .ok (.isub, 1) := by decide +kernel
theorem dX7_dividedUp_14 : decode cX7_dividedUp 14 = .ok (.iload_n 1, 1) := by decide +kernel
theorem dX7_dividedUp_15 : decode cX7_dividedUp 15 = .ok (.idiv, 1) := by decide +kernel
theorem dX7_dividedUp_16 : decode cX7_dividedUp 16 = .ok (.ireturn, 1) := by decide +kernel
theorem dX7_copyAll_0 : decode cX7_copyAll 0 = .ok (.aload_n 0, 1) := by decide +kernel
theorem dX7_copyAll_1 : decode cX7_copyAll 1 = .ok (.iconst 0, 1) := by decide +kernel
theorem dX7_copyAll_2 : decode cX7_copyAll 2 = .ok (.aload_n 1, 1) := by decide +kernel
theorem dX7_copyAll_3 : decode cX7_copyAll 3 = .ok (.iconst 0, 1) := by decide +kernel
theorem dX7_copyAll_4 : decode cX7_copyAll 4 = .ok (.aload_n 0, 1) := by decide +kernel
theorem dX7_copyAll_5 : decode cX7_copyAll 5 = .ok (.arraylength, 1) := by decide +kernel
theorem dX7_copyAll_6 : decode cX7_copyAll 6 = .ok (.aload_n 1, 1) := by decide +kernel
theorem dX7_copyAll_7 : decode cX7_copyAll 7 = .ok (.arraylength, 1) := by decide +kernel
theorem dX7_copyAll_8 : decode cX7_copyAll 8 = .ok (.invokestatic 272, 3) := by decide +kernel
theorem dX7_copyAll_11 : decode cX7_copyAll 11 = .ok (.invokestatic 275, 3) := by decide +kernel
theorem dX7_copyAll_14 : decode cX7_copyAll 14 = .ok (.return_, 1) := by decide +kernel
