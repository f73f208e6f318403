theorem dJ7_fill_53178_0 : decode cJ7_fill_53178 0 = .ok (.iconst 0, 1) := by decide +kernel
theorem dJ7_fill_53178_1 : decode cJ7_fill_53178 1 = .ok (.istore_n 2, 1) := by decide +kernel
theorem dJ7_fill_53178_2 : decode cJ7_fill_53178 2 = .ok (.aload_n 0, 1) := by decide +kernel
theorem dJ7_fill_53178_3 : decode cJ7_fill_53178 3 = .ok (.arraylength, 1) := by decide +kernel
theorem dJ7_fill_53178_4 : decode cJ7_fill_53178 4 = .ok (.istore_n 3, 1) := by decide +kernel
theorem dJ7_fill_53178_5 : decode cJ7_fill_53178 5 = .ok (.iload_n 2, 1) := by decide +kernel
theorem dJ7_fill_53178_6 : decode cJ7_fill_53178 6 = .ok (.iload_n 3, 1) := by decide +kernel
theorem dJ7_fill_53178_7 : decode cJ7_fill_53178 7 = .ok (.if_icmp .ge 13, 3) := by decide +kernel
theorem dJ7_fill_53178_10 : decode cJ7_fill_53178 10 = .ok (.aload_n 0, 1) := by decide +kernel
theorem dJ7_fill_53178_11 : decode cJ7_fill_53178 11 = .ok (.iload_n 2, 1) := by decide +kernel
theorem dJ7_fill_53178_12 : decode cJ7_fill_53178 12 = .ok (.iload_n 1, 1) := by decide +kernel
theorem dJ7_fill_53178_13 : decode cJ7_fill_53178 13 = .ok (.iastore, 1) := by decide +kernel
theorem dJ7_fill_53178_14 : decode cJ7_fill_53178 14 = .ok (.iinc 2 1, 3) := by decide +kernel
theorem dJ7_fill_53178_17 : decode cJ7_fill_53178 17 = .ok (.goto (-12), 3) := by decide +kernel
theorem dJ7_fill_53178_20 : decode cJ7_fill_53178 20 = .ok (.return_, 1) := by decide +kernel
theorem dJ9_max_7cf53_0 : decode cJ9_max_7cf53 0 = .ok (.iload_n 0, 1) := by decide +kernel
theorem dJ9_max_7cf53_1 : decode cJ9_max_7cf53 1 = .ok (.iload_n 1, 1) := by decide +kernel
theorem dJ9_max_7cf53_2 : decode cJ9_max_7cf53 2 = .ok (.if_icmp .lt 7, 3) := by decide +kernel
theorem dJ9_max_7cf53_5 : decode cJ9_max_7cf53 5 = .ok (.iload_n 0, 1) := by decide +kernel
theorem dJ9_max_7cf53_6 : decode cJ9_max_7cf53 6 = .ok (.goto 4, 3) := by decide +kernel
theorem dJ9_max_7cf53_9 : decode cJ9_max_7cf53 9 = .ok (.iload_n 1, 1) := by decide +kernel
theorem dJ9_max_7cf53_10 : decode cJ9_max_7cf53 10 = .ok (.ireturn, 1) := by decide +kernel
theorem dJ9_min_7cf53_0 : decode cJ9_min_7cf53 0 = .ok (.iload_n 0, 1) := by decide +kernel
theorem dJ9_min_7cf53_1 : decode cJ9_min_7cf53 1 = .ok (.iload_n 1, 1) := by decide +kernel
theorem dJ9_min_7cf53_2 : decode cJ9_min_7cf53 2 = .ok (.if_icmp .gt 7, 3) := by decide +kernel
theorem dJ9_min_7cf53_5 : decode cJ9_min_7cf53 5 = .ok (.iload_n 0, 1) := by decide +kernel
theorem dJ9_min_7cf53_6 : decode cJ9_min_7cf53 6 = .ok (.goto 4, 3) := by decide +kernel
theorem dJ9_min_7cf53_9 : decode cJ9_min_7cf53 9 = .ok (.iload_n 1, 1) := by decide +kernel
theorem dJ9_min_7cf53_10 : decode cJ9_min_7cf53 10 = .ok (.ireturn, 1) := by decide +kernel
theorem dX0_init_0 : decode cX0_init 0 = .ok (.aload_n 0, 1) := by decide +kernel
theorem dX0_init_1 : decode cX0_init 1 = .ok (.invokespecial 3, 3) := by decide +kernel
theorem dX0_init_4 : decode cX0_init 4 = .ok (.aload_n 0, 1) := by decide +kernel
theorem dX0_init_5 : decode cX0_init 5 = .ok (.bipush 6, 2) := by decide +kernel
theorem dX0_init_7 : decode cX0_init 7 = .ok (.newarray .int, 2) := by decide +kernel
theorem dX0_init_9 : decode cX0_init 9 = .ok (.putfield 9, 3) := by decide +kernel
theorem dX0_init_12 : decode cX0_init 12 = .ok (.return_, 1) := by decide +kernel
theorem dX0_copyFrom_0 : decode cX0_copyFrom 0 = .ok (.aload_n 1, 1) := by decide +kernel
theorem dX0_copyFrom_1 : decode cX0_copyFrom 1 = .ok (.getfield 9, 3) := by decide +kernel
theorem dX0_copyFrom_4 : decode cX0_copyFrom 4 = .ok (.aload_n 0, 1) := by decide +kernel
theorem dX0_copyFrom_5 : decode cX0_copyFrom 5 = .ok (.getfield 9, 3) := by decide +kernel
theorem dX0_copyFrom_8 : decode cX0_copyFrom 8 = .ok (.invokestatic 15, 3) := by decide +kernel
theorem dX0_copyFrom_11 : decode cX0_copyFrom 11 = .ok (.aload_n 0, 1) := by decide +kernel
theorem dX0_copyFrom_12 : decode cX0_copyFrom 12 = .ok (.aload_n 1, 1) := by decide +kernel
theorem dX0_copyFrom_13 : decode cX0_copyFrom 13 = .ok (.getfield 19, 3) := by decide +kernel
theorem dX0_copyFrom_16 : decode cX0_copyFrom 16 = .ok (.putfield 19, 3) := by decide +kernel
theorem dX0_copyFrom_19 : decode cX0_copyFrom 19 = .ok (.aload_n 0, 1) := by decide +kernel
theorem dX0_copyFrom_20 : decode cX0_copyFrom 20 = .ok (.aload_n 1, 1) := by decide +kernel
theorem dX0_copyFrom_21 : decode cX0_copyFrom 21 = .ok (.getfield 23, 3) := by decide +kernel
theorem dX0_copyFrom_24 : decode cX0_copyFrom 24 = .ok (.putfield 23, 3) := by decide +kernel
theorem dX0_copyFrom_27 : decode cX0_copyFrom 27 = .ok (.aload_n 0, 1) := by decide +kernel
theorem dX0_copyFrom_28 : decode cX0_copyFrom 28 = .ok (.aload_n 1, 1) := by decide +kernel
theorem dX0_copyFrom_29 : decode cX0_copyFrom 29 = .ok (.getfield 26, 3) := by decide +kernel
theorem dX0_copyFrom_32 : decode cX0_copyFrom 32 = .ok (.putfield 26, 3) := by decide +kernel
theorem dX0_copyFrom_35 : decode cX0_copyFrom 35 = .ok (.aload_n 0, 1) := by decide +kernel
theorem dX0_copyFrom_36 : decode cX0_copyFrom 36 = .ok (.aload_n 1, 1) := by decide +kernel
theorem dX0_copyFrom_37 : decode cX0_copyFrom 37 = .ok (.getfield 30, 3) := by decide +kernel
theorem dX0_copyFrom_40 : decode cX0_copyFrom 40 = .ok (.putfield 30, 3) := by decide +kernel
theorem dX0_copyFrom_43 : decode cX0_copyFrom 43 = .ok (.return_, 1) := by decide +kernel
theorem dX1_init_0 : decode cX1_init 0 = .ok (.aload_n 0, 1) := by decide +kernel
theorem dX1_init_1 : decode cX1_init 1 = .ok (.invokespecial 3, 3) := by decide +kernel
theorem dX1_init_4 : decode cX1_init 4 = .ok (.aload_n 0, 1) := by decide +kernel
theorem dX1_init_5 : decode cX1_init 5 = .ok (.bipush 30, 2) := by decide +kernel
theorem dX1_init_7 : decode cX1_init 7 = .ok (.newarray .int, 2) := by decide +kernel
theorem dX1_init_9 : decode cX1_init 9 = .ok (.putfield 9, 3) := by decide +kernel
theorem dX1_init_12 : decode cX1_init 12 = .ok (.aload_n 0, 1) := by decide +kernel
theorem dX1_init_13 : decode cX1_init 13 = .ok (.bipush 30, 2) := by decide +kernel
theorem dX1_init_15 : decode cX1_init 15 = .ok (.newarray .int, 2) := by decide +kernel
theorem dX1_init_17 : decode cX1_init 17 = .ok (.putfield 15, 3) := by decide +kernel
theorem dX1_init_20 : decode cX1_init 20 = .ok (.aload_n 0, 1) := by decide +kernel
theorem dX1_init_21 : decode cX1_init 21 = .ok (.bipush 30, 2) := by decide +kernel
theorem dX1_init_23 : decode cX1_init 23 = .ok (.newarray .int, 2) := by decide +kernel
theorem dX1_init_25 : decode cX1_init 25 = .ok (.putfield 18, 3) := by decide +kernel
theorem dX1_init_28 : decode cX1_init 28 = .ok (.aload_n 0, 1) := by decide +kernel
theorem dX1_init_29 : decode cX1_init 29 = .ok (.bipush 30, 2) := by decide +kernel
theorem dX1_init_31 : decode cX1_init 31 = .ok (.newarray .int, 2) := by decide +kernel
theorem dX1_init_33 : decode cX1_init 33 = .ok (.putfield 21, 3) := by decide +kernel
theorem dX1_init_36 : decode cX1_init 36 = .ok (.aload_n 0, 1) := by decide +kernel
theorem dX1_init_37 : decode cX1_init 37 = .ok (.bipush 30, 2) := by decide +kernel
theorem dX1_init_39 : decode cX1_init 39 = .ok (.newarray .int, 2) := by decide +kernel
theorem dX1_init_41 : decode cX1_init 41 = .ok (.putfield 24, 3) := by decide +kernel
theorem dX1_init_44 : decode cX1_init 44 = .ok (.aload_n 0, 1) := by decide +kernel
theorem dX1_init_45 : decode cX1_init 45 = .ok (.bipush 30, 2) := by decide +kernel
theorem dX1_init_47 : decode cX1_init 47 = .ok (.newarray .int, 2) := by decide +kernel
theorem dX1_init_49 : decode cX1_init 49 = .ok (.putfield 27, 3) := by decide +kernel
theorem dX1_init_52 : decode cX1_init 52 = .ok (.aload_n 0, 1) := by decide +kernel
theorem dX1_init_53 : decode cX1_init 53 = .ok (.bipush 30, 2) := by decide +kernel
theorem dX1_init_55 : decode cX1_init 55 = .ok (.newarray .int, 2) := by decide +kernel
theorem dX1_init_57 : decode cX1_init 57 = .ok (.putfield 30, 3) := by decide +kernel
theorem dX1_init_60 : decode cX1_init 60 = .ok (.aload_n 0, 1) := by decide +kernel
theorem dX1_init_61 : decode cX1_init 61 = .ok (.bipush 30, 2) := by decide +kernel
theorem dX1_init_63 : decode cX1_init 63 = .ok (.newarray .int, 2) := by decide +kernel
theorem dX1_init_65 : decode cX1_init 65 = .ok (.putfield 33, 3) := by decide +kernel
theorem dX1_init_68 : decode cX1_init 68 = .ok (.return_, 1) := by decide +kernel
theorem dX1_copyFrom_0 : decode cX1_copyFrom 0 = .ok (.aload_n 1, 1) := by decide +kernel
theorem dX1_copyFrom_1 : decode cX1_copyFrom 1 = .ok (.getfield 9, 3) := by decide +kernel
theorem dX1_copyFrom_4 : decode cX1_copyFrom 4 = .ok (.aload_n 0, 1) := by decide +kernel
theorem dX1_copyFrom_5 : decode cX1_copyFrom 5 = .ok (.getfield 9, 3) := by decide +kernel
theorem dX1_copyFrom_8 : decode cX1_copyFrom 8 = .ok (.invokestatic 36, 3) := by decide +kernel
theorem dX1_copyFrom_11 : decode cX1_copyFrom 11 = .ok (.aload_n 1, 1) := by decide +kernel
theorem dX1_copyFrom_12 : decode cX1_copyFrom 12 = .ok (.getfield 15, 3) := by decide +kernel
theorem dX1_copyFrom_15 : decode cX1_copyFrom 15 = .ok (.aload_n 0, 1) := by decide +kernel
theorem dX1_copyFrom_16 : decode cX1_copyFrom 16 = .ok (.getfield 15, 3) := by decide +kernel
theorem dX1_copyFrom_19 : decode cX1_copyFrom 19 = .ok (.invokestatic 36, 3) := by decide +kernel
theorem dX1_copyFrom_22 : decode cX1_copyFrom 22 = .ok (.aload_n 1, 1) := by decide +kernel
theorem dX1_copyFrom_23 : decode cX1_copyFrom 23 = .ok (.getfield 18, 3) := by decide +kernel
theorem dX1_copyFrom_26 : decode cX1_copyFrom 26 = .ok (.aload_n 0, 1) := by decide +kernel
theorem dX1_copyFrom_27 : decode cX1_copyFrom 27 = .ok (.getfield 18, 3) := by decide +kernel
theorem dX1_copyFrom_30 : decode cX1_copyFrom 30 = .ok (.invokestatic 36, 3) := by decide +kernel
theorem dX1_copyFrom_33 : decode cX1_copyFrom 33 = .ok (.aload_n 1, 1) := by decide +kernel
theorem dX1_copyFrom_34 : decode cX1_copyFrom 34 = .ok (.getfield 21, 3) := by decide +kernel
theorem dX1_copyFrom_37 : decode cX1_copyFrom 37 = .ok (.aload_n 0, 1) := by decide +kernel
theorem dX1_copyFrom_38 : decode cX1_copyFrom 38 = .ok (.getfield 21, 3) := by decide +kernel
theorem dX1_copyFrom_41 : decode cX1_copyFrom 41 = .ok (.invokestatic 36, 3) := by decide +kernel
theorem dX1_copyFrom_44 : decode cX1_copyFrom 44 = .ok (.aload_n 1, 1) := by decide +kernel
theorem dX1_copyFrom_45 : decode cX1_copyFrom 45 = .ok (.getfield 24, 3) := by decide +kernel
theorem dX1_copyFrom_48 : decode cX1_copyFrom 48 = .ok (.aload_n 0, 1) := by decide +kernel
theorem dX1_copyFrom_49 : decode cX1_copyFrom 49 = .ok (.getfield 24, 3) := by decide +kernel
theorem dX1_copyFrom_52 : decode cX1_copyFrom 52 = .ok (.invokestatic 36, 3) := by decide +kernel
theorem dX1_copyFrom_55 : decode cX1_copyFrom 55 = .ok (.aload_n 1, 1) := by decide +kernel
theorem dX1_copyFrom_56 : decode cX1_copyFrom 56 = .ok (.getfield 27, 3) := by decide +kernel
theorem dX1_copyFrom_59 : decode cX1_copyFrom 59 = .ok (.aload_n 0, 1) := by decide +kernel
theorem dX1_copyFrom_60 : decode cX1_copyFrom 60 = .ok (.getfield 27, 3) := by decide +kernel
theorem dX1_copyFrom_63 : decode cX1_copyFrom 63 = .ok (.invokestatic 36, 3) := by decide +kernel
theorem dX1_copyFrom_66 : decode cX1_copyFrom 66 = .ok (.aload_n 1, 1) := by decide +kernel
theorem dX1_copyFrom_67 : decode cX1_copyFrom 67 = .ok (.getfield 30, 3) := by decide +kernel
theorem dX1_copyFrom_70 : decode cX1_copyFrom 70 = .ok (.aload_n 0, 1) := by decide +kernel
theorem dX1_copyFrom_71 : decode cX1_copyFrom 71 = .ok (.getfield 30, 3) := by decide +kernel
theorem dX1_copyFrom_74 : decode cX1_copyFrom 74 = .ok (.invokestatic 36, 3) := by decide +kernel
theorem dX1_copyFrom_77 : decode cX1_copyFrom 77 = .ok (.aload_n 1, 1) := by decide +kernel
theorem dX1_copyFrom_78 : decode cX1_copyFrom 78 = .ok (.getfield 33, 3) := by decide +kernel
theorem dX1_copyFrom_81 : decode cX1_copyFrom 81 = .ok (.aload_n 0, 1) := by decide +kernel
theorem dX1_copyFrom_82 : decode cX1_copyFrom 82 = .ok (.getfield 33, 3) := by decide +kernel
theorem dX1_copyFrom_85 : decode cX1_copyFrom 85 = .ok (.invokestatic 36, 3) := by decide +kernel
theorem dX1_copyFrom_88 : decode cX1_copyFrom 88 = .ok (.aload_n 0, 1) := by decide +kernel
theorem dX1_copyFrom_89 : decode cX1_copyFrom 89 = .ok (.aload_n 1, 1) := by decide +kernel
theorem dX1_copyFrom_90 : decode cX1_copyFrom 90 = .ok (.getfield 40, 3) := by decide +kernel
theorem dX1_copyFrom_93 : decode cX1_copyFrom 93 = .ok (.putfield 40, 3) := by decide +kernel
theorem dX1_copyFrom_96 : decode cX1_copyFrom 96 = .ok (.aload_n 0, 1) := by decide +kernel
theorem dX1_copyFrom_97 : decode cX1_copyFrom 97 = .ok (.aload_n 1, 1) := by decide +kernel
theorem dX1_copyFrom_98 : decode cX1_copyFrom 98 = .ok (.getfield 44, 3) := by decide +kernel
theorem dX1_copyFrom_101 : decode cX1_copyFrom 101 = .ok (.putfield 44, 3) := by decide +kernel
theorem dX1_copyFrom_104 : decode cX1_copyFrom 104 = .ok (.return_, 1) := by decide +kernel
theorem dX1_has_0 : decode cX1_has 0 = .ok (.iload_n 1, 1) := by decide +kernel
theorem dX1_has_1 : decode cX1_has 1 = .ok (.ifCond .lt 15, 3) := by decide +kernel
theorem dX1_has_4 : decode cX1_has 4 = .ok (.iload_n 1, 1) := by decide +kernel
theorem dX1_has_5 : decode cX1_has 5 = .ok (.aload_n 0, 1) := by decide +kernel
theorem dX1_has_6 : decode cX1_has 6 = .ok (.getfield 40, 3) := by decide +kernel
theorem dX1_has_9 : decode cX1_has 9 = .ok (.if_icmp .ge 7, 3) := by decide +kernel
theorem dX1_has_12 : decode cX1_has 12 = .ok (.iconst 1, 1) := by decide +kernel
theorem dX1_has_13 : decode cX1_has 13 = .ok (.goto 4, 3) := by decide +kernel
theorem dX1_has_16 : decode cX1_has 16 = .ok (.iconst 0, 1) := by decide +kernel
theorem dX1_has_17 : decode cX1_has 17 = .ok (.ireturn, 1) := by decide +kernel
theorem dX1_isResolved_0 : decode cX1_isResolved 0 = .ok (.aload_n 0, 1) := by decide +kernel
theorem dX1_isResolved_1 : decode cX1_isResolved 1 = .ok (.getfield 24, 3) := by decide +kernel
theorem dX1_isResolved_4 : decode cX1_isResolved 4 = .ok (.iload_n 1, 1) := by decide +kernel
theorem dX1_isResolved_5 : decode cX1_isResolved 5 = .ok (.iaload, 1) := by decide +kernel
theorem dX1_isResolved_6 : decode cX1_isResolved 6 = .ok (.iconst 2, 1) := by decide +kernel
theorem dX1_isResolved_7 : decode cX1_isResolved 7 = .ok (.if_icmp .lt 7, 3) := by decide +kernel
theorem dX1_isResolved_10 : decode cX1_isResolved 10 = .ok (.iconst 1, 1) := by decide +kernel
theorem dX1_isResolved_11 : decode cX1_isResolved 11 = .ok (.goto 4, 3) := by decide +kernel
theorem dX1_isResolved_14 : decode cX1_isResolved 14 = .ok (.iconst 0, 1) := by decide +kernel
theorem dX1_isResolved_15 : decode cX1_isResolved 15 = .ok (.ireturn, 1) := by decide +kernel
theorem dX1_gaveValue_0 : decode cX1_gaveValue 0 = .ok (.aload_n 0, 1) := by decide +kernel
theorem dX1_gaveValue_1 : decode cX1_gaveValue 1 = .ok (.getfield 24, 3) := by decide +kernel
theorem dX1_gaveValue_4 : decode cX1_gaveValue 4 = .ok (.iload_n 1, 1) := by decide +kernel
theorem dX1_gaveValue_5 : decode cX1_gaveValue 5 = .ok (.iaload, 1) := by decide +kernel
theorem dX1_gaveValue_6 : decode cX1_gaveValue 6 = .ok (.iconst 2, 1) := by decide +kernel
theorem dX1_gaveValue_7 : decode cX1_gaveValue 7 = .ok (.if_icmp .eq 13, 3) := by decide +kernel
theorem dX1_gaveValue_10 : decode cX1_gaveValue 10 = .ok (.aload_n 0, 1) := by decide +kernel
theorem dX1_gaveValue_11 : decode cX1_gaveValue 11 = .ok (.getfield 24, 3) := by decide +kernel
theorem dX1_gaveValue_14 : decode cX1_gaveValue 14 = .ok (.iload_n 1, 1) := by decide +kernel
theorem dX1_gaveValue_15 : decode cX1_gaveValue 15 = .ok (.iaload, 1) := by decide +kernel
theorem dX1_gaveValue_16 : decode cX1_gaveValue 16 = .ok (.iconst 3, 1) := by decide +kernel
theorem dX1_gaveValue_17 : decode cX1_gaveValue 17 = .ok (.if_icmp .ne 7, 3) := by decide +kernel
theorem dX1_gaveValue_20 : decode cX1_gaveValue 20 = .ok (.iconst 1, 1) := by decide +kernel
theorem dX1_gaveValue_21 : decode cX1_gaveValue 21 = .ok (.goto 4, 3) := by decide +kernel
theorem dX1_gaveValue_24 : decode cX1_gaveValue 24 = .ok (.iconst 0, 1) := by decide +kernel
theorem dX1_gaveValue_25 : decode cX1_gaveValue 25 = .ok (.ireturn, 1) := by decide +kernel
theorem dX1_append_0 : decode cX1_append 0 = .ok (.aload_n 0, 1) := by decide +kernel
theorem dX1_append_1 : decode cX1_append 1 = .ok (.getfield 40, 3) := by decide +kernel
theorem dX1_append_4 : decode cX1_append 4 = .ok (.bipush 30, 2) := by decide +kernel
theorem dX1_append_6 : decode cX1_append 6 = .ok (.if_icmp .lt 5, 3) := by decide +kernel
theorem dX1_append_9 : decode cX1_append 9 = .ok (.iconst (-1), 1) := by decide +kernel
theorem dX1_append_10 : decode cX1_append 10 = .ok (.ireturn, 1) := by decide +kernel
theorem dX1_append_11 : decode cX1_append 11 = .ok (.aload_n 0, 1) := by decide +kernel
theorem dX1_append_12 : decode cX1_append 12 = .ok (.getfield 9, 3) := by decide +kernel
theorem dX1_append_15 : decode cX1_append 15 = .ok (.aload_n 0, 1) := by decide +kernel
theorem dX1_append_16 : decode cX1_append 16 = .ok (.getfield 40, 3) := by decide +kernel
theorem dX1_append_19 : decode cX1_append 19 = .ok (.iload_n 1, 1) := by decide +kernel
theorem dX1_append_20 : decode cX1_append 20 = .ok (.iastore, 1) := by decide +kernel
theorem dX1_append_21 : decode cX1_append 21 = .ok (.aload_n 0, 1) := by decide +kernel
theorem dX1_append_22 : decode cX1_append 22 = .ok (.getfield 15, 3) := by decide +kernel
theorem dX1_append_25 : decode cX1_append 25 = .ok (.aload_n 0, 1) := by decide +kernel
theorem dX1_append_26 : decode cX1_append 26 = .ok (.getfield 40, 3) := by decide +kernel
theorem dX1_append_29 : decode cX1_append 29 = .ok (.iload_n 2, 1) := by decide +kernel
theorem dX1_append_30 : decode cX1_append 30 = .ok (.iastore, 1) := by decide +kernel
theorem dX1_append_31 : decode cX1_append 31 = .ok (.aload_n 0, 1) := by decide +kernel
theorem dX1_append_32 : decode cX1_append 32 = .ok (.getfield 18, 3) := by decide +kernel
theorem dX1_append_35 : decode cX1_append 35 = .ok (.aload_n 0, 1) := by decide +kernel
theorem dX1_append_36 : decode cX1_append 36 = .ok (.getfield 40, 3) := by decide +kernel
theorem dX1_append_39 : decode cX1_append 39 = .ok (.iload_n 3, 1) := by decide +kernel
theorem dX1_append_40 : decode cX1_append 40 = .ok (.iastore, 1) := by decide +kernel
theorem dX1_append_41 : decode cX1_append 41 = .ok (.aload_n 0, 1) := by decide +kernel
theorem dX1_append_42 : decode cX1_append 42 = .ok (.getfield 21, 3) := by decide +kernel
theorem dX1_append_45 : decode cX1_append 45 = .ok (.aload_n 0, 1) := by decide +kernel
theorem dX1_append_46 : decode cX1_append 46 = .ok (.getfield 40, 3) := by decide +kernel
theorem dX1_append_49 : decode cX1_append 49 = .ok (.iload 4, 2) := by decide +kernel
theorem dX1_append_51 : decode cX1_append 51 = .ok (.iastore, 1) := by decide +kernel
theorem dX1_append_52 : decode cX1_append 52 = .ok (.aload_n 0, 1) := by decide +kernel
theorem dX1_append_53 : decode cX1_append 53 = .ok (.getfield 24, 3) := by decide +kernel
theorem dX1_append_56 : decode cX1_append 56 = .ok (.aload_n 0, 1) := by decide +kernel
theorem dX1_append_57 : decode cX1_append 57 = .ok (.getfield 40, 3) := by decide +kernel
theorem dX1_append_60 : decode cX1_append 60 = .ok (.iconst 0, 1) := by decide +kernel
theorem dX1_append_61 : decode cX1_append 61 = .ok (.iastore, 1) := by decide +kernel
theorem dX1_append_62 : decode cX1_append 62 = .ok (.aload_n 0, 1) := by decide +kernel
theorem dX1_append_63 : decode cX1_append 63 = .ok (.dup, 1) := by decide +kernel
theorem dX1_append_64 : decode cX1_append 64 = .ok (.getfield 40, 3) := by decide +kernel
theorem dX1_append_67 : decode cX1_append 67 = .ok (.iconst 1, 1) := by decide +kernel
theorem dX1_append_68 : decode cX1_append 68 = .ok (.iadd, 1) := by decide +kernel
theorem dX1_append_69 : decode cX1_append 69 = .ok (.putfield 40, 3) := by decide +kernel
theorem dX1_append_72 : decode cX1_append 72 = .ok (.aload_n 0, 1) := by decide +kernel
theorem dX1_append_73 : decode cX1_append 73 = .ok (.getfield 40, 3) := by decide +kernel
theorem dX1_append_76 : decode cX1_append 76 = .ok (.iconst 1, 1) := by decide +kernel
theorem dX1_append_77 : decode cX1_append 77 = .ok (.isub, 1) := by decide +kernel
theorem dX1_append_78 : decode cX1_append 78 = .ok (.ireturn, 1) := by decide +kernel
theorem dX1_makeAllPending_0 : decode cX1_makeAllPending 0 = .ok (.iconst 0, 1) := by decide +kernel
theorem dX1_makeAllPending_1 : decode cX1_makeAllPending 1 = .ok (.istore_n 1, 1) := by decide +kernel
theorem dX1_makeAllPending_2 : decode cX1_makeAllPending 2 = .ok (.iload_n 1, 1) := by decide +kernel
theorem dX1_makeAllPending_3 : decode cX1_makeAllPending 3 = .ok (.aload_n 0, 1) := by decide +kernel
theorem dX1_makeAllPending_4 : decode cX1_makeAllPending 4 = .ok (.getfield 40, 3) := by decide +kernel
theorem dX1_makeAllPending_7 : decode cX1_makeAllPending 7 = .ok (.if_icmp .ge 16, 3) := by decide +kernel
theorem dX1_makeAllPending_10 : decode cX1_makeAllPending 10 = .ok (.aload_n 0, 1) := by decide +kernel
theorem dX1_makeAllPending_11 : decode cX1_makeAllPending 11 = .ok (.getfield 24, 3) := by decide +kernel
theorem dX1_makeAllPending_14 : decode cX1_makeAllPending 14 = .ok (.iload_n 1, 1) := by decide +kernel
theorem dX1_makeAllPending_15 : decode cX1_makeAllPending 15 = .ok (.iconst 1, 1) := by decide +kernel
theorem dX1_makeAllPending_16 : decode cX1_makeAllPending 16 = .ok (.iastore, 1) := by decide +kernel
theorem dX1_makeAllPending_17 : decode cX1_makeAllPending 17 = .ok (.iinc 1 1, 3) := by decide +kernel
theorem dX1_makeAllPending_20 : decode cX1_makeAllPending 20 = .ok (.goto (-18), 3) := by decide +kernel
theorem dX1_makeAllPending_23 : decode cX1_makeAllPending 23 = .ok (.return_, 1) := by decide +kernel
theorem dX1_pending_0 : decode cX1_pending 0 = .ok (.iconst 0, 1) := by decide +kernel
theorem dX1_pending_1 : decode cX1_pending 1 = .ok (.istore_n 1, 1) := by decide +kernel
theorem dX1_pending_2 : decode cX1_pending 2 = .ok (.iconst 0, 1) := by decide +kernel
theorem dX1_pending_3 : decode cX1_pending 3 = .ok (.istore_n 2, 1) := by decide +kernel
theorem dX1_pending_4 : decode cX1_pending 4 = .ok (.iload_n 2, 1) := by decide +kernel
theorem dX1_pending_5 : decode cX1_pending 5 = .ok (.aload_n 0, 1) := by decide +kernel
theorem dX1_pending_6 : decode cX1_pending 6 = .ok (.getfield 40, 3) := by decide +kernel
theorem dX1_pending_9 : decode cX1_pending 9 = .ok (.if_icmp .ge 22, 3) := by decide +kernel
theorem dX1_pending_12 : decode cX1_pending 12 = .ok (.aload_n 0, 1) := by decide +kernel
theorem dX1_pending_13 : decode cX1_pending 13 = .ok (.getfield 24, 3) := by decide +kernel
theorem dX1_pending_16 : decode cX1_pending 16 = .ok (.iload_n 2, 1) := by decide +kernel
theorem dX1_pending_17 : decode cX1_pending 17 = .ok (.iaload, 1) := by decide +kernel
theorem dX1_pending_18 : decode cX1_pending 18 = .ok (.iconst 1, 1) := by decide +kernel
theorem dX1_pending_19 : decode cX1_pending 19 = .ok (.if_icmp .ne 6, 3) := by decide +kernel
theorem dX1_pending_22 : decode cX1_pending 22 = .ok (.iinc 1 1, 3) := by decide +kernel
theorem dX1_pending_25 : decode cX1_pending 25 = .ok (.iinc 2 1, 3) := by decide +kernel
theorem dX1_pending_28 : decode cX1_pending 28 = .ok (.goto (-24), 3) := by decide +kernel
theorem dX1_pending_31 : decode cX1_pending 31 = .ok (.iload_n 1, 1) := by decide +kernel
theorem dX1_pending_32 : decode cX1_pending 32 = .ok (.ireturn, 1) := by decide +kernel
theorem dX1_numberOf_0 : decode cX1_numberOf 0 = .ok (.iconst 0, 1) := by decide +kernel
theorem dX1_numberOf_1 : decode cX1_numberOf 1 = .ok (.istore_n 2, 1) := by decide +kernel
theorem dX1_numberOf_2 : decode cX1_numberOf 2 = .ok (.iconst 0, 1) := by decide +kernel
theorem dX1_numberOf_3 : decode cX1_numberOf 3 = .ok (.istore_n 3, 1) := by decide +kernel
theorem dX1_numberOf_4 : decode cX1_numberOf 4 = .ok (.iload_n 3, 1) := by decide +kernel
theorem dX1_numberOf_5 : decode cX1_numberOf 5 = .ok (.aload_n 0, 1) := by decide +kernel
theorem dX1_numberOf_6 : decode cX1_numberOf 6 = .ok (.getfield 40, 3) := by decide +kernel
theorem dX1_numberOf_9 : decode cX1_numberOf 9 = .ok (.if_icmp .ge 22, 3) := by decide +kernel
theorem dX1_numberOf_12 : decode cX1_numberOf 12 = .ok (.aload_n 0, 1) := by decide +kernel
theorem dX1_numberOf_13 : decode cX1_numberOf 13 = .ok (.getfield 9, 3) := by decide +kernel
theorem dX1_numberOf_16 : decode cX1_numberOf 16 = .ok (.iload_n 3, 1) := by decide +kernel
theorem dX1_numberOf_17 : decode cX1_numberOf 17 = .ok (.iaload, 1) := by decide +kernel
theorem dX1_numberOf_18 : decode cX1_numberOf 18 = .ok (.iload_n 1, 1) := by decide +kernel
theorem dX1_numberOf_19 : decode cX1_numberOf 19 = .ok (.if_icmp .ne 6, 3) := by decide +kernel
theorem dX1_numberOf_22 : decode cX1_numberOf 22 = .ok (.iinc 2 1, 3) := by decide +kernel
theorem dX1_numberOf_25 : decode cX1_numberOf 25 = .ok (.iinc 3 1, 3) := by decide +kernel
theorem dX1_numberOf_28 : decode cX1_numberOf 28 = .ok (.goto (-24), 3) := by decide +kernel
theorem dX1_numberOf_31 : decode cX1_numberOf 31 = .ok (.iload_n 2, 1) := by decide +kernel
theorem dX1_numberOf_32 : decode cX1_numberOf 32 = .ok (.ireturn, 1) := by decide +kernel
theorem dX1_hasTechnicalOf_0 : decode cX1_hasTechnicalOf 0 = .ok (.iconst 0, 1) := by decide +kernel
theorem dX1_hasTechnicalOf_1 : decode cX1_hasTechnicalOf 1 = .ok (.istore_n 2, 1) := by decide +kernel
theorem dX1_hasTechnicalOf_2 : decode cX1_hasTechnicalOf 2 = .ok (.iload_n 2, 1) := by decide +kernel
theorem dX1_hasTechnicalOf_3 : decode cX1_hasTechnicalOf 3 = .ok (.aload_n 0, 1) := by decide +kernel
theorem dX1_hasTechnicalOf_4 : decode cX1_hasTechnicalOf 4 = .ok (.getfield 40, 3) := by decide +kernel
theorem dX1_hasTechnicalOf_7 : decode cX1_hasTechnicalOf 7 = .ok (.if_icmp .ge 31, 3) := by decide +kernel
theorem dX1_hasTechnicalOf_10 : decode cX1_hasTechnicalOf 10 = .ok (.aload_n 0, 1) := by decide +kernel
theorem dX1_hasTechnicalOf_11 : decode cX1_hasTechnicalOf 11 = .ok (.getfield 9, 3) := by decide +kernel
theorem dX1_hasTechnicalOf_14 : decode cX1_hasTechnicalOf 14 = .ok (.iload_n 2, 1) := by decide +kernel
theorem dX1_hasTechnicalOf_15 : decode cX1_hasTechnicalOf 15 = .ok (.iaload, 1) := by decide +kernel
theorem dX1_hasTechnicalOf_16 : decode cX1_hasTechnicalOf 16 = .ok (.iload_n 1, 1) := by decide +kernel
theorem dX1_hasTechnicalOf_17 : decode cX1_hasTechnicalOf 17 = .ok (.if_icmp .ne 15, 3) := by decide +kernel
theorem dX1_hasTechnicalOf_20 : decode cX1_hasTechnicalOf 20 = .ok (.aload_n 0, 1) := by decide +kernel
theorem dX1_hasTechnicalOf_21 : decode cX1_hasTechnicalOf 21 = .ok (.getfield 18, 3) := by decide +kernel
theorem dX1_hasTechnicalOf_24 : decode cX1_hasTechnicalOf 24 = .ok (.iload_n 2, 1) := by decide +kernel
theorem dX1_hasTechnicalOf_25 : decode cX1_hasTechnicalOf 25 = .ok (.iaload, 1) := by decide +kernel
theorem dX1_hasTechnicalOf_26 : decode cX1_hasTechnicalOf 26 = .ok (.iconst 1, 1) := by decide +kernel
theorem dX1_hasTechnicalOf_27 : decode cX1_hasTechnicalOf 27 = .ok (.if_icmp .ne 5, 3) := by decide +kernel
theorem dX1_hasTechnicalOf_30 : decode cX1_hasTechnicalOf 30 = .ok (.iconst 1, 1) := by decide +kernel
theorem dX1_hasTechnicalOf_31 : decode cX1_hasTechnicalOf 31 = .ok (.ireturn, 1) := by decide +kernel
theorem dX1_hasTechnicalOf_32 : decode cX1_hasTechnicalOf 32 = .ok (.iinc 2 1, 3) := by decide +kernel
theorem dX1_hasTechnicalOf_35 : decode cX1_hasTechnicalOf 35 = .ok (.goto (-33), 3) := by decide +kernel
theorem dX1_hasTechnicalOf_38 : decode cX1_hasTechnicalOf 38 = .ok (.iconst 0, 1) := by decide +kernel
theorem dX1_hasTechnicalOf_39 : decode cX1_hasTechnicalOf 39 = .ok (.ireturn, 1) := by decide +kernel
theorem dX1_firstPending_0 : decode cX1_firstPending 0 = .ok (.iconst (-1), 1) := by decide +kernel
theorem dX1_firstPending_1 : decode cX1_firstPending 1 = .ok (.istore_n 2, 1) := by decide +kernel
theorem dX1_firstPending_2 : decode cX1_firstPending 2 = .ok (.iconst 0, 1) := by decide +kernel
theorem dX1_firstPending_3 : decode cX1_firstPending 3 = .ok (.istore_n 3, 1) := by decide +kernel
theorem dX1_firstPending_4 : decode cX1_firstPending 4 = .ok (.iload_n 3, 1) := by decide +kernel
theorem dX1_firstPending_5 : decode cX1_firstPending 5 = .ok (.aload_n 0, 1) := by decide +kernel
theorem dX1_firstPending_6 : decode cX1_firstPending 6 = .ok (.getfield 40, 3) := by decide +kernel
theorem dX1_firstPending_9 : decode cX1_firstPending 9 = .ok (.if_icmp .ge 36, 3) := by decide +kernel
theorem dX1_firstPending_12 : decode cX1_firstPending 12 = .ok (.aload_n 0, 1) := by decide +kernel
theorem dX1_firstPending_13 : decode cX1_firstPending 13 = .ok (.getfield 24, 3) := by decide +kernel
theorem dX1_firstPending_16 : decode cX1_firstPending 16 = .ok (.iload_n 3, 1) := by decide +kernel
theorem dX1_firstPending_17 : decode cX1_firstPending 17 = .ok (.iaload, 1) := by decide +kernel
theorem dX1_firstPending_18 : decode cX1_firstPending 18 = .ok (.iconst 1, 1) := by decide +kernel
theorem dX1_firstPending_19 : decode cX1_firstPending 19 = .ok (.if_icmp .ne 20, 3) := by decide +kernel
theorem dX1_firstPending_22 : decode cX1_firstPending 22 = .ok (.iload_n 2, 1) := by decide +kernel
theorem dX1_firstPending_23 : decode cX1_firstPending 23 = .ok (.iconst (-1), 1) := by decide +kernel
theorem dX1_firstPending_24 : decode cX1_firstPending 24 = .ok (.if_icmp .eq 13, 3) := by decide +kernel
theorem dX1_firstPending_27 : decode cX1_firstPending 27 = .ok (.aload_n 0, 1) := by decide +kernel
theorem dX1_firstPending_28 : decode cX1_firstPending 28 = .ok (.iload_n 3, 1) := by decide +kernel
theorem dX1_firstPending_29 : decode cX1_firstPending 29 = .ok (.iload_n 2, 1) := by decide +kernel
theorem dX1_firstPending_30 : decode cX1_firstPending 30 = .ok (.aload_n 1, 1) := by decide +kernel
theorem dX1_firstPending_31 : decode cX1_firstPending 31 = .ok (.invokevirtual 47, 3) := by decide +kernel
theorem dX1_firstPending_34 : decode cX1_firstPending 34 = .ok (.ifCond .eq 5, 3) := by decide +kernel
theorem dX1_firstPending_37 : decode cX1_firstPending 37 = .ok (.iload_n 3, 1) := by decide +kernel
theorem dX1_firstPending_38 : decode cX1_firstPending 38 = .ok (.istore_n 2, 1) := by decide +kernel
theorem dX1_firstPending_39 : decode cX1_firstPending 39 = .ok (.iinc 3 1, 3) := by decide +kernel
theorem dX1_firstPending_42 : decode cX1_firstPending 42 = .ok (.goto (-38), 3) := by decide +kernel
theorem dX1_firstPending_45 : decode cX1_firstPending 45 = .ok (.iload_n 2, 1) := by decide +kernel
theorem dX1_firstPending_46 : decode cX1_firstPending 46 = .ok (.ireturn, 1) := by decide +kernel
theorem dX1_isAhead_0 : decode cX1_isAhead 0 = .ok (.aload_n 0, 1) := by decide +kernel
theorem dX1_isAhead_1 : decode cX1_isAhead 1 = .ok (.getfield 18, 3) := by decide +kernel
theorem dX1_isAhead_4 : decode cX1_isAhead 4 = .ok (.iload_n 1, 1) := by decide +kernel
theorem dX1_isAhead_5 : decode cX1_isAhead 5 = .ok (.iaload, 1) := by decide +kernel
theorem dX1_isAhead_6 : decode cX1_isAhead 6 = .ok (.aload_n 0, 1) := by decide +kernel
theorem dX1_isAhead_7 : decode cX1_isAhead 7 = .ok (.getfield 18, 3) := by decide +kernel
theorem dX1_isAhead_10 : decode cX1_isAhead 10 = .ok (.iload_n 2, 1) := by decide +kernel
theorem dX1_isAhead_11 : decode cX1_isAhead 11 = .ok (.iaload, 1) := by decide +kernel
theorem dX1_isAhead_12 : decode cX1_isAhead 12 = .ok (.if_icmp .eq 19, 3) := by decide +kernel
theorem dX1_isAhead_15 : decode cX1_isAhead 15 = .ok (.aload_n 0, 1) := by decide +kernel
theorem dX1_isAhead_16 : decode cX1_isAhead 16 = .ok (.getfield 18, 3) := by decide +kernel
theorem dX1_isAhead_19 : decode cX1_isAhead 19 = .ok (.iload_n 1, 1) := by decide +kernel
theorem dX1_isAhead_20 : decode cX1_isAhead 20 = .ok (.iaload, 1) := by decide +kernel
theorem dX1_isAhead_21 : decode cX1_isAhead 21 = .ok (.iconst 1, 1) := by decide +kernel
theorem dX1_isAhead_22 : decode cX1_isAhead 22 = .ok (.if_icmp .ne 7, 3) := by decide +kernel
theorem dX1_isAhead_25 : decode cX1_isAhead 25 = .ok (.iconst 1, 1) := by decide +kernel
theorem dX1_isAhead_26 : decode cX1_isAhead 26 = .ok (.goto 4, 3) := by decide +kernel
theorem dX1_isAhead_29 : decode cX1_isAhead 29 = .ok (.iconst 0, 1) := by decide +kernel
theorem dX1_isAhead_30 : decode cX1_isAhead 30 = .ok (.ireturn, 1) := by decide +kernel
theorem dX1_isAhead_31 : decode cX1_isAhead 31 = .ok (.aload_n 0, 1) := by decide +kernel
theorem dX1_isAhead_32 : decode cX1_isAhead 32 = .ok (.getfield 15, 3) := by decide +kernel
theorem dX1_isAhead_35 : decode cX1_isAhead 35 = .ok (.iload_n 1, 1) := by decide +kernel
theorem dX1_isAhead_36 : decode cX1_isAhead 36 = .ok (.iaload, 1) := by decide +kernel
theorem dX1_isAhead_37 : decode cX1_isAhead 37 = .ok (.aload_n 0, 1) := by decide +kernel
theorem dX1_isAhead_38 : decode cX1_isAhead 38 = .ok (.getfield 15, 3) := by decide +kernel
theorem dX1_isAhead_41 : decode cX1_isAhead 41 = .ok (.iload_n 2, 1) := by decide +kernel
theorem dX1_isAhead_42 : decode cX1_isAhead 42 = .ok (.iaload, 1) := by decide +kernel
theorem dX1_isAhead_43 : decode cX1_isAhead 43 = .ok (.if_icmp .eq 24, 3) := by decide +kernel
theorem dX1_isAhead_46 : decode cX1_isAhead 46 = .ok (.aload_n 0, 1) := by decide +kernel
theorem dX1_isAhead_47 : decode cX1_isAhead 47 = .ok (.getfield 15, 3) := by decide +kernel
theorem dX1_isAhead_50 : decode cX1_isAhead 50 = .ok (.iload_n 1, 1) := by decide +kernel
theorem dX1_isAhead_51 : decode cX1_isAhead 51 = .ok (.iaload, 1) := by decide +kernel
theorem dX1_isAhead_52 : decode cX1_isAhead 52 = .ok (.aload_n 0, 1) := by decide +kernel
theorem dX1_isAhead_53 : decode cX1_isAhead 53 = .ok (.getfield 15, 3) := by decide +kernel
theorem dX1_isAhead_56 : decode cX1_isAhead 56 = .ok (.iload_n 2, 1) := by decide +kernel
theorem dX1_isAhead_57 : decode cX1_isAhead 57 = .ok (.iaload, 1) := by decide +kernel
theorem dX1_isAhead_58 : decode cX1_isAhead 58 = .ok (.if_icmp .ge 7, 3) := by decide +kernel
theorem dX1_isAhead_61 : decode cX1_isAhead 61 = .ok (.iconst 1, 1) := by decide +kernel
theorem dX1_isAhead_62 : decode cX1_isAhead 62 = .ok (.goto 4, 3) := by decide +kernel
theorem dX1_isAhead_65 : decode cX1_isAhead 65 = .ok (.iconst 0, 1) := by decide +kernel
theorem dX1_isAhead_66 : decode cX1_isAhead 66 = .ok (.ireturn, 1) := by decide +kernel
theorem dX1_isAhead_67 : decode cX1_isAhead 67 = .ok (.aload_n 3, 1) := by decide +kernel
theorem dX1_isAhead_68 : decode cX1_isAhead 68 = .ok (.getfield 51, 3) := by decide +kernel
theorem dX1_isAhead_71 : decode cX1_isAhead 71 = .ok (.aload_n 0, 1) := by decide +kernel
theorem dX1_isAhead_72 : decode cX1_isAhead 72 = .ok (.getfield 9, 3) := by decide +kernel
theorem dX1_isAhead_75 : decode cX1_isAhead 75 = .ok (.iload_n 1, 1) := by decide +kernel
theorem dX1_isAhead_76 : decode cX1_isAhead 76 = .ok (.iaload, 1) := by decide +kernel
theorem dX1_isAhead_77 : decode cX1_isAhead 77 = .ok (.iaload, 1) := by decide +kernel
theorem dX1_isAhead_78 : decode cX1_isAhead 78 = .ok (.aload_n 3, 1) := by decide +kernel
theorem dX1_isAhead_79 : decode cX1_isAhead 79 = .ok (.getfield 51, 3) := by decide +kernel
theorem dX1_isAhead_82 : decode cX1_isAhead 82 = .ok (.aload_n 0, 1) := by decide +kernel
theorem dX1_isAhead_83 : decode cX1_isAhead 83 = .ok (.getfield 9, 3) := by decide +kernel
theorem dX1_isAhead_86 : decode cX1_isAhead 86 = .ok (.iload_n 2, 1) := by decide +kernel
theorem dX1_isAhead_87 : decode cX1_isAhead 87 = .ok (.iaload, 1) := by decide +kernel
theorem dX1_isAhead_88 : decode cX1_isAhead 88 = .ok (.iaload, 1) := by decide +kernel
theorem dX1_isAhead_89 : decode cX1_isAhead 89 = .ok (.if_icmp .le 7, 3) := by decide +kernel
theorem dX1_isAhead_92 : decode cX1_isAhead 92 = .ok (.iconst 1, 1) := by decide +kernel
theorem dX1_isAhead_93 : decode cX1_isAhead 93 = .ok (.goto 4, 3) := by decide +kernel
theorem dX1_isAhead_96 : decode cX1_isAhead 96 = .ok (.iconst 0, 1) := by decide +kernel
theorem dX1_isAhead_97 : decode cX1_isAhead 97 = .ok (.ireturn, 1) := by decide +kernel
theorem dX1_resolveAs_0 : decode cX1_resolveAs 0 = .ok (.aload_n 0, 1) := by decide +kernel
theorem dX1_resolveAs_1 : decode cX1_resolveAs 1 = .ok (.getfield 24, 3) := by decide +kernel
theorem dX1_resolveAs_4 : decode cX1_resolveAs 4 = .ok (.iload_n 1, 1) := by decide +kernel
theorem dX1_resolveAs_5 : decode cX1_resolveAs 5 = .ok (.iconst 2, 1) := by decide +kernel
theorem dX1_resolveAs_6 : decode cX1_resolveAs 6 = .ok (.iload_n 2, 1) := by decide +kernel
theorem dX1_resolveAs_7 : decode cX1_resolveAs 7 = .ok (.iadd, 1) := by decide +kernel
theorem dX1_resolveAs_8 : decode cX1_resolveAs 8 = .ok (.iastore, 1) := by decide +kernel
theorem dX1_resolveAs_9 : decode cX1_resolveAs 9 = .ok (.aload_n 0, 1) := by decide +kernel
theorem dX1_resolveAs_10 : decode cX1_resolveAs 10 = .ok (.getfield 27, 3) := by decide +kernel
theorem dX1_resolveAs_13 : decode cX1_resolveAs 13 = .ok (.iload_n 1, 1) := by decide +kernel
theorem dX1_resolveAs_14 : decode cX1_resolveAs 14 = .ok (.iload 4, 2) := by decide +kernel
theorem dX1_resolveAs_16 : decode cX1_resolveAs 16 = .ok (.iastore, 1) := by decide +kernel
theorem dX1_resolveAs_17 : decode cX1_resolveAs 17 = .ok (.aload_n 0, 1) := by decide +kernel
theorem dX1_resolveAs_18 : decode cX1_resolveAs 18 = .ok (.getfield 30, 3) := by decide +kernel
theorem dX1_resolveAs_21 : decode cX1_resolveAs 21 = .ok (.iload_n 1, 1) := by decide +kernel
theorem dX1_resolveAs_22 : decode cX1_resolveAs 22 = .ok (.iload_n 3, 1) := by decide +kernel
theorem dX1_resolveAs_23 : decode cX1_resolveAs 23 = .ok (.iastore, 1) := by decide +kernel
theorem dX1_resolveAs_24 : decode cX1_resolveAs 24 = .ok (.aload_n 0, 1) := by decide +kernel
theorem dX1_resolveAs_25 : decode cX1_resolveAs 25 = .ok (.getfield 33, 3) := by decide +kernel
theorem dX1_resolveAs_28 : decode cX1_resolveAs 28 = .ok (.iload_n 1, 1) := by decide +kernel
theorem dX1_resolveAs_29 : decode cX1_resolveAs 29 = .ok (.aload_n 0, 1) := by decide +kernel
theorem dX1_resolveAs_30 : decode cX1_resolveAs 30 = .ok (.getfield 44, 3) := by decide +kernel
theorem dX1_resolveAs_33 : decode cX1_resolveAs 33 = .ok (.iastore, 1) := by decide +kernel
theorem dX1_resolveAs_34 : decode cX1_resolveAs 34 = .ok (.aload_n 0, 1) := by decide +kernel
theorem dX1_resolveAs_35 : decode cX1_resolveAs 35 = .ok (.dup, 1) := by decide +kernel
theorem dX1_resolveAs_36 : decode cX1_resolveAs 36 = .ok (.getfield 44, 3) := by decide +kernel
theorem dX1_resolveAs_39 : decode cX1_resolveAs 39 = .ok (.iconst 1, 1) := by decide +kernel
theorem dX1_resolveAs_40 : decode cX1_resolveAs 40 = .ok (.iadd, 1) := by decide +kernel
theorem dX1_resolveAs_41 : decode cX1_resolveAs 41 = .ok (.putfield 44, 3) := by decide +kernel
theorem dX1_resolveAs_44 : decode cX1_resolveAs 44 = .ok (.return_, 1) := by decide +kernel
theorem dX1_firstBehind_0 : decode cX1_firstBehind 0 = .ok (.iconst (-1), 1) := by decide +kernel
theorem dX1_firstBehind_1 : decode cX1_firstBehind 1 = .ok (.istore_n 3, 1) := by decide +kernel
theorem dX1_firstBehind_2 : decode cX1_firstBehind 2 = .ok (.iconst 0, 1) := by decide +kernel
theorem dX1_firstBehind_3 : decode cX1_firstBehind 3 = .ok (.istore 4, 2) := by decide +kernel
theorem dX1_firstBehind_5 : decode cX1_firstBehind 5 = .ok (.iload 4, 2) := by decide +kernel
theorem dX1_firstBehind_7 : decode cX1_firstBehind 7 = .ok (.aload_n 0, 1) := by decide +kernel
theorem dX1_firstBehind_8 : decode cX1_firstBehind 8 = .ok (.getfield 40, 3) := by decide +kernel
theorem dX1_firstBehind_11 : decode cX1_firstBehind 11 = .ok (.if_icmp .ge 64, 3) := by decide +kernel
theorem dX1_firstBehind_14 : decode cX1_firstBehind 14 = .ok (.aload_n 0, 1) := by decide +kernel
theorem dX1_firstBehind_15 : decode cX1_firstBehind 15 = .ok (.getfield 15, 3) := by decide +kernel
theorem dX1_firstBehind_18 : decode cX1_firstBehind 18 = .ok (.iload 4, 2) := by decide +kernel
theorem dX1_firstBehind_20 : decode cX1_firstBehind 20 = .ok (.iaload, 1) := by decide +kernel
theorem dX1_firstBehind_21 : decode cX1_firstBehind 21 = .ok (.iload_n 1, 1) := by decide +kernel
theorem dX1_firstBehind_22 : decode cX1_firstBehind 22 = .ok (.if_icmp .ne 47, 3) := by decide +kernel
theorem dX1_firstBehind_25 : decode cX1_firstBehind 25 = .ok (.aload_n 0, 1) := by decide +kernel
theorem dX1_firstBehind_26 : decode cX1_firstBehind 26 = .ok (.iload 4, 2) := by decide +kernel
theorem dX1_firstBehind_28 : decode cX1_firstBehind 28 = .ok (.invokevirtual 56, 3) := by decide +kernel
theorem dX1_firstBehind_31 : decode cX1_firstBehind 31 = .ok (.ifCond .eq 38, 3) := by decide +kernel
theorem dX1_firstBehind_34 : decode cX1_firstBehind 34 = .ok (.aload_n 0, 1) := by decide +kernel
theorem dX1_firstBehind_35 : decode cX1_firstBehind 35 = .ok (.getfield 30, 3) := by decide +kernel
theorem dX1_firstBehind_38 : decode cX1_firstBehind 38 = .ok (.iload 4, 2) := by decide +kernel
theorem dX1_firstBehind_40 : decode cX1_firstBehind 40 = .ok (.iaload, 1) := by decide +kernel
theorem dX1_firstBehind_41 : decode cX1_firstBehind 41 = .ok (.iload_n 2, 1) := by decide +kernel
theorem dX1_firstBehind_42 : decode cX1_firstBehind 42 = .ok (.if_icmp .ne 27, 3) := by decide +kernel
theorem dX1_firstBehind_45 : decode cX1_firstBehind 45 = .ok (.iload_n 3, 1) := by decide +kernel
theorem dX1_firstBehind_46 : decode cX1_firstBehind 46 = .ok (.iconst (-1), 1) := by decide +kernel
theorem dX1_firstBehind_47 : decode cX1_firstBehind 47 = .ok (.if_icmp .eq 19, 3) := by decide +kernel
theorem dX1_firstBehind_50 : decode cX1_firstBehind 50 = .ok (.aload_n 0, 1) := by decide +kernel
theorem dX1_firstBehind_51 : decode cX1_firstBehind 51 = .ok (.getfield 33, 3) := by decide +kernel
theorem dX1_firstBehind_54 : decode cX1_firstBehind 54 = .ok (.iload 4, 2) := by decide +kernel
theorem dX1_firstBehind_56 : decode cX1_firstBehind 56 = .ok (.iaload, 1) := by decide +kernel
theorem dX1_firstBehind_57 : decode cX1_firstBehind 57 = .ok (.aload_n 0, 1) := by decide +kernel
theorem dX1_firstBehind_58 : decode cX1_firstBehind 58 = .ok (.getfield 33, 3) := by decide +kernel
theorem dX1_firstBehind_61 : decode cX1_firstBehind 61 = .ok (.iload_n 3, 1) := by decide +kernel
theorem dX1_firstBehind_62 : decode cX1_firstBehind 62 = .ok (.iaload, 1) := by decide +kernel
theorem dX1_firstBehind_63 : decode cX1_firstBehind 63 = .ok (.if_icmp .ge 6, 3) := by decide +kernel
theorem dX1_firstBehind_66 : decode cX1_firstBehind 66 = .ok (.iload 4, 2) := by decide +kernel
theorem dX1_firstBehind_68 : decode cX1_firstBehind 68 = .ok (.istore_n 3, 1) := by decide +kernel
theorem dX1_firstBehind_69 : decode cX1_firstBehind 69 = .ok (.iinc 4 1, 3) := by decide +kernel
theorem dX1_firstBehind_72 : decode cX1_firstBehind 72 = .ok (.goto (-67), 3) := by decide +kernel
theorem dX1_firstBehind_75 : decode cX1_firstBehind 75 = .ok (.iload_n 3, 1) := by decide +kernel
theorem dX1_firstBehind_76 : decode cX1_firstBehind 76 = .ok (.ireturn, 1) := by decide +kernel
theorem dX2_init_0 : decode cX2_init 0 = .ok (.aload_n 0, 1) := by decide +kernel
theorem dX2_init_1 : decode cX2_init 1 = .ok (.invokespecial 3, 3) := by decide +kernel
theorem dX2_init_4 : decode cX2_init 4 = .ok (.aload_n 0, 1) := by decide +kernel
theorem dX2_init_5 : decode cX2_init 5 = .ok (.bipush 20, 2) := by decide +kernel
theorem dX2_init_7 : decode cX2_init 7 = .ok (.newarray .int, 2) := by decide +kernel
theorem dX2_init_9 : decode cX2_init 9 = .ok (.putfield 9, 3) := by decide +kernel
theorem dX2_init_12 : decode cX2_init 12 = .ok (.aload_n 0, 1) := by decide +kernel
theorem dX2_init_13 : decode cX2_init 13 = .ok (.bipush 20, 2) := by decide +kernel
theorem dX2_init_15 : decode cX2_init 15 = .ok (.newarray .int, 2) := by decide +kernel
theorem dX2_init_17 : decode cX2_init 17 = .ok (.putfield 15, 3) := by decide +kernel
theorem dX2_init_20 : decode cX2_init 20 = .ok (.aload_n 0, 1) := by decide +kernel
theorem dX2_init_21 : decode cX2_init 21 = .ok (.bipush 20, 2) := by decide +kernel
theorem dX2_init_23 : decode cX2_init 23 = .ok (.newarray .int, 2) := by decide +kernel
theorem dX2_init_25 : decode cX2_init 25 = .ok (.putfield 18, 3) := by decide +kernel
theorem dX2_init_28 : decode cX2_init 28 = .ok (.aload_n 0, 1) := by decide +kernel
theorem dX2_init_29 : decode cX2_init 29 = .ok (.bipush 12, 2) := by decide +kernel
theorem dX2_init_31 : decode cX2_init 31 = .ok (.newarray .int, 2) := by decide +kernel
theorem dX2_init_33 : decode cX2_init 33 = .ok (.putfield 21, 3) := by decide +kernel
theorem dX2_init_36 : decode cX2_init 36 = .ok (.aload_n 0, 1) := by decide +kernel
theorem dX2_init_37 : decode cX2_init 37 = .ok (.sipush 240, 3) := by decide +kernel
theorem dX2_init_40 : decode cX2_init 40 = .ok (.newarray .int, 2) := by decide +kernel
theorem dX2_init_42 : decode cX2_init 42 = .ok (.putfield 24, 3) := by decide +kernel
theorem dX2_init_45 : decode cX2_init 45 = .ok (.aload_n 0, 1) := by decide +kernel
theorem dX2_init_46 : decode cX2_init 46 = .ok (.sipush 240, 3) := by decide +kernel
theorem dX2_init_49 : decode cX2_init 49 = .ok (.newarray .int, 2) := by decide +kernel
theorem dX2_init_51 : decode cX2_init 51 = .ok (.putfield 27, 3) := by decide +kernel
theorem dX2_init_54 : decode cX2_init 54 = .ok (.aload_n 0, 1) := by decide +kernel
theorem dX2_init_55 : decode cX2_init 55 = .ok (.iconst 1, 1) := by decide +kernel
theorem dX2_init_56 : decode cX2_init 56 = .ok (.putfield 30, 3) := by decide +kernel
theorem dX2_init_59 : decode cX2_init 59 = .ok (.return_, 1) := by decide +kernel
theorem dX2_copyFrom_0 : decode cX2_copyFrom 0 = .ok (.aload_n 1, 1) := by decide +kernel
theorem dX2_copyFrom_1 : decode cX2_copyFrom 1 = .ok (.getfield 9, 3) := by decide +kernel
theorem dX2_copyFrom_4 : decode cX2_copyFrom 4 = .ok (.aload_n 0, 1) := by decide +kernel
theorem dX2_copyFrom_5 : decode cX2_copyFrom 5 = .ok (.getfield 9, 3) := by decide +kernel
theorem dX2_copyFrom_8 : decode cX2_copyFrom 8 = .ok (.invokestatic 34, 3) := by decide +kernel
theorem dX2_copyFrom_11 : decode cX2_copyFrom 11 = .ok (.aload_n 1, 1) := by decide +kernel
theorem dX2_copyFrom_12 : decode cX2_copyFrom 12 = .ok (.getfield 15, 3) := by decide +kernel
theorem dX2_copyFrom_15 : decode cX2_copyFrom 15 = .ok (.aload_n 0, 1) := by decide +kernel
theorem dX2_copyFrom_16 : decode cX2_copyFrom 16 = .ok (.getfield 15, 3) := by decide +kernel
theorem dX2_copyFrom_19 : decode cX2_copyFrom 19 = .ok (.invokestatic 34, 3) := by decide +kernel
theorem dX2_copyFrom_22 : decode cX2_copyFrom 22 = .ok (.aload_n 1, 1) := by decide +kernel
theorem dX2_copyFrom_23 : decode cX2_copyFrom 23 = .ok (.getfield 18, 3) := by decide +kernel
theorem dX2_copyFrom_26 : decode cX2_copyFrom 26 = .ok (.aload_n 0, 1) := by decide +kernel
theorem dX2_copyFrom_27 : decode cX2_copyFrom 27 = .ok (.getfield 18, 3) := by decide +kernel
theorem dX2_copyFrom_30 : decode cX2_copyFrom 30 = .ok (.invokestatic 34, 3) := by decide +kernel
theorem dX2_copyFrom_33 : decode cX2_copyFrom 33 = .ok (.aload_n 1, 1) := by decide +kernel
theorem dX2_copyFrom_34 : decode cX2_copyFrom 34 = .ok (.getfield 21, 3) := by decide +kernel
theorem dX2_copyFrom_37 : decode cX2_copyFrom 37 = .ok (.aload_n 0, 1) := by decide +kernel
theorem dX2_copyFrom_38 : decode cX2_copyFrom 38 = .ok (.getfield 21, 3) := by decide +kernel
theorem dX2_copyFrom_41 : decode cX2_copyFrom 41 = .ok (.invokestatic 34, 3) := by decide +kernel
theorem dX2_copyFrom_44 : decode cX2_copyFrom 44 = .ok (.aload_n 1, 1) := by decide +kernel
theorem dX2_copyFrom_45 : decode cX2_copyFrom 45 = .ok (.getfield 24, 3) := by decide +kernel
theorem dX2_copyFrom_48 : decode cX2_copyFrom 48 = .ok (.aload_n 0, 1) := by decide +kernel
theorem dX2_copyFrom_49 : decode cX2_copyFrom 49 = .ok (.getfield 24, 3) := by decide +kernel
theorem dX2_copyFrom_52 : decode cX2_copyFrom 52 = .ok (.invokestatic 34, 3) := by decide +kernel
theorem dX2_copyFrom_55 : decode cX2_copyFrom 55 = .ok (.aload_n 1, 1) := by decide +kernel
theorem dX2_copyFrom_56 : decode cX2_copyFrom 56 = .ok (.getfield 27, 3) := by decide +kernel
theorem dX2_copyFrom_59 : decode cX2_copyFrom 59 = .ok (.aload_n 0, 1) := by decide +kernel
theorem dX2_copyFrom_60 : decode cX2_copyFrom 60 = .ok (.getfield 27, 3) := by decide +kernel
theorem dX2_copyFrom_63 : decode cX2_copyFrom 63 = .ok (.invokestatic 34, 3) := by decide +kernel
theorem dX2_copyFrom_66 : decode cX2_copyFrom 66 = .ok (.aload_n 0, 1) := by decide +kernel
theorem dX2_copyFrom_67 : decode cX2_copyFrom 67 = .ok (.aload_n 1, 1) := by decide +kernel
theorem dX2_copyFrom_68 : decode cX2_copyFrom 68 = .ok (.getfield 38, 3) := by decide +kernel
theorem dX2_copyFrom_71 : decode cX2_copyFrom 71 = .ok (.putfield 38, 3) := by decide +kernel
theorem dX2_copyFrom_74 : decode cX2_copyFrom 74 = .ok (.aload_n 0, 1) := by decide +kernel
theorem dX2_copyFrom_75 : decode cX2_copyFrom 75 = .ok (.aload_n 1, 1) := by decide +kernel
theorem dX2_copyFrom_76 : decode cX2_copyFrom 76 = .ok (.getfield 30, 3) := by decide +kernel
theorem dX2_copyFrom_79 : decode cX2_copyFrom 79 = .ok (.putfield 30, 3) := by decide +kernel
theorem dX2_copyFrom_82 : decode cX2_copyFrom 82 = .ok (.return_, 1) := by decide +kernel
theorem dX2_slot_0 : decode cX2_slot 0 = .ok (.iload_n 0, 1) := by decide +kernel
theorem dX2_slot_1 : decode cX2_slot 1 = .ok (.iconst 1, 1) := by decide +kernel
theorem dX2_slot_2 : decode cX2_slot 2 = .ok (.isub, 1) := by decide +kernel
theorem dX2_slot_3 : decode cX2_slot 3 = .ok (.bipush 20, 2) := by decide +kernel
theorem dX2_slot_5 : decode cX2_slot 5 = .ok (.imul, 1) := by decide +kernel
theorem dX2_slot_6 : decode cX2_slot 6 = .ok (.iload_n 1, 1) := by decide +kernel
theorem dX2_slot_7 : decode cX2_slot 7 = .ok (.iadd, 1) := by decide +kernel
theorem dX2_slot_8 : decode cX2_slot 8 = .ok (.ireturn, 1) := by decide +kernel
theorem dX2_hasEdition_0 : decode cX2_hasEdition 0 = .ok (.iload_n 1, 1) := by decide +kernel
theorem dX2_hasEdition_1 : decode cX2_hasEdition 1 = .ok (.iconst 1, 1) := by decide +kernel
theorem dX2_hasEdition_2 : decode cX2_hasEdition 2 = .ok (.if_icmp .lt 15, 3) := by decide +kernel
theorem dX2_hasEdition_5 : decode cX2_hasEdition 5 = .ok (.iload_n 1, 1) := by decide +kernel
theorem dX2_hasEdition_6 : decode cX2_hasEdition 6 = .ok (.aload_n 0, 1) := by decide +kernel
theorem dX2_hasEdition_7 : decode cX2_hasEdition 7 = .ok (.getfield 30, 3) := by decide +kernel
theorem dX2_hasEdition_10 : decode cX2_hasEdition 10 = .ok (.if_icmp .gt 7, 3) := by decide +kernel
theorem dX2_hasEdition_13 : decode cX2_hasEdition 13 = .ok (.iconst 1, 1) := by decide +kernel
theorem dX2_hasEdition_14 : decode cX2_hasEdition 14 = .ok (.goto 4, 3) := by decide +kernel
theorem dX2_hasEdition_17 : decode cX2_hasEdition 17 = .ok (.iconst 0, 1) := by decide +kernel
theorem dX2_hasEdition_18 : decode cX2_hasEdition 18 = .ok (.ireturn, 1) := by decide +kernel
theorem dX2_find_0 : decode cX2_find 0 = .ok (.iconst 0, 1) := by decide +kernel
theorem dX2_find_1 : decode cX2_find 1 = .ok (.istore_n 2, 1) := by decide +kernel
theorem dX2_find_2 : decode cX2_find 2 = .ok (.iload_n 2, 1) := by decide +kernel
theorem dX2_find_3 : decode cX2_find 3 = .ok (.aload_n 0, 1) := by decide +kernel
theorem dX2_find_4 : decode cX2_find 4 = .ok (.getfield 38, 3) := by decide +kernel
theorem dX2_find_7 : decode cX2_find 7 = .ok (.if_icmp .ge 21, 3) := by decide +kernel
theorem dX2_find_10 : decode cX2_find 10 = .ok (.aload_n 0, 1) := by decide +kernel
theorem dX2_find_11 : decode cX2_find 11 = .ok (.getfield 9, 3) := by decide +kernel
theorem dX2_find_14 : decode cX2_find 14 = .ok (.iload_n 2, 1) := by decide +kernel
theorem dX2_find_15 : decode cX2_find 15 = .ok (.iaload, 1) := by decide +kernel
theorem dX2_find_16 : decode cX2_find 16 = .ok (.iload_n 1, 1) := by decide +kernel
theorem dX2_find_17 : decode cX2_find 17 = .ok (.if_icmp .ne 5, 3) := by decide +kernel
theorem dX2_find_20 : decode cX2_find 20 = .ok (.iload_n 2, 1) := by decide +kernel
theorem dX2_find_21 : decode cX2_find 21 = .ok (.ireturn, 1) := by decide +kernel
theorem dX2_find_22 : decode cX2_find 22 = .ok (.iinc 2 1, 3) := by decide +kernel
theorem dX2_find_25 : decode cX2_find 25 = .ok (.goto (-23), 3) := by decide +kernel
theorem dX2_find_28 : decode cX2_find 28 = .ok (.iconst (-1), 1) := by decide +kernel
theorem dX2_find_29 : decode cX2_find 29 = .ok (.ireturn, 1) := by decide +kernel
theorem dX2_insert_0 : decode cX2_insert 0 = .ok (.aload_n 0, 1) := by decide +kernel
theorem dX2_insert_1 : decode cX2_insert 1 = .ok (.getfield 38, 3) := by decide +kernel
theorem dX2_insert_4 : decode cX2_insert 4 = .ok (.bipush 20, 2) := by decide +kernel
theorem dX2_insert_6 : decode cX2_insert 6 = .ok (.if_icmp .lt 4, 3) := by decide +kernel
theorem dX2_insert_9 : decode cX2_insert 9 = .ok (.return_, 1) := by decide +kernel
theorem dX2_insert_10 : decode cX2_insert 10 = .ok (.aload_n 0, 1) := by decide +kernel
theorem dX2_insert_11 : decode cX2_insert 11 = .ok (.getfield 38, 3) := by decide +kernel
theorem dX2_insert_14 : decode cX2_insert 14 = .ok (.istore_n 3, 1) := by decide +kernel
theorem dX2_insert_15 : decode cX2_insert 15 = .ok (.iload_n 3, 1) := by decide +kernel
theorem dX2_insert_16 : decode cX2_insert 16 = .ok (.ifCond .le 71, 3) := by decide +kernel
theorem dX2_insert_19 : decode cX2_insert 19 = .ok (.aload_n 0, 1) := by decide +kernel
theorem dX2_insert_20 : decode cX2_insert 20 = .ok (.getfield 9, 3) := by decide +kernel
theorem dX2_insert_23 : decode cX2_insert 23 = .ok (.iload_n 3, 1) := by decide +kernel
theorem dX2_insert_24 : decode cX2_insert 24 = .ok (.iconst 1, 1) := by decide +kernel
theorem dX2_insert_25 : decode cX2_insert 25 = .ok (.isub, 1) := by decide +kernel
theorem dX2_insert_26 : decode cX2_insert 26 = .ok (.iaload, 1) := by decide +kernel
theorem dX2_insert_27 : decode cX2_insert 27 = .ok (.iload_n 1, 1) := by decide +kernel
theorem dX2_insert_28 : decode cX2_insert 28 = .ok (.if_icmp .le 59, 3) := by decide +kernel
theorem dX2_insert_31 : decode cX2_insert 31 = .ok (.aload_n 0, 1) := by decide +kernel
theorem dX2_insert_32 : decode cX2_insert 32 = .ok (.getfield 9, 3) := by decide +kernel
theorem dX2_insert_35 : decode cX2_insert 35 = .ok (.iload_n 3, 1) := by decide +kernel
theorem dX2_insert_36 : decode cX2_insert 36 = .ok (.aload_n 0, 1) := by decide +kernel
theorem dX2_insert_37 : decode cX2_insert 37 = .ok (.getfield 9, 3) := by decide +kernel
theorem dX2_insert_40 : decode cX2_insert 40 = .ok (.iload_n 3, 1) := by decide +kernel
theorem dX2_insert_41 : decode cX2_insert 41 = .ok (.iconst 1, 1) := by decide +kernel
theorem dX2_insert_42 : decode cX2_insert 42 = .ok (.isub, 1) := by decide +kernel
theorem dX2_insert_43 : decode cX2_insert 43 = .ok (.iaload, 1) := by decide +kernel
theorem dX2_insert_44 : decode cX2_insert 44 = .ok (.iastore, 1) := by decide +kernel
theorem dX2_insert_45 : decode cX2_insert 45 = .ok (.aload_n 0, 1) := by decide +kernel
theorem dX2_insert_46 : decode cX2_insert 46 = .ok (.getfield 15, 3) := by decide +kernel
theorem dX2_insert_49 : decode cX2_insert 49 = .ok (.iload_n 3, 1) := by decide +kernel
theorem dX2_insert_50 : decode cX2_insert 50 = .ok (.aload_n 0, 1) := by decide +kernel
theorem dX2_insert_51 : decode cX2_insert 51 = .ok (.getfield 15, 3) := by decide +kernel
theorem dX2_insert_54 : decode cX2_insert 54 = .ok (.iload_n 3, 1) := by decide +kernel
theorem dX2_insert_55 : decode cX2_insert 55 = .ok (.iconst 1, 1) := by decide +kernel
theorem dX2_insert_56 : decode cX2_insert 56 = .ok (.isub, 1) := by decide +kernel
theorem dX2_insert_57 : decode cX2_insert 57 = .ok (.iaload, 1) := by decide +kernel
theorem dX2_insert_58 : decode cX2_insert 58 = .ok (.iastore, 1) := by decide +kernel
theorem dX2_insert_59 : decode cX2_insert 59 = .ok (.aload_n 0, 1) := by decide +kernel
theorem dX2_insert_60 : decode cX2_insert 60 = .ok (.getfield 24, 3) := by decide +kernel
theorem dX2_insert_63 : decode cX2_insert 63 = .ok (.iconst 1, 1) := by decide +kernel
theorem dX2_insert_64 : decode cX2_insert 64 = .ok (.iload_n 3, 1) := by decide +kernel
theorem dX2_insert_65 : decode cX2_insert 65 = .ok (.invokestatic 41, 3) := by decide +kernel
theorem dX2_insert_68 : decode cX2_insert 68 = .ok (.aload_n 0, 1) := by decide +kernel
theorem dX2_insert_69 : decode cX2_insert 69 = .ok (.getfield 24, 3) := by decide +kernel
theorem dX2_insert_72 : decode cX2_insert 72 = .ok (.iconst 1, 1) := by decide +kernel
theorem dX2_insert_73 : decode cX2_insert 73 = .ok (.iload_n 3, 1) := by decide +kernel
theorem dX2_insert_74 : decode cX2_insert 74 = .ok (.iconst 1, 1) := by decide +kernel
theorem dX2_insert_75 : decode cX2_insert 75 = .ok (.isub, 1) := by decide +kernel
theorem dX2_insert_76 : decode cX2_insert 76 = .ok (.invokestatic 41, 3) := by decide +kernel
theorem dX2_insert_79 : decode cX2_insert 79 = .ok (.iaload, 1) := by decide +kernel
theorem dX2_insert_80 : decode cX2_insert 80 = .ok (.iastore, 1) := by decide +kernel
theorem dX2_insert_81 : decode cX2_insert 81 = .ok (.iinc 3 (-1), 3) := by decide +kernel
theorem dX2_insert_84 : decode cX2_insert 84 = .ok (.goto (-69), 3) := by decide +kernel
theorem dX2_insert_87 : decode cX2_insert 87 = .ok (.aload_n 0, 1) := by decide +kernel
theorem dX2_insert_88 : decode cX2_insert 88 = .ok (.getfield 9, 3) := by decide +kernel
theorem dX2_insert_91 : decode cX2_insert 91 = .ok (.iload_n 3, 1) := by decide +kernel
theorem dX2_insert_92 : decode cX2_insert 92 = .ok (.iload_n 1, 1) := by decide +kernel
theorem dX2_insert_93 : decode cX2_insert 93 = .ok (.iastore, 1) := by decide +kernel
theorem dX2_insert_94 : decode cX2_insert 94 = .ok (.aload_n 0, 1) := by decide +kernel
theorem dX2_insert_95 : decode cX2_insert 95 = .ok (.getfield 15, 3) := by decide +kernel
theorem dX2_insert_98 : decode cX2_insert 98 = .ok (.iload_n 3, 1) := by decide +kernel
theorem dX2_insert_99 : decode cX2_insert 99 = .ok (.iload_n 2, 1) := by decide +kernel
theorem dX2_insert_100 : decode cX2_insert 100 = .ok (.iastore, 1) := by decide +kernel
theorem dX2_insert_101 : decode cX2_insert 101 = .ok (.aload_n 0, 1) := by decide +kernel
theorem dX2_insert_102 : decode cX2_insert 102 = .ok (.getfield 24, 3) := by decide +kernel
theorem dX2_insert_105 : decode cX2_insert 105 = .ok (.iconst 1, 1) := by decide +kernel
theorem dX2_insert_106 : decode cX2_insert 106 = .ok (.iload_n 3, 1) := by decide +kernel
theorem dX2_insert_107 : decode cX2_insert 107 = .ok (.invokestatic 41, 3) := by decide +kernel
theorem dX2_insert_110 : decode cX2_insert 110 = .ok (.iload_n 2, 1) := by decide +kernel
theorem dX2_insert_111 : decode cX2_insert 111 = .ok (.iastore, 1) := by decide +kernel
theorem dX2_insert_112 : decode cX2_insert 112 = .ok (.aload_n 0, 1) := by decide +kernel
theorem dX2_insert_113 : decode cX2_insert 113 = .ok (.dup, 1) := by decide +kernel
theorem dX2_insert_114 : decode cX2_insert 114 = .ok (.getfield 38, 3) := by decide +kernel
theorem dX2_insert_117 : decode cX2_insert 117 = .ok (.iconst 1, 1) := by decide +kernel
theorem dX2_insert_118 : decode cX2_insert 118 = .ok (.iadd, 1) := by decide +kernel
theorem dX2_insert_119 : decode cX2_insert 119 = .ok (.putfield 38, 3) := by decide +kernel
theorem dX2_insert_122 : decode cX2_insert 122 = .ok (.return_, 1) := by decide +kernel
theorem dX2_canGet_0 : decode cX2_canGet 0 = .ok (.aload_n 0, 1) := by decide +kernel
theorem dX2_canGet_1 : decode cX2_canGet 1 = .ok (.getfield 15, 3) := by decide +kernel
theorem dX2_canGet_4 : decode cX2_canGet 4 = .ok (.iload_n 1, 1) := by decide +kernel
theorem dX2_canGet_5 : decode cX2_canGet 5 = .ok (.iaload, 1) := by decide +kernel
theorem dX2_canGet_6 : decode cX2_canGet 6 = .ok (.aload_n 0, 1) := by decide +kernel
theorem dX2_canGet_7 : decode cX2_canGet 7 = .ok (.getfield 18, 3) := by decide +kernel
theorem dX2_canGet_10 : decode cX2_canGet 10 = .ok (.iload_n 1, 1) := by decide +kernel
theorem dX2_canGet_11 : decode cX2_canGet 11 = .ok (.iaload, 1) := by decide +kernel
theorem dX2_canGet_12 : decode cX2_canGet 12 = .ok (.if_icmp .eq 13, 3) := by decide +kernel
theorem dX2_canGet_15 : decode cX2_canGet 15 = .ok (.aload_n 0, 1) := by decide +kernel
theorem dX2_canGet_16 : decode cX2_canGet 16 = .ok (.getfield 15, 3) := by decide +kernel
theorem dX2_canGet_19 : decode cX2_canGet 19 = .ok (.iload_n 1, 1) := by decide +kernel
theorem dX2_canGet_20 : decode cX2_canGet 20 = .ok (.iaload, 1) := by decide +kernel
theorem dX2_canGet_21 : decode cX2_canGet 21 = .ok (.iload_n 2, 1) := by decide +kernel
theorem dX2_canGet_22 : decode cX2_canGet 22 = .ok (.if_icmp .ne 7, 3) := by decide +kernel
theorem dX2_canGet_25 : decode cX2_canGet 25 = .ok (.iconst 1, 1) := by decide +kernel
theorem dX2_canGet_26 : decode cX2_canGet 26 = .ok (.goto 4, 3) := by decide +kernel
theorem dX2_canGet_29 : decode cX2_canGet 29 = .ok (.iconst 0, 1) := by decide +kernel
theorem dX2_canGet_30 : decode cX2_canGet 30 = .ok (.ireturn, 1) := by decide +kernel
theorem dX2_isChanged_0 : decode cX2_isChanged 0 = .ok (.iconst 0, 1) := by decide +kernel
theorem dX2_isChanged_1 : decode cX2_isChanged 1 = .ok (.istore_n 1, 1) := by decide +kernel
theorem dX2_isChanged_2 : decode cX2_isChanged 2 = .ok (.iload_n 1, 1) := by decide +kernel
theorem dX2_isChanged_3 : decode cX2_isChanged 3 = .ok (.aload_n 0, 1) := by decide +kernel
theorem dX2_isChanged_4 : decode cX2_isChanged 4 = .ok (.getfield 38, 3) := by decide +kernel
theorem dX2_isChanged_7 : decode cX2_isChanged 7 = .ok (.if_icmp .ge 33, 3) := by decide +kernel
theorem dX2_isChanged_10 : decode cX2_isChanged 10 = .ok (.aload_n 0, 1) := by decide +kernel
theorem dX2_isChanged_11 : decode cX2_isChanged 11 = .ok (.getfield 15, 3) := by decide +kernel
theorem dX2_isChanged_14 : decode cX2_isChanged 14 = .ok (.iload_n 1, 1) := by decide +kernel
theorem dX2_isChanged_15 : decode cX2_isChanged 15 = .ok (.iaload, 1) := by decide +kernel
theorem dX2_isChanged_16 : decode cX2_isChanged 16 = .ok (.aload_n 0, 1) := by decide +kernel
theorem dX2_isChanged_17 : decode cX2_isChanged 17 = .ok (.getfield 24, 3) := by decide +kernel
theorem dX2_isChanged_20 : decode cX2_isChanged 20 = .ok (.aload_n 0, 1) := by decide +kernel
theorem dX2_isChanged_21 : decode cX2_isChanged 21 = .ok (.getfield 30, 3) := by decide +kernel
theorem dX2_isChanged_24 : decode cX2_isChanged 24 = .ok (.iload_n 1, 1) := by decide +kernel
theorem dX2_isChanged_25 : decode cX2_isChanged 25 = .ok (.invokestatic 41, 3) := by decide +kernel
theorem dX2_isChanged_28 : decode cX2_isChanged 28 = .ok (.iaload, 1) := by decide +kernel
theorem dX2_isChanged_29 : decode cX2_isChanged 29 = .ok (.if_icmp .eq 5, 3) := by decide +kernel
theorem dX2_isChanged_32 : decode cX2_isChanged 32 = .ok (.iconst 1, 1) := by decide +kernel
theorem dX2_isChanged_33 : decode cX2_isChanged 33 = .ok (.ireturn, 1) := by decide +kernel
theorem dX2_isChanged_34 : decode cX2_isChanged 34 = .ok (.iinc 1 1, 3) := by decide +kernel
theorem dX2_isChanged_37 : decode cX2_isChanged 37 = .ok (.goto (-35), 3) := by decide +kernel
theorem dX2_isChanged_40 : decode cX2_isChanged 40 = .ok (.iconst 0, 1) := by decide +kernel
theorem dX2_isChanged_41 : decode cX2_isChanged 41 = .ok (.ireturn, 1) := by decide +kernel
theorem dX2_differs_0 : decode cX2_differs 0 = .ok (.iload_n 1, 1) := by decide +kernel
theorem dX2_differs_1 : decode cX2_differs 1 = .ok (.iconst 1, 1) := by decide +kernel
theorem dX2_differs_2 : decode cX2_differs 2 = .ok (.if_icmp .le 32, 3) := by decide +kernel
theorem dX2_differs_5 : decode cX2_differs 5 = .ok (.aload_n 0, 1) := by decide +kernel
theorem dX2_differs_6 : decode cX2_differs 6 = .ok (.getfield 24, 3) := by decide +kernel
theorem dX2_differs_9 : decode cX2_differs 9 = .ok (.iload_n 1, 1) := by decide +kernel
theorem dX2_differs_10 : decode cX2_differs 10 = .ok (.iload_n 2, 1) := by decide +kernel
theorem dX2_differs_11 : decode cX2_differs 11 = .ok (.invokestatic 41, 3) := by decide +kernel
theorem dX2_differs_14 : decode cX2_differs 14 = .ok (.iaload, 1) := by decide +kernel
theorem dX2_differs_15 : decode cX2_differs 15 = .ok (.aload_n 0, 1) := by decide +kernel
theorem dX2_differs_16 : decode cX2_differs 16 = .ok (.getfield 24, 3) := by decide +kernel
theorem dX2_differs_19 : decode cX2_differs 19 = .ok (.iload_n 1, 1) := by decide +kernel
theorem dX2_differs_20 : decode cX2_differs 20 = .ok (.iconst 1, 1) := by decide +kernel
theorem dX2_differs_21 : decode cX2_differs 21 = .ok (.isub, 1) := by decide +kernel
theorem dX2_differs_22 : decode cX2_differs 22 = .ok (.iload_n 2, 1) := by decide +kernel
theorem dX2_differs_23 : decode cX2_differs 23 = .ok (.invokestatic 41, 3) := by decide +kernel
theorem dX2_differs_26 : decode cX2_differs 26 = .ok (.iaload, 1) := by decide +kernel
theorem dX2_differs_27 : decode cX2_differs 27 = .ok (.if_icmp .eq 7, 3) := by decide +kernel
theorem dX2_differs_30 : decode cX2_differs 30 = .ok (.iconst 1, 1) := by decide +kernel
theorem dX2_differs_31 : decode cX2_differs 31 = .ok (.goto 4, 3) := by decide +kernel
theorem dX2_differs_34 : decode cX2_differs 34 = .ok (.iconst 0, 1) := by decide +kernel
theorem dX2_differs_35 : decode cX2_differs 35 = .ok (.ireturn, 1) := by decide +kernel
theorem dX2_changesOf_0 : decode cX2_changesOf 0 = .ok (.iconst 0, 1) := by decide +kernel
theorem dX2_changesOf_1 : decode cX2_changesOf 1 = .ok (.istore_n 2, 1) := by decide +kernel
theorem dX2_changesOf_2 : decode cX2_changesOf 2 = .ok (.iconst 0, 1) := by decide +kernel
theorem dX2_changesOf_3 : decode cX2_changesOf 3 = .ok (.istore_n 3, 1) := by decide +kernel
theorem dX2_changesOf_4 : decode cX2_changesOf 4 = .ok (.iload_n 3, 1) := by decide +kernel
theorem dX2_changesOf_5 : decode cX2_changesOf 5 = .ok (.aload_n 0, 1) := by decide +kernel
theorem dX2_changesOf_6 : decode cX2_changesOf 6 = .ok (.getfield 38, 3) := by decide +kernel
theorem dX2_changesOf_9 : decode cX2_changesOf 9 = .ok (.if_icmp .ge 21, 3) := by decide +kernel
theorem dX2_changesOf_12 : decode cX2_changesOf 12 = .ok (.aload_n 0, 1) := by decide +kernel
theorem dX2_changesOf_13 : decode cX2_changesOf 13 = .ok (.iload_n 1, 1) := by decide +kernel
theorem dX2_changesOf_14 : decode cX2_changesOf 14 = .ok (.iload_n 3, 1) := by decide +kernel
theorem dX2_changesOf_15 : decode cX2_changesOf 15 = .ok (.invokevirtual 45, 3) := by decide +kernel
theorem dX2_changesOf_18 : decode cX2_changesOf 18 = .ok (.ifCond .eq 6, 3) := by decide +kernel
theorem dX2_changesOf_21 : decode cX2_changesOf 21 = .ok (.iinc 2 1, 3) := by decide +kernel
theorem dX2_changesOf_24 : decode cX2_changesOf 24 = .ok (.iinc 3 1, 3) := by decide +kernel
theorem dX2_changesOf_27 : decode cX2_changesOf 27 = .ok (.goto (-23), 3) := by decide +kernel
theorem dX2_changesOf_30 : decode cX2_changesOf 30 = .ok (.iload_n 2, 1) := by decide +kernel
theorem dX2_changesOf_31 : decode cX2_changesOf 31 = .ok (.ireturn, 1) := by decide +kernel
theorem dX2_placeOfChange_0 : decode cX2_placeOfChange 0 = .ok (.iconst 0, 1) := by decide +kernel
theorem dX2_placeOfChange_1 : decode cX2_placeOfChange 1 = .ok (.istore_n 3, 1) := by decide +kernel
theorem dX2_placeOfChange_2 : decode cX2_placeOfChange 2 = .ok (.iconst 0, 1) := by decide +kernel
theorem dX2_placeOfChange_3 : decode cX2_placeOfChange 3 = .ok (.istore 4, 2) := by decide +kernel
theorem dX2_placeOfChange_5 : decode cX2_placeOfChange 5 = .ok (.iload 4, 2) := by decide +kernel
theorem dX2_placeOfChange_7 : decode cX2_placeOfChange 7 = .ok (.aload_n 0, 1) := by decide +kernel
theorem dX2_placeOfChange_8 : decode cX2_placeOfChange 8 = .ok (.getfield 38, 3) := by decide +kernel
theorem dX2_placeOfChange_11 : decode cX2_placeOfChange 11 = .ok (.if_icmp .ge 30, 3) := by decide +kernel
theorem dX2_placeOfChange_14 : decode cX2_placeOfChange 14 = .ok (.aload_n 0, 1) := by decide +kernel
theorem dX2_placeOfChange_15 : decode cX2_placeOfChange 15 = .ok (.iload_n 1, 1) := by decide +kernel
theorem dX2_placeOfChange_16 : decode cX2_placeOfChange 16 = .ok (.iload 4, 2) := by decide +kernel
theorem dX2_placeOfChange_18 : decode cX2_placeOfChange 18 = .ok (.invokevirtual 45, 3) := by decide +kernel
theorem dX2_placeOfChange_21 : decode cX2_placeOfChange 21 = .ok (.ifCond .eq 14, 3) := by decide +kernel
theorem dX2_placeOfChange_24 : decode cX2_placeOfChange 24 = .ok (.iload_n 3, 1) := by decide +kernel
theorem dX2_placeOfChange_25 : decode cX2_placeOfChange 25 = .ok (.iload_n 2, 1) := by decide +kernel
theorem dX2_placeOfChange_26 : decode cX2_placeOfChange 26 = .ok (.if_icmp .ne 6, 3) := by decide +kernel
theorem dX2_placeOfChange_29 : decode cX2_placeOfChange 29 = .ok (.iload 4, 2) := by decide +kernel
theorem dX2_placeOfChange_31 : decode cX2_placeOfChange 31 = .ok (.ireturn, 1) := by decide +kernel
theorem dX2_placeOfChange_32 : decode cX2_placeOfChange 32 = .ok (.iinc 3 1, 3) := by decide +kernel
theorem dX2_placeOfChange_35 : decode cX2_placeOfChange 35 = .ok (.iinc 4 1, 3) := by decide +kernel
theorem dX2_placeOfChange_38 : decode cX2_placeOfChange 38 = .ok (.goto (-33), 3) := by decide +kernel
theorem dX2_placeOfChange_41 : decode cX2_placeOfChange 41 = .ok (.iconst (-1), 1) := by decide +kernel
theorem dX2_placeOfChange_42 : decode cX2_placeOfChange 42 = .ok (.ireturn, 1) := by decide +kernel
theorem dX3_init_0 : decode cX3_init 0 = .ok (.aload_n 0, 1) := by decide +kernel
theorem dX3_init_1 : decode cX3_init 1 = .ok (.invokespecial 3, 3) := by decide +kernel
theorem dX3_init_4 : decode cX3_init 4 = .ok (.aload_n 0, 1) := by decide +kernel
theorem dX3_init_5 : decode cX3_init 5 = .ok (.iconst 4, 1) := by decide +kernel
theorem dX3_init_6 : decode cX3_init 6 = .ok (.anewarray 9, 3) := by decide +kernel
theorem dX3_init_9 : decode cX3_init 9 = .ok (.putfield 11, 3) := by decide +kernel
theorem dX3_init_12 : decode cX3_init 12 = .ok (.iconst 0, 1) := by decide +kernel
theorem dX3_init_13 : decode cX3_init 13 = .ok (.istore_n 1, 1) := by decide +kernel
theorem dX3_init_14 : decode cX3_init 14 = .ok (.iload_n 1, 1) := by decide +kernel
theorem dX3_init_15 : decode cX3_init 15 = .ok (.iconst 4, 1) := by decide +kernel
theorem dX3_init_16 : decode cX3_init 16 = .ok (.if_icmp .ge 22, 3) := by decide +kernel
theorem dX3_init_19 : decode cX3_init 19 = .ok (.aload_n 0, 1) := by decide +kernel
theorem dX3_init_20 : decode cX3_init 20 = .ok (.getfield 11, 3) := by decide +kernel
theorem dX3_init_23 : decode cX3_init 23 = .ok (.iload_n 1, 1) := by decide +kernel
theorem dX3_init_24 : decode cX3_init 24 = .ok (.new 9, 3) := by decide +kernel
theorem dX3_init_27 : decode cX3_init 27 = .ok (.dup, 1) := by decide +kernel
theorem dX3_init_28 : decode cX3_init 28 = .ok (.invokespecial 17, 3) := by decide +kernel
theorem dX3_init_31 : decode cX3_init 31 = .ok (.aastore, 1) := by decide +kernel
theorem dX3_init_32 : decode cX3_init 32 = .ok (.iinc 1 1, 3) := by decide +kernel
theorem dX3_init_35 : decode cX3_init 35 = .ok (.goto (-21), 3) := by decide +kernel
theorem dX3_init_38 : decode cX3_init 38 = .ok (.return_, 1) := by decide +kernel
theorem dX3_keep_0 : decode cX3_keep 0 = .ok (.aload_n 0, 1) := by decide +kernel
theorem dX3_keep_1 : decode cX3_keep 1 = .ok (.getfield 11, 3) := by decide +kernel
theorem dX3_keep_4 : decode cX3_keep 4 = .ok (.aload_n 0, 1) := by decide +kernel
theorem dX3_keep_5 : decode cX3_keep 5 = .ok (.getfield 18, 3) := by decide +kernel
theorem dX3_keep_8 : decode cX3_keep 8 = .ok (.aload_n 0, 1) := by decide +kernel
theorem dX3_keep_9 : decode cX3_keep 9 = .ok (.getfield 22, 3) := by decide +kernel
theorem dX3_keep_12 : decode cX3_keep 12 = .ok (.iadd, 1) := by decide +kernel
theorem dX3_keep_13 : decode cX3_keep 13 = .ok (.iconst 4, 1) := by decide +kernel
theorem dX3_keep_14 : decode cX3_keep 14 = .ok (.irem, 1) := by decide +kernel
theorem dX3_keep_15 : decode cX3_keep 15 = .ok (.aaload, 1) := by decide +kernel
theorem dX3_keep_16 : decode cX3_keep 16 = .ok (.aload_n 1, 1) := by decide +kernel
theorem dX3_keep_17 : decode cX3_keep 17 = .ok (.invokevirtual 25, 3) := by decide +kernel
theorem dX3_keep_20 : decode cX3_keep 20 = .ok (.aload_n 0, 1) := by decide +kernel
theorem dX3_keep_21 : decode cX3_keep 21 = .ok (.getfield 22, 3) := by decide +kernel
theorem dX3_keep_24 : decode cX3_keep 24 = .ok (.iconst 4, 1) := by decide +kernel
theorem dX3_keep_25 : decode cX3_keep 25 = .ok (.if_icmp .ge 16, 3) := by decide +kernel
theorem dX3_keep_28 : decode cX3_keep 28 = .ok (.aload_n 0, 1) := by decide +kernel
theorem dX3_keep_29 : decode cX3_keep 29 = .ok (.dup, 1) := by decide +kernel
theorem dX3_keep_30 : decode cX3_keep 30 = .ok (.getfield 22, 3) := by decide +kernel
theorem dX3_keep_33 : decode cX3_keep 33 = .ok (.iconst 1, 1) := by decide +kernel
theorem dX3_keep_34 : decode cX3_keep 34 = .ok (.iadd, 1) := by decide +kernel
theorem dX3_keep_35 : decode cX3_keep 35 = .ok (.putfield 22, 3) := by decide +kernel
theorem dX3_keep_38 : decode cX3_keep 38 = .ok (.goto 15, 3) := by decide +kernel
theorem dX3_keep_41 : decode cX3_keep 41 = .ok (.aload_n 0, 1) := by decide +kernel
theorem dX3_keep_42 : decode cX3_keep 42 = .ok (.aload_n 0, 1) := by decide +kernel
theorem dX3_keep_43 : decode cX3_keep 43 = .ok (.getfield 18, 3) := by decide +kernel
theorem dX3_keep_46 : decode cX3_keep 46 = .ok (.iconst 1, 1) := by decide +kernel
theorem dX3_keep_47 : decode cX3_keep 47 = .ok (.iadd, 1) := by decide +kernel
theorem dX3_keep_48 : decode cX3_keep 48 = .ok (.iconst 4, 1) := by decide +kernel
theorem dX3_keep_49 : decode cX3_keep 49 = .ok (.irem, 1) := by decide +kernel
theorem dX3_keep_50 : decode cX3_keep 50 = .ok (.putfield 18, 3) := by decide +kernel
theorem dX3_keep_53 : decode cX3_keep 53 = .ok (.return_, 1) := by decide +kernel
theorem dX3_restore_0 : decode cX3_restore 0 = .ok (.aload_n 0, 1) := by decide +kernel
theorem dX3_restore_1 : decode cX3_restore 1 = .ok (.getfield 22, 3) := by decide +kernel
theorem dX3_restore_4 : decode cX3_restore 4 = .ok (.ifCond .le 33, 3) := by decide +kernel
theorem dX3_restore_7 : decode cX3_restore 7 = .ok (.aload_n 0, 1) := by decide +kernel
theorem dX3_restore_8 : decode cX3_restore 8 = .ok (.dup, 1) := by decide +kernel
theorem dX3_restore_9 : decode cX3_restore 9 = .ok (.getfield 22, 3) := by decide +kernel
theorem dX3_restore_12 : decode cX3_restore 12 = .ok (.iconst 1, 1) := by decide +kernel
theorem dX3_restore_13 : decode cX3_restore 13 = .ok (.isub, 1) := by decide +kernel
theorem dX3_restore_14 : decode cX3_restore 14 = .ok (.putfield 22, 3) := by decide +kernel
theorem dX3_restore_17 : decode cX3_restore 17 = .ok (.aload_n 1, 1) := by decide +kernel
theorem dX3_restore_18 : decode cX3_restore 18 = .ok (.aload_n 0, 1) := by decide +kernel
theorem dX3_restore_19 : decode cX3_restore 19 = .ok (.getfield 11, 3) := by decide +kernel
theorem dX3_restore_22 : decode cX3_restore 22 = .ok (.aload_n 0, 1) := by decide +kernel
theorem dX3_restore_23 : decode cX3_restore 23 = .ok (.getfield 18, 3) := by decide +kernel
theorem dX3_restore_26 : decode cX3_restore 26 = .ok (.aload_n 0, 1) := by decide +kernel
theorem dX3_restore_27 : decode cX3_restore 27 = .ok (.getfield 22, 3) := by decide +kernel
theorem dX3_restore_30 : decode cX3_restore 30 = .ok (.iadd, 1) := by decide +kernel
theorem dX3_restore_31 : decode cX3_restore 31 = .ok (.iconst 4, 1) := by decide +kernel
theorem dX3_restore_32 : decode cX3_restore 32 = .ok (.irem, 1) := by decide +kernel
theorem dX3_restore_33 : decode cX3_restore 33 = .ok (.aaload, 1) := by decide +kernel
theorem dX3_restore_34 : decode cX3_restore 34 = .ok (.invokevirtual 25, 3) := by decide +kernel
theorem dX3_restore_37 : decode cX3_restore 37 = .ok (.return_, 1) := by decide +kernel
theorem dX4_init_0 : decode cX4_init 0 = .ok (.aload_n 0, 1) := by decide +kernel
theorem dX4_init_1 : decode cX4_init 1 = .ok (.invokespecial 3, 3) := by decide +kernel
theorem dX4_init_4 : decode cX4_init 4 = .ok (.aload_n 0, 1) := by decide +kernel
theorem dX4_init_5 : decode cX4_init 5 = .ok (.bipush 10, 2) := by decide +kernel
theorem dX4_init_7 : decode cX4_init 7 = .ok (.newarray .int, 2) := by decide +kernel
theorem dX4_init_9 : decode cX4_init 9 = .ok (.putfield 9, 3) := by decide +kernel
theorem dX4_init_12 : decode cX4_init 12 = .ok (.aload_n 0, 1) := by decide +kernel
theorem dX4_init_13 : decode cX4_init 13 = .ok (.bipush 10, 2) := by decide +kernel
theorem dX4_init_15 : decode cX4_init 15 = .ok (.newarray .int, 2) := by decide +kernel
theorem dX4_init_17 : decode cX4_init 17 = .ok (.putfield 15, 3) := by decide +kernel
theorem dX4_init_20 : decode cX4_init 20 = .ok (.aload_n 0, 1) := by decide +kernel
theorem dX4_init_21 : decode cX4_init 21 = .ok (.bipush 10, 2) := by decide +kernel
theorem dX4_init_23 : decode cX4_init 23 = .ok (.newarray .int, 2) := by decide +kernel
theorem dX4_init_25 : decode cX4_init 25 = .ok (.putfield 18, 3) := by decide +kernel
theorem dX4_init_28 : decode cX4_init 28 = .ok (.aload_n 0, 1) := by decide +kernel
theorem dX4_init_29 : decode cX4_init 29 = .ok (.bipush 10, 2) := by decide +kernel
theorem dX4_init_31 : decode cX4_init 31 = .ok (.newarray .int, 2) := by decide +kernel
theorem dX4_init_33 : decode cX4_init 33 = .ok (.putfield 21, 3) := by decide +kernel
theorem dX4_init_36 : decode cX4_init 36 = .ok (.return_, 1) := by decide +kernel
theorem dX4_copyFrom_0 : decode cX4_copyFrom 0 = .ok (.aload_n 1, 1) := by decide +kernel
theorem dX4_copyFrom_1 : decode cX4_copyFrom 1 = .ok (.getfield 9, 3) := by decide +kernel
theorem dX4_copyFrom_4 : decode cX4_copyFrom 4 = .ok (.aload_n 0, 1) := by decide +kernel
theorem dX4_copyFrom_5 : decode cX4_copyFrom 5 = .ok (.getfield 9, 3) := by decide +kernel
theorem dX4_copyFrom_8 : decode cX4_copyFrom 8 = .ok (.invokestatic 24, 3) := by decide +kernel
theorem dX4_copyFrom_11 : decode cX4_copyFrom 11 = .ok (.aload_n 1, 1) := by decide +kernel
theorem dX4_copyFrom_12 : decode cX4_copyFrom 12 = .ok (.getfield 15, 3) := by decide +kernel
theorem dX4_copyFrom_15 : decode cX4_copyFrom 15 = .ok (.aload_n 0, 1) := by decide +kernel
theorem dX4_copyFrom_16 : decode cX4_copyFrom 16 = .ok (.getfield 15, 3) := by decide +kernel
theorem dX4_copyFrom_19 : decode cX4_copyFrom 19 = .ok (.invokestatic 24, 3) := by decide +kernel
theorem dX4_copyFrom_22 : decode cX4_copyFrom 22 = .ok (.aload_n 1, 1) := by decide +kernel
theorem dX4_copyFrom_23 : decode cX4_copyFrom 23 = .ok (.getfield 18, 3) := by decide +kernel
theorem dX4_copyFrom_26 : decode cX4_copyFrom 26 = .ok (.aload_n 0, 1) := by decide +kernel
theorem dX4_copyFrom_27 : decode cX4_copyFrom 27 = .ok (.getfield 18, 3) := by decide +kernel
theorem dX4_copyFrom_30 : decode cX4_copyFrom 30 = .ok (.invokestatic 24, 3) := by decide +kernel
theorem dX4_copyFrom_33 : decode cX4_copyFrom 33 = .ok (.aload_n 1, 1) := by decide +kernel
theorem dX4_copyFrom_34 : decode cX4_copyFrom 34 = .ok (.getfield 21, 3) := by decide +kernel
theorem dX4_copyFrom_37 : decode cX4_copyFrom 37 = .ok (.aload_n 0, 1) := by decide +kernel
theorem dX4_copyFrom_38 : decode cX4_copyFrom 38 = .ok (.getfield 21, 3) := by decide +kernel
theorem dX4_copyFrom_41 : decode cX4_copyFrom 41 = .ok (.invokestatic 24, 3) := by decide +kernel
theorem dX4_copyFrom_44 : decode cX4_copyFrom 44 = .ok (.aload_n 0, 1) := by decide +kernel
theorem dX4_copyFrom_45 : decode cX4_copyFrom 45 = .ok (.aload_n 1, 1) := by decide +kernel
theorem dX4_copyFrom_46 : decode cX4_copyFrom 46 = .ok (.getfield 28, 3) := by decide +kernel
theorem dX4_copyFrom_49 : decode cX4_copyFrom 49 = .ok (.putfield 28, 3) := by decide +kernel
theorem dX4_copyFrom_52 : decode cX4_copyFrom 52 = .ok (.return_, 1) := by decide +kernel
theorem dX4_has_0 : decode cX4_has 0 = .ok (.iload_n 1, 1) := by decide +kernel
theorem dX4_has_1 : decode cX4_has 1 = .ok (.ifCond .lt 15, 3) := by decide +kernel
theorem dX4_has_4 : decode cX4_has 4 = .ok (.iload_n 1, 1) := by decide +kernel
theorem dX4_has_5 : decode cX4_has 5 = .ok (.aload_n 0, 1) := by decide +kernel
theorem dX4_has_6 : decode cX4_has 6 = .ok (.getfield 28, 3) := by decide +kernel
theorem dX4_has_9 : decode cX4_has 9 = .ok (.if_icmp .ge 7, 3) := by decide +kernel
theorem dX4_has_12 : decode cX4_has 12 = .ok (.iconst 1, 1) := by decide +kernel
theorem dX4_has_13 : decode cX4_has 13 = .ok (.goto 4, 3) := by decide +kernel
theorem dX4_has_16 : decode cX4_has 16 = .ok (.iconst 0, 1) := by decide +kernel
theorem dX4_has_17 : decode cX4_has 17 = .ok (.ireturn, 1) := by decide +kernel
theorem dX4_hasVoted_0 : decode cX4_hasVoted 0 = .ok (.aload_n 0, 1) := by decide +kernel
theorem dX4_hasVoted_1 : decode cX4_hasVoted 1 = .ok (.getfield 18, 3) := by decide +kernel
theorem dX4_hasVoted_4 : decode cX4_hasVoted 4 = .ok (.iload_n 1, 1) := by decide +kernel
theorem dX4_hasVoted_5 : decode cX4_hasVoted 5 = .ok (.iaload, 1) := by decide +kernel
theorem dX4_hasVoted_6 : decode cX4_hasVoted 6 = .ok (.iconst (-1), 1) := by decide +kernel
theorem dX4_hasVoted_7 : decode cX4_hasVoted 7 = .ok (.if_icmp .eq 7, 3) := by decide +kernel
theorem dX4_hasVoted_10 : decode cX4_hasVoted 10 = .ok (.iconst 1, 1) := by decide +kernel
theorem dX4_hasVoted_11 : decode cX4_hasVoted 11 = .ok (.goto 4, 3) := by decide +kernel
theorem dX4_hasVoted_14 : decode cX4_hasVoted 14 = .ok (.iconst 0, 1) := by decide +kernel
theorem dX4_hasVoted_15 : decode cX4_hasVoted 15 = .ok (.ireturn, 1) := by decide +kernel
theorem dX4_isSet_0 : decode cX4_isSet 0 = .ok (.iload_n 1, 1) := by decide +kernel
theorem dX4_isSet_1 : decode cX4_isSet 1 = .ok (.ifCond .lt 17, 3) := by decide +kernel
theorem dX4_isSet_4 : decode cX4_isSet 4 = .ok (.iload_n 1, 1) := by decide +kernel
theorem dX4_isSet_5 : decode cX4_isSet 5 = .ok (.iconst 1, 1) := by decide +kernel
theorem dX4_isSet_6 : decode cX4_isSet 6 = .ok (.aload_n 0, 1) := by decide +kernel
theorem dX4_isSet_7 : decode cX4_isSet 7 = .ok (.getfield 28, 3) := by decide +kernel
theorem dX4_isSet_10 : decode cX4_isSet 10 = .ok (.ishl, 1) := by decide +kernel
theorem dX4_isSet_11 : decode cX4_isSet 11 = .ok (.if_icmp .ge 7, 3) := by decide +kernel
theorem dX4_isSet_14 : decode cX4_isSet 14 = .ok (.iconst 1, 1) := by decide +kernel
theorem dX4_isSet_15 : decode cX4_isSet 15 = .ok (.goto 4, 3) := by decide +kernel
theorem dX4_isSet_18 : decode cX4_isSet 18 = .ok (.iconst 0, 1) := by decide +kernel
theorem dX4_isSet_19 : decode cX4_isSet 19 = .ok (.ireturn, 1) := by decide +kernel
theorem dX4_append_0 : decode cX4_append 0 = .ok (.aload_n 0, 1) := by decide +kernel
theorem dX4_append_1 : decode cX4_append 1 = .ok (.getfield 28, 3) := by decide +kernel
theorem dX4_append_4 : decode cX4_append 4 = .ok (.bipush 10, 2) := by decide +kernel
theorem dX4_append_6 : decode cX4_append 6 = .ok (.if_icmp .lt 5, 3) := by decide +kernel
theorem dX4_append_9 : decode cX4_append 9 = .ok (.iconst (-1), 1) := by decide +kernel
theorem dX4_append_10 : decode cX4_append 10 = .ok (.ireturn, 1) := by decide +kernel
theorem dX4_append_11 : decode cX4_append 11 = .ok (.aload_n 0, 1) := by decide +kernel
theorem dX4_append_12 : decode cX4_append 12 = .ok (.getfield 9, 3) := by decide +kernel
theorem dX4_append_15 : decode cX4_append 15 = .ok (.aload_n 0, 1) := by decide +kernel
theorem dX4_append_16 : decode cX4_append 16 = .ok (.getfield 28, 3) := by decide +kernel
theorem dX4_append_19 : decode cX4_append 19 = .ok (.iload_n 1, 1) := by decide +kernel
theorem dX4_append_20 : decode cX4_append 20 = .ok (.iastore, 1) := by decide +kernel
theorem dX4_append_21 : decode cX4_append 21 = .ok (.aload_n 0, 1) := by decide +kernel
theorem dX4_append_22 : decode cX4_append 22 = .ok (.getfield 15, 3) := by decide +kernel
theorem dX4_append_25 : decode cX4_append 25 = .ok (.aload_n 0, 1) := by decide +kernel
theorem dX4_append_26 : decode cX4_append 26 = .ok (.getfield 28, 3) := by decide +kernel
theorem dX4_append_29 : decode cX4_append 29 = .ok (.iconst 0, 1) := by decide +kernel
theorem dX4_append_30 : decode cX4_append 30 = .ok (.iastore, 1) := by decide +kernel
theorem dX4_append_31 : decode cX4_append 31 = .ok (.aload_n 0, 1) := by decide +kernel
theorem dX4_append_32 : decode cX4_append 32 = .ok (.getfield 18, 3) := by decide +kernel
theorem dX4_append_35 : decode cX4_append 35 = .ok (.aload_n 0, 1) := by decide +kernel
theorem dX4_append_36 : decode cX4_append 36 = .ok (.getfield 28, 3) := by decide +kernel
theorem dX4_append_39 : decode cX4_append 39 = .ok (.iconst (-1), 1) := by decide +kernel
theorem dX4_append_40 : decode cX4_append 40 = .ok (.iastore, 1) := by decide +kernel
theorem dX4_append_41 : decode cX4_append 41 = .ok (.aload_n 0, 1) := by decide +kernel
theorem dX4_append_42 : decode cX4_append 42 = .ok (.getfield 21, 3) := by decide +kernel
theorem dX4_append_45 : decode cX4_append 45 = .ok (.aload_n 0, 1) := by decide +kernel
theorem dX4_append_46 : decode cX4_append 46 = .ok (.getfield 28, 3) := by decide +kernel
theorem dX4_append_49 : decode cX4_append 49 = .ok (.iconst 0, 1) := by decide +kernel
theorem dX4_append_50 : decode cX4_append 50 = .ok (.iastore, 1) := by decide +kernel
theorem dX4_append_51 : decode cX4_append 51 = .ok (.aload_n 0, 1) := by decide +kernel
theorem dX4_append_52 : decode cX4_append 52 = .ok (.dup, 1) := by decide +kernel
theorem dX4_append_53 : decode cX4_append 53 = .ok (.getfield 28, 3) := by decide +kernel
theorem dX4_append_56 : decode cX4_append 56 = .ok (.iconst 1, 1) := by decide +kernel
theorem dX4_append_57 : decode cX4_append 57 = .ok (.iadd, 1) := by decide +kernel
theorem dX4_append_58 : decode cX4_append 58 = .ok (.putfield 28, 3) := by decide +kernel
theorem dX4_append_61 : decode cX4_append 61 = .ok (.aload_n 0, 1) := by decide +kernel
theorem dX4_append_62 : decode cX4_append 62 = .ok (.getfield 28, 3) := by decide +kernel
theorem dX4_append_65 : decode cX4_append 65 = .ok (.iconst 1, 1) := by decide +kernel
theorem dX4_append_66 : decode cX4_append 66 = .ok (.isub, 1) := by decide +kernel
theorem dX4_append_67 : decode cX4_append 67 = .ok (.ireturn, 1) := by decide +kernel
theorem dX4_voters_0 : decode cX4_voters 0 = .ok (.iconst 0, 1) := by decide +kernel
theorem dX4_voters_1 : decode cX4_voters 1 = .ok (.istore_n 1, 1) := by decide +kernel
theorem dX4_voters_2 : decode cX4_voters 2 = .ok (.iconst 0, 1) := by decide +kernel
theorem dX4_voters_3 : decode cX4_voters 3 = .ok (.istore_n 2, 1) := by decide +kernel
theorem dX4_voters_4 : decode cX4_voters 4 = .ok (.iload_n 2, 1) := by decide +kernel
theorem dX4_voters_5 : decode cX4_voters 5 = .ok (.aload_n 0, 1) := by decide +kernel
theorem dX4_voters_6 : decode cX4_voters 6 = .ok (.getfield 28, 3) := by decide +kernel
theorem dX4_voters_9 : decode cX4_voters 9 = .ok (.if_icmp .ge 20, 3) := by decide +kernel
theorem dX4_voters_12 : decode cX4_voters 12 = .ok (.aload_n 0, 1) := by decide +kernel
theorem dX4_voters_13 : decode cX4_voters 13 = .ok (.iload_n 2, 1) := by decide +kernel
theorem dX4_voters_14 : decode cX4_voters 14 = .ok (.invokevirtual 32, 3) := by decide +kernel
theorem dX4_voters_17 : decode cX4_voters 17 = .ok (.ifCond .eq 6, 3) := by decide +kernel
theorem dX4_voters_20 : decode cX4_voters 20 = .ok (.iinc 1 1, 3) := by decide +kernel
theorem dX4_voters_23 : decode cX4_voters 23 = .ok (.iinc 2 1, 3) := by decide +kernel
theorem dX4_voters_26 : decode cX4_voters 26 = .ok (.goto (-22), 3) := by decide +kernel
theorem dX4_voters_29 : decode cX4_voters 29 = .ok (.iload_n 1, 1) := by decide +kernel
theorem dX4_voters_30 : decode cX4_voters 30 = .ok (.ireturn, 1) := by decide +kernel
theorem dX4_noteMisses_0 : decode cX4_noteMisses 0 = .ok (.iconst 0, 1) := by decide +kernel
theorem dX4_noteMisses_1 : decode cX4_noteMisses 1 = .ok (.istore_n 1, 1) := by decide +kernel
theorem dX4_noteMisses_2 : decode cX4_noteMisses 2 = .ok (.iload_n 1, 1) := by decide +kernel
theorem dX4_noteMisses_3 : decode cX4_noteMisses 3 = .ok (.aload_n 0, 1) := by decide +kernel
theorem dX4_noteMisses_4 : decode cX4_noteMisses 4 = .ok (.getfield 28, 3) := by decide +kernel
theorem dX4_noteMisses_7 : decode cX4_noteMisses 7 = .ok (.if_icmp .ge 47, 3) := by decide +kernel
theorem dX4_noteMisses_10 : decode cX4_noteMisses 10 = .ok (.aload_n 0, 1) := by decide +kernel
theorem dX4_noteMisses_11 : decode cX4_noteMisses 11 = .ok (.iload_n 1, 1) := by decide +kernel
theorem dX4_noteMisses_12 : decode cX4_noteMisses 12 = .ok (.invokevirtual 32, 3) := by decide +kernel
theorem dX4_noteMisses_15 : decode cX4_noteMisses 15 = .ok (.ifCond .eq 23, 3) := by decide +kernel
theorem dX4_noteMisses_18 : decode cX4_noteMisses 18 = .ok (.aload_n 0, 1) := by decide +kernel
theorem dX4_noteMisses_19 : decode cX4_noteMisses 19 = .ok (.getfield 15, 3) := by decide +kernel
theorem dX4_noteMisses_22 : decode cX4_noteMisses 22 = .ok (.iload_n 1, 1) := by decide +kernel
theorem dX4_noteMisses_23 : decode cX4_noteMisses 23 = .ok (.iconst 0, 1) := by decide +kernel
theorem dX4_noteMisses_24 : decode cX4_noteMisses 24 = .ok (.iastore, 1) := by decide +kernel
theorem dX4_noteMisses_25 : decode cX4_noteMisses 25 = .ok (.aload_n 0, 1) := by decide +kernel
theorem dX4_noteMisses_26 : decode cX4_noteMisses 26 = .ok (.getfield 21, 3) := by decide +kernel
theorem dX4_noteMisses_29 : decode cX4_noteMisses 29 = .ok (.iload_n 1, 1) := by decide +kernel
theorem dX4_noteMisses_30 : decode cX4_noteMisses 30 = .ok (.dup2, 1) := by decide +kernel
theorem dX4_noteMisses_31 : decode cX4_noteMisses 31 = .ok (.iaload, 1) := by decide +kernel
theorem dX4_noteMisses_32 : decode cX4_noteMisses 32 = .ok (.iconst 1, 1) := by decide +kernel
theorem dX4_noteMisses_33 : decode cX4_noteMisses 33 = .ok (.iadd, 1) := by decide +kernel
theorem dX4_noteMisses_34 : decode cX4_noteMisses 34 = .ok (.iastore, 1) := by decide +kernel
theorem dX4_noteMisses_35 : decode cX4_noteMisses 35 = .ok (.goto 13, 3) := by decide +kernel
theorem dX4_noteMisses_38 : decode cX4_noteMisses 38 = .ok (.aload_n 0, 1) := by decide +kernel
theorem dX4_noteMisses_39 : decode cX4_noteMisses 39 = .ok (.getfield 15, 3) := by decide +kernel
theorem dX4_noteMisses_42 : decode cX4_noteMisses 42 = .ok (.iload_n 1, 1) := by decide +kernel
theorem dX4_noteMisses_43 : decode cX4_noteMisses 43 = .ok (.dup2, 1) := by decide +kernel
theorem dX4_noteMisses_44 : decode cX4_noteMisses 44 = .ok (.iaload, 1) := by decide +kernel
theorem dX4_noteMisses_45 : decode cX4_noteMisses 45 = .ok (.iconst 1, 1) := by decide +kernel
theorem dX4_noteMisses_46 : decode cX4_noteMisses 46 = .ok (.iadd, 1) := by decide +kernel
theorem dX4_noteMisses_47 : decode cX4_noteMisses 47 = .ok (.iastore, 1) := by decide +kernel
theorem dX4_noteMisses_48 : decode cX4_noteMisses 48 = .ok (.iinc 1 1, 3) := by decide +kernel
theorem dX4_noteMisses_51 : decode cX4_noteMisses 51 = .ok (.goto (-49), 3) := by decide +kernel
theorem dX4_noteMisses_54 : decode cX4_noteMisses 54 = .ok (.return_, 1) := by decide +kernel
theorem dX5_init_0 : decode cX5_init 0 = .ok (.aload_n 0, 1) := by decide +kernel
theorem dX5_init_1 : decode cX5_init 1 = .ok (.invokespecial 3, 3) := by decide +kernel
theorem dX5_init_4 : decode cX5_init 4 = .ok (.aload_n 0, 1) := by decide +kernel
theorem dX5_init_5 : decode cX5_init 5 = .ok (.new 9, 3) := by decide +kernel
theorem dX5_init_8 : decode cX5_init 8 = .ok (.dup, 1) := by decide +kernel
theorem dX5_init_9 : decode cX5_init 9 = .ok (.invokespecial 11, 3) := by decide +kernel
theorem dX5_init_12 : decode cX5_init 12 = .ok (.putfield 12, 3) := by decide +kernel
theorem dX5_init_15 : decode cX5_init 15 = .ok (.aload_n 0, 1) := by decide +kernel
theorem dX5_init_16 : decode cX5_init 16 = .ok (.new 18, 3) := by decide +kernel
theorem dX5_init_19 : decode cX5_init 19 = .ok (.dup, 1) := by decide +kernel
theorem dX5_init_20 : decode cX5_init 20 = .ok (.invokespecial 20, 3) := by decide +kernel
theorem dX5_init_23 : decode cX5_init 23 = .ok (.putfield 21, 3) := by decide +kernel
theorem dX5_init_26 : decode cX5_init 26 = .ok (.aload_n 0, 1) := by decide +kernel
theorem dX5_init_27 : decode cX5_init 27 = .ok (.new 25, 3) := by decide +kernel
theorem dX5_init_30 : decode cX5_init 30 = .ok (.dup, 1) := by decide +kernel
theorem dX5_init_31 : decode cX5_init 31 = .ok (.invokespecial 27, 3) := by decide +kernel
theorem dX5_init_34 : decode cX5_init 34 = .ok (.putfield 28, 3) := by decide +kernel
theorem dX5_init_37 : decode cX5_init 37 = .ok (.aload_n 0, 1) := by decide +kernel
theorem dX5_init_38 : decode cX5_init 38 = .ok (.new 32, 3) := by decide +kernel
theorem dX5_init_41 : decode cX5_init 41 = .ok (.dup, 1) := by decide +kernel
theorem dX5_init_42 : decode cX5_init 42 = .ok (.invokespecial 34, 3) := by decide +kernel
theorem dX5_init_45 : decode cX5_init 45 = .ok (.putfield 35, 3) := by decide +kernel
theorem dX5_init_48 : decode cX5_init 48 = .ok (.aload_n 0, 1) := by decide +kernel
theorem dX5_init_49 : decode cX5_init 49 = .ok (.getstatic 39, 3) := by decide +kernel
theorem dX5_init_52 : decode cX5_init 52 = .ok (.invokevirtual 43, 3) := by decide +kernel
theorem dX5_init_55 : decode cX5_init 55 = .ok (.checkcast 44, 3) := by decide +kernel
theorem dX5_init_58 : decode cX5_init 58 = .ok (.putfield 48, 3) := by decide +kernel
theorem dX5_init_61 : decode cX5_init 61 = .ok (.return_, 1) := by decide +kernel
theorem dX5_copyFrom_0 : decode cX5_copyFrom 0 = .ok (.aload_n 0, 1) := by decide +kernel
theorem dX5_copyFrom_1 : decode cX5_copyFrom 1 = .ok (.getfield 12, 3) := by decide +kernel
theorem dX5_copyFrom_4 : decode cX5_copyFrom 4 = .ok (.aload_n 1, 1) := by decide +kernel
theorem dX5_copyFrom_5 : decode cX5_copyFrom 5 = .ok (.getfield 12, 3) := by decide +kernel
theorem dX5_copyFrom_8 : decode cX5_copyFrom 8 = .ok (.invokevirtual 51, 3) := by decide +kernel
theorem dX5_copyFrom_11 : decode cX5_copyFrom 11 = .ok (.aload_n 0, 1) := by decide +kernel
theorem dX5_copyFrom_12 : decode cX5_copyFrom 12 = .ok (.getfield 21, 3) := by decide +kernel
theorem dX5_copyFrom_15 : decode cX5_copyFrom 15 = .ok (.aload_n 1, 1) := by decide +kernel
theorem dX5_copyFrom_16 : decode cX5_copyFrom 16 = .ok (.getfield 21, 3) := by decide +kernel
theorem dX5_copyFrom_19 : decode cX5_copyFrom 19 = .ok (.invokevirtual 55, 3) := by decide +kernel
theorem dX5_copyFrom_22 : decode cX5_copyFrom 22 = .ok (.aload_n 0, 1) := by decide +kernel
theorem dX5_copyFrom_23 : decode cX5_copyFrom 23 = .ok (.getfield 28, 3) := by decide +kernel
theorem dX5_copyFrom_26 : decode cX5_copyFrom 26 = .ok (.aload_n 1, 1) := by decide +kernel
theorem dX5_copyFrom_27 : decode cX5_copyFrom 27 = .ok (.getfield 28, 3) := by decide +kernel
theorem dX5_copyFrom_30 : decode cX5_copyFrom 30 = .ok (.invokevirtual 58, 3) := by decide +kernel
theorem dX5_copyFrom_33 : decode cX5_copyFrom 33 = .ok (.aload_n 0, 1) := by decide +kernel
theorem dX5_copyFrom_34 : decode cX5_copyFrom 34 = .ok (.getfield 35, 3) := by decide +kernel
theorem dX5_copyFrom_37 : decode cX5_copyFrom 37 = .ok (.aload_n 1, 1) := by decide +kernel
theorem dX5_copyFrom_38 : decode cX5_copyFrom 38 = .ok (.getfield 35, 3) := by decide +kernel
theorem dX5_copyFrom_41 : decode cX5_copyFrom 41 = .ok (.invokevirtual 61, 3) := by decide +kernel
theorem dX5_copyFrom_44 : decode cX5_copyFrom 44 = .ok (.aload_n 1, 1) := by decide +kernel
theorem dX5_copyFrom_45 : decode cX5_copyFrom 45 = .ok (.getfield 48, 3) := by decide +kernel
theorem dX5_copyFrom_48 : decode cX5_copyFrom 48 = .ok (.aload_n 0, 1) := by decide +kernel
theorem dX5_copyFrom_49 : decode cX5_copyFrom 49 = .ok (.getfield 48, 3) := by decide +kernel
theorem dX5_copyFrom_52 : decode cX5_copyFrom 52 = .ok (.invokestatic 64, 3) := by decide +kernel
theorem dX5_copyFrom_55 : decode cX5_copyFrom 55 = .ok (.aload_n 0, 1) := by decide +kernel
theorem dX5_copyFrom_56 : decode cX5_copyFrom 56 = .ok (.aload_n 1, 1) := by decide +kernel
theorem dX5_copyFrom_57 : decode cX5_copyFrom 57 = .ok (.getfield 68, 3) := by decide +kernel
theorem dX5_copyFrom_60 : decode cX5_copyFrom 60 = .ok (.putfield 68, 3) := by decide +kernel
theorem dX5_copyFrom_63 : decode cX5_copyFrom 63 = .ok (.return_, 1) := by decide +kernel
theorem dX5_isLapsed_0 : decode cX5_isLapsed 0 = .ok (.aload_n 0, 1) := by decide +kernel
theorem dX5_isLapsed_1 : decode cX5_isLapsed 1 = .ok (.getfield 12, 3) := by decide +kernel
theorem dX5_isLapsed_4 : decode cX5_isLapsed 4 = .ok (.getfield 72, 3) := by decide +kernel
theorem dX5_isLapsed_7 : decode cX5_isLapsed 7 = .ok (.iload_n 1, 1) := by decide +kernel
theorem dX5_isLapsed_8 : decode cX5_isLapsed 8 = .ok (.iaload, 1) := by decide +kernel
theorem dX5_isLapsed_9 : decode cX5_isLapsed 9 = .ok (.aload_n 0, 1) := by decide +kernel
theorem dX5_isLapsed_10 : decode cX5_isLapsed 10 = .ok (.getfield 48, 3) := by decide +kernel
theorem dX5_isLapsed_13 : decode cX5_isLapsed 13 = .ok (.iconst 4, 1) := by decide +kernel
theorem dX5_isLapsed_14 : decode cX5_isLapsed 14 = .ok (.iaload, 1) := by decide +kernel
theorem dX5_isLapsed_15 : decode cX5_isLapsed 15 = .ok (.if_icmp .lt 7, 3) := by decide +kernel
theorem dX5_isLapsed_18 : decode cX5_isLapsed 18 = .ok (.iconst 1, 1) := by decide +kernel
theorem dX5_isLapsed_19 : decode cX5_isLapsed 19 = .ok (.goto 4, 3) := by decide +kernel
theorem dX5_isLapsed_22 : decode cX5_isLapsed 22 = .ok (.iconst 0, 1) := by decide +kernel
theorem dX5_isLapsed_23 : decode cX5_isLapsed 23 = .ok (.ireturn, 1) := by decide +kernel
theorem dX5_activeWeight_0 : decode cX5_activeWeight 0 = .ok (.aload_n 0, 1) := by decide +kernel
theorem dX5_activeWeight_1 : decode cX5_activeWeight 1 = .ok (.iconst 1, 1) := by decide +kernel
theorem dX5_activeWeight_2 : decode cX5_activeWeight 2 = .ok (.aload_n 0, 1) := by decide +kernel
theorem dX5_activeWeight_3 : decode cX5_activeWeight 3 = .ok (.getfield 12, 3) := by decide +kernel
theorem dX5_activeWeight_6 : decode cX5_activeWeight 6 = .ok (.getfield 75, 3) := by decide +kernel
theorem dX5_activeWeight_9 : decode cX5_activeWeight 9 = .ok (.ishl, 1) := by decide +kernel
theorem dX5_activeWeight_10 : decode cX5_activeWeight 10 = .ok (.iconst 1, 1) := by decide +kernel
theorem dX5_activeWeight_11 : decode cX5_activeWeight 11 = .ok (.isub, 1) := by decide +kernel
theorem dX5_activeWeight_12 : decode cX5_activeWeight 12 = .ok (.invokevirtual 78, 3) := by decide +kernel
theorem dX5_activeWeight_15 : decode cX5_activeWeight 15 = .ok (.ireturn, 1) := by decide +kernel
theorem dX5_activeWeightIn_0 : decode cX5_activeWeightIn 0 = .ok (.iconst 0, 1) := by decide +kernel
theorem dX5_activeWeightIn_1 : decode cX5_activeWeightIn 1 = .ok (.istore_n 2, 1) := by decide +kernel
theorem dX5_activeWeightIn_2 : decode cX5_activeWeightIn 2 = .ok (.iconst 0, 1) := by decide +kernel
theorem dX5_activeWeightIn_3 : decode cX5_activeWeightIn 3 = .ok (.istore_n 3, 1) := by decide +kernel
theorem dX5_activeWeightIn_4 : decode cX5_activeWeightIn 4 = .ok (.iload_n 3, 1) := by decide +kernel
theorem dX5_activeWeightIn_5 : decode cX5_activeWeightIn 5 = .ok (.aload_n 0, 1) := by decide +kernel
theorem dX5_activeWeightIn_6 : decode cX5_activeWeightIn 6 = .ok (.getfield 12, 3) := by decide +kernel
theorem dX5_activeWeightIn_9 : decode cX5_activeWeightIn 9 = .ok (.getfield 75, 3) := by decide +kernel
theorem dX5_activeWeightIn_12 : decode cX5_activeWeightIn 12 = .ok (.if_icmp .ge 38, 3) := by decide +kernel
theorem dX5_activeWeightIn_15 : decode cX5_activeWeightIn 15 = .ok (.iload_n 1, 1) := by decide +kernel
theorem dX5_activeWeightIn_16 : decode cX5_activeWeightIn 16 = .ok (.iload_n 3, 1) := by decide +kernel
theorem dX5_activeWeightIn_17 : decode cX5_activeWeightIn 17 = .ok (.ishr, 1) := by decide +kernel
theorem dX5_activeWeightIn_18 : decode cX5_activeWeightIn 18 = .ok (.iconst 1, 1) := by decide +kernel
theorem dX5_activeWeightIn_19 : decode cX5_activeWeightIn 19 = .ok (.iand, 1) := by decide +kernel
theorem dX5_activeWeightIn_20 : decode cX5_activeWeightIn 20 = .ok (.iconst 1, 1) := by decide +kernel
theorem dX5_activeWeightIn_21 : decode cX5_activeWeightIn 21 = .ok (.if_icmp .ne 23, 3) := by decide +kernel
theorem dX5_activeWeightIn_24 : decode cX5_activeWeightIn 24 = .ok (.aload_n 0, 1) := by decide +kernel
theorem dX5_activeWeightIn_25 : decode cX5_activeWeightIn 25 = .ok (.iload_n 3, 1) := by decide +kernel
theorem dX5_activeWeightIn_26 : decode cX5_activeWeightIn 26 = .ok (.invokevirtual 82, 3) := by decide +kernel
theorem dX5_activeWeightIn_29 : decode cX5_activeWeightIn 29 = .ok (.ifCond .ne 15, 3) := by decide +kernel
theorem dX5_activeWeightIn_32 : decode cX5_activeWeightIn 32 = .ok (.iload_n 2, 1) := by decide +kernel
theorem dX5_activeWeightIn_33 : decode cX5_activeWeightIn 33 = .ok (.aload_n 0, 1) := by decide +kernel
theorem dX5_activeWeightIn_34 : decode cX5_activeWeightIn 34 = .ok (.getfield 12, 3) := by decide +kernel
theorem dX5_activeWeightIn_37 : decode cX5_activeWeightIn 37 = .ok (.getfield 86, 3) := by decide +kernel
theorem dX5_activeWeightIn_40 : decode cX5_activeWeightIn 40 = .ok (.iload_n 3, 1) := by decide +kernel
theorem dX5_activeWeightIn_41 : decode cX5_activeWeightIn 41 = .ok (.iaload, 1) := by decide +kernel
theorem dX5_activeWeightIn_42 : decode cX5_activeWeightIn 42 = .ok (.iadd, 1) := by decide +kernel
theorem dX5_activeWeightIn_43 : decode cX5_activeWeightIn 43 = .ok (.istore_n 2, 1) := by decide +kernel
theorem dX5_activeWeightIn_44 : decode cX5_activeWeightIn 44 = .ok (.iinc 3 1, 3) := by decide +kernel
theorem dX5_activeWeightIn_47 : decode cX5_activeWeightIn 47 = .ok (.goto (-43), 3) := by decide +kernel
theorem dX5_activeWeightIn_50 : decode cX5_activeWeightIn 50 = .ok (.iload_n 2, 1) := by decide +kernel
theorem dX5_activeWeightIn_51 : decode cX5_activeWeightIn 51 = .ok (.ireturn, 1) := by decide +kernel
theorem dX5_openBallot_0 : decode cX5_openBallot 0 = .ok (.aload_n 0, 1) := by decide +kernel
theorem dX5_openBallot_1 : decode cX5_openBallot 1 = .ok (.getfield 28, 3) := by decide +kernel
theorem dX5_openBallot_4 : decode cX5_openBallot 4 = .ok (.iconst 1, 1) := by decide +kernel
theorem dX5_openBallot_5 : decode cX5_openBallot 5 = .ok (.putfield 89, 3) := by decide +kernel
theorem dX5_openBallot_8 : decode cX5_openBallot 8 = .ok (.aload_n 0, 1) := by decide +kernel
theorem dX5_openBallot_9 : decode cX5_openBallot 9 = .ok (.getfield 28, 3) := by decide +kernel
theorem dX5_openBallot_12 : decode cX5_openBallot 12 = .ok (.iconst 0, 1) := by decide +kernel
theorem dX5_openBallot_13 : decode cX5_openBallot 13 = .ok (.putfield 93, 3) := by decide +kernel
theorem dX5_openBallot_16 : decode cX5_openBallot 16 = .ok (.aload_n 0, 1) := by decide +kernel
theorem dX5_openBallot_17 : decode cX5_openBallot 17 = .ok (.getfield 28, 3) := by decide +kernel
theorem dX5_openBallot_20 : decode cX5_openBallot 20 = .ok (.dup, 1) := by decide +kernel
theorem dX5_openBallot_21 : decode cX5_openBallot 21 = .ok (.getfield 96, 3) := by decide +kernel
theorem dX5_openBallot_24 : decode cX5_openBallot 24 = .ok (.iconst 1, 1) := by decide +kernel
theorem dX5_openBallot_25 : decode cX5_openBallot 25 = .ok (.iadd, 1) := by decide +kernel
theorem dX5_openBallot_26 : decode cX5_openBallot 26 = .ok (.putfield 96, 3) := by decide +kernel
theorem dX5_openBallot_29 : decode cX5_openBallot 29 = .ok (.aload_n 0, 1) := by decide +kernel
theorem dX5_openBallot_30 : decode cX5_openBallot 30 = .ok (.getfield 28, 3) := by decide +kernel
theorem dX5_openBallot_33 : decode cX5_openBallot 33 = .ok (.aload_n 0, 1) := by decide +kernel
theorem dX5_openBallot_34 : decode cX5_openBallot 34 = .ok (.getfield 68, 3) := by decide +kernel
theorem dX5_openBallot_37 : decode cX5_openBallot 37 = .ok (.aload_n 0, 1) := by decide +kernel
theorem dX5_openBallot_38 : decode cX5_openBallot 38 = .ok (.getfield 48, 3) := by decide +kernel
theorem dX5_openBallot_41 : decode cX5_openBallot 41 = .ok (.iconst 2, 1) := by decide +kernel
theorem dX5_openBallot_42 : decode cX5_openBallot 42 = .ok (.iaload, 1) := by decide +kernel
theorem dX5_openBallot_43 : decode cX5_openBallot 43 = .ok (.iadd, 1) := by decide +kernel
theorem dX5_openBallot_44 : decode cX5_openBallot 44 = .ok (.putfield 99, 3) := by decide +kernel
theorem dX5_openBallot_47 : decode cX5_openBallot 47 = .ok (.aload_n 0, 1) := by decide +kernel
theorem dX5_openBallot_48 : decode cX5_openBallot 48 = .ok (.getfield 35, 3) := by decide +kernel
theorem dX5_openBallot_51 : decode cX5_openBallot 51 = .ok (.iconst 0, 1) := by decide +kernel
theorem dX5_openBallot_52 : decode cX5_openBallot 52 = .ok (.putfield 102, 3) := by decide +kernel
theorem dX5_openBallot_55 : decode cX5_openBallot 55 = .ok (.aload_n 0, 1) := by decide +kernel
theorem dX5_openBallot_56 : decode cX5_openBallot 56 = .ok (.getfield 35, 3) := by decide +kernel
theorem dX5_openBallot_59 : decode cX5_openBallot 59 = .ok (.iconst 0, 1) := by decide +kernel
theorem dX5_openBallot_60 : decode cX5_openBallot 60 = .ok (.putfield 103, 3) := by decide +kernel
theorem dX5_openBallot_63 : decode cX5_openBallot 63 = .ok (.aload_n 0, 1) := by decide +kernel
theorem dX5_openBallot_64 : decode cX5_openBallot 64 = .ok (.getfield 12, 3) := by decide +kernel
theorem dX5_openBallot_67 : decode cX5_openBallot 67 = .ok (.getfield 106, 3) := by decide +kernel
theorem dX5_openBallot_70 : decode cX5_openBallot 70 = .ok (.iconst (-1), 1) := by decide +kernel
theorem dX5_openBallot_71 : decode cX5_openBallot 71 = .ok (.invokestatic 109, 3) := by decide +kernel
theorem dX5_openBallot_74 : decode cX5_openBallot 74 = .ok (.aload_n 0, 1) := by decide +kernel
theorem dX5_openBallot_75 : decode cX5_openBallot 75 = .ok (.getfield 21, 3) := by decide +kernel
theorem dX5_openBallot_78 : decode cX5_openBallot 78 = .ok (.getfield 115, 3) := by decide +kernel
theorem dX5_openBallot_81 : decode cX5_openBallot 81 = .ok (.aload_n 0, 1) := by decide +kernel
theorem dX5_openBallot_82 : decode cX5_openBallot 82 = .ok (.getfield 21, 3) := by decide +kernel
theorem dX5_openBallot_85 : decode cX5_openBallot 85 = .ok (.getfield 118, 3) := by decide +kernel
theorem dX5_openBallot_88 : decode cX5_openBallot 88 = .ok (.invokestatic 64, 3) := by decide +kernel
theorem dX5_openBallot_91 : decode cX5_openBallot 91 = .ok (.return_, 1) := by decide +kernel
theorem dX5_countVotes_0 : decode cX5_countVotes 0 = .ok (.aload_n 0, 1) := by decide +kernel
theorem dX5_countVotes_1 : decode cX5_countVotes 1 = .ok (.getfield 28, 3) := by decide +kernel
theorem dX5_countVotes_4 : decode cX5_countVotes 4 = .ok (.getfield 121, 3) := by decide +kernel
theorem dX5_countVotes_7 : decode cX5_countVotes 7 = .ok (.astore_n 1, 1) := by decide +kernel
theorem dX5_countVotes_8 : decode cX5_countVotes 8 = .ok (.aload_n 1, 1) := by decide +kernel
theorem dX5_countVotes_9 : decode cX5_countVotes 9 = .ok (.iconst 0, 1) := by decide +kernel
theorem dX5_countVotes_10 : decode cX5_countVotes 10 = .ok (.invokestatic 109, 3) := by decide +kernel
theorem dX5_countVotes_13 : decode cX5_countVotes 13 = .ok (.iconst 0, 1) := by decide +kernel
theorem dX5_countVotes_14 : decode cX5_countVotes 14 = .ok (.istore_n 2, 1) := by decide +kernel
theorem dX5_countVotes_15 : decode cX5_countVotes 15 = .ok (.iload_n 2, 1) := by decide +kernel
theorem dX5_countVotes_16 : decode cX5_countVotes 16 = .ok (.aload_n 0, 1) := by decide +kernel
theorem dX5_countVotes_17 : decode cX5_countVotes 17 = .ok (.getfield 12, 3) := by decide +kernel
theorem dX5_countVotes_20 : decode cX5_countVotes 20 = .ok (.getfield 75, 3) := by decide +kernel
theorem dX5_countVotes_23 : decode cX5_countVotes 23 = .ok (.if_icmp .ge 77, 3) := by decide +kernel
theorem dX5_countVotes_26 : decode cX5_countVotes 26 = .ok (.aload_n 0, 1) := by decide +kernel
theorem dX5_countVotes_27 : decode cX5_countVotes 27 = .ok (.iload_n 2, 1) := by decide +kernel
theorem dX5_countVotes_28 : decode cX5_countVotes 28 = .ok (.invokevirtual 82, 3) := by decide +kernel
theorem dX5_countVotes_31 : decode cX5_countVotes 31 = .ok (.ifCond .ne 63, 3) := by decide +kernel
theorem dX5_countVotes_34 : decode cX5_countVotes 34 = .ok (.aload_n 1, 1) := by decide +kernel
theorem dX5_countVotes_35 : decode cX5_countVotes 35 = .ok (.iconst 0, 1) := by decide +kernel
theorem dX5_countVotes_36 : decode cX5_countVotes 36 = .ok (.dup2, 1) := by decide +kernel
theorem dX5_countVotes_37 : decode cX5_countVotes 37 = .ok (.iaload, 1) := by decide +kernel
theorem dX5_countVotes_38 : decode cX5_countVotes 38 = .ok (.aload_n 0, 1) := by decide +kernel
theorem dX5_countVotes_39 : decode cX5_countVotes 39 = .ok (.getfield 12, 3) := by decide +kernel
theorem dX5_countVotes_42 : decode cX5_countVotes 42 = .ok (.getfield 86, 3) := by decide +kernel
theorem dX5_countVotes_45 : decode cX5_countVotes 45 = .ok (.iload_n 2, 1) := by decide +kernel
theorem dX5_countVotes_46 : decode cX5_countVotes 46 = .ok (.iaload, 1) := by decide +kernel
theorem dX5_countVotes_47 : decode cX5_countVotes 47 = .ok (.iadd, 1) := by decide +kernel
theorem dX5_countVotes_48 : decode cX5_countVotes 48 = .ok (.iastore, 1) := by decide +kernel
theorem dX5_countVotes_49 : decode cX5_countVotes 49 = .ok (.aload_n 0, 1) := by decide +kernel
theorem dX5_countVotes_50 : decode cX5_countVotes 50 = .ok (.getfield 12, 3) := by decide +kernel
theorem dX5_countVotes_53 : decode cX5_countVotes 53 = .ok (.iload_n 2, 1) := by decide +kernel
theorem dX5_countVotes_54 : decode cX5_countVotes 54 = .ok (.invokevirtual 124, 3) := by decide +kernel
theorem dX5_countVotes_57 : decode cX5_countVotes 57 = .ok (.ifCond .eq 37, 3) := by decide +kernel
theorem dX5_countVotes_60 : decode cX5_countVotes 60 = .ok (.aload_n 1, 1) := by decide +kernel
theorem dX5_countVotes_61 : decode cX5_countVotes 61 = .ok (.iconst 1, 1) := by decide +kernel
theorem dX5_countVotes_62 : decode cX5_countVotes 62 = .ok (.dup2, 1) := by decide +kernel
theorem dX5_countVotes_63 : decode cX5_countVotes 63 = .ok (.iaload, 1) := by decide +kernel
theorem dX5_countVotes_64 : decode cX5_countVotes 64 = .ok (.aload_n 0, 1) := by decide +kernel
theorem dX5_countVotes_65 : decode cX5_countVotes 65 = .ok (.getfield 12, 3) := by decide +kernel
theorem dX5_countVotes_68 : decode cX5_countVotes 68 = .ok (.getfield 86, 3) := by decide +kernel
theorem dX5_countVotes_71 : decode cX5_countVotes 71 = .ok (.iload_n 2, 1) := by decide +kernel
theorem dX5_countVotes_72 : decode cX5_countVotes 72 = .ok (.iaload, 1) := by decide +kernel
theorem dX5_countVotes_73 : decode cX5_countVotes 73 = .ok (.iadd, 1) := by decide +kernel
theorem dX5_countVotes_74 : decode cX5_countVotes 74 = .ok (.iastore, 1) := by decide +kernel
theorem dX5_countVotes_75 : decode cX5_countVotes 75 = .ok (.aload_n 1, 1) := by decide +kernel
theorem dX5_countVotes_76 : decode cX5_countVotes 76 = .ok (.aload_n 0, 1) := by decide +kernel
theorem dX5_countVotes_77 : decode cX5_countVotes 77 = .ok (.iload_n 2, 1) := by decide +kernel
theorem dX5_countVotes_78 : decode cX5_countVotes 78 = .ok (.invokevirtual 127, 3) := by decide +kernel
theorem dX5_countVotes_81 : decode cX5_countVotes 81 = .ok (.dup2, 1) := by decide +kernel
theorem dX5_countVotes_82 : decode cX5_countVotes 82 = .ok (.iaload, 1) := by decide +kernel
theorem dX5_countVotes_83 : decode cX5_countVotes 83 = .ok (.aload_n 0, 1) := by decide +kernel
theorem dX5_countVotes_84 : decode cX5_countVotes 84 = .ok (.getfield 12, 3) := by decide +kernel
theorem dX5_countVotes_87 : decode cX5_countVotes 87 = .ok (.getfield 86, 3) := by decide +kernel
theorem dX5_countVotes_90 : decode cX5_countVotes 90 = .ok (.iload_n 2, 1) := by decide +kernel
theorem dX5_countVotes_91 : decode cX5_countVotes 91 = .ok (.iaload, 1) := by decide +kernel
theorem dX5_countVotes_92 : decode cX5_countVotes 92 = .ok (.iadd, 1) := by decide +kernel
theorem dX5_countVotes_93 : decode cX5_countVotes 93 = .ok (.iastore, 1) := by decide +kernel
theorem dX5_countVotes_94 : decode cX5_countVotes 94 = .ok (.iinc 2 1, 3) := by decide +kernel
theorem dX5_countVotes_97 : decode cX5_countVotes 97 = .ok (.goto (-82), 3) := by decide +kernel
theorem dX5_countVotes_100 : decode cX5_countVotes 100 = .ok (.aload_n 1, 1) := by decide +kernel
theorem dX5_countVotes_101 : decode cX5_countVotes 101 = .ok (.iconst 5, 1) := by decide +kernel
theorem dX5_countVotes_102 : decode cX5_countVotes 102 = .ok (.aload_n 0, 1) := by decide +kernel
theorem dX5_countVotes_103 : decode cX5_countVotes 103 = .ok (.aload_n 1, 1) := by decide +kernel
theorem dX5_countVotes_104 : decode cX5_countVotes 104 = .ok (.invokevirtual 130, 3) := by decide +kernel
theorem dX5_countVotes_107 : decode cX5_countVotes 107 = .ok (.ifCond .eq 7, 3) := by decide +kernel
theorem dX5_countVotes_110 : decode cX5_countVotes 110 = .ok (.iconst 1, 1) := by decide +kernel
theorem dX5_countVotes_111 : decode cX5_countVotes 111 = .ok (.goto 4, 3) := by decide +kernel
theorem dX5_countVotes_114 : decode cX5_countVotes 114 = .ok (.iconst 0, 1) := by decide +kernel
theorem dX5_countVotes_115 : decode cX5_countVotes 115 = .ok (.iastore, 1) := by decide +kernel
theorem dX5_countVotes_116 : decode cX5_countVotes 116 = .ok (.return_, 1) := by decide +kernel
theorem dX5_sumFor_0 : decode cX5_sumFor 0 = .ok (.aload_n 0, 1) := by decide +kernel
theorem dX5_sumFor_1 : decode cX5_sumFor 1 = .ok (.getfield 12, 3) := by decide +kernel
theorem dX5_sumFor_4 : decode cX5_sumFor 4 = .ok (.getfield 106, 3) := by decide +kernel
theorem dX5_sumFor_7 : decode cX5_sumFor 7 = .ok (.iload_n 1, 1) := by decide +kernel
theorem dX5_sumFor_8 : decode cX5_sumFor 8 = .ok (.iaload, 1) := by decide +kernel
theorem dX5_sumFor_9 : decode cX5_sumFor 9 = .ok (.istore_n 2, 1) := by decide +kernel
theorem dX5_sumFor_10 : decode cX5_sumFor 10 = .ok (.iload_n 2, 1) := by decide +kernel
theorem dX5_sumFor_11 : decode cX5_sumFor 11 = .ok (.ifCond .ne 5, 3) := by decide +kernel
theorem dX5_sumFor_14 : decode cX5_sumFor 14 = .ok (.iconst 2, 1) := by decide +kernel
theorem dX5_sumFor_15 : decode cX5_sumFor 15 = .ok (.ireturn, 1) := by decide +kernel
theorem dX5_sumFor_16 : decode cX5_sumFor 16 = .ok (.iload_n 2, 1) := by decide +kernel
theorem dX5_sumFor_17 : decode cX5_sumFor 17 = .ok (.iconst 1, 1) := by decide +kernel
theorem dX5_sumFor_18 : decode cX5_sumFor 18 = .ok (.if_icmp .ne 18, 3) := by decide +kernel
theorem dX5_sumFor_21 : decode cX5_sumFor 21 = .ok (.aload_n 0, 1) := by decide +kernel
theorem dX5_sumFor_22 : decode cX5_sumFor 22 = .ok (.getfield 35, 3) := by decide +kernel
theorem dX5_sumFor_25 : decode cX5_sumFor 25 = .ok (.iload_n 1, 1) := by decide +kernel
theorem dX5_sumFor_26 : decode cX5_sumFor 26 = .ok (.invokevirtual 134, 3) := by decide +kernel
theorem dX5_sumFor_29 : decode cX5_sumFor 29 = .ok (.ifCond .eq 7, 3) := by decide +kernel
theorem dX5_sumFor_32 : decode cX5_sumFor 32 = .ok (.iconst 3, 1) := by decide +kernel
theorem dX5_sumFor_33 : decode cX5_sumFor 33 = .ok (.goto 4, 3) := by decide +kernel
theorem dX5_sumFor_36 : decode cX5_sumFor 36 = .ok (.iconst 4, 1) := by decide +kernel
theorem dX5_sumFor_37 : decode cX5_sumFor 37 = .ok (.ireturn, 1) := by decide +kernel
theorem dX5_isCarriedBy_0 : decode cX5_isCarriedBy 0 = .ok (.aload_n 1, 1) := by decide +kernel
theorem dX5_isCarriedBy_1 : decode cX5_isCarriedBy 1 = .ok (.iconst 2, 1) := by decide +kernel
theorem dX5_isCarriedBy_2 : decode cX5_isCarriedBy 2 = .ok (.iaload, 1) := by decide +kernel
theorem dX5_isCarriedBy_3 : decode cX5_isCarriedBy 3 = .ok (.aload_n 1, 1) := by decide +kernel
theorem dX5_isCarriedBy_4 : decode cX5_isCarriedBy 4 = .ok (.iconst 3, 1) := by decide +kernel
theorem dX5_isCarriedBy_5 : decode cX5_isCarriedBy 5 = .ok (.iaload, 1) := by decide +kernel
theorem dX5_isCarriedBy_6 : decode cX5_isCarriedBy 6 = .ok (.iadd, 1) := by decide +kernel
theorem dX5_isCarriedBy_7 : decode cX5_isCarriedBy 7 = .ok (.istore_n 2, 1) := by decide +kernel
theorem dX5_isCarriedBy_8 : decode cX5_isCarriedBy 8 = .ok (.aload_n 1, 1) := by decide +kernel
theorem dX5_isCarriedBy_9 : decode cX5_isCarriedBy 9 = .ok (.iconst 0, 1) := by decide +kernel
theorem dX5_isCarriedBy_10 : decode cX5_isCarriedBy 10 = .ok (.iaload, 1) := by decide +kernel
theorem dX5_isCarriedBy_11 : decode cX5_isCarriedBy 11 = .ok (.ifCond .le 47, 3) := by decide +kernel
theorem dX5_isCarriedBy_14 : decode cX5_isCarriedBy 14 = .ok (.iload_n 2, 1) := by decide +kernel
theorem dX5_isCarriedBy_15 : decode cX5_isCarriedBy 15 = .ok (.ifCond .le 43, 3) := by decide +kernel
theorem dX5_isCarriedBy_18 : decode cX5_isCarriedBy 18 = .ok (.aload_n 1, 1) := by decide +kernel
theorem dX5_isCarriedBy_19 : decode cX5_isCarriedBy 19 = .ok (.iconst 1, 1) := by decide +kernel
theorem dX5_isCarriedBy_20 : decode cX5_isCarriedBy 20 = .ok (.iaload, 1) := by decide +kernel
theorem dX5_isCarriedBy_21 : decode cX5_isCarriedBy 21 = .ok (.bipush 100, 2) := by decide +kernel
theorem dX5_isCarriedBy_23 : decode cX5_isCarriedBy 23 = .ok (.imul, 1) := by decide +kernel
theorem dX5_isCarriedBy_24 : decode cX5_isCarriedBy 24 = .ok (.aload_n 0, 1) := by decide +kernel
theorem dX5_isCarriedBy_25 : decode cX5_isCarriedBy 25 = .ok (.getfield 48, 3) := by decide +kernel
theorem dX5_isCarriedBy_28 : decode cX5_isCarriedBy 28 = .ok (.iconst 0, 1) := by decide +kernel
theorem dX5_isCarriedBy_29 : decode cX5_isCarriedBy 29 = .ok (.iaload, 1) := by decide +kernel
theorem dX5_isCarriedBy_30 : decode cX5_isCarriedBy 30 = .ok (.aload_n 1, 1) := by decide +kernel
theorem dX5_isCarriedBy_31 : decode cX5_isCarriedBy 31 = .ok (.iconst 0, 1) := by decide +kernel
theorem dX5_isCarriedBy_32 : decode cX5_isCarriedBy 32 = .ok (.iaload, 1) := by decide +kernel
theorem dX5_isCarriedBy_33 : decode cX5_isCarriedBy 33 = .ok (.imul, 1) := by decide +kernel
theorem dX5_isCarriedBy_34 : decode cX5_isCarriedBy 34 = .ok (.if_icmp .lt 24, 3) := by decide +kernel
theorem dX5_isCarriedBy_37 : decode cX5_isCarriedBy 37 = .ok (.aload_n 1, 1) := by decide +kernel
theorem dX5_isCarriedBy_38 : decode cX5_isCarriedBy 38 = .ok (.iconst 2, 1) := by decide +kernel
theorem dX5_isCarriedBy_39 : decode cX5_isCarriedBy 39 = .ok (.iaload, 1) := by decide +kernel
theorem dX5_isCarriedBy_40 : decode cX5_isCarriedBy 40 = .ok (.bipush 100, 2) := by decide +kernel
theorem dX5_isCarriedBy_42 : decode cX5_isCarriedBy 42 = .ok (.imul, 1) := by decide +kernel
theorem dX5_isCarriedBy_43 : decode cX5_isCarriedBy 43 = .ok (.aload_n 0, 1) := by decide +kernel
theorem dX5_isCarriedBy_44 : decode cX5_isCarriedBy 44 = .ok (.getfield 48, 3) := by decide +kernel
theorem dX5_isCarriedBy_47 : decode cX5_isCarriedBy 47 = .ok (.iconst 1, 1) := by decide +kernel
theorem dX5_isCarriedBy_48 : decode cX5_isCarriedBy 48 = .ok (.iaload, 1) := by decide +kernel
theorem dX5_isCarriedBy_49 : decode cX5_isCarriedBy 49 = .ok (.iload_n 2, 1) := by decide +kernel
theorem dX5_isCarriedBy_50 : decode cX5_isCarriedBy 50 = .ok (.imul, 1) := by decide +kernel
theorem dX5_isCarriedBy_51 : decode cX5_isCarriedBy 51 = .ok (.if_icmp .lt 7, 3) := by decide +kernel
theorem dX5_isCarriedBy_54 : decode cX5_isCarriedBy 54 = .ok (.iconst 1, 1) := by decide +kernel
theorem dX5_isCarriedBy_55 : decode cX5_isCarriedBy 55 = .ok (.goto 4, 3) := by decide +kernel
theorem dX5_isCarriedBy_58 : decode cX5_isCarriedBy 58 = .ok (.iconst 0, 1) := by decide +kernel
theorem dX5_isCarriedBy_59 : decode cX5_isCarriedBy 59 = .ok (.ireturn, 1) := by decide +kernel
theorem dX5_endBallot_0 : decode cX5_endBallot 0 = .ok (.aload_n 0, 1) := by decide +kernel
theorem dX5_endBallot_1 : decode cX5_endBallot 1 = .ok (.invokevirtual 137, 3) := by decide +kernel
theorem dX5_endBallot_4 : decode cX5_endBallot 4 = .ok (.aload_n 0, 1) := by decide +kernel
theorem dX5_endBallot_5 : decode cX5_endBallot 5 = .ok (.getfield 12, 3) := by decide +kernel
theorem dX5_endBallot_8 : decode cX5_endBallot 8 = .ok (.invokevirtual 140, 3) := by decide +kernel
theorem dX5_endBallot_11 : decode cX5_endBallot 11 = .ok (.aload_n 0, 1) := by decide +kernel
theorem dX5_endBallot_12 : decode cX5_endBallot 12 = .ok (.getfield 28, 3) := by decide +kernel
theorem dX5_endBallot_15 : decode cX5_endBallot 15 = .ok (.iconst 0, 1) := by decide +kernel
theorem dX5_endBallot_16 : decode cX5_endBallot 16 = .ok (.putfield 89, 3) := by decide +kernel
theorem dX5_endBallot_19 : decode cX5_endBallot 19 = .ok (.aload_n 0, 1) := by decide +kernel
theorem dX5_endBallot_20 : decode cX5_endBallot 20 = .ok (.getfield 28, 3) := by decide +kernel
theorem dX5_endBallot_23 : decode cX5_endBallot 23 = .ok (.getfield 121, 3) := by decide +kernel
theorem dX5_endBallot_26 : decode cX5_endBallot 26 = .ok (.iconst 5, 1) := by decide +kernel
theorem dX5_endBallot_27 : decode cX5_endBallot 27 = .ok (.iaload, 1) := by decide +kernel
theorem dX5_endBallot_28 : decode cX5_endBallot 28 = .ok (.iconst 1, 1) := by decide +kernel
theorem dX5_endBallot_29 : decode cX5_endBallot 29 = .ok (.if_icmp .ne 13, 3) := by decide +kernel
theorem dX5_endBallot_32 : decode cX5_endBallot 32 = .ok (.aload_n 0, 1) := by decide +kernel
theorem dX5_endBallot_33 : decode cX5_endBallot 33 = .ok (.getfield 35, 3) := by decide +kernel
theorem dX5_endBallot_36 : decode cX5_endBallot 36 = .ok (.invokevirtual 143, 3) := by decide +kernel
theorem dX5_endBallot_39 : decode cX5_endBallot 39 = .ok (.goto 11, 3) := by decide +kernel
theorem dX5_endBallot_42 : decode cX5_endBallot 42 = .ok (.aload_n 0, 1) := by decide +kernel
theorem dX5_endBallot_43 : decode cX5_endBallot 43 = .ok (.getfield 35, 3) := by decide +kernel
theorem dX5_endBallot_46 : decode cX5_endBallot 46 = .ok (.iconst 0, 1) := by decide +kernel
theorem dX5_endBallot_47 : decode cX5_endBallot 47 = .ok (.putfield 102, 3) := by decide +kernel
theorem dX5_endBallot_50 : decode cX5_endBallot 50 = .ok (.return_, 1) := by decide +kernel
theorem dX5_settle_0 : decode cX5_settle 0 = .ok (.aload_n 0, 1) := by decide +kernel
theorem dX5_settle_1 : decode cX5_settle 1 = .ok (.getfield 35, 3) := by decide +kernel
theorem dX5_settle_4 : decode cX5_settle 4 = .ok (.iload_n 1, 1) := by decide +kernel
theorem dX5_settle_5 : decode cX5_settle 5 = .ok (.iload_n 2, 1) := by decide +kernel
theorem dX5_settle_6 : decode cX5_settle 6 = .ok (.iload_n 3, 1) := by decide +kernel
theorem dX5_settle_7 : decode cX5_settle 7 = .ok (.aload_n 0, 1) := by decide +kernel
theorem dX5_settle_8 : decode cX5_settle 8 = .ok (.getfield 68, 3) := by decide +kernel
theorem dX5_settle_11 : decode cX5_settle 11 = .ok (.invokevirtual 146, 3) := by decide +kernel
theorem dX5_settle_14 : decode cX5_settle 14 = .ok (.aload_n 0, 1) := by decide +kernel
theorem dX5_settle_15 : decode cX5_settle 15 = .ok (.getfield 35, 3) := by decide +kernel
theorem dX5_settle_18 : decode cX5_settle 18 = .ok (.iload_n 1, 1) := by decide +kernel
theorem dX5_settle_19 : decode cX5_settle 19 = .ok (.invokevirtual 150, 3) := by decide +kernel
theorem dX5_settle_22 : decode cX5_settle 22 = .ok (.ifCond .eq 21, 3) := by decide +kernel
theorem dX5_settle_25 : decode cX5_settle 25 = .ok (.aload_n 0, 1) := by decide +kernel
theorem dX5_settle_26 : decode cX5_settle 26 = .ok (.getfield 21, 3) := by decide +kernel
theorem dX5_settle_29 : decode cX5_settle 29 = .ok (.getfield 115, 3) := by decide +kernel
theorem dX5_settle_32 : decode cX5_settle 32 = .ok (.aload_n 0, 1) := by decide +kernel
theorem dX5_settle_33 : decode cX5_settle 33 = .ok (.getfield 35, 3) := by decide +kernel
theorem dX5_settle_36 : decode cX5_settle 36 = .ok (.getfield 153, 3) := by decide +kernel
theorem dX5_settle_39 : decode cX5_settle 39 = .ok (.iload_n 1, 1) := by decide +kernel
theorem dX5_settle_40 : decode cX5_settle 40 = .ok (.iaload, 1) := by decide +kernel
theorem dX5_settle_41 : decode cX5_settle 41 = .ok (.iload_n 3, 1) := by decide +kernel
theorem dX5_settle_42 : decode cX5_settle 42 = .ok (.iastore, 1) := by decide +kernel
theorem dX5_settle_43 : decode cX5_settle 43 = .ok (.aload_n 0, 1) := by decide +kernel
theorem dX5_settle_44 : decode cX5_settle 44 = .ok (.getfield 35, 3) := by decide +kernel
theorem dX5_settle_47 : decode cX5_settle 47 = .ok (.invokevirtual 156, 3) := by decide +kernel
theorem dX5_settle_50 : decode cX5_settle 50 = .ok (.ifCond .ne 17, 3) := by decide +kernel
theorem dX5_settle_53 : decode cX5_settle 53 = .ok (.aload_n 0, 1) := by decide +kernel
theorem dX5_settle_54 : decode cX5_settle 54 = .ok (.getfield 21, 3) := by decide +kernel
theorem dX5_settle_57 : decode cX5_settle 57 = .ok (.invokevirtual 160, 3) := by decide +kernel
theorem dX5_settle_60 : decode cX5_settle 60 = .ok (.ifCond .eq 7, 3) := by decide +kernel
theorem dX5_settle_63 : decode cX5_settle 63 = .ok (.aload_n 0, 1) := by decide +kernel
theorem dX5_settle_64 : decode cX5_settle 64 = .ok (.invokevirtual 164, 3) := by decide +kernel
theorem dX5_settle_67 : decode cX5_settle 67 = .ok (.return_, 1) := by decide +kernel
theorem dX5_bringEdition_0 : decode cX5_bringEdition 0 = .ok (.aload_n 0, 1) := by decide +kernel
theorem dX5_bringEdition_1 : decode cX5_bringEdition 1 = .ok (.getfield 21, 3) := by decide +kernel
theorem dX5_bringEdition_4 : decode cX5_bringEdition 4 = .ok (.getfield 167, 3) := by decide +kernel
theorem dX5_bringEdition_7 : decode cX5_bringEdition 7 = .ok (.bipush 12, 2) := by decide +kernel
theorem dX5_bringEdition_9 : decode cX5_bringEdition 9 = .ok (.if_icmp .lt 4, 3) := by decide +kernel
theorem dX5_bringEdition_12 : decode cX5_bringEdition 12 = .ok (.return_, 1) := by decide +kernel
theorem dX5_bringEdition_13 : decode cX5_bringEdition 13 = .ok (.aload_n 0, 1) := by decide +kernel
theorem dX5_bringEdition_14 : decode cX5_bringEdition 14 = .ok (.getfield 21, 3) := by decide +kernel
theorem dX5_bringEdition_17 : decode cX5_bringEdition 17 = .ok (.dup, 1) := by decide +kernel
theorem dX5_bringEdition_18 : decode cX5_bringEdition 18 = .ok (.getfield 167, 3) := by decide +kernel
theorem dX5_bringEdition_21 : decode cX5_bringEdition 21 = .ok (.iconst 1, 1) := by decide +kernel
theorem dX5_bringEdition_22 : decode cX5_bringEdition 22 = .ok (.iadd, 1) := by decide +kernel
theorem dX5_bringEdition_23 : decode cX5_bringEdition 23 = .ok (.putfield 167, 3) := by decide +kernel
theorem dX5_bringEdition_26 : decode cX5_bringEdition 26 = .ok (.aload_n 0, 1) := by decide +kernel
theorem dX5_bringEdition_27 : decode cX5_bringEdition 27 = .ok (.getfield 21, 3) := by decide +kernel
theorem dX5_bringEdition_30 : decode cX5_bringEdition 30 = .ok (.getfield 170, 3) := by decide +kernel
theorem dX5_bringEdition_33 : decode cX5_bringEdition 33 = .ok (.aload_n 0, 1) := by decide +kernel
theorem dX5_bringEdition_34 : decode cX5_bringEdition 34 = .ok (.getfield 21, 3) := by decide +kernel
theorem dX5_bringEdition_37 : decode cX5_bringEdition 37 = .ok (.getfield 167, 3) := by decide +kernel
theorem dX5_bringEdition_40 : decode cX5_bringEdition 40 = .ok (.iconst 1, 1) := by decide +kernel
theorem dX5_bringEdition_41 : decode cX5_bringEdition 41 = .ok (.isub, 1) := by decide +kernel
theorem dX5_bringEdition_42 : decode cX5_bringEdition 42 = .ok (.aload_n 0, 1) := by decide +kernel
theorem dX5_bringEdition_43 : decode cX5_bringEdition 43 = .ok (.getfield 28, 3) := by decide +kernel
theorem dX5_bringEdition_46 : decode cX5_bringEdition 46 = .ok (.getfield 96, 3) := by decide +kernel
theorem dX5_bringEdition_49 : decode cX5_bringEdition 49 = .ok (.iastore, 1) := by decide +kernel
theorem dX5_bringEdition_50 : decode cX5_bringEdition 50 = .ok (.aload_n 0, 1) := by decide +kernel
theorem dX5_bringEdition_51 : decode cX5_bringEdition 51 = .ok (.getfield 28, 3) := by decide +kernel
theorem dX5_bringEdition_54 : decode cX5_bringEdition 54 = .ok (.iconst 1, 1) := by decide +kernel
theorem dX5_bringEdition_55 : decode cX5_bringEdition 55 = .ok (.putfield 93, 3) := by decide +kernel
theorem dX5_bringEdition_58 : decode cX5_bringEdition 58 = .ok (.iconst 0, 1) := by decide +kernel
theorem dX5_bringEdition_59 : decode cX5_bringEdition 59 = .ok (.istore_n 1, 1) := by decide +kernel
theorem dX5_bringEdition_60 : decode cX5_bringEdition 60 = .ok (.iload_n 1, 1) := by decide +kernel
theorem dX5_bringEdition_61 : decode cX5_bringEdition 61 = .ok (.aload_n 0, 1) := by decide +kernel
theorem dX5_bringEdition_62 : decode cX5_bringEdition 62 = .ok (.getfield 21, 3) := by decide +kernel
theorem dX5_bringEdition_65 : decode cX5_bringEdition 65 = .ok (.getfield 173, 3) := by decide +kernel
theorem dX5_bringEdition_68 : decode cX5_bringEdition 68 = .ok (.if_icmp .ge 59, 3) := by decide +kernel
theorem dX5_bringEdition_71 : decode cX5_bringEdition 71 = .ok (.aload_n 0, 1) := by decide +kernel
theorem dX5_bringEdition_72 : decode cX5_bringEdition 72 = .ok (.getfield 21, 3) := by decide +kernel
theorem dX5_bringEdition_75 : decode cX5_bringEdition 75 = .ok (.getfield 167, 3) := by decide +kernel
theorem dX5_bringEdition_78 : decode cX5_bringEdition 78 = .ok (.iload_n 1, 1) := by decide +kernel
theorem dX5_bringEdition_79 : decode cX5_bringEdition 79 = .ok (.invokestatic 174, 3) := by decide +kernel
theorem dX5_bringEdition_82 : decode cX5_bringEdition 82 = .ok (.istore_n 2, 1) := by decide +kernel
theorem dX5_bringEdition_83 : decode cX5_bringEdition 83 = .ok (.aload_n 0, 1) := by decide +kernel
theorem dX5_bringEdition_84 : decode cX5_bringEdition 84 = .ok (.getfield 21, 3) := by decide +kernel
theorem dX5_bringEdition_87 : decode cX5_bringEdition 87 = .ok (.getfield 115, 3) := by decide +kernel
theorem dX5_bringEdition_90 : decode cX5_bringEdition 90 = .ok (.iload_n 1, 1) := by decide +kernel
theorem dX5_bringEdition_91 : decode cX5_bringEdition 91 = .ok (.iaload, 1) := by decide +kernel
theorem dX5_bringEdition_92 : decode cX5_bringEdition 92 = .ok (.istore_n 3, 1) := by decide +kernel
theorem dX5_bringEdition_93 : decode cX5_bringEdition 93 = .ok (.aload_n 0, 1) := by decide +kernel
theorem dX5_bringEdition_94 : decode cX5_bringEdition 94 = .ok (.getfield 21, 3) := by decide +kernel
theorem dX5_bringEdition_97 : decode cX5_bringEdition 97 = .ok (.getfield 178, 3) := by decide +kernel
theorem dX5_bringEdition_100 : decode cX5_bringEdition 100 = .ok (.iload_n 2, 1) := by decide +kernel
theorem dX5_bringEdition_101 : decode cX5_bringEdition 101 = .ok (.iload_n 3, 1) := by decide +kernel
theorem dX5_bringEdition_102 : decode cX5_bringEdition 102 = .ok (.iastore, 1) := by decide +kernel
theorem dX5_bringEdition_103 : decode cX5_bringEdition 103 = .ok (.aload_n 0, 1) := by decide +kernel
theorem dX5_bringEdition_104 : decode cX5_bringEdition 104 = .ok (.getfield 21, 3) := by decide +kernel
theorem dX5_bringEdition_107 : decode cX5_bringEdition 107 = .ok (.getfield 181, 3) := by decide +kernel
theorem dX5_bringEdition_110 : decode cX5_bringEdition 110 = .ok (.iload_n 2, 1) := by decide +kernel
theorem dX5_bringEdition_111 : decode cX5_bringEdition 111 = .ok (.aload_n 0, 1) := by decide +kernel
theorem dX5_bringEdition_112 : decode cX5_bringEdition 112 = .ok (.getfield 35, 3) := by decide +kernel
theorem dX5_bringEdition_115 : decode cX5_bringEdition 115 = .ok (.iload_n 1, 1) := by decide +kernel
theorem dX5_bringEdition_116 : decode cX5_bringEdition 116 = .ok (.iload_n 3, 1) := by decide +kernel
theorem dX5_bringEdition_117 : decode cX5_bringEdition 117 = .ok (.invokevirtual 184, 3) := by decide +kernel
theorem dX5_bringEdition_120 : decode cX5_bringEdition 120 = .ok (.iastore, 1) := by decide +kernel
theorem dX5_bringEdition_121 : decode cX5_bringEdition 121 = .ok (.iinc 1 1, 3) := by decide +kernel
theorem dX5_bringEdition_124 : decode cX5_bringEdition 124 = .ok (.goto (-64), 3) := by decide +kernel
theorem dX5_bringEdition_127 : decode cX5_bringEdition 127 = .ok (.return_, 1) := by decide +kernel
theorem dX5_reopen_0 : decode cX5_reopen 0 = .ok (.aload_n 0, 1) := by decide +kernel
theorem dX5_reopen_1 : decode cX5_reopen 1 = .ok (.getfield 35, 3) := by decide +kernel
theorem dX5_reopen_4 : decode cX5_reopen 4 = .ok (.iload_n 1, 1) := by decide +kernel
theorem dX5_reopen_5 : decode cX5_reopen 5 = .ok (.invokevirtual 150, 3) := by decide +kernel
theorem dX5_reopen_8 : decode cX5_reopen 8 = .ok (.istore_n 2, 1) := by decide +kernel
theorem dX5_reopen_9 : decode cX5_reopen 9 = .ok (.aload_n 0, 1) := by decide +kernel
theorem dX5_reopen_10 : decode cX5_reopen 10 = .ok (.getfield 35, 3) := by decide +kernel
theorem dX5_reopen_13 : decode cX5_reopen 13 = .ok (.getfield 153, 3) := by decide +kernel
theorem dX5_reopen_16 : decode cX5_reopen 16 = .ok (.iload_n 1, 1) := by decide +kernel
theorem dX5_reopen_17 : decode cX5_reopen 17 = .ok (.iaload, 1) := by decide +kernel
theorem dX5_reopen_18 : decode cX5_reopen 18 = .ok (.istore_n 3, 1) := by decide +kernel
theorem dX5_reopen_19 : decode cX5_reopen 19 = .ok (.aload_n 0, 1) := by decide +kernel
theorem dX5_reopen_20 : decode cX5_reopen 20 = .ok (.getfield 35, 3) := by decide +kernel
theorem dX5_reopen_23 : decode cX5_reopen 23 = .ok (.getfield 187, 3) := by decide +kernel
theorem dX5_reopen_26 : decode cX5_reopen 26 = .ok (.iload_n 1, 1) := by decide +kernel
theorem dX5_reopen_27 : decode cX5_reopen 27 = .ok (.iconst 1, 1) := by decide +kernel
theorem dX5_reopen_28 : decode cX5_reopen 28 = .ok (.iastore, 1) := by decide +kernel
theorem dX5_reopen_29 : decode cX5_reopen 29 = .ok (.iload_n 2, 1) := by decide +kernel
theorem dX5_reopen_30 : decode cX5_reopen 30 = .ok (.ifCond .eq 42, 3) := by decide +kernel
theorem dX5_reopen_33 : decode cX5_reopen 33 = .ok (.aload_n 0, 1) := by decide +kernel
theorem dX5_reopen_34 : decode cX5_reopen 34 = .ok (.getfield 35, 3) := by decide +kernel
theorem dX5_reopen_37 : decode cX5_reopen 37 = .ok (.iload_n 3, 1) := by decide +kernel
theorem dX5_reopen_38 : decode cX5_reopen 38 = .ok (.aload_n 0, 1) := by decide +kernel
theorem dX5_reopen_39 : decode cX5_reopen 39 = .ok (.getfield 21, 3) := by decide +kernel
theorem dX5_reopen_42 : decode cX5_reopen 42 = .ok (.getfield 115, 3) := by decide +kernel
theorem dX5_reopen_45 : decode cX5_reopen 45 = .ok (.iload_n 3, 1) := by decide +kernel
theorem dX5_reopen_46 : decode cX5_reopen 46 = .ok (.iaload, 1) := by decide +kernel
theorem dX5_reopen_47 : decode cX5_reopen 47 = .ok (.invokevirtual 184, 3) := by decide +kernel
theorem dX5_reopen_50 : decode cX5_reopen 50 = .ok (.iconst (-1), 1) := by decide +kernel
theorem dX5_reopen_51 : decode cX5_reopen 51 = .ok (.if_icmp .ne 21, 3) := by decide +kernel
theorem dX5_reopen_54 : decode cX5_reopen 54 = .ok (.aload_n 0, 1) := by decide +kernel
theorem dX5_reopen_55 : decode cX5_reopen 55 = .ok (.getfield 21, 3) := by decide +kernel
theorem dX5_reopen_58 : decode cX5_reopen 58 = .ok (.getfield 115, 3) := by decide +kernel
theorem dX5_reopen_61 : decode cX5_reopen 61 = .ok (.iload_n 3, 1) := by decide +kernel
theorem dX5_reopen_62 : decode cX5_reopen 62 = .ok (.aload_n 0, 1) := by decide +kernel
theorem dX5_reopen_63 : decode cX5_reopen 63 = .ok (.getfield 21, 3) := by decide +kernel
theorem dX5_reopen_66 : decode cX5_reopen 66 = .ok (.getfield 118, 3) := by decide +kernel
theorem dX5_reopen_69 : decode cX5_reopen 69 = .ok (.iload_n 3, 1) := by decide +kernel
theorem dX5_reopen_70 : decode cX5_reopen 70 = .ok (.iaload, 1) := by decide +kernel
theorem dX5_reopen_71 : decode cX5_reopen 71 = .ok (.iastore, 1) := by decide +kernel
theorem dX5_reopen_72 : decode cX5_reopen 72 = .ok (.aload_n 0, 1) := by decide +kernel
theorem dX5_reopen_73 : decode cX5_reopen 73 = .ok (.getfield 28, 3) := by decide +kernel
theorem dX5_reopen_76 : decode cX5_reopen 76 = .ok (.getfield 93, 3) := by decide +kernel
theorem dX5_reopen_79 : decode cX5_reopen 79 = .ok (.ifCond .eq 24, 3) := by decide +kernel
theorem dX5_reopen_82 : decode cX5_reopen 82 = .ok (.aload_n 0, 1) := by decide +kernel
theorem dX5_reopen_83 : decode cX5_reopen 83 = .ok (.getfield 28, 3) := by decide +kernel
theorem dX5_reopen_86 : decode cX5_reopen 86 = .ok (.iconst 0, 1) := by decide +kernel
theorem dX5_reopen_87 : decode cX5_reopen 87 = .ok (.putfield 93, 3) := by decide +kernel
theorem dX5_reopen_90 : decode cX5_reopen 90 = .ok (.aload_n 0, 1) := by decide +kernel
theorem dX5_reopen_91 : decode cX5_reopen 91 = .ok (.getfield 21, 3) := by decide +kernel
theorem dX5_reopen_94 : decode cX5_reopen 94 = .ok (.dup, 1) := by decide +kernel
theorem dX5_reopen_95 : decode cX5_reopen 95 = .ok (.getfield 167, 3) := by decide +kernel
theorem dX5_reopen_98 : decode cX5_reopen 98 = .ok (.iconst 1, 1) := by decide +kernel
theorem dX5_reopen_99 : decode cX5_reopen 99 = .ok (.isub, 1) := by decide +kernel
theorem dX5_reopen_100 : decode cX5_reopen 100 = .ok (.putfield 167, 3) := by decide +kernel
theorem dX5_reopen_103 : decode cX5_reopen 103 = .ok (.return_, 1) := by decide +kernel
theorem dX6_init_0 : decode cX6_init 0 = .ok (.aload_n 0, 1) := by decide +kernel
theorem dX6_init_1 : decode cX6_init 1 = .ok (.invokespecial 3, 3) := by decide +kernel
theorem dX6_init_4 : decode cX6_init 4 = .ok (.aload_n 0, 1) := by decide +kernel
theorem dX6_init_5 : decode cX6_init 5 = .ok (.bipush 80, 2) := by decide +kernel
theorem dX6_init_7 : decode cX6_init 7 = .ok (.newarray .char, 2) := by decide +kernel
theorem dX6_init_9 : decode cX6_init 9 = .ok (.putfield 9, 3) := by decide +kernel
theorem dX6_init_12 : decode cX6_init 12 = .ok (.return_, 1) := by decide +kernel
theorem dX6_append_0 : decode cX6_append 0 = .ok (.aload_n 0, 1) := by decide +kernel
theorem dX6_append_1 : decode cX6_append 1 = .ok (.getfield 15, 3) := by decide +kernel
theorem dX6_append_4 : decode cX6_append 4 = .ok (.bipush 80, 2) := by decide +kernel
theorem dX6_append_6 : decode cX6_append 6 = .ok (.if_icmp .ge 23, 3) := by decide +kernel
theorem dX6_append_9 : decode cX6_append 9 = .ok (.aload_n 0, 1) := by decide +kernel
theorem dX6_append_10 : decode cX6_append 10 = .ok (.getfield 9, 3) := by decide +kernel
theorem dX6_append_13 : decode cX6_append 13 = .ok (.aload_n 0, 1) := by decide +kernel
theorem dX6_append_14 : decode cX6_append 14 = .ok (.getfield 15, 3) := by decide +kernel
theorem dX6_append_17 : decode cX6_append 17 = .ok (.iload_n 1, 1) := by decide +kernel
theorem dX6_append_18 : decode cX6_append 18 = .ok (.castore, 1) := by decide +kernel
theorem dX6_append_19 : decode cX6_append 19 = .ok (.aload_n 0, 1) := by decide +kernel
theorem dX6_append_20 : decode cX6_append 20 = .ok (.dup, 1) := by decide +kernel
theorem dX6_append_21 : decode cX6_append 21 = .ok (.getfield 15, 3) := by decide +kernel
theorem dX6_append_24 : decode cX6_append 24 = .ok (.iconst 1, 1) := by decide +kernel
theorem dX6_append_25 : decode cX6_append 25 = .ok (.iadd, 1) := by decide +kernel
theorem dX6_append_26 : decode cX6_append 26 = .ok (.putfield 15, 3) := by decide +kernel
theorem dX6_append_29 : decode cX6_append 29 = .ok (.return_, 1) := by decide +kernel
theorem dX6_rewind_0 : decode cX6_rewind 0 = .ok (.aload_n 0, 1) := by decide +kernel
theorem dX6_rewind_1 : decode cX6_rewind 1 = .ok (.iconst 0, 1) := by decide +kernel
theorem dX6_rewind_2 : decode cX6_rewind 2 = .ok (.putfield 19, 3) := by decide +kernel
theorem dX6_rewind_5 : decode cX6_rewind 5 = .ok (.aload_n 0, 1) := by decide +kernel
theorem dX6_rewind_6 : decode cX6_rewind 6 = .ok (.iconst 0, 1) := by decide +kernel
theorem dX6_rewind_7 : decode cX6_rewind 7 = .ok (.putfield 22, 3) := by decide +kernel
theorem dX6_rewind_10 : decode cX6_rewind 10 = .ok (.return_, 1) := by decide +kernel
theorem dX6_isAtEnd_0 : decode cX6_isAtEnd 0 = .ok (.aload_n 0, 1) := by decide +kernel
theorem dX6_isAtEnd_1 : decode cX6_isAtEnd 1 = .ok (.getfield 22, 3) := by decide +kernel
theorem dX6_isAtEnd_4 : decode cX6_isAtEnd 4 = .ok (.aload_n 0, 1) := by decide +kernel
theorem dX6_isAtEnd_5 : decode cX6_isAtEnd 5 = .ok (.getfield 15, 3) := by decide +kernel
theorem dX6_isAtEnd_8 : decode cX6_isAtEnd 8 = .ok (.if_icmp .lt 7, 3) := by decide +kernel
theorem dX6_isAtEnd_11 : decode cX6_isAtEnd 11 = .ok (.iconst 1, 1) := by decide +kernel
theorem dX6_isAtEnd_12 : decode cX6_isAtEnd 12 = .ok (.goto 4, 3) := by decide +kernel
theorem dX6_isAtEnd_15 : decode cX6_isAtEnd 15 = .ok (.iconst 0, 1) := by decide +kernel
theorem dX6_isAtEnd_16 : decode cX6_isAtEnd 16 = .ok (.ireturn, 1) := by decide +kernel
theorem dX6_readComment_0 : decode cX6_readComment 0 = .ok (.aload_n 0, 1) := by decide +kernel
theorem dX6_readComment_1 : decode cX6_readComment 1 = .ok (.aload_n 0, 1) := by decide +kernel
theorem dX6_readComment_2 : decode cX6_readComment 2 = .ok (.getfield 22, 3) := by decide +kernel
theorem dX6_readComment_5 : decode cX6_readComment 5 = .ok (.putfield 19, 3) := by decide +kernel
theorem dX6_readComment_8 : decode cX6_readComment 8 = .ok (.aload_n 0, 1) := by decide +kernel
theorem dX6_readComment_9 : decode cX6_readComment 9 = .ok (.aload_n 0, 1) := by decide +kernel
theorem dX6_readComment_10 : decode cX6_readComment 10 = .ok (.getfield 19, 3) := by decide +kernel
theorem dX6_readComment_13 : decode cX6_readComment 13 = .ok (.iconst 2, 1) := by decide +kernel
theorem dX6_readComment_14 : decode cX6_readComment 14 = .ok (.invokevirtual 25, 3) := by decide +kernel
theorem dX6_readComment_17 : decode cX6_readComment 17 = .ok (.istore_n 1, 1) := by decide +kernel
theorem dX6_readComment_18 : decode cX6_readComment 18 = .ok (.aload_n 0, 1) := by decide +kernel
theorem dX6_readComment_19 : decode cX6_readComment 19 = .ok (.getfield 19, 3) := by decide +kernel
theorem dX6_readComment_22 : decode cX6_readComment 22 = .ok (.iload_n 1, 1) := by decide +kernel
theorem dX6_readComment_23 : decode cX6_readComment 23 = .ok (.iadd, 1) := by decide +kernel
theorem dX6_readComment_24 : decode cX6_readComment 24 = .ok (.istore_n 2, 1) := by decide +kernel
theorem dX6_readComment_25 : decode cX6_readComment 25 = .ok (.aload_n 0, 1) := by decide +kernel
theorem dX6_readComment_26 : decode cX6_readComment 26 = .ok (.aload_n 0, 1) := by decide +kernel
theorem dX6_readComment_27 : decode cX6_readComment 27 = .ok (.aload_n 0, 1) := by decide +kernel
theorem dX6_readComment_28 : decode cX6_readComment 28 = .ok (.getfield 19, 3) := by decide +kernel
theorem dX6_readComment_31 : decode cX6_readComment 31 = .ok (.iload_n 1, 1) := by decide +kernel
theorem dX6_readComment_32 : decode cX6_readComment 32 = .ok (.invokevirtual 29, 3) := by decide +kernel
theorem dX6_readComment_35 : decode cX6_readComment 35 = .ok (.putfield 32, 3) := by decide +kernel
theorem dX6_readComment_38 : decode cX6_readComment 38 = .ok (.aload_n 0, 1) := by decide +kernel
theorem dX6_readComment_39 : decode cX6_readComment 39 = .ok (.aload_n 0, 1) := by decide +kernel
theorem dX6_readComment_40 : decode cX6_readComment 40 = .ok (.iload_n 2, 1) := by decide +kernel
theorem dX6_readComment_41 : decode cX6_readComment 41 = .ok (.invokevirtual 35, 3) := by decide +kernel
theorem dX6_readComment_44 : decode cX6_readComment 44 = .ok (.bipush 116, 2) := by decide +kernel
theorem dX6_readComment_46 : decode cX6_readComment 46 = .ok (.if_icmp .ne 7, 3) := by decide +kernel
theorem dX6_readComment_49 : decode cX6_readComment 49 = .ok (.iconst 1, 1) := by decide +kernel
theorem dX6_readComment_50 : decode cX6_readComment 50 = .ok (.goto 4, 3) := by decide +kernel
theorem dX6_readComment_53 : decode cX6_readComment 53 = .ok (.iconst 0, 1) := by decide +kernel
theorem dX6_readComment_54 : decode cX6_readComment 54 = .ok (.putfield 39, 3) := by decide +kernel
theorem dX6_readComment_57 : decode cX6_readComment 57 = .ok (.aload_n 0, 1) := by decide +kernel
theorem dX6_readComment_58 : decode cX6_readComment 58 = .ok (.iload_n 2, 1) := by decide +kernel
theorem dX6_readComment_59 : decode cX6_readComment 59 = .ok (.invokevirtual 35, 3) := by decide +kernel
theorem dX6_readComment_62 : decode cX6_readComment 62 = .ok (.bipush 116, 2) := by decide +kernel
theorem dX6_readComment_64 : decode cX6_readComment 64 = .ok (.if_icmp .eq 13, 3) := by decide +kernel
theorem dX6_readComment_67 : decode cX6_readComment 67 = .ok (.aload_n 0, 1) := by decide +kernel
theorem dX6_readComment_68 : decode cX6_readComment 68 = .ok (.iload_n 2, 1) := by decide +kernel
theorem dX6_readComment_69 : decode cX6_readComment 69 = .ok (.invokevirtual 35, 3) := by decide +kernel
theorem dX6_readComment_72 : decode cX6_readComment 72 = .ok (.bipush 101, 2) := by decide +kernel
theorem dX6_readComment_74 : decode cX6_readComment 74 = .ok (.if_icmp .ne 7, 3) := by decide +kernel
theorem dX6_readComment_77 : decode cX6_readComment 77 = .ok (.iconst 1, 1) := by decide +kernel
theorem dX6_readComment_78 : decode cX6_readComment 78 = .ok (.goto 4, 3) := by decide +kernel
theorem dX6_readComment_81 : decode cX6_readComment 81 = .ok (.iconst 0, 1) := by decide +kernel
theorem dX6_readComment_82 : decode cX6_readComment 82 = .ok (.istore_n 3, 1) := by decide +kernel
theorem dX6_readComment_83 : decode cX6_readComment 83 = .ok (.iload_n 1, 1) := by decide +kernel
theorem dX6_readComment_84 : decode cX6_readComment 84 = .ok (.ifCond .eq 19, 3) := by decide +kernel
theorem dX6_readComment_87 : decode cX6_readComment 87 = .ok (.iload_n 3, 1) := by decide +kernel
theorem dX6_readComment_88 : decode cX6_readComment 88 = .ok (.ifCond .eq 15, 3) := by decide +kernel
theorem dX6_readComment_91 : decode cX6_readComment 91 = .ok (.aload_n 0, 1) := by decide +kernel
theorem dX6_readComment_92 : decode cX6_readComment 92 = .ok (.iload_n 2, 1) := by decide +kernel
theorem dX6_readComment_93 : decode cX6_readComment 93 = .ok (.iconst 1, 1) := by decide +kernel
theorem dX6_readComment_94 : decode cX6_readComment 94 = .ok (.iadd, 1) := by decide +kernel
theorem dX6_readComment_95 : decode cX6_readComment 95 = .ok (.invokevirtual 35, 3) := by decide +kernel
theorem dX6_readComment_98 : decode cX6_readComment 98 = .ok (.bipush 61, 2) := by decide +kernel
theorem dX6_readComment_100 : decode cX6_readComment 100 = .ok (.if_icmp .eq 5, 3) := by decide +kernel
theorem dX6_readComment_103 : decode cX6_readComment 103 = .ok (.iconst 0, 1) := by decide +kernel
theorem dX6_readComment_104 : decode cX6_readComment 104 = .ok (.ireturn, 1) := by decide +kernel
theorem dX6_readComment_105 : decode cX6_readComment 105 = .ok (.aload_n 0, 1) := by decide +kernel
theorem dX6_readComment_106 : decode cX6_readComment 106 = .ok (.iload_n 2, 1) := by decide +kernel
theorem dX6_readComment_107 : decode cX6_readComment 107 = .ok (.iconst 2, 1) := by decide +kernel
theorem dX6_readComment_108 : decode cX6_readComment 108 = .ok (.iadd, 1) := by decide +kernel
theorem dX6_readComment_109 : decode cX6_readComment 109 = .ok (.iconst 4, 1) := by decide +kernel
theorem dX6_readComment_110 : decode cX6_readComment 110 = .ok (.invokevirtual 25, 3) := by decide +kernel
theorem dX6_readComment_113 : decode cX6_readComment 113 = .ok (.istore_n 1, 1) := by decide +kernel
theorem dX6_readComment_114 : decode cX6_readComment 114 = .ok (.aload_n 0, 1) := by decide +kernel
theorem dX6_readComment_115 : decode cX6_readComment 115 = .ok (.aload_n 0, 1) := by decide +kernel
theorem dX6_readComment_116 : decode cX6_readComment 116 = .ok (.iload_n 2, 1) := by decide +kernel
theorem dX6_readComment_117 : decode cX6_readComment 117 = .ok (.iconst 2, 1) := by decide +kernel
theorem dX6_readComment_118 : decode cX6_readComment 118 = .ok (.iadd, 1) := by decide +kernel
theorem dX6_readComment_119 : decode cX6_readComment 119 = .ok (.iload_n 1, 1) := by decide +kernel
theorem dX6_readComment_120 : decode cX6_readComment 120 = .ok (.invokevirtual 29, 3) := by decide +kernel
theorem dX6_readComment_123 : decode cX6_readComment 123 = .ok (.putfield 42, 3) := by decide +kernel
theorem dX6_readComment_126 : decode cX6_readComment 126 = .ok (.aload_n 0, 1) := by decide +kernel
theorem dX6_readComment_127 : decode cX6_readComment 127 = .ok (.iload_n 2, 1) := by decide +kernel
theorem dX6_readComment_128 : decode cX6_readComment 128 = .ok (.iconst 2, 1) := by decide +kernel
theorem dX6_readComment_129 : decode cX6_readComment 129 = .ok (.iadd, 1) := by decide +kernel
theorem dX6_readComment_130 : decode cX6_readComment 130 = .ok (.iload_n 1, 1) := by decide +kernel
theorem dX6_readComment_131 : decode cX6_readComment 131 = .ok (.iadd, 1) := by decide +kernel
theorem dX6_readComment_132 : decode cX6_readComment 132 = .ok (.iconst 1, 1) := by decide +kernel
theorem dX6_readComment_133 : decode cX6_readComment 133 = .ok (.iadd, 1) := by decide +kernel
theorem dX6_readComment_134 : decode cX6_readComment 134 = .ok (.putfield 22, 3) := by decide +kernel
theorem dX6_readComment_137 : decode cX6_readComment 137 = .ok (.iload_n 1, 1) := by decide +kernel
theorem dX6_readComment_138 : decode cX6_readComment 138 = .ok (.ifCond .le 22, 3) := by decide +kernel
theorem dX6_readComment_141 : decode cX6_readComment 141 = .ok (.aload_n 0, 1) := by decide +kernel
theorem dX6_readComment_142 : decode cX6_readComment 142 = .ok (.aload_n 0, 1) := by decide +kernel
theorem dX6_readComment_143 : decode cX6_readComment 143 = .ok (.getfield 22, 3) := by decide +kernel
theorem dX6_readComment_146 : decode cX6_readComment 146 = .ok (.iconst 1, 1) := by decide +kernel
theorem dX6_readComment_147 : decode cX6_readComment 147 = .ok (.isub, 1) := by decide +kernel
theorem dX6_readComment_148 : decode cX6_readComment 148 = .ok (.invokevirtual 35, 3) := by decide +kernel
theorem dX6_readComment_151 : decode cX6_readComment 151 = .ok (.bipush 59, 2) := by decide +kernel
theorem dX6_readComment_153 : decode cX6_readComment 153 = .ok (.if_icmp .ne 7, 3) := by decide +kernel
theorem dX6_readComment_156 : decode cX6_readComment 156 = .ok (.iconst 1, 1) := by decide +kernel
theorem dX6_readComment_157 : decode cX6_readComment 157 = .ok (.goto 4, 3) := by decide +kernel
theorem dX6_readComment_160 : decode cX6_readComment 160 = .ok (.iconst 0, 1) := by decide +kernel
theorem dX6_readComment_161 : decode cX6_readComment 161 = .ok (.ireturn, 1) := by decide +kernel
theorem dX6_signAt_0 : decode cX6_signAt 0 = .ok (.iload_n 1, 1) := by decide +kernel
theorem dX6_signAt_1 : decode cX6_signAt 1 = .ok (.ifCond .lt 20, 3) := by decide +kernel
theorem dX6_signAt_4 : decode cX6_signAt 4 = .ok (.iload_n 1, 1) := by decide +kernel
theorem dX6_signAt_5 : decode cX6_signAt 5 = .ok (.aload_n 0, 1) := by decide +kernel
theorem dX6_signAt_6 : decode cX6_signAt 6 = .ok (.getfield 15, 3) := by decide +kernel
theorem dX6_signAt_9 : decode cX6_signAt 9 = .ok (.if_icmp .ge 12, 3) := by decide +kernel
theorem dX6_signAt_12 : decode cX6_signAt 12 = .ok (.aload_n 0, 1) := by decide +kernel
theorem dX6_signAt_13 : decode cX6_signAt 13 = .ok (.getfield 9, 3) := by decide +kernel
theorem dX6_signAt_16 : decode cX6_signAt 16 = .ok (.iload_n 1, 1) := by decide +kernel
theorem dX6_signAt_17 : decode cX6_signAt 17 = .ok (.caload, 1) := by decide +kernel
theorem dX6_signAt_18 : decode cX6_signAt 18 = .ok (.goto 4, 3) := by decide +kernel
theorem dX6_signAt_21 : decode cX6_signAt 21 = .ok (.iconst 0, 1) := by decide +kernel
theorem dX6_signAt_22 : decode cX6_signAt 22 = .ok (.ireturn, 1) := by decide +kernel
theorem dX6_digitsAt_0 : decode cX6_digitsAt 0 = .ok (.iconst 0, 1) := by decide +kernel
theorem dX6_digitsAt_1 : decode cX6_digitsAt 1 = .ok (.istore_n 3, 1) := by decide +kernel
theorem dX6_digitsAt_2 : decode cX6_digitsAt 2 = .ok (.iload_n 3, 1) := by decide +kernel
theorem dX6_digitsAt_3 : decode cX6_digitsAt 3 = .ok (.iload_n 2, 1) := by decide +kernel
theorem dX6_digitsAt_4 : decode cX6_digitsAt 4 = .ok (.if_icmp .ge 34, 3) := by decide +kernel
theorem dX6_digitsAt_7 : decode cX6_digitsAt 7 = .ok (.aload_n 0, 1) := by decide +kernel
theorem dX6_digitsAt_8 : decode cX6_digitsAt 8 = .ok (.iload_n 1, 1) := by decide +kernel
theorem dX6_digitsAt_9 : decode cX6_digitsAt 9 = .ok (.iload_n 3, 1) := by decide +kernel
theorem dX6_digitsAt_10 : decode cX6_digitsAt 10 = .ok (.iadd, 1) := by decide +kernel
theorem dX6_digitsAt_11 : decode cX6_digitsAt 11 = .ok (.invokevirtual 35, 3) := by decide +kernel
theorem dX6_digitsAt_14 : decode cX6_digitsAt 14 = .ok (.istore 4, 2) := by decide +kernel
theorem dX6_digitsAt_16 : decode cX6_digitsAt 16 = .ok (.iload 4, 2) := by decide +kernel
theorem dX6_digitsAt_18 : decode cX6_digitsAt 18 = .ok (.bipush 48, 2) := by decide +kernel
theorem dX6_digitsAt_20 : decode cX6_digitsAt 20 = .ok (.if_icmp .lt 10, 3) := by decide +kernel
theorem dX6_digitsAt_23 : decode cX6_digitsAt 23 = .ok (.iload 4, 2) := by decide +kernel
theorem dX6_digitsAt_25 : decode cX6_digitsAt 25 = .ok (.bipush 57, 2) := by decide +kernel
theorem dX6_digitsAt_27 : decode cX6_digitsAt 27 = .ok (.if_icmp .le 5, 3) := by decide +kernel
theorem dX6_digitsAt_30 : decode cX6_digitsAt 30 = .ok (.iload_n 3, 1) := by decide +kernel
theorem dX6_digitsAt_31 : decode cX6_digitsAt 31 = .ok (.ireturn, 1) := by decide +kernel
theorem dX6_digitsAt_32 : decode cX6_digitsAt 32 = .ok (.iinc 3 1, 3) := by decide +kernel
theorem dX6_digitsAt_35 : decode cX6_digitsAt 35 = .ok (.goto (-33), 3) := by decide +kernel
theorem dX6_digitsAt_38 : decode cX6_digitsAt 38 = .ok (.iload_n 2, 1) := by decide +kernel
theorem dX6_digitsAt_39 : decode cX6_digitsAt 39 = .ok (.ireturn, 1) := by decide +kernel
theorem dX6_numberAt_0 : decode cX6_numberAt 0 = .ok (.iconst 0, 1) := by decide +kernel
theorem dX6_numberAt_1 : decode cX6_numberAt 1 = .ok (.istore_n 3, 1) := by decide +kernel
theorem dX6_numberAt_2 : decode cX6_numberAt 2 = .ok (.iconst 0, 1) := by decide +kernel
theorem dX6_numberAt_3 : decode cX6_numberAt 3 = .ok (.istore 4, 2) := by decide +kernel
theorem dX6_numberAt_5 : decode cX6_numberAt 5 = .ok (.iload 4, 2) := by decide +kernel
theorem dX6_numberAt_7 : decode cX6_numberAt 7 = .ok (.iload_n 2, 1) := by decide +kernel
theorem dX6_numberAt_8 : decode cX6_numberAt 8 = .ok (.if_icmp .ge 26, 3) := by decide +kernel
theorem dX6_numberAt_11 : decode cX6_numberAt 11 = .ok (.iload_n 3, 1) := by decide +kernel
theorem dX6_numberAt_12 : decode cX6_numberAt 12 = .ok (.bipush 10, 2) := by decide +kernel
theorem dX6_numberAt_14 : decode cX6_numberAt 14 = .ok (.imul, 1) := by decide +kernel
theorem dX6_numberAt_15 : decode cX6_numberAt 15 = .ok (.aload_n 0, 1) := by decide +kernel
theorem dX6_numberAt_16 : decode cX6_numberAt 16 = .ok (.iload_n 1, 1) := by decide +kernel
theorem dX6_numberAt_17 : decode cX6_numberAt 17 = .ok (.iload 4, 2) := by decide +kernel
theorem dX6_numberAt_19 : decode cX6_numberAt 19 = .ok (.iadd, 1) := by decide +kernel
theorem dX6_numberAt_20 : decode cX6_numberAt 20 = .ok (.invokevirtual 35, 3) := by decide +kernel
theorem dX6_numberAt_23 : decode cX6_numberAt 23 = .ok (.iadd, 1) := by decide +kernel
theorem dX6_numberAt_24 : decode cX6_numberAt 24 = .ok (.bipush 48, 2) := by decide +kernel
theorem dX6_numberAt_26 : decode cX6_numberAt 26 = .ok (.isub, 1) := by decide +kernel
theorem dX6_numberAt_27 : decode cX6_numberAt 27 = .ok (.istore_n 3, 1) := by decide +kernel
theorem dX6_numberAt_28 : decode cX6_numberAt 28 = .ok (.iinc 4 1, 3) := by decide +kernel
theorem dX6_numberAt_31 : decode cX6_numberAt 31 = .ok (.goto (-26), 3) := by decide +kernel
theorem dX6_numberAt_34 : decode cX6_numberAt 34 = .ok (.iload_n 3, 1) := by decide +kernel
theorem dX6_numberAt_35 : decode cX6_numberAt 35 = .ok (.ireturn, 1) := by decide +kernel
