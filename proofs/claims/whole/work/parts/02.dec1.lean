theorem dX4_seekSecond_65 : decode cX4_seekSecond 65 = .ok (.aload_n 0, 1) := by decide +kernel
theorem dX4_seekSecond_66 : decode cX4_seekSecond 66 = .ok (.getfield 25, 3) := by decide +kernel
theorem dX4_seekSecond_69 : decode cX4_seekSecond 69 = .ok (.iadd, 1) := by decide +kernel
theorem dX4_seekSecond_70 : decode cX4_seekSecond 70 = .ok (.imul, 1) := by decide +kernel
theorem dX4_seekSecond_71 : decode cX4_seekSecond 71 = .ok (.isub, 1) := by decide +kernel
theorem dX4_seekSecond_72 : decode cX4_seekSecond 72 = .ok (.invokevirtual 32, 3) := by decide +kernel
theorem dX4_seekSecond_75 : decode cX4_seekSecond 75 = .ok (.invokevirtual 54, 3) := by decide +kernel
theorem dX4_seekSecond_78 : decode cX4_seekSecond 78 = .ok (.iinc 3 (-1), 3) := by decide +kernel
theorem dX4_seekSecond_81 : decode cX4_seekSecond 81 = .ok (.goto (-74), 3) := by decide +kernel
theorem dX4_seekSecond_84 : decode cX4_seekSecond 84 = .ok (.return_, 1) := by decide +kernel
theorem dX4_fitting_0 : decode cX4_fitting 0 = .ok (.aload_n 0, 1) := by decide +kernel
theorem dX4_fitting_1 : decode cX4_fitting 1 = .ok (.getfield 19, 3) := by decide +kernel
theorem dX4_fitting_4 : decode cX4_fitting 4 = .ok (.iload_n 1, 1) := by decide +kernel
theorem dX4_fitting_5 : decode cX4_fitting 5 = .ok (.iaload, 1) := by decide +kernel
theorem dX4_fitting_6 : decode cX4_fitting 6 = .ok (.aload_n 0, 1) := by decide +kernel
theorem dX4_fitting_7 : decode cX4_fitting 7 = .ok (.getfield 25, 3) := by decide +kernel
theorem dX4_fitting_10 : decode cX4_fitting 10 = .ok (.iadd, 1) := by decide +kernel
theorem dX4_fitting_11 : decode cX4_fitting 11 = .ok (.istore_n 3, 1) := by decide +kernel
theorem dX4_fitting_12 : decode cX4_fitting 12 = .ok (.aload_n 0, 1) := by decide +kernel
theorem dX4_fitting_13 : decode cX4_fitting 13 = .ok (.getfield 22, 3) := by decide +kernel
theorem dX4_fitting_16 : decode cX4_fitting 16 = .ok (.iload_n 1, 1) := by decide +kernel
theorem dX4_fitting_17 : decode cX4_fitting 17 = .ok (.iaload, 1) := by decide +kernel
theorem dX4_fitting_18 : decode cX4_fitting 18 = .ok (.ifCond .le 11, 3) := by decide +kernel
theorem dX4_fitting_21 : decode cX4_fitting 21 = .ok (.iload_n 3, 1) := by decide +kernel
theorem dX4_fitting_22 : decode cX4_fitting 22 = .ok (.ifCond .le 7, 3) := by decide +kernel
theorem dX4_fitting_25 : decode cX4_fitting 25 = .ok (.iload_n 2, 1) := by decide +kernel
theorem dX4_fitting_26 : decode cX4_fitting 26 = .ok (.ifCond .ge 5, 3) := by decide +kernel
theorem dX4_fitting_29 : decode cX4_fitting 29 = .ok (.iconst 0, 1) := by decide +kernel
theorem dX4_fitting_30 : decode cX4_fitting 30 = .ok (.ireturn, 1) := by decide +kernel
theorem dX4_fitting_31 : decode cX4_fitting 31 = .ok (.aload_n 0, 1) := by decide +kernel
theorem dX4_fitting_32 : decode cX4_fitting 32 = .ok (.getfield 22, 3) := by decide +kernel
theorem dX4_fitting_35 : decode cX4_fitting 35 = .ok (.iload_n 1, 1) := by decide +kernel
theorem dX4_fitting_36 : decode cX4_fitting 36 = .ok (.iaload, 1) := by decide +kernel
theorem dX4_fitting_37 : decode cX4_fitting 37 = .ok (.iload_n 2, 1) := by decide +kernel
theorem dX4_fitting_38 : decode cX4_fitting 38 = .ok (.iload_n 3, 1) := by decide +kernel
theorem dX4_fitting_39 : decode cX4_fitting 39 = .ok (.idiv, 1) := by decide +kernel
theorem dX4_fitting_40 : decode cX4_fitting 40 = .ok (.invokestatic 49, 3) := by decide +kernel
theorem dX4_fitting_43 : decode cX4_fitting 43 = .ok (.ireturn, 1) := by decide +kernel
theorem dX4_offer_0 : decode cX4_offer 0 = .ok (.iload_n 1, 1) := by decide +kernel
theorem dX4_offer_1 : decode cX4_offer 1 = .ok (.aload_n 0, 1) := by decide +kernel
theorem dX4_offer_2 : decode cX4_offer 2 = .ok (.getfield 19, 3) := by decide +kernel
theorem dX4_offer_5 : decode cX4_offer 5 = .ok (.iconst 0, 1) := by decide +kernel
theorem dX4_offer_6 : decode cX4_offer 6 = .ok (.iaload, 1) := by decide +kernel
theorem dX4_offer_7 : decode cX4_offer 7 = .ok (.imul, 1) := by decide +kernel
theorem dX4_offer_8 : decode cX4_offer 8 = .ok (.iload_n 2, 1) := by decide +kernel
theorem dX4_offer_9 : decode cX4_offer 9 = .ok (.aload_n 0, 1) := by decide +kernel
theorem dX4_offer_10 : decode cX4_offer 10 = .ok (.getfield 19, 3) := by decide +kernel
theorem dX4_offer_13 : decode cX4_offer 13 = .ok (.iconst 1, 1) := by decide +kernel
theorem dX4_offer_14 : decode cX4_offer 14 = .ok (.iaload, 1) := by decide +kernel
theorem dX4_offer_15 : decode cX4_offer 15 = .ok (.imul, 1) := by decide +kernel
theorem dX4_offer_16 : decode cX4_offer 16 = .ok (.iadd, 1) := by decide +kernel
theorem dX4_offer_17 : decode cX4_offer 17 = .ok (.iload_n 3, 1) := by decide +kernel
theorem dX4_offer_18 : decode cX4_offer 18 = .ok (.aload_n 0, 1) := by decide +kernel
theorem dX4_offer_19 : decode cX4_offer 19 = .ok (.getfield 19, 3) := by decide +kernel
theorem dX4_offer_22 : decode cX4_offer 22 = .ok (.iconst 2, 1) := by decide +kernel
theorem dX4_offer_23 : decode cX4_offer 23 = .ok (.iaload, 1) := by decide +kernel
theorem dX4_offer_24 : decode cX4_offer 24 = .ok (.imul, 1) := by decide +kernel
theorem dX4_offer_25 : decode cX4_offer 25 = .ok (.iadd, 1) := by decide +kernel
theorem dX4_offer_26 : decode cX4_offer 26 = .ok (.istore 4, 2) := by decide +kernel
theorem dX4_offer_28 : decode cX4_offer 28 = .ok (.iload_n 1, 1) := by decide +kernel
theorem dX4_offer_29 : decode cX4_offer 29 = .ok (.iload_n 2, 1) := by decide +kernel
theorem dX4_offer_30 : decode cX4_offer 30 = .ok (.iadd, 1) := by decide +kernel
theorem dX4_offer_31 : decode cX4_offer 31 = .ok (.iload_n 3, 1) := by decide +kernel
theorem dX4_offer_32 : decode cX4_offer 32 = .ok (.iadd, 1) := by decide +kernel
theorem dX4_offer_33 : decode cX4_offer 33 = .ok (.aload_n 0, 1) := by decide +kernel
theorem dX4_offer_34 : decode cX4_offer 34 = .ok (.getfield 9, 3) := by decide +kernel
theorem dX4_offer_37 : decode cX4_offer 37 = .ok (.iconst 0, 1) := by decide +kernel
theorem dX4_offer_38 : decode cX4_offer 38 = .ok (.iaload, 1) := by decide +kernel
theorem dX4_offer_39 : decode cX4_offer 39 = .ok (.aload_n 0, 1) := by decide +kernel
theorem dX4_offer_40 : decode cX4_offer 40 = .ok (.getfield 9, 3) := by decide +kernel
theorem dX4_offer_43 : decode cX4_offer 43 = .ok (.iconst 1, 1) := by decide +kernel
theorem dX4_offer_44 : decode cX4_offer 44 = .ok (.iaload, 1) := by decide +kernel
theorem dX4_offer_45 : decode cX4_offer 45 = .ok (.iadd, 1) := by decide +kernel
theorem dX4_offer_46 : decode cX4_offer 46 = .ok (.aload_n 0, 1) := by decide +kernel
theorem dX4_offer_47 : decode cX4_offer 47 = .ok (.getfield 9, 3) := by decide +kernel
theorem dX4_offer_50 : decode cX4_offer 50 = .ok (.iconst 2, 1) := by decide +kernel
theorem dX4_offer_51 : decode cX4_offer 51 = .ok (.iaload, 1) := by decide +kernel
theorem dX4_offer_52 : decode cX4_offer 52 = .ok (.iadd, 1) := by decide +kernel
theorem dX4_offer_53 : decode cX4_offer 53 = .ok (.if_icmp .ge 7, 3) := by decide +kernel
theorem dX4_offer_56 : decode cX4_offer 56 = .ok (.iconst 1, 1) := by decide +kernel
theorem dX4_offer_57 : decode cX4_offer 57 = .ok (.goto 4, 3) := by decide +kernel
theorem dX4_offer_60 : decode cX4_offer 60 = .ok (.iconst 0, 1) := by decide +kernel
theorem dX4_offer_61 : decode cX4_offer 61 = .ok (.istore 5, 2) := by decide +kernel
theorem dX4_offer_63 : decode cX4_offer 63 = .ok (.iload 4, 2) := by decide +kernel
theorem dX4_offer_65 : decode cX4_offer 65 = .ok (.aload_n 0, 1) := by decide +kernel
theorem dX4_offer_66 : decode cX4_offer 66 = .ok (.getfield 15, 3) := by decide +kernel
theorem dX4_offer_69 : decode cX4_offer 69 = .ok (.if_icmp .gt 17, 3) := by decide +kernel
theorem dX4_offer_72 : decode cX4_offer 72 = .ok (.iload 4, 2) := by decide +kernel
theorem dX4_offer_74 : decode cX4_offer 74 = .ok (.aload_n 0, 1) := by decide +kernel
theorem dX4_offer_75 : decode cX4_offer 75 = .ok (.getfield 15, 3) := by decide +kernel
theorem dX4_offer_78 : decode cX4_offer 78 = .ok (.if_icmp .ne 35, 3) := by decide +kernel
theorem dX4_offer_81 : decode cX4_offer 81 = .ok (.iload 5, 2) := by decide +kernel
theorem dX4_offer_83 : decode cX4_offer 83 = .ok (.ifCond .eq 30, 3) := by decide +kernel
theorem dX4_offer_86 : decode cX4_offer 86 = .ok (.aload_n 0, 1) := by decide +kernel
theorem dX4_offer_87 : decode cX4_offer 87 = .ok (.iload 4, 2) := by decide +kernel
theorem dX4_offer_89 : decode cX4_offer 89 = .ok (.putfield 15, 3) := by decide +kernel
theorem dX4_offer_92 : decode cX4_offer 92 = .ok (.aload_n 0, 1) := by decide +kernel
theorem dX4_offer_93 : decode cX4_offer 93 = .ok (.getfield 9, 3) := by decide +kernel
theorem dX4_offer_96 : decode cX4_offer 96 = .ok (.iconst 0, 1) := by decide +kernel
theorem dX4_offer_97 : decode cX4_offer 97 = .ok (.iload_n 1, 1) := by decide +kernel
theorem dX4_offer_98 : decode cX4_offer 98 = .ok (.iastore, 1) := by decide +kernel
theorem dX4_offer_99 : decode cX4_offer 99 = .ok (.aload_n 0, 1) := by decide +kernel
theorem dX4_offer_100 : decode cX4_offer 100 = .ok (.getfield 9, 3) := by decide +kernel
theorem dX4_offer_103 : decode cX4_offer 103 = .ok (.iconst 1, 1) := by decide +kernel
theorem dX4_offer_104 : decode cX4_offer 104 = .ok (.iload_n 2, 1) := by decide +kernel
theorem dX4_offer_105 : decode cX4_offer 105 = .ok (.iastore, 1) := by decide +kernel
theorem dX4_offer_106 : decode cX4_offer 106 = .ok (.aload_n 0, 1) := by decide +kernel
theorem dX4_offer_107 : decode cX4_offer 107 = .ok (.getfield 9, 3) := by decide +kernel
theorem dX4_offer_110 : decode cX4_offer 110 = .ok (.iconst 2, 1) := by decide +kernel
theorem dX4_offer_111 : decode cX4_offer 111 = .ok (.iload_n 3, 1) := by decide +kernel
theorem dX4_offer_112 : decode cX4_offer 112 = .ok (.iastore, 1) := by decide +kernel
theorem dX4_offer_113 : decode cX4_offer 113 = .ok (.return_, 1) := by decide +kernel
theorem dX5_init_0 : decode cX5_init 0 = .ok (.aload_n 0, 1) := by decide +kernel
theorem dX5_init_1 : decode cX5_init 1 = .ok (.invokespecial 3, 3) := by decide +kernel
theorem dX5_init_4 : decode cX5_init 4 = .ok (.aload_n 0, 1) := by decide +kernel
theorem dX5_init_5 : decode cX5_init 5 = .ok (.bipush 7, 2) := by decide +kernel
theorem dX5_init_7 : decode cX5_init 7 = .ok (.newarray .int, 2) := by decide +kernel
theorem dX5_init_9 : decode cX5_init 9 = .ok (.putfield 9, 3) := by decide +kernel
theorem dX5_init_12 : decode cX5_init 12 = .ok (.aload_n 0, 1) := by decide +kernel
theorem dX5_init_13 : decode cX5_init 13 = .ok (.iconst 0, 1) := by decide +kernel
theorem dX5_init_14 : decode cX5_init 14 = .ok (.putfield 15, 3) := by decide +kernel
theorem dX5_init_17 : decode cX5_init 17 = .ok (.aload_n 0, 1) := by decide +kernel
theorem dX5_init_18 : decode cX5_init 18 = .ok (.iconst 0, 1) := by decide +kernel
theorem dX5_init_19 : decode cX5_init 19 = .ok (.putfield 19, 3) := by decide +kernel
theorem dX5_init_22 : decode cX5_init 22 = .ok (.aload_n 0, 1) := by decide +kernel
theorem dX5_init_23 : decode cX5_init 23 = .ok (.bipush 7, 2) := by decide +kernel
theorem dX5_init_25 : decode cX5_init 25 = .ok (.newarray .int, 2) := by decide +kernel
theorem dX5_init_27 : decode cX5_init 27 = .ok (.putfield 22, 3) := by decide +kernel
theorem dX5_init_30 : decode cX5_init 30 = .ok (.aload_n 0, 1) := by decide +kernel
theorem dX5_init_31 : decode cX5_init 31 = .ok (.bipush 7, 2) := by decide +kernel
theorem dX5_init_33 : decode cX5_init 33 = .ok (.newarray .int, 2) := by decide +kernel
theorem dX5_init_35 : decode cX5_init 35 = .ok (.putfield 25, 3) := by decide +kernel
theorem dX5_init_38 : decode cX5_init 38 = .ok (.aload_n 0, 1) := by decide +kernel
theorem dX5_init_39 : decode cX5_init 39 = .ok (.bipush 7, 2) := by decide +kernel
theorem dX5_init_41 : decode cX5_init 41 = .ok (.newarray .int, 2) := by decide +kernel
theorem dX5_init_43 : decode cX5_init 43 = .ok (.putfield 28, 3) := by decide +kernel
theorem dX5_init_46 : decode cX5_init 46 = .ok (.aload_n 0, 1) := by decide +kernel
theorem dX5_init_47 : decode cX5_init 47 = .ok (.bipush 7, 2) := by decide +kernel
theorem dX5_init_49 : decode cX5_init 49 = .ok (.newarray .int, 2) := by decide +kernel
theorem dX5_init_51 : decode cX5_init 51 = .ok (.putfield 31, 3) := by decide +kernel
theorem dX5_init_54 : decode cX5_init 54 = .ok (.aload_n 0, 1) := by decide +kernel
theorem dX5_init_55 : decode cX5_init 55 = .ok (.bipush 7, 2) := by decide +kernel
theorem dX5_init_57 : decode cX5_init 57 = .ok (.newarray .boolean, 2) := by decide +kernel
theorem dX5_init_59 : decode cX5_init 59 = .ok (.putfield 34, 3) := by decide +kernel
theorem dX5_init_62 : decode cX5_init 62 = .ok (.aload_n 0, 1) := by decide +kernel
theorem dX5_init_63 : decode cX5_init 63 = .ok (.iconst 2, 1) := by decide +kernel
theorem dX5_init_64 : decode cX5_init 64 = .ok (.putfield 38, 3) := by decide +kernel
theorem dX5_init_67 : decode cX5_init 67 = .ok (.aload_n 0, 1) := by decide +kernel
theorem dX5_init_68 : decode cX5_init 68 = .ok (.iconst 0, 1) := by decide +kernel
theorem dX5_init_69 : decode cX5_init 69 = .ok (.putfield 41, 3) := by decide +kernel
theorem dX5_init_72 : decode cX5_init 72 = .ok (.aload_n 0, 1) := by decide +kernel
theorem dX5_init_73 : decode cX5_init 73 = .ok (.iconst 0, 1) := by decide +kernel
theorem dX5_init_74 : decode cX5_init 74 = .ok (.putfield 44, 3) := by decide +kernel
theorem dX5_init_77 : decode cX5_init 77 = .ok (.return_, 1) := by decide +kernel
theorem dX5_add_0 : decode cX5_add 0 = .ok (.aload_n 0, 1) := by decide +kernel
theorem dX5_add_1 : decode cX5_add 1 = .ok (.getfield 15, 3) := by decide +kernel
theorem dX5_add_4 : decode cX5_add 4 = .ok (.bipush 7, 2) := by decide +kernel
theorem dX5_add_6 : decode cX5_add 6 = .ok (.if_icmp .lt 6, 3) := by decide +kernel
theorem dX5_add_9 : decode cX5_add 9 = .ok (.bipush (-4), 2) := by decide +kernel
theorem dX5_add_11 : decode cX5_add 11 = .ok (.ireturn, 1) := by decide +kernel
theorem dX5_add_12 : decode cX5_add 12 = .ok (.aload_n 0, 1) := by decide +kernel
theorem dX5_add_13 : decode cX5_add 13 = .ok (.getfield 22, 3) := by decide +kernel
theorem dX5_add_16 : decode cX5_add 16 = .ok (.aload_n 0, 1) := by decide +kernel
theorem dX5_add_17 : decode cX5_add 17 = .ok (.getfield 15, 3) := by decide +kernel
theorem dX5_add_20 : decode cX5_add 20 = .ok (.iload_n 1, 1) := by decide +kernel
theorem dX5_add_21 : decode cX5_add 21 = .ok (.iastore, 1) := by decide +kernel
theorem dX5_add_22 : decode cX5_add 22 = .ok (.aload_n 0, 1) := by decide +kernel
theorem dX5_add_23 : decode cX5_add 23 = .ok (.getfield 25, 3) := by decide +kernel
theorem dX5_add_26 : decode cX5_add 26 = .ok (.aload_n 0, 1) := by decide +kernel
theorem dX5_add_27 : decode cX5_add 27 = .ok (.getfield 15, 3) := by decide +kernel
theorem dX5_add_30 : decode cX5_add 30 = .ok (.iload_n 2, 1) := by decide +kernel
theorem dX5_add_31 : decode cX5_add 31 = .ok (.iastore, 1) := by decide +kernel
theorem dX5_add_32 : decode cX5_add 32 = .ok (.aload_n 0, 1) := by decide +kernel
theorem dX5_add_33 : decode cX5_add 33 = .ok (.getfield 28, 3) := by decide +kernel
theorem dX5_add_36 : decode cX5_add 36 = .ok (.aload_n 0, 1) := by decide +kernel
theorem dX5_add_37 : decode cX5_add 37 = .ok (.getfield 15, 3) := by decide +kernel
theorem dX5_add_40 : decode cX5_add 40 = .ok (.iload_n 3, 1) := by decide +kernel
theorem dX5_add_41 : decode cX5_add 41 = .ok (.iastore, 1) := by decide +kernel
theorem dX5_add_42 : decode cX5_add 42 = .ok (.aload_n 0, 1) := by decide +kernel
theorem dX5_add_43 : decode cX5_add 43 = .ok (.dup, 1) := by decide +kernel
theorem dX5_add_44 : decode cX5_add 44 = .ok (.getfield 15, 3) := by decide +kernel
theorem dX5_add_47 : decode cX5_add 47 = .ok (.iconst 1, 1) := by decide +kernel
theorem dX5_add_48 : decode cX5_add 48 = .ok (.iadd, 1) := by decide +kernel
theorem dX5_add_49 : decode cX5_add 49 = .ok (.putfield 15, 3) := by decide +kernel
theorem dX5_add_52 : decode cX5_add 52 = .ok (.aload_n 0, 1) := by decide +kernel
theorem dX5_add_53 : decode cX5_add 53 = .ok (.iconst 0, 1) := by decide +kernel
theorem dX5_add_54 : decode cX5_add 54 = .ok (.putfield 44, 3) := by decide +kernel
theorem dX5_add_57 : decode cX5_add 57 = .ok (.aload_n 0, 1) := by decide +kernel
theorem dX5_add_58 : decode cX5_add 58 = .ok (.getfield 15, 3) := by decide +kernel
theorem dX5_add_61 : decode cX5_add 61 = .ok (.iconst 1, 1) := by decide +kernel
theorem dX5_add_62 : decode cX5_add 62 = .ok (.isub, 1) := by decide +kernel
theorem dX5_add_63 : decode cX5_add 63 = .ok (.ireturn, 1) := by decide +kernel
theorem dX5_setGap_0 : decode cX5_setGap 0 = .ok (.aload_n 0, 1) := by decide +kernel
theorem dX5_setGap_1 : decode cX5_setGap 1 = .ok (.getfield 38, 3) := by decide +kernel
theorem dX5_setGap_4 : decode cX5_setGap 4 = .ok (.istore_n 2, 1) := by decide +kernel
theorem dX5_setGap_5 : decode cX5_setGap 5 = .ok (.aload_n 0, 1) := by decide +kernel
theorem dX5_setGap_6 : decode cX5_setGap 6 = .ok (.iload_n 1, 1) := by decide +kernel
theorem dX5_setGap_7 : decode cX5_setGap 7 = .ok (.putfield 38, 3) := by decide +kernel
theorem dX5_setGap_10 : decode cX5_setGap 10 = .ok (.aload_n 0, 1) := by decide +kernel
theorem dX5_setGap_11 : decode cX5_setGap 11 = .ok (.iconst 0, 1) := by decide +kernel
theorem dX5_setGap_12 : decode cX5_setGap 12 = .ok (.putfield 44, 3) := by decide +kernel
theorem dX5_setGap_15 : decode cX5_setGap 15 = .ok (.iload_n 2, 1) := by decide +kernel
theorem dX5_setGap_16 : decode cX5_setGap 16 = .ok (.ireturn, 1) := by decide +kernel
theorem dX5_settle_0 : decode cX5_settle 0 = .ok (.aload_n 0, 1) := by decide +kernel
theorem dX5_settle_1 : decode cX5_settle 1 = .ok (.getfield 44, 3) := by decide +kernel
theorem dX5_settle_4 : decode cX5_settle 4 = .ok (.ifCond .eq 4, 3) := by decide +kernel
theorem dX5_settle_7 : decode cX5_settle 7 = .ok (.return_, 1) := by decide +kernel
theorem dX5_settle_8 : decode cX5_settle 8 = .ok (.aload_n 0, 1) := by decide +kernel
theorem dX5_settle_9 : decode cX5_settle 9 = .ok (.ldc 48, 2) := by decide +kernel
theorem dX5_settle_11 : decode cX5_settle 11 = .ok (.putfield 19, 3) := by decide +kernel
theorem dX5_settle_14 : decode cX5_settle 14 = .ok (.aload_n 0, 1) := by decide +kernel
theorem dX5_settle_15 : decode cX5_settle 15 = .ok (.ldc 48, 2) := by decide +kernel
theorem dX5_settle_17 : decode cX5_settle 17 = .ok (.putfield 41, 3) := by decide +kernel
theorem dX5_settle_20 : decode cX5_settle 20 = .ok (.aload_n 0, 1) := by decide +kernel
theorem dX5_settle_21 : decode cX5_settle 21 = .ok (.iconst 0, 1) := by decide +kernel
theorem dX5_settle_22 : decode cX5_settle 22 = .ok (.iconst 0, 1) := by decide +kernel
theorem dX5_settle_23 : decode cX5_settle 23 = .ok (.iconst 0, 1) := by decide +kernel
theorem dX5_settle_24 : decode cX5_settle 24 = .ok (.invokevirtual 49, 3) := by decide +kernel
theorem dX5_settle_27 : decode cX5_settle 27 = .ok (.aload_n 0, 1) := by decide +kernel
theorem dX5_settle_28 : decode cX5_settle 28 = .ok (.iconst 1, 1) := by decide +kernel
theorem dX5_settle_29 : decode cX5_settle 29 = .ok (.putfield 44, 3) := by decide +kernel
theorem dX5_settle_32 : decode cX5_settle 32 = .ok (.return_, 1) := by decide +kernel
theorem dX5_fillPlace_0 : decode cX5_fillPlace 0 = .ok (.iload_n 3, 1) := by decide +kernel
theorem dX5_fillPlace_1 : decode cX5_fillPlace 1 = .ok (.aload_n 0, 1) := by decide +kernel
theorem dX5_fillPlace_2 : decode cX5_fillPlace 2 = .ok (.getfield 19, 3) := by decide +kernel
theorem dX5_fillPlace_5 : decode cX5_fillPlace 5 = .ok (.if_icmp .le 4, 3) := by decide +kernel
theorem dX5_fillPlace_8 : decode cX5_fillPlace 8 = .ok (.return_, 1) := by decide +kernel
theorem dX5_fillPlace_9 : decode cX5_fillPlace 9 = .ok (.iload_n 1, 1) := by decide +kernel
theorem dX5_fillPlace_10 : decode cX5_fillPlace 10 = .ok (.aload_n 0, 1) := by decide +kernel
theorem dX5_fillPlace_11 : decode cX5_fillPlace 11 = .ok (.getfield 15, 3) := by decide +kernel
theorem dX5_fillPlace_14 : decode cX5_fillPlace 14 = .ok (.if_icmp .ge 9, 3) := by decide +kernel
theorem dX5_fillPlace_17 : decode cX5_fillPlace 17 = .ok (.iload_n 1, 1) := by decide +kernel
theorem dX5_fillPlace_18 : decode cX5_fillPlace 18 = .ok (.bipush 7, 2) := by decide +kernel
theorem dX5_fillPlace_20 : decode cX5_fillPlace 20 = .ok (.if_icmp .lt 10, 3) := by decide +kernel
theorem dX5_fillPlace_23 : decode cX5_fillPlace 23 = .ok (.aload_n 0, 1) := by decide +kernel
theorem dX5_fillPlace_24 : decode cX5_fillPlace 24 = .ok (.iload_n 2, 1) := by decide +kernel
theorem dX5_fillPlace_25 : decode cX5_fillPlace 25 = .ok (.iload_n 3, 1) := by decide +kernel
theorem dX5_fillPlace_26 : decode cX5_fillPlace 26 = .ok (.invokevirtual 53, 3) := by decide +kernel
theorem dX5_fillPlace_29 : decode cX5_fillPlace 29 = .ok (.return_, 1) := by decide +kernel
theorem dX5_fillPlace_30 : decode cX5_fillPlace 30 = .ok (.iconst 0, 1) := by decide +kernel
theorem dX5_fillPlace_31 : decode cX5_fillPlace 31 = .ok (.istore 4, 2) := by decide +kernel
theorem dX5_fillPlace_33 : decode cX5_fillPlace 33 = .ok (.iload 4, 2) := by decide +kernel
theorem dX5_fillPlace_35 : decode cX5_fillPlace 35 = .ok (.aload_n 0, 1) := by decide +kernel
theorem dX5_fillPlace_36 : decode cX5_fillPlace 36 = .ok (.getfield 15, 3) := by decide +kernel
theorem dX5_fillPlace_39 : decode cX5_fillPlace 39 = .ok (.if_icmp .ge 28, 3) := by decide +kernel
theorem dX5_fillPlace_42 : decode cX5_fillPlace 42 = .ok (.aload_n 0, 1) := by decide +kernel
theorem dX5_fillPlace_43 : decode cX5_fillPlace 43 = .ok (.getfield 34, 3) := by decide +kernel
theorem dX5_fillPlace_46 : decode cX5_fillPlace 46 = .ok (.iload 4, 2) := by decide +kernel
theorem dX5_fillPlace_48 : decode cX5_fillPlace 48 = .ok (.baload, 1) := by decide +kernel
theorem dX5_fillPlace_49 : decode cX5_fillPlace 49 = .ok (.ifCond .ne 12, 3) := by decide +kernel
theorem dX5_fillPlace_52 : decode cX5_fillPlace 52 = .ok (.aload_n 0, 1) := by decide +kernel
theorem dX5_fillPlace_53 : decode cX5_fillPlace 53 = .ok (.iload_n 1, 1) := by decide +kernel
theorem dX5_fillPlace_54 : decode cX5_fillPlace 54 = .ok (.iload 4, 2) := by decide +kernel
theorem dX5_fillPlace_56 : decode cX5_fillPlace 56 = .ok (.iload_n 2, 1) := by decide +kernel
theorem dX5_fillPlace_57 : decode cX5_fillPlace 57 = .ok (.iload_n 3, 1) := by decide +kernel
theorem dX5_fillPlace_58 : decode cX5_fillPlace 58 = .ok (.invokevirtual 57, 3) := by decide +kernel
theorem dX5_fillPlace_61 : decode cX5_fillPlace 61 = .ok (.iinc 4 1, 3) := by decide +kernel
theorem dX5_fillPlace_64 : decode cX5_fillPlace 64 = .ok (.goto (-31), 3) := by decide +kernel
theorem dX5_fillPlace_67 : decode cX5_fillPlace 67 = .ok (.return_, 1) := by decide +kernel
theorem dX5_tryJob_0 : decode cX5_tryJob 0 = .ok (.iload_n 1, 1) := by decide +kernel
theorem dX5_tryJob_1 : decode cX5_tryJob 1 = .ok (.ifCond .le 29, 3) := by decide +kernel
theorem dX5_tryJob_4 : decode cX5_tryJob 4 = .ok (.aload_n 0, 1) := by decide +kernel
theorem dX5_tryJob_5 : decode cX5_tryJob 5 = .ok (.getfield 22, 3) := by decide +kernel
theorem dX5_tryJob_8 : decode cX5_tryJob 8 = .ok (.aload_n 0, 1) := by decide +kernel
theorem dX5_tryJob_9 : decode cX5_tryJob 9 = .ok (.getfield 31, 3) := by decide +kernel
theorem dX5_tryJob_12 : decode cX5_tryJob 12 = .ok (.iload_n 1, 1) := by decide +kernel
theorem dX5_tryJob_13 : decode cX5_tryJob 13 = .ok (.iconst 1, 1) := by decide +kernel
theorem dX5_tryJob_14 : decode cX5_tryJob 14 = .ok (.isub, 1) := by decide +kernel
theorem dX5_tryJob_15 : decode cX5_tryJob 15 = .ok (.iaload, 1) := by decide +kernel
theorem dX5_tryJob_16 : decode cX5_tryJob 16 = .ok (.iaload, 1) := by decide +kernel
theorem dX5_tryJob_17 : decode cX5_tryJob 17 = .ok (.aload_n 0, 1) := by decide +kernel
theorem dX5_tryJob_18 : decode cX5_tryJob 18 = .ok (.getfield 22, 3) := by decide +kernel
theorem dX5_tryJob_21 : decode cX5_tryJob 21 = .ok (.iload_n 2, 1) := by decide +kernel
theorem dX5_tryJob_22 : decode cX5_tryJob 22 = .ok (.iaload, 1) := by decide +kernel
theorem dX5_tryJob_23 : decode cX5_tryJob 23 = .ok (.if_icmp .eq 7, 3) := by decide +kernel
theorem dX5_tryJob_26 : decode cX5_tryJob 26 = .ok (.iconst 1, 1) := by decide +kernel
theorem dX5_tryJob_27 : decode cX5_tryJob 27 = .ok (.goto 4, 3) := by decide +kernel
theorem dX5_tryJob_30 : decode cX5_tryJob 30 = .ok (.iconst 0, 1) := by decide +kernel
theorem dX5_tryJob_31 : decode cX5_tryJob 31 = .ok (.istore 5, 2) := by decide +kernel
theorem dX5_tryJob_33 : decode cX5_tryJob 33 = .ok (.iload_n 3, 1) := by decide +kernel
theorem dX5_tryJob_34 : decode cX5_tryJob 34 = .ok (.iload 5, 2) := by decide +kernel
theorem dX5_tryJob_36 : decode cX5_tryJob 36 = .ok (.ifCond .eq 10, 3) := by decide +kernel
theorem dX5_tryJob_39 : decode cX5_tryJob 39 = .ok (.aload_n 0, 1) := by decide +kernel
theorem dX5_tryJob_40 : decode cX5_tryJob 40 = .ok (.getfield 38, 3) := by decide +kernel
theorem dX5_tryJob_43 : decode cX5_tryJob 43 = .ok (.goto 4, 3) := by decide +kernel
theorem dX5_tryJob_46 : decode cX5_tryJob 46 = .ok (.iconst 0, 1) := by decide +kernel
theorem dX5_tryJob_47 : decode cX5_tryJob 47 = .ok (.iadd, 1) := by decide +kernel
theorem dX5_tryJob_48 : decode cX5_tryJob 48 = .ok (.aload_n 0, 1) := by decide +kernel
theorem dX5_tryJob_49 : decode cX5_tryJob 49 = .ok (.getfield 25, 3) := by decide +kernel
theorem dX5_tryJob_52 : decode cX5_tryJob 52 = .ok (.iload_n 2, 1) := by decide +kernel
theorem dX5_tryJob_53 : decode cX5_tryJob 53 = .ok (.iaload, 1) := by decide +kernel
theorem dX5_tryJob_54 : decode cX5_tryJob 54 = .ok (.iadd, 1) := by decide +kernel
theorem dX5_tryJob_55 : decode cX5_tryJob 55 = .ok (.istore 6, 2) := by decide +kernel
theorem dX5_tryJob_57 : decode cX5_tryJob 57 = .ok (.aload_n 0, 1) := by decide +kernel
theorem dX5_tryJob_58 : decode cX5_tryJob 58 = .ok (.getfield 34, 3) := by decide +kernel
theorem dX5_tryJob_61 : decode cX5_tryJob 61 = .ok (.iload_n 2, 1) := by decide +kernel
theorem dX5_tryJob_62 : decode cX5_tryJob 62 = .ok (.iconst 1, 1) := by decide +kernel
theorem dX5_tryJob_63 : decode cX5_tryJob 63 = .ok (.bastore, 1) := by decide +kernel
theorem dX5_tryJob_64 : decode cX5_tryJob 64 = .ok (.aload_n 0, 1) := by decide +kernel
theorem dX5_tryJob_65 : decode cX5_tryJob 65 = .ok (.getfield 31, 3) := by decide +kernel
theorem dX5_tryJob_68 : decode cX5_tryJob 68 = .ok (.iload_n 1, 1) := by decide +kernel
theorem dX5_tryJob_69 : decode cX5_tryJob 69 = .ok (.iload_n 2, 1) := by decide +kernel
theorem dX5_tryJob_70 : decode cX5_tryJob 70 = .ok (.iastore, 1) := by decide +kernel
theorem dX5_tryJob_71 : decode cX5_tryJob 71 = .ok (.aload_n 0, 1) := by decide +kernel
theorem dX5_tryJob_72 : decode cX5_tryJob 72 = .ok (.iload_n 1, 1) := by decide +kernel
theorem dX5_tryJob_73 : decode cX5_tryJob 73 = .ok (.iconst 1, 1) := by decide +kernel
theorem dX5_tryJob_74 : decode cX5_tryJob 74 = .ok (.iadd, 1) := by decide +kernel
theorem dX5_tryJob_75 : decode cX5_tryJob 75 = .ok (.iload 6, 2) := by decide +kernel
theorem dX5_tryJob_77 : decode cX5_tryJob 77 = .ok (.iload 4, 2) := by decide +kernel
theorem dX5_tryJob_79 : decode cX5_tryJob 79 = .ok (.iconst 0, 1) := by decide +kernel
theorem dX5_tryJob_80 : decode cX5_tryJob 80 = .ok (.iload 6, 2) := by decide +kernel
theorem dX5_tryJob_82 : decode cX5_tryJob 82 = .ok (.aload_n 0, 1) := by decide +kernel
theorem dX5_tryJob_83 : decode cX5_tryJob 83 = .ok (.getfield 28, 3) := by decide +kernel
theorem dX5_tryJob_86 : decode cX5_tryJob 86 = .ok (.iload_n 2, 1) := by decide +kernel
theorem dX5_tryJob_87 : decode cX5_tryJob 87 = .ok (.iaload, 1) := by decide +kernel
theorem dX5_tryJob_88 : decode cX5_tryJob 88 = .ok (.isub, 1) := by decide +kernel
theorem dX5_tryJob_89 : decode cX5_tryJob 89 = .ok (.invokestatic 61, 3) := by decide +kernel
theorem dX5_tryJob_92 : decode cX5_tryJob 92 = .ok (.iadd, 1) := by decide +kernel
theorem dX5_tryJob_93 : decode cX5_tryJob 93 = .ok (.invokevirtual 49, 3) := by decide +kernel
theorem dX5_tryJob_96 : decode cX5_tryJob 96 = .ok (.aload_n 0, 1) := by decide +kernel
theorem dX5_tryJob_97 : decode cX5_tryJob 97 = .ok (.getfield 34, 3) := by decide +kernel
theorem dX5_tryJob_100 : decode cX5_tryJob 100 = .ok (.iload_n 2, 1) := by decide +kernel
theorem dX5_tryJob_101 : decode cX5_tryJob 101 = .ok (.iconst 0, 1) := by decide +kernel
theorem dX5_tryJob_102 : decode cX5_tryJob 102 = .ok (.bastore, 1) := by decide +kernel
theorem dX5_tryJob_103 : decode cX5_tryJob 103 = .ok (.return_, 1) := by decide +kernel
theorem dX5_keepIfBetter_0 : decode cX5_keepIfBetter 0 = .ok (.iload_n 2, 1) := by decide +kernel
theorem dX5_keepIfBetter_1 : decode cX5_keepIfBetter 1 = .ok (.aload_n 0, 1) := by decide +kernel
theorem dX5_keepIfBetter_2 : decode cX5_keepIfBetter 2 = .ok (.getfield 19, 3) := by decide +kernel
theorem dX5_keepIfBetter_5 : decode cX5_keepIfBetter 5 = .ok (.if_icmp .lt 19, 3) := by decide +kernel
theorem dX5_keepIfBetter_8 : decode cX5_keepIfBetter 8 = .ok (.iload_n 2, 1) := by decide +kernel
theorem dX5_keepIfBetter_9 : decode cX5_keepIfBetter 9 = .ok (.aload_n 0, 1) := by decide +kernel
theorem dX5_keepIfBetter_10 : decode cX5_keepIfBetter 10 = .ok (.getfield 19, 3) := by decide +kernel
theorem dX5_keepIfBetter_13 : decode cX5_keepIfBetter 13 = .ok (.if_icmp .ne 49, 3) := by decide +kernel
theorem dX5_keepIfBetter_16 : decode cX5_keepIfBetter 16 = .ok (.iload_n 1, 1) := by decide +kernel
theorem dX5_keepIfBetter_17 : decode cX5_keepIfBetter 17 = .ok (.aload_n 0, 1) := by decide +kernel
theorem dX5_keepIfBetter_18 : decode cX5_keepIfBetter 18 = .ok (.getfield 41, 3) := by decide +kernel
theorem dX5_keepIfBetter_21 : decode cX5_keepIfBetter 21 = .ok (.if_icmp .ge 41, 3) := by decide +kernel
theorem dX5_keepIfBetter_24 : decode cX5_keepIfBetter 24 = .ok (.aload_n 0, 1) := by decide +kernel
theorem dX5_keepIfBetter_25 : decode cX5_keepIfBetter 25 = .ok (.iload_n 2, 1) := by decide +kernel
theorem dX5_keepIfBetter_26 : decode cX5_keepIfBetter 26 = .ok (.putfield 19, 3) := by decide +kernel
theorem dX5_keepIfBetter_29 : decode cX5_keepIfBetter 29 = .ok (.aload_n 0, 1) := by decide +kernel
theorem dX5_keepIfBetter_30 : decode cX5_keepIfBetter 30 = .ok (.iload_n 1, 1) := by decide +kernel
theorem dX5_keepIfBetter_31 : decode cX5_keepIfBetter 31 = .ok (.putfield 41, 3) := by decide +kernel
theorem dX5_keepIfBetter_34 : decode cX5_keepIfBetter 34 = .ok (.iconst 0, 1) := by decide +kernel
theorem dX5_keepIfBetter_35 : decode cX5_keepIfBetter 35 = .ok (.istore_n 3, 1) := by decide +kernel
theorem dX5_keepIfBetter_36 : decode cX5_keepIfBetter 36 = .ok (.iload_n 3, 1) := by decide +kernel
theorem dX5_keepIfBetter_37 : decode cX5_keepIfBetter 37 = .ok (.aload_n 0, 1) := by decide +kernel
theorem dX5_keepIfBetter_38 : decode cX5_keepIfBetter 38 = .ok (.getfield 15, 3) := by decide +kernel
theorem dX5_keepIfBetter_41 : decode cX5_keepIfBetter 41 = .ok (.if_icmp .ge 21, 3) := by decide +kernel
theorem dX5_keepIfBetter_44 : decode cX5_keepIfBetter 44 = .ok (.aload_n 0, 1) := by decide +kernel
theorem dX5_keepIfBetter_45 : decode cX5_keepIfBetter 45 = .ok (.getfield 9, 3) := by decide +kernel
theorem dX5_keepIfBetter_48 : decode cX5_keepIfBetter 48 = .ok (.iload_n 3, 1) := by decide +kernel
theorem dX5_keepIfBetter_49 : decode cX5_keepIfBetter 49 = .ok (.aload_n 0, 1) := by decide +kernel
theorem dX5_keepIfBetter_50 : decode cX5_keepIfBetter 50 = .ok (.getfield 31, 3) := by decide +kernel
theorem dX5_keepIfBetter_53 : decode cX5_keepIfBetter 53 = .ok (.iload_n 3, 1) := by decide +kernel
theorem dX5_keepIfBetter_54 : decode cX5_keepIfBetter 54 = .ok (.iaload, 1) := by decide +kernel
theorem dX5_keepIfBetter_55 : decode cX5_keepIfBetter 55 = .ok (.iastore, 1) := by decide +kernel
theorem dX5_keepIfBetter_56 : decode cX5_keepIfBetter 56 = .ok (.iinc 3 1, 3) := by decide +kernel
theorem dX5_keepIfBetter_59 : decode cX5_keepIfBetter 59 = .ok (.goto (-23), 3) := by decide +kernel
theorem dX5_keepIfBetter_62 : decode cX5_keepIfBetter 62 = .ok (.return_, 1) := by decide +kernel
theorem dX6_init_0 : decode cX6_init 0 = .ok (.aload_n 0, 1) := by decide +kernel
theorem dX6_init_1 : decode cX6_init 1 = .ok (.invokespecial 3, 3) := by decide +kernel
theorem dX6_init_4 : decode cX6_init 4 = .ok (.aload_n 0, 1) := by decide +kernel
theorem dX6_init_5 : decode cX6_init 5 = .ok (.bipush 8, 2) := by decide +kernel
theorem dX6_init_7 : decode cX6_init 7 = .ok (.newarray .int, 2) := by decide +kernel
theorem dX6_init_9 : decode cX6_init 9 = .ok (.putfield 9, 3) := by decide +kernel
theorem dX6_init_12 : decode cX6_init 12 = .ok (.aload_n 0, 1) := by decide +kernel
theorem dX6_init_13 : decode cX6_init 13 = .ok (.bipush 8, 2) := by decide +kernel
theorem dX6_init_15 : decode cX6_init 15 = .ok (.newarray .int, 2) := by decide +kernel
theorem dX6_init_17 : decode cX6_init 17 = .ok (.putfield 15, 3) := by decide +kernel
theorem dX6_init_20 : decode cX6_init 20 = .ok (.aload_n 0, 1) := by decide +kernel
theorem dX6_init_21 : decode cX6_init 21 = .ok (.bipush 8, 2) := by decide +kernel
theorem dX6_init_23 : decode cX6_init 23 = .ok (.newarray .int, 2) := by decide +kernel
theorem dX6_init_25 : decode cX6_init 25 = .ok (.putfield 18, 3) := by decide +kernel
theorem dX6_init_28 : decode cX6_init 28 = .ok (.aload_n 0, 1) := by decide +kernel
theorem dX6_init_29 : decode cX6_init 29 = .ok (.bipush 8, 2) := by decide +kernel
theorem dX6_init_31 : decode cX6_init 31 = .ok (.newarray .int, 2) := by decide +kernel
theorem dX6_init_33 : decode cX6_init 33 = .ok (.putfield 21, 3) := by decide +kernel
theorem dX6_init_36 : decode cX6_init 36 = .ok (.aload_n 0, 1) := by decide +kernel
theorem dX6_init_37 : decode cX6_init 37 = .ok (.iconst 0, 1) := by decide +kernel
theorem dX6_init_38 : decode cX6_init 38 = .ok (.putfield 24, 3) := by decide +kernel
theorem dX6_init_41 : decode cX6_init 41 = .ok (.return_, 1) := by decide +kernel
theorem dX6_has_0 : decode cX6_has 0 = .ok (.iload_n 1, 1) := by decide +kernel
theorem dX6_has_1 : decode cX6_has 1 = .ok (.ifCond .lt 15, 3) := by decide +kernel
theorem dX6_has_4 : decode cX6_has 4 = .ok (.iload_n 1, 1) := by decide +kernel
theorem dX6_has_5 : decode cX6_has 5 = .ok (.aload_n 0, 1) := by decide +kernel
theorem dX6_has_6 : decode cX6_has 6 = .ok (.getfield 24, 3) := by decide +kernel
theorem dX6_has_9 : decode cX6_has 9 = .ok (.if_icmp .ge 7, 3) := by decide +kernel
theorem dX6_has_12 : decode cX6_has 12 = .ok (.iconst 1, 1) := by decide +kernel
theorem dX6_has_13 : decode cX6_has 13 = .ok (.goto 4, 3) := by decide +kernel
theorem dX6_has_16 : decode cX6_has 16 = .ok (.iconst 0, 1) := by decide +kernel
theorem dX6_has_17 : decode cX6_has 17 = .ok (.ireturn, 1) := by decide +kernel
theorem dX6_add_0 : decode cX6_add 0 = .ok (.aload_n 0, 1) := by decide +kernel
theorem dX6_add_1 : decode cX6_add 1 = .ok (.getfield 24, 3) := by decide +kernel
theorem dX6_add_4 : decode cX6_add 4 = .ok (.bipush 8, 2) := by decide +kernel
theorem dX6_add_6 : decode cX6_add 6 = .ok (.if_icmp .lt 6, 3) := by decide +kernel
theorem dX6_add_9 : decode cX6_add 9 = .ok (.bipush (-4), 2) := by decide +kernel
theorem dX6_add_11 : decode cX6_add 11 = .ok (.ireturn, 1) := by decide +kernel
theorem dX6_add_12 : decode cX6_add 12 = .ok (.aload_n 0, 1) := by decide +kernel
theorem dX6_add_13 : decode cX6_add 13 = .ok (.getfield 9, 3) := by decide +kernel
theorem dX6_add_16 : decode cX6_add 16 = .ok (.aload_n 0, 1) := by decide +kernel
theorem dX6_add_17 : decode cX6_add 17 = .ok (.getfield 24, 3) := by decide +kernel
theorem dX6_add_20 : decode cX6_add 20 = .ok (.iload_n 1, 1) := by decide +kernel
theorem dX6_add_21 : decode cX6_add 21 = .ok (.iastore, 1) := by decide +kernel
theorem dX6_add_22 : decode cX6_add 22 = .ok (.aload_n 0, 1) := by decide +kernel
theorem dX6_add_23 : decode cX6_add 23 = .ok (.getfield 15, 3) := by decide +kernel
theorem dX6_add_26 : decode cX6_add 26 = .ok (.aload_n 0, 1) := by decide +kernel
theorem dX6_add_27 : decode cX6_add 27 = .ok (.getfield 24, 3) := by decide +kernel
theorem dX6_add_30 : decode cX6_add 30 = .ok (.iload_n 2, 1) := by decide +kernel
theorem dX6_add_31 : decode cX6_add 31 = .ok (.iastore, 1) := by decide +kernel
theorem dX6_add_32 : decode cX6_add 32 = .ok (.aload_n 0, 1) := by decide +kernel
theorem dX6_add_33 : decode cX6_add 33 = .ok (.getfield 18, 3) := by decide +kernel
theorem dX6_add_36 : decode cX6_add 36 = .ok (.aload_n 0, 1) := by decide +kernel
theorem dX6_add_37 : decode cX6_add 37 = .ok (.getfield 24, 3) := by decide +kernel
theorem dX6_add_40 : decode cX6_add 40 = .ok (.iload_n 3, 1) := by decide +kernel
theorem dX6_add_41 : decode cX6_add 41 = .ok (.iastore, 1) := by decide +kernel
theorem dX6_add_42 : decode cX6_add 42 = .ok (.aload_n 0, 1) := by decide +kernel
theorem dX6_add_43 : decode cX6_add 43 = .ok (.getfield 21, 3) := by decide +kernel
theorem dX6_add_46 : decode cX6_add 46 = .ok (.aload_n 0, 1) := by decide +kernel
theorem dX6_add_47 : decode cX6_add 47 = .ok (.getfield 24, 3) := by decide +kernel
theorem dX6_add_50 : decode cX6_add 50 = .ok (.iload 4, 2) := by decide +kernel
theorem dX6_add_52 : decode cX6_add 52 = .ok (.iastore, 1) := by decide +kernel
theorem dX6_add_53 : decode cX6_add 53 = .ok (.aload_n 0, 1) := by decide +kernel
theorem dX6_add_54 : decode cX6_add 54 = .ok (.dup, 1) := by decide +kernel
theorem dX6_add_55 : decode cX6_add 55 = .ok (.getfield 24, 3) := by decide +kernel
theorem dX6_add_58 : decode cX6_add 58 = .ok (.iconst 1, 1) := by decide +kernel
theorem dX6_add_59 : decode cX6_add 59 = .ok (.iadd, 1) := by decide +kernel
theorem dX6_add_60 : decode cX6_add 60 = .ok (.putfield 24, 3) := by decide +kernel
theorem dX6_add_63 : decode cX6_add 63 = .ok (.aload_n 0, 1) := by decide +kernel
theorem dX6_add_64 : decode cX6_add 64 = .ok (.getfield 24, 3) := by decide +kernel
theorem dX6_add_67 : decode cX6_add 67 = .ok (.iconst 1, 1) := by decide +kernel
theorem dX6_add_68 : decode cX6_add 68 = .ok (.isub, 1) := by decide +kernel
theorem dX6_add_69 : decode cX6_add 69 = .ok (.ireturn, 1) := by decide +kernel
theorem dX7_init_0 : decode cX7_init 0 = .ok (.aload_n 0, 1) := by decide +kernel
theorem dX7_init_1 : decode cX7_init 1 = .ok (.invokespecial 3, 3) := by decide +kernel
theorem dX7_init_4 : decode cX7_init 4 = .ok (.aload_n 0, 1) := by decide +kernel
theorem dX7_init_5 : decode cX7_init 5 = .ok (.sipush 800, 3) := by decide +kernel
theorem dX7_init_8 : decode cX7_init 8 = .ok (.newarray .int, 2) := by decide +kernel
theorem dX7_init_10 : decode cX7_init 10 = .ok (.putfield 9, 3) := by decide +kernel
theorem dX7_init_13 : decode cX7_init 13 = .ok (.aload_n 0, 1) := by decide +kernel
theorem dX7_init_14 : decode cX7_init 14 = .ok (.iconst 0, 1) := by decide +kernel
theorem dX7_init_15 : decode cX7_init 15 = .ok (.putfield 15, 3) := by decide +kernel
theorem dX7_init_18 : decode cX7_init 18 = .ok (.aload_n 0, 1) := by decide +kernel
theorem dX7_init_19 : decode cX7_init 19 = .ok (.iconst 4, 1) := by decide +kernel
theorem dX7_init_20 : decode cX7_init 20 = .ok (.newarray .int, 2) := by decide +kernel
theorem dX7_init_22 : decode cX7_init 22 = .ok (.putfield 19, 3) := by decide +kernel
theorem dX7_init_25 : decode cX7_init 25 = .ok (.aload_n 0, 1) := by decide +kernel
theorem dX7_init_26 : decode cX7_init 26 = .ok (.iconst 4, 1) := by decide +kernel
theorem dX7_init_27 : decode cX7_init 27 = .ok (.newarray .int, 2) := by decide +kernel
theorem dX7_init_29 : decode cX7_init 29 = .ok (.dup, 1) := by decide +kernel
theorem dX7_init_30 : decode cX7_init 30 = .ok (.iconst 0, 1) := by decide +kernel
theorem dX7_init_31 : decode cX7_init 31 = .ok (.iconst (-1), 1) := by decide +kernel
theorem dX7_init_32 : decode cX7_init 32 = .ok (.iastore, 1) := by decide +kernel
theorem dX7_init_33 : decode cX7_init 33 = .ok (.dup, 1) := by decide +kernel
theorem dX7_init_34 : decode cX7_init 34 = .ok (.iconst 1, 1) := by decide +kernel
theorem dX7_init_35 : decode cX7_init 35 = .ok (.iconst (-1), 1) := by decide +kernel
theorem dX7_init_36 : decode cX7_init 36 = .ok (.iastore, 1) := by decide +kernel
theorem dX7_init_37 : decode cX7_init 37 = .ok (.dup, 1) := by decide +kernel
theorem dX7_init_38 : decode cX7_init 38 = .ok (.iconst 2, 1) := by decide +kernel
theorem dX7_init_39 : decode cX7_init 39 = .ok (.iconst (-1), 1) := by decide +kernel
theorem dX7_init_40 : decode cX7_init 40 = .ok (.iastore, 1) := by decide +kernel
theorem dX7_init_41 : decode cX7_init 41 = .ok (.dup, 1) := by decide +kernel
theorem dX7_init_42 : decode cX7_init 42 = .ok (.iconst 3, 1) := by decide +kernel
theorem dX7_init_43 : decode cX7_init 43 = .ok (.iconst (-1), 1) := by decide +kernel
theorem dX7_init_44 : decode cX7_init 44 = .ok (.iastore, 1) := by decide +kernel
theorem dX7_init_45 : decode cX7_init 45 = .ok (.putfield 22, 3) := by decide +kernel
theorem dX7_init_48 : decode cX7_init 48 = .ok (.return_, 1) := by decide +kernel
theorem dX7_found_0 : decode cX7_found 0 = .ok (.aload_n 0, 1) := by decide +kernel
theorem dX7_found_1 : decode cX7_found 1 = .ok (.iload_n 1, 1) := by decide +kernel
theorem dX7_found_2 : decode cX7_found 2 = .ok (.putfield 15, 3) := by decide +kernel
theorem dX7_found_5 : decode cX7_found 5 = .ok (.bipush (-10), 2) := by decide +kernel
theorem dX7_found_7 : decode cX7_found 7 = .ok (.iload_n 1, 1) := by decide +kernel
theorem dX7_found_8 : decode cX7_found 8 = .ok (.isub, 1) := by decide +kernel
theorem dX7_found_9 : decode cX7_found 9 = .ok (.ireturn, 1) := by decide +kernel
theorem dX7_renew_0 : decode cX7_renew 0 = .ok (.iload_n 3, 1) := by decide +kernel
theorem dX7_renew_1 : decode cX7_renew 1 = .ok (.ifCond .ge 9, 3) := by decide +kernel
theorem dX7_renew_4 : decode cX7_renew 4 = .ok (.aload_n 0, 1) := by decide +kernel
theorem dX7_renew_5 : decode cX7_renew 5 = .ok (.iconst 5, 1) := by decide +kernel
theorem dX7_renew_6 : decode cX7_renew 6 = .ok (.invokevirtual 25, 3) := by decide +kernel
theorem dX7_renew_9 : decode cX7_renew 9 = .ok (.ireturn, 1) := by decide +kernel
theorem dX7_renew_10 : decode cX7_renew 10 = .ok (.aload_n 0, 1) := by decide +kernel
theorem dX7_renew_11 : decode cX7_renew 11 = .ok (.getfield 19, 3) := by decide +kernel
theorem dX7_renew_14 : decode cX7_renew 14 = .ok (.iload_n 1, 1) := by decide +kernel
theorem dX7_renew_15 : decode cX7_renew 15 = .ok (.iload_n 2, 1) := by decide +kernel
theorem dX7_renew_16 : decode cX7_renew 16 = .ok (.iastore, 1) := by decide +kernel
theorem dX7_renew_17 : decode cX7_renew 17 = .ok (.aload_n 0, 1) := by decide +kernel
theorem dX7_renew_18 : decode cX7_renew 18 = .ok (.getfield 22, 3) := by decide +kernel
theorem dX7_renew_21 : decode cX7_renew 21 = .ok (.iload_n 1, 1) := by decide +kernel
theorem dX7_renew_22 : decode cX7_renew 22 = .ok (.iload_n 3, 1) := by decide +kernel
theorem dX7_renew_23 : decode cX7_renew 23 = .ok (.iastore, 1) := by decide +kernel
theorem dX7_renew_24 : decode cX7_renew 24 = .ok (.iconst 0, 1) := by decide +kernel
theorem dX7_renew_25 : decode cX7_renew 25 = .ok (.istore 4, 2) := by decide +kernel
theorem dX7_renew_27 : decode cX7_renew 27 = .ok (.iload 4, 2) := by decide +kernel
theorem dX7_renew_29 : decode cX7_renew 29 = .ok (.iload_n 3, 1) := by decide +kernel
theorem dX7_renew_30 : decode cX7_renew 30 = .ok (.if_icmp .ge 23, 3) := by decide +kernel
theorem dX7_renew_33 : decode cX7_renew 33 = .ok (.aload_n 0, 1) := by decide +kernel
theorem dX7_renew_34 : decode cX7_renew 34 = .ok (.getfield 9, 3) := by decide +kernel
theorem dX7_renew_37 : decode cX7_renew 37 = .ok (.iload_n 1, 1) := by decide +kernel
theorem dX7_renew_38 : decode cX7_renew 38 = .ok (.sipush 200, 3) := by decide +kernel
theorem dX7_renew_41 : decode cX7_renew 41 = .ok (.imul, 1) := by decide +kernel
theorem dX7_renew_42 : decode cX7_renew 42 = .ok (.iload 4, 2) := by decide +kernel
theorem dX7_renew_44 : decode cX7_renew 44 = .ok (.iadd, 1) := by decide +kernel
theorem dX7_renew_45 : decode cX7_renew 45 = .ok (.iconst 0, 1) := by decide +kernel
theorem dX7_renew_46 : decode cX7_renew 46 = .ok (.iastore, 1) := by decide +kernel
theorem dX7_renew_47 : decode cX7_renew 47 = .ok (.iinc 4 1, 3) := by decide +kernel
theorem dX7_renew_50 : decode cX7_renew 50 = .ok (.goto (-23), 3) := by decide +kernel
theorem dX7_renew_53 : decode cX7_renew 53 = .ok (.iload_n 3, 1) := by decide +kernel
theorem dX7_renew_54 : decode cX7_renew 54 = .ok (.ireturn, 1) := by decide +kernel
theorem dX7_discard_0 : decode cX7_discard 0 = .ok (.aload_n 0, 1) := by decide +kernel
theorem dX7_discard_1 : decode cX7_discard 1 = .ok (.getfield 22, 3) := by decide +kernel
theorem dX7_discard_4 : decode cX7_discard 4 = .ok (.iload_n 1, 1) := by decide +kernel
theorem dX7_discard_5 : decode cX7_discard 5 = .ok (.iaload, 1) := by decide +kernel
theorem dX7_discard_6 : decode cX7_discard 6 = .ok (.iconst (-1), 1) := by decide +kernel
theorem dX7_discard_7 : decode cX7_discard 7 = .ok (.if_icmp .ne 9, 3) := by decide +kernel
theorem dX7_discard_10 : decode cX7_discard 10 = .ok (.aload_n 0, 1) := by decide +kernel
theorem dX7_discard_11 : decode cX7_discard 11 = .ok (.iconst 1, 1) := by decide +kernel
theorem dX7_discard_12 : decode cX7_discard 12 = .ok (.invokevirtual 25, 3) := by decide +kernel
theorem dX7_discard_15 : decode cX7_discard 15 = .ok (.ireturn, 1) := by decide +kernel
theorem dX7_discard_16 : decode cX7_discard 16 = .ok (.aload_n 0, 1) := by decide +kernel
theorem dX7_discard_17 : decode cX7_discard 17 = .ok (.getfield 22, 3) := by decide +kernel
theorem dX7_discard_20 : decode cX7_discard 20 = .ok (.iload_n 1, 1) := by decide +kernel
theorem dX7_discard_21 : decode cX7_discard 21 = .ok (.iaload, 1) := by decide +kernel
theorem dX7_discard_22 : decode cX7_discard 22 = .ok (.istore_n 2, 1) := by decide +kernel
theorem dX7_discard_23 : decode cX7_discard 23 = .ok (.aload_n 0, 1) := by decide +kernel
theorem dX7_discard_24 : decode cX7_discard 24 = .ok (.getfield 22, 3) := by decide +kernel
theorem dX7_discard_27 : decode cX7_discard 27 = .ok (.iload_n 1, 1) := by decide +kernel
theorem dX7_discard_28 : decode cX7_discard 28 = .ok (.iconst (-1), 1) := by decide +kernel
theorem dX7_discard_29 : decode cX7_discard 29 = .ok (.iastore, 1) := by decide +kernel
theorem dX7_discard_30 : decode cX7_discard 30 = .ok (.iload_n 2, 1) := by decide +kernel
theorem dX7_discard_31 : decode cX7_discard 31 = .ok (.ireturn, 1) := by decide +kernel
theorem dX7_faultOf_0 : decode cX7_faultOf 0 = .ok (.aload_n 0, 1) := by decide +kernel
theorem dX7_faultOf_1 : decode cX7_faultOf 1 = .ok (.getfield 22, 3) := by decide +kernel
theorem dX7_faultOf_4 : decode cX7_faultOf 4 = .ok (.iload_n 1, 1) := by decide +kernel
theorem dX7_faultOf_5 : decode cX7_faultOf 5 = .ok (.iaload, 1) := by decide +kernel
theorem dX7_faultOf_6 : decode cX7_faultOf 6 = .ok (.iconst (-1), 1) := by decide +kernel
theorem dX7_faultOf_7 : decode cX7_faultOf 7 = .ok (.if_icmp .ne 5, 3) := by decide +kernel
theorem dX7_faultOf_10 : decode cX7_faultOf 10 = .ok (.iconst 1, 1) := by decide +kernel
theorem dX7_faultOf_11 : decode cX7_faultOf 11 = .ok (.ireturn, 1) := by decide +kernel
theorem dX7_faultOf_12 : decode cX7_faultOf 12 = .ok (.aload_n 0, 1) := by decide +kernel
theorem dX7_faultOf_13 : decode cX7_faultOf 13 = .ok (.getfield 19, 3) := by decide +kernel
theorem dX7_faultOf_16 : decode cX7_faultOf 16 = .ok (.iload_n 1, 1) := by decide +kernel
theorem dX7_faultOf_17 : decode cX7_faultOf 17 = .ok (.iaload, 1) := by decide +kernel
theorem dX7_faultOf_18 : decode cX7_faultOf 18 = .ok (.iload_n 2, 1) := by decide +kernel
theorem dX7_faultOf_19 : decode cX7_faultOf 19 = .ok (.if_icmp .eq 5, 3) := by decide +kernel
theorem dX7_faultOf_22 : decode cX7_faultOf 22 = .ok (.iconst 3, 1) := by decide +kernel
theorem dX7_faultOf_23 : decode cX7_faultOf 23 = .ok (.ireturn, 1) := by decide +kernel
theorem dX7_faultOf_24 : decode cX7_faultOf 24 = .ok (.iload_n 3, 1) := by decide +kernel
theorem dX7_faultOf_25 : decode cX7_faultOf 25 = .ok (.ifCond .lt 13, 3) := by decide +kernel
theorem dX7_faultOf_28 : decode cX7_faultOf 28 = .ok (.iload_n 3, 1) := by decide +kernel
theorem dX7_faultOf_29 : decode cX7_faultOf 29 = .ok (.aload_n 0, 1) := by decide +kernel
theorem dX7_faultOf_30 : decode cX7_faultOf 30 = .ok (.getfield 22, 3) := by decide +kernel
theorem dX7_faultOf_33 : decode cX7_faultOf 33 = .ok (.iload_n 1, 1) := by decide +kernel
theorem dX7_faultOf_34 : decode cX7_faultOf 34 = .ok (.iaload, 1) := by decide +kernel
theorem dX7_faultOf_35 : decode cX7_faultOf 35 = .ok (.if_icmp .lt 7, 3) := by decide +kernel
theorem dX7_faultOf_38 : decode cX7_faultOf 38 = .ok (.iconst 2, 1) := by decide +kernel
theorem dX7_faultOf_39 : decode cX7_faultOf 39 = .ok (.goto 4, 3) := by decide +kernel
theorem dX7_faultOf_42 : decode cX7_faultOf 42 = .ok (.iconst 0, 1) := by decide +kernel
theorem dX7_faultOf_43 : decode cX7_faultOf 43 = .ok (.ireturn, 1) := by decide +kernel
theorem dX7_write_0 : decode cX7_write 0 = .ok (.iload_n 3, 1) := by decide +kernel
theorem dX7_write_1 : decode cX7_write 1 = .ok (.istore 4, 2) := by decide +kernel
theorem dX7_write_3 : decode cX7_write 3 = .ok (.aload_n 0, 1) := by decide +kernel
theorem dX7_write_4 : decode cX7_write 4 = .ok (.getfield 19, 3) := by decide +kernel
theorem dX7_write_7 : decode cX7_write 7 = .ok (.iload_n 1, 1) := by decide +kernel
theorem dX7_write_8 : decode cX7_write 8 = .ok (.iaload, 1) := by decide +kernel
theorem dX7_write_9 : decode cX7_write 9 = .ok (.ifCond .ne 10, 3) := by decide +kernel
theorem dX7_write_12 : decode cX7_write 12 = .ok (.iload_n 3, 1) := by decide +kernel
theorem dX7_write_13 : decode cX7_write 13 = .ok (.i2b, 1) := by decide +kernel
theorem dX7_write_14 : decode cX7_write 14 = .ok (.istore 4, 2) := by decide +kernel
theorem dX7_write_16 : decode cX7_write 16 = .ok (.goto 17, 3) := by decide +kernel
theorem dX7_write_19 : decode cX7_write 19 = .ok (.aload_n 0, 1) := by decide +kernel
theorem dX7_write_20 : decode cX7_write 20 = .ok (.getfield 19, 3) := by decide +kernel
theorem dX7_write_23 : decode cX7_write 23 = .ok (.iload_n 1, 1) := by decide +kernel
theorem dX7_write_24 : decode cX7_write 24 = .ok (.iaload, 1) := by decide +kernel
theorem dX7_write_25 : decode cX7_write 25 = .ok (.iconst 1, 1) := by decide +kernel
theorem dX7_write_26 : decode cX7_write 26 = .ok (.if_icmp .ne 7, 3) := by decide +kernel
theorem dX7_write_29 : decode cX7_write 29 = .ok (.iload_n 3, 1) := by decide +kernel
theorem dX7_write_30 : decode cX7_write 30 = .ok (.i2s, 1) := by decide +kernel
theorem dX7_write_31 : decode cX7_write 31 = .ok (.istore 4, 2) := by decide +kernel
theorem dX7_write_33 : decode cX7_write 33 = .ok (.aload_n 0, 1) := by decide +kernel
theorem dX7_write_34 : decode cX7_write 34 = .ok (.getfield 9, 3) := by decide +kernel
theorem dX7_write_37 : decode cX7_write 37 = .ok (.iload_n 1, 1) := by decide +kernel
theorem dX7_write_38 : decode cX7_write 38 = .ok (.sipush 200, 3) := by decide +kernel
theorem dX7_write_41 : decode cX7_write 41 = .ok (.imul, 1) := by decide +kernel
theorem dX7_write_42 : decode cX7_write 42 = .ok (.iload_n 2, 1) := by decide +kernel
theorem dX7_write_43 : decode cX7_write 43 = .ok (.iadd, 1) := by decide +kernel
theorem dX7_write_44 : decode cX7_write 44 = .ok (.iload 4, 2) := by decide +kernel
theorem dX7_write_46 : decode cX7_write 46 = .ok (.iastore, 1) := by decide +kernel
theorem dX7_write_47 : decode cX7_write 47 = .ok (.return_, 1) := by decide +kernel
theorem dX7_move_0 : decode cX7_move 0 = .ok (.aload_n 0, 1) := by decide +kernel
theorem dX7_move_1 : decode cX7_move 1 = .ok (.getfield 22, 3) := by decide +kernel
theorem dX7_move_4 : decode cX7_move 4 = .ok (.iload_n 1, 1) := by decide +kernel
theorem dX7_move_5 : decode cX7_move 5 = .ok (.iaload, 1) := by decide +kernel
theorem dX7_move_6 : decode cX7_move 6 = .ok (.iconst (-1), 1) := by decide +kernel
theorem dX7_move_7 : decode cX7_move 7 = .ok (.if_icmp .eq 13, 3) := by decide +kernel
theorem dX7_move_10 : decode cX7_move 10 = .ok (.aload_n 0, 1) := by decide +kernel
theorem dX7_move_11 : decode cX7_move 11 = .ok (.getfield 22, 3) := by decide +kernel
theorem dX7_move_14 : decode cX7_move 14 = .ok (.iload_n 3, 1) := by decide +kernel
theorem dX7_move_15 : decode cX7_move 15 = .ok (.iaload, 1) := by decide +kernel
theorem dX7_move_16 : decode cX7_move 16 = .ok (.iconst (-1), 1) := by decide +kernel
theorem dX7_move_17 : decode cX7_move 17 = .ok (.if_icmp .ne 9, 3) := by decide +kernel
theorem dX7_move_20 : decode cX7_move 20 = .ok (.aload_n 0, 1) := by decide +kernel
theorem dX7_move_21 : decode cX7_move 21 = .ok (.iconst 1, 1) := by decide +kernel
theorem dX7_move_22 : decode cX7_move 22 = .ok (.invokevirtual 25, 3) := by decide +kernel
theorem dX7_move_25 : decode cX7_move 25 = .ok (.ireturn, 1) := by decide +kernel
theorem dX7_move_26 : decode cX7_move 26 = .ok (.aload_n 0, 1) := by decide +kernel
theorem dX7_move_27 : decode cX7_move 27 = .ok (.getfield 19, 3) := by decide +kernel
theorem dX7_move_30 : decode cX7_move 30 = .ok (.iload_n 1, 1) := by decide +kernel
theorem dX7_move_31 : decode cX7_move 31 = .ok (.iaload, 1) := by decide +kernel
theorem dX7_move_32 : decode cX7_move 32 = .ok (.aload_n 0, 1) := by decide +kernel
theorem dX7_move_33 : decode cX7_move 33 = .ok (.getfield 19, 3) := by decide +kernel
theorem dX7_move_36 : decode cX7_move 36 = .ok (.iload_n 3, 1) := by decide +kernel
theorem dX7_move_37 : decode cX7_move 37 = .ok (.iaload, 1) := by decide +kernel
theorem dX7_move_38 : decode cX7_move 38 = .ok (.if_icmp .eq 9, 3) := by decide +kernel
theorem dX7_move_41 : decode cX7_move 41 = .ok (.aload_n 0, 1) := by decide +kernel
theorem dX7_move_42 : decode cX7_move 42 = .ok (.iconst 4, 1) := by decide +kernel
theorem dX7_move_43 : decode cX7_move 43 = .ok (.invokevirtual 25, 3) := by decide +kernel
theorem dX7_move_46 : decode cX7_move 46 = .ok (.ireturn, 1) := by decide +kernel
theorem dX7_move_47 : decode cX7_move 47 = .ok (.iload_n 2, 1) := by decide +kernel
theorem dX7_move_48 : decode cX7_move 48 = .ok (.ifCond .lt 40, 3) := by decide +kernel
theorem dX7_move_51 : decode cX7_move 51 = .ok (.iload 4, 2) := by decide +kernel
theorem dX7_move_53 : decode cX7_move 53 = .ok (.ifCond .lt 35, 3) := by decide +kernel
theorem dX7_move_56 : decode cX7_move 56 = .ok (.iload 5, 2) := by decide +kernel
theorem dX7_move_58 : decode cX7_move 58 = .ok (.ifCond .lt 30, 3) := by decide +kernel
theorem dX7_move_61 : decode cX7_move 61 = .ok (.iload 5, 2) := by decide +kernel
theorem dX7_move_63 : decode cX7_move 63 = .ok (.aload_n 0, 1) := by decide +kernel
theorem dX7_move_64 : decode cX7_move 64 = .ok (.getfield 22, 3) := by decide +kernel
theorem dX7_move_67 : decode cX7_move 67 = .ok (.iload_n 1, 1) := by decide +kernel
theorem dX7_move_68 : decode cX7_move 68 = .ok (.iaload, 1) := by decide +kernel
theorem dX7_move_69 : decode cX7_move 69 = .ok (.iload_n 2, 1) := by decide +kernel
theorem dX7_move_70 : decode cX7_move 70 = .ok (.isub, 1) := by decide +kernel
theorem dX7_move_71 : decode cX7_move 71 = .ok (.if_icmp .gt 17, 3) := by decide +kernel
theorem dX7_move_74 : decode cX7_move 74 = .ok (.iload 5, 2) := by decide +kernel
theorem dX7_move_76 : decode cX7_move 76 = .ok (.aload_n 0, 1) := by decide +kernel
theorem dX7_move_77 : decode cX7_move 77 = .ok (.getfield 22, 3) := by decide +kernel
theorem dX7_move_80 : decode cX7_move 80 = .ok (.iload_n 3, 1) := by decide +kernel
theorem dX7_move_81 : decode cX7_move 81 = .ok (.iaload, 1) := by decide +kernel
theorem dX7_move_82 : decode cX7_move 82 = .ok (.iload 4, 2) := by decide +kernel
theorem dX7_move_84 : decode cX7_move 84 = .ok (.isub, 1) := by decide +kernel
theorem dX7_move_85 : decode cX7_move 85 = .ok (.if_icmp .le 9, 3) := by decide +kernel
theorem dX7_move_88 : decode cX7_move 88 = .ok (.aload_n 0, 1) := by decide +kernel
theorem dX7_move_89 : decode cX7_move 89 = .ok (.iconst 2, 1) := by decide +kernel
theorem dX7_move_90 : decode cX7_move 90 = .ok (.invokevirtual 25, 3) := by decide +kernel
theorem dX7_move_93 : decode cX7_move 93 = .ok (.ireturn, 1) := by decide +kernel
theorem dX7_move_94 : decode cX7_move 94 = .ok (.aload_n 0, 1) := by decide +kernel
theorem dX7_move_95 : decode cX7_move 95 = .ok (.getfield 9, 3) := by decide +kernel
theorem dX7_move_98 : decode cX7_move 98 = .ok (.iload_n 1, 1) := by decide +kernel
theorem dX7_move_99 : decode cX7_move 99 = .ok (.sipush 200, 3) := by decide +kernel
theorem dX7_move_102 : decode cX7_move 102 = .ok (.imul, 1) := by decide +kernel
theorem dX7_move_103 : decode cX7_move 103 = .ok (.iload_n 2, 1) := by decide +kernel
theorem dX7_move_104 : decode cX7_move 104 = .ok (.iadd, 1) := by decide +kernel
theorem dX7_move_105 : decode cX7_move 105 = .ok (.aload_n 0, 1) := by decide +kernel
theorem dX7_move_106 : decode cX7_move 106 = .ok (.getfield 9, 3) := by decide +kernel
theorem dX7_move_109 : decode cX7_move 109 = .ok (.iload_n 3, 1) := by decide +kernel
theorem dX7_move_110 : decode cX7_move 110 = .ok (.sipush 200, 3) := by decide +kernel
theorem dX7_move_113 : decode cX7_move 113 = .ok (.imul, 1) := by decide +kernel
theorem dX7_move_114 : decode cX7_move 114 = .ok (.iload 4, 2) := by decide +kernel
theorem dX7_move_116 : decode cX7_move 116 = .ok (.iadd, 1) := by decide +kernel
theorem dX7_move_117 : decode cX7_move 117 = .ok (.iload 5, 2) := by decide +kernel
theorem dX7_move_119 : decode cX7_move 119 = .ok (.invokestatic 29, 3) := by decide +kernel
theorem dX7_move_122 : decode cX7_move 122 = .ok (.iconst 1, 1) := by decide +kernel
theorem dX7_move_123 : decode cX7_move 123 = .ok (.ireturn, 1) := by decide +kernel
theorem dX7_weight_0 : decode cX7_weight 0 = .ok (.iload_n 1, 1) := by decide +kernel
theorem dX7_weight_1 : decode cX7_weight 1 = .ok (.ifCond .lt 13, 3) := by decide +kernel
theorem dX7_weight_4 : decode cX7_weight 4 = .ok (.iload_n 1, 1) := by decide +kernel
theorem dX7_weight_5 : decode cX7_weight 5 = .ok (.aload_n 0, 1) := by decide +kernel
theorem dX7_weight_6 : decode cX7_weight 6 = .ok (.getfield 22, 3) := by decide +kernel
theorem dX7_weight_9 : decode cX7_weight 9 = .ok (.iconst 0, 1) := by decide +kernel
theorem dX7_weight_10 : decode cX7_weight 10 = .ok (.iaload, 1) := by decide +kernel
theorem dX7_weight_11 : decode cX7_weight 11 = .ok (.if_icmp .lt 5, 3) := by decide +kernel
theorem dX7_weight_14 : decode cX7_weight 14 = .ok (.iconst (-1), 1) := by decide +kernel
theorem dX7_weight_15 : decode cX7_weight 15 = .ok (.ireturn, 1) := by decide +kernel
theorem dX7_weight_16 : decode cX7_weight 16 = .ok (.aload_n 0, 1) := by decide +kernel
theorem dX7_weight_17 : decode cX7_weight 17 = .ok (.getfield 9, 3) := by decide +kernel
theorem dX7_weight_20 : decode cX7_weight 20 = .ok (.iload_n 1, 1) := by decide +kernel
theorem dX7_weight_21 : decode cX7_weight 21 = .ok (.iaload, 1) := by decide +kernel
theorem dX7_weight_22 : decode cX7_weight 22 = .ok (.istore_n 2, 1) := by decide +kernel
theorem dX7_weight_23 : decode cX7_weight 23 = .ok (.iload_n 2, 1) := by decide +kernel
theorem dX7_weight_24 : decode cX7_weight 24 = .ok (.iconst 1, 1) := by decide +kernel
theorem dX7_weight_25 : decode cX7_weight 25 = .ok (.sipush 20000, 3) := by decide +kernel
theorem dX7_weight_28 : decode cX7_weight 28 = .ok (.invokestatic 35, 3) := by decide +kernel
theorem dX7_weight_31 : decode cX7_weight 31 = .ok (.ifCond .eq 7, 3) := by decide +kernel
theorem dX7_weight_34 : decode cX7_weight 34 = .ok (.iload_n 2, 1) := by decide +kernel
theorem dX7_weight_35 : decode cX7_weight 35 = .ok (.goto 4, 3) := by decide +kernel
theorem dX7_weight_38 : decode cX7_weight 38 = .ok (.iconst (-1), 1) := by decide +kernel
theorem dX7_weight_39 : decode cX7_weight 39 = .ok (.ireturn, 1) := by decide +kernel
theorem dX8_init_0 : decode cX8_init 0 = .ok (.aload_n 0, 1) := by decide +kernel
theorem dX8_init_1 : decode cX8_init 1 = .ok (.invokespecial 3, 3) := by decide +kernel
theorem dX8_init_4 : decode cX8_init 4 = .ok (.aload_n 0, 1) := by decide +kernel
theorem dX8_init_5 : decode cX8_init 5 = .ok (.iconst 0, 1) := by decide +kernel
theorem dX8_init_6 : decode cX8_init 6 = .ok (.putfield 9, 3) := by decide +kernel
theorem dX8_init_9 : decode cX8_init 9 = .ok (.aload_n 0, 1) := by decide +kernel
theorem dX8_init_10 : decode cX8_init 10 = .ok (.iconst 0, 1) := by decide +kernel
theorem dX8_init_11 : decode cX8_init 11 = .ok (.putfield 15, 3) := by decide +kernel
theorem dX8_init_14 : decode cX8_init 14 = .ok (.aload_n 0, 1) := by decide +kernel
theorem dX8_init_15 : decode cX8_init 15 = .ok (.iconst 0, 1) := by decide +kernel
theorem dX8_init_16 : decode cX8_init 16 = .ok (.putfield 18, 3) := by decide +kernel
theorem dX8_init_19 : decode cX8_init 19 = .ok (.aload_n 0, 1) := by decide +kernel
theorem dX8_init_20 : decode cX8_init 20 = .ok (.iconst 0, 1) := by decide +kernel
theorem dX8_init_21 : decode cX8_init 21 = .ok (.putfield 21, 3) := by decide +kernel
theorem dX8_init_24 : decode cX8_init 24 = .ok (.aload_n 0, 1) := by decide +kernel
theorem dX8_init_25 : decode cX8_init 25 = .ok (.iconst 0, 1) := by decide +kernel
theorem dX8_init_26 : decode cX8_init 26 = .ok (.putfield 24, 3) := by decide +kernel
theorem dX8_init_29 : decode cX8_init 29 = .ok (.aload_n 0, 1) := by decide +kernel
theorem dX8_init_30 : decode cX8_init 30 = .ok (.iconst 0, 1) := by decide +kernel
theorem dX8_init_31 : decode cX8_init 31 = .ok (.putfield 27, 3) := by decide +kernel
theorem dX8_init_34 : decode cX8_init 34 = .ok (.aload_n 0, 1) := by decide +kernel
theorem dX8_init_35 : decode cX8_init 35 = .ok (.iconst 0, 1) := by decide +kernel
theorem dX8_init_36 : decode cX8_init 36 = .ok (.putfield 30, 3) := by decide +kernel
theorem dX8_init_39 : decode cX8_init 39 = .ok (.aload_n 0, 1) := by decide +kernel
theorem dX8_init_40 : decode cX8_init 40 = .ok (.iconst 0, 1) := by decide +kernel
theorem dX8_init_41 : decode cX8_init 41 = .ok (.putfield 33, 3) := by decide +kernel
theorem dX8_init_44 : decode cX8_init 44 = .ok (.return_, 1) := by decide +kernel
theorem dX8_trim_0 : decode cX8_trim 0 = .ok (.aload_n 0, 1) := by decide +kernel
theorem dX8_trim_1 : decode cX8_trim 1 = .ok (.iload_n 2, 1) := by decide +kernel
theorem dX8_trim_2 : decode cX8_trim 2 = .ok (.putfield 9, 3) := by decide +kernel
theorem dX8_trim_5 : decode cX8_trim 5 = .ok (.aload_n 0, 1) := by decide +kernel
theorem dX8_trim_6 : decode cX8_trim 6 = .ok (.iconst 0, 1) := by decide +kernel
theorem dX8_trim_7 : decode cX8_trim 7 = .ok (.aload_n 0, 1) := by decide +kernel
theorem dX8_trim_8 : decode cX8_trim 8 = .ok (.getfield 9, 3) := by decide +kernel
theorem dX8_trim_11 : decode cX8_trim 11 = .ok (.aload_n 1, 1) := by decide +kernel
theorem dX8_trim_12 : decode cX8_trim 12 = .ok (.iconst 0, 1) := by decide +kernel
theorem dX8_trim_13 : decode cX8_trim 13 = .ok (.iaload, 1) := by decide +kernel
theorem dX8_trim_14 : decode cX8_trim 14 = .ok (.isub, 1) := by decide +kernel
theorem dX8_trim_15 : decode cX8_trim 15 = .ok (.invokestatic 36, 3) := by decide +kernel
theorem dX8_trim_18 : decode cX8_trim 18 = .ok (.iload_n 3, 1) := by decide +kernel
theorem dX8_trim_19 : decode cX8_trim 19 = .ok (.imul, 1) := by decide +kernel
theorem dX8_trim_20 : decode cX8_trim 20 = .ok (.sipush 1000, 3) := by decide +kernel
theorem dX8_trim_23 : decode cX8_trim 23 = .ok (.aload_n 1, 1) := by decide +kernel
theorem dX8_trim_24 : decode cX8_trim 24 = .ok (.iconst 5, 1) := by decide +kernel
theorem dX8_trim_25 : decode cX8_trim 25 = .ok (.iaload, 1) := by decide +kernel
theorem dX8_trim_26 : decode cX8_trim 26 = .ok (.iadd, 1) := by decide +kernel
theorem dX8_trim_27 : decode cX8_trim 27 = .ok (.imul, 1) := by decide +kernel
theorem dX8_trim_28 : decode cX8_trim 28 = .ok (.sipush 1000, 3) := by decide +kernel
theorem dX8_trim_31 : decode cX8_trim 31 = .ok (.idiv, 1) := by decide +kernel
theorem dX8_trim_32 : decode cX8_trim 32 = .ok (.putfield 15, 3) := by decide +kernel
theorem dX8_trim_35 : decode cX8_trim 35 = .ok (.aload_n 0, 1) := by decide +kernel
theorem dX8_trim_36 : decode cX8_trim 36 = .ok (.getfield 15, 3) := by decide +kernel
theorem dX8_trim_39 : decode cX8_trim 39 = .ok (.istore 5, 2) := by decide +kernel
theorem dX8_trim_41 : decode cX8_trim 41 = .ok (.aload_n 0, 1) := by decide +kernel
theorem dX8_trim_42 : decode cX8_trim 42 = .ok (.aload_n 1, 1) := by decide +kernel
theorem dX8_trim_43 : decode cX8_trim 43 = .ok (.iconst 1, 1) := by decide +kernel
theorem dX8_trim_44 : decode cX8_trim 44 = .ok (.iaload, 1) := by decide +kernel
theorem dX8_trim_45 : decode cX8_trim 45 = .ok (.iload 5, 2) := by decide +kernel
theorem dX8_trim_47 : decode cX8_trim 47 = .ok (.invokestatic 42, 3) := by decide +kernel
theorem dX8_trim_50 : decode cX8_trim 50 = .ok (.putfield 18, 3) := by decide +kernel
theorem dX8_trim_53 : decode cX8_trim 53 = .ok (.iload 5, 2) := by decide +kernel
theorem dX8_trim_55 : decode cX8_trim 55 = .ok (.aload_n 0, 1) := by decide +kernel
theorem dX8_trim_56 : decode cX8_trim 56 = .ok (.getfield 18, 3) := by decide +kernel
theorem dX8_trim_59 : decode cX8_trim 59 = .ok (.isub, 1) := by decide +kernel
theorem dX8_trim_60 : decode cX8_trim 60 = .ok (.istore 5, 2) := by decide +kernel
theorem dX8_trim_62 : decode cX8_trim 62 = .ok (.aload_n 0, 1) := by decide +kernel
theorem dX8_trim_63 : decode cX8_trim 63 = .ok (.aload_n 1, 1) := by decide +kernel
theorem dX8_trim_64 : decode cX8_trim 64 = .ok (.iconst 2, 1) := by decide +kernel
theorem dX8_trim_65 : decode cX8_trim 65 = .ok (.iaload, 1) := by decide +kernel
theorem dX8_trim_66 : decode cX8_trim 66 = .ok (.iload 5, 2) := by decide +kernel
theorem dX8_trim_68 : decode cX8_trim 68 = .ok (.invokestatic 42, 3) := by decide +kernel
theorem dX8_trim_71 : decode cX8_trim 71 = .ok (.putfield 21, 3) := by decide +kernel
theorem dX8_trim_74 : decode cX8_trim 74 = .ok (.iload 5, 2) := by decide +kernel
theorem dX8_trim_76 : decode cX8_trim 76 = .ok (.aload_n 0, 1) := by decide +kernel
theorem dX8_trim_77 : decode cX8_trim 77 = .ok (.getfield 21, 3) := by decide +kernel
theorem dX8_trim_80 : decode cX8_trim 80 = .ok (.isub, 1) := by decide +kernel
theorem dX8_trim_81 : decode cX8_trim 81 = .ok (.istore 5, 2) := by decide +kernel
theorem dX8_trim_83 : decode cX8_trim 83 = .ok (.aload_n 0, 1) := by decide +kernel
theorem dX8_trim_84 : decode cX8_trim 84 = .ok (.iload 4, 2) := by decide +kernel
theorem dX8_trim_86 : decode cX8_trim 86 = .ok (.ifCond .eq 14, 3) := by decide +kernel
theorem dX8_trim_89 : decode cX8_trim 89 = .ok (.aload_n 1, 1) := by decide +kernel
theorem dX8_trim_90 : decode cX8_trim 90 = .ok (.iconst 3, 1) := by decide +kernel
theorem dX8_trim_91 : decode cX8_trim 91 = .ok (.iaload, 1) := by decide +kernel
theorem dX8_trim_92 : decode cX8_trim 92 = .ok (.iload 5, 2) := by decide +kernel
theorem dX8_trim_94 : decode cX8_trim 94 = .ok (.invokestatic 42, 3) := by decide +kernel
theorem dX8_trim_97 : decode cX8_trim 97 = .ok (.goto 4, 3) := by decide +kernel
theorem dX8_trim_100 : decode cX8_trim 100 = .ok (.iconst 0, 1) := by decide +kernel
theorem dX8_trim_101 : decode cX8_trim 101 = .ok (.putfield 24, 3) := by decide +kernel
theorem dX8_trim_104 : decode cX8_trim 104 = .ok (.aload_n 0, 1) := by decide +kernel
theorem dX8_trim_105 : decode cX8_trim 105 = .ok (.iload 5, 2) := by decide +kernel
theorem dX8_trim_107 : decode cX8_trim 107 = .ok (.aload_n 0, 1) := by decide +kernel
theorem dX8_trim_108 : decode cX8_trim 108 = .ok (.getfield 24, 3) := by decide +kernel
theorem dX8_trim_111 : decode cX8_trim 111 = .ok (.isub, 1) := by decide +kernel
theorem dX8_trim_112 : decode cX8_trim 112 = .ok (.putfield 27, 3) := by decide +kernel
theorem dX8_trim_115 : decode cX8_trim 115 = .ok (.return_, 1) := by decide +kernel
theorem dX8_share_0 : decode cX8_share 0 = .ok (.aload_n 0, 1) := by decide +kernel
theorem dX8_share_1 : decode cX8_share 1 = .ok (.iload_n 1, 1) := by decide +kernel
theorem dX8_share_2 : decode cX8_share 2 = .ok (.putfield 30, 3) := by decide +kernel
theorem dX8_share_5 : decode cX8_share 5 = .ok (.aload_n 0, 1) := by decide +kernel
theorem dX8_share_6 : decode cX8_share 6 = .ok (.aload_n 0, 1) := by decide +kernel
theorem dX8_share_7 : decode cX8_share 7 = .ok (.getfield 27, 3) := by decide +kernel
theorem dX8_share_10 : decode cX8_share 10 = .ok (.iload_n 1, 1) := by decide +kernel
theorem dX8_share_11 : decode cX8_share 11 = .ok (.isub, 1) := by decide +kernel
theorem dX8_share_12 : decode cX8_share 12 = .ok (.putfield 33, 3) := by decide +kernel
theorem dX8_share_15 : decode cX8_share 15 = .ok (.return_, 1) := by decide +kernel
theorem dX9_init_0 : decode cX9_init 0 = .ok (.aload_n 0, 1) := by decide +kernel
theorem dX9_init_1 : decode cX9_init 1 = .ok (.invokespecial 1, 3) := by decide +kernel
theorem dX9_init_4 : decode cX9_init 4 = .ok (.aload_n 0, 1) := by decide +kernel
theorem dX9_init_5 : decode cX9_init 5 = .ok (.new 7, 3) := by decide +kernel
theorem dX9_init_8 : decode cX9_init 8 = .ok (.dup, 1) := by decide +kernel
theorem dX9_init_9 : decode cX9_init 9 = .ok (.invokespecial 9, 3) := by decide +kernel
theorem dX9_init_12 : decode cX9_init 12 = .ok (.putfield 10, 3) := by decide +kernel
theorem dX9_init_15 : decode cX9_init 15 = .ok (.aload_n 0, 1) := by decide +kernel
theorem dX9_init_16 : decode cX9_init 16 = .ok (.new 16, 3) := by decide +kernel
theorem dX9_init_19 : decode cX9_init 19 = .ok (.dup, 1) := by decide +kernel
theorem dX9_init_20 : decode cX9_init 20 = .ok (.invokespecial 18, 3) := by decide +kernel
theorem dX9_init_23 : decode cX9_init 23 = .ok (.putfield 19, 3) := by decide +kernel
theorem dX9_init_26 : decode cX9_init 26 = .ok (.aload_n 0, 1) := by decide +kernel
theorem dX9_init_27 : decode cX9_init 27 = .ok (.new 23, 3) := by decide +kernel
theorem dX9_init_30 : decode cX9_init 30 = .ok (.dup, 1) := by decide +kernel
theorem dX9_init_31 : decode cX9_init 31 = .ok (.invokespecial 25, 3) := by decide +kernel
theorem dX9_init_34 : decode cX9_init 34 = .ok (.putfield 26, 3) := by decide +kernel
theorem dX9_init_37 : decode cX9_init 37 = .ok (.aload_n 0, 1) := by decide +kernel
theorem dX9_init_38 : decode cX9_init 38 = .ok (.bipush 6, 2) := by decide +kernel
theorem dX9_init_40 : decode cX9_init 40 = .ok (.newarray .int, 2) := by decide +kernel
theorem dX9_init_42 : decode cX9_init 42 = .ok (.dup, 1) := by decide +kernel
theorem dX9_init_43 : decode cX9_init 43 = .ok (.iconst 0, 1) := by decide +kernel
theorem dX9_init_44 : decode cX9_init 44 = .ok (.bipush 20, 2) := by decide +kernel
theorem dX9_init_46 : decode cX9_init 46 = .ok (.iastore, 1) := by decide +kernel
theorem dX9_init_47 : decode cX9_init 47 = .ok (.dup, 1) := by decide +kernel
theorem dX9_init_48 : decode cX9_init 48 = .ok (.iconst 1, 1) := by decide +kernel
theorem dX9_init_49 : decode cX9_init 49 = .ok (.sipush 500, 3) := by decide +kernel
theorem dX9_init_52 : decode cX9_init 52 = .ok (.iastore, 1) := by decide +kernel
theorem dX9_init_53 : decode cX9_init 53 = .ok (.dup, 1) := by decide +kernel
theorem dX9_init_54 : decode cX9_init 54 = .ok (.iconst 2, 1) := by decide +kernel
theorem dX9_init_55 : decode cX9_init 55 = .ok (.sipush 300, 3) := by decide +kernel
theorem dX9_init_58 : decode cX9_init 58 = .ok (.iastore, 1) := by decide +kernel
theorem dX9_init_59 : decode cX9_init 59 = .ok (.dup, 1) := by decide +kernel
theorem dX9_init_60 : decode cX9_init 60 = .ok (.iconst 3, 1) := by decide +kernel
theorem dX9_init_61 : decode cX9_init 61 = .ok (.sipush 400, 3) := by decide +kernel
theorem dX9_init_64 : decode cX9_init 64 = .ok (.iastore, 1) := by decide +kernel
theorem dX9_init_65 : decode cX9_init 65 = .ok (.dup, 1) := by decide +kernel
theorem dX9_init_66 : decode cX9_init 66 = .ok (.iconst 4, 1) := by decide +kernel
theorem dX9_init_67 : decode cX9_init 67 = .ok (.iconst 5, 1) := by decide +kernel
theorem dX9_init_68 : decode cX9_init 68 = .ok (.iastore, 1) := by decide +kernel
theorem dX9_init_69 : decode cX9_init 69 = .ok (.dup, 1) := by decide +kernel
theorem dX9_init_70 : decode cX9_init 70 = .ok (.iconst 5, 1) := by decide +kernel
theorem dX9_init_71 : decode cX9_init 71 = .ok (.iconst 5, 1) := by decide +kernel
theorem dX9_init_72 : decode cX9_init 72 = .ok (.iastore, 1) := by decide +kernel
theorem dX9_init_73 : decode cX9_init 73 = .ok (.putfield 30, 3) := by decide +kernel
theorem dX9_init_76 : decode cX9_init 76 = .ok (.aload_n 0, 1) := by decide +kernel
theorem dX9_init_77 : decode cX9_init 77 = .ok (.new 34, 3) := by decide +kernel
theorem dX9_init_80 : decode cX9_init 80 = .ok (.dup, 1) := by decide +kernel
theorem dX9_init_81 : decode cX9_init 81 = .ok (.invokespecial 36, 3) := by decide +kernel
theorem dX9_init_84 : decode cX9_init 84 = .ok (.putfield 37, 3) := by decide +kernel
theorem dX9_init_87 : decode cX9_init 87 = .ok (.aload_n 0, 1) := by decide +kernel
theorem dX9_init_88 : decode cX9_init 88 = .ok (.new 41, 3) := by decide +kernel
theorem dX9_init_91 : decode cX9_init 91 = .ok (.dup, 1) := by decide +kernel
theorem dX9_init_92 : decode cX9_init 92 = .ok (.invokespecial 43, 3) := by decide +kernel
theorem dX9_init_95 : decode cX9_init 95 = .ok (.putfield 44, 3) := by decide +kernel
theorem dX9_init_98 : decode cX9_init 98 = .ok (.aload_n 0, 1) := by decide +kernel
theorem dX9_init_99 : decode cX9_init 99 = .ok (.new 48, 3) := by decide +kernel
theorem dX9_init_102 : decode cX9_init 102 = .ok (.dup, 1) := by decide +kernel
theorem dX9_init_103 : decode cX9_init 103 = .ok (.invokespecial 50, 3) := by decide +kernel
theorem dX9_init_106 : decode cX9_init 106 = .ok (.putfield 51, 3) := by decide +kernel
theorem dX9_init_109 : decode cX9_init 109 = .ok (.aload_n 0, 1) := by decide +kernel
theorem dX9_init_110 : decode cX9_init 110 = .ok (.new 55, 3) := by decide +kernel
theorem dX9_init_113 : decode cX9_init 113 = .ok (.dup, 1) := by decide +kernel
theorem dX9_init_114 : decode cX9_init 114 = .ok (.invokespecial 57, 3) := by decide +kernel
theorem dX9_init_117 : decode cX9_init 117 = .ok (.putfield 58, 3) := by decide +kernel
theorem dX9_init_120 : decode cX9_init 120 = .ok (.aload_n 0, 1) := by decide +kernel
theorem dX9_init_121 : decode cX9_init 121 = .ok (.bipush 6, 2) := by decide +kernel
theorem dX9_init_123 : decode cX9_init 123 = .ok (.newarray .int, 2) := by decide +kernel
theorem dX9_init_125 : decode cX9_init 125 = .ok (.putfield 62, 3) := by decide +kernel
theorem dX9_init_128 : decode cX9_init 128 = .ok (.aload_n 0, 1) := by decide +kernel
theorem dX9_init_129 : decode cX9_init 129 = .ok (.new 65, 3) := by decide +kernel
theorem dX9_init_132 : decode cX9_init 132 = .ok (.dup, 1) := by decide +kernel
theorem dX9_init_133 : decode cX9_init 133 = .ok (.invokespecial 67, 3) := by decide +kernel
theorem dX9_init_136 : decode cX9_init 136 = .ok (.putfield 68, 3) := by decide +kernel
theorem dX9_init_139 : decode cX9_init 139 = .ok (.aload_n 0, 1) := by decide +kernel
theorem dX9_init_140 : decode cX9_init 140 = .ok (.new 72, 3) := by decide +kernel
theorem dX9_init_143 : decode cX9_init 143 = .ok (.dup, 1) := by decide +kernel
theorem dX9_init_144 : decode cX9_init 144 = .ok (.invokespecial 74, 3) := by decide +kernel
theorem dX9_init_147 : decode cX9_init 147 = .ok (.putfield 75, 3) := by decide +kernel
theorem dX9_init_150 : decode cX9_init 150 = .ok (.aload_n 0, 1) := by decide +kernel
theorem dX9_init_151 : decode cX9_init 151 = .ok (.iconst 0, 1) := by decide +kernel
theorem dX9_init_152 : decode cX9_init 152 = .ok (.putfield 79, 3) := by decide +kernel
theorem dX9_init_155 : decode cX9_init 155 = .ok (.aload_n 0, 1) := by decide +kernel
theorem dX9_init_156 : decode cX9_init 156 = .ok (.iconst 0, 1) := by decide +kernel
theorem dX9_init_157 : decode cX9_init 157 = .ok (.putfield 83, 3) := by decide +kernel
theorem dX9_init_160 : decode cX9_init 160 = .ok (.aload_n 0, 1) := by decide +kernel
theorem dX9_init_161 : decode cX9_init 161 = .ok (.ldc 86, 2) := by decide +kernel
theorem dX9_init_163 : decode cX9_init 163 = .ok (.putfield 87, 3) := by decide +kernel
theorem dX9_init_166 : decode cX9_init 166 = .ok (.aload_n 0, 1) := by decide +kernel
theorem dX9_init_167 : decode cX9_init 167 = .ok (.iconst 0, 1) := by decide +kernel
theorem dX9_init_168 : decode cX9_init 168 = .ok (.putfield 90, 3) := by decide +kernel
theorem dX9_init_171 : decode cX9_init 171 = .ok (.return_, 1) := by decide +kernel
theorem dX9_profile_0 : decode cX9_profile 0 = .ok (.iload_n 1, 1) := by decide +kernel
theorem dX9_profile_1 : decode cX9_profile 1 = .ok (.iconst 0, 1) := by decide +kernel
theorem dX9_profile_2 : decode cX9_profile 2 = .ok (.iconst 2, 1) := by decide +kernel
theorem dX9_profile_3 : decode cX9_profile 3 = .ok (.invokestatic 93, 3) := by decide +kernel
theorem dX9_profile_6 : decode cX9_profile 6 = .ok (.ifCond .eq 13, 3) := by decide +kernel
theorem dX9_profile_9 : decode cX9_profile 9 = .ok (.iload_n 2, 1) := by decide +kernel
theorem dX9_profile_10 : decode cX9_profile 10 = .ok (.iconst 5, 1) := by decide +kernel
theorem dX9_profile_11 : decode cX9_profile 11 = .ok (.bipush 80, 2) := by decide +kernel
theorem dX9_profile_13 : decode cX9_profile 13 = .ok (.invokestatic 93, 3) := by decide +kernel
theorem dX9_profile_16 : decode cX9_profile 16 = .ok (.ifCond .ne 6, 3) := by decide +kernel
theorem dX9_profile_19 : decode cX9_profile 19 = .ok (.bipush (-2), 2) := by decide +kernel
theorem dX9_profile_21 : decode cX9_profile 21 = .ok (.ireturn, 1) := by decide +kernel
theorem dX9_profile_22 : decode cX9_profile 22 = .ok (.iload_n 3, 1) := by decide +kernel
theorem dX9_profile_23 : decode cX9_profile 23 = .ok (.iconst 0, 1) := by decide +kernel
theorem dX9_profile_24 : decode cX9_profile 24 = .ok (.iconst 3, 1) := by decide +kernel
theorem dX9_profile_25 : decode cX9_profile 25 = .ok (.invokestatic 93, 3) := by decide +kernel
theorem dX9_profile_28 : decode cX9_profile 28 = .ok (.ifCond .eq 16, 3) := by decide +kernel
theorem dX9_profile_31 : decode cX9_profile 31 = .ok (.iload 4, 2) := by decide +kernel
