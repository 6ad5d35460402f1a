theorem dX0_init_0 : decode cX0_init 0 = .ok (.aload_n 0, 1) := by decide +kernel
theorem dX0_init_1 : decode cX0_init 1 = .ok (.invokespecial 1, 3) := by decide +kernel
theorem dX0_init_4 : decode cX0_init 4 = .ok (.aload_n 0, 1) := by decide +kernel
theorem dX0_init_5 : decode cX0_init 5 = .ok (.iconst 0, 1) := by decide +kernel
theorem dX0_init_6 : decode cX0_init 6 = .ok (.putfield 7, 3) := by decide +kernel
theorem dX0_init_9 : decode cX0_init 9 = .ok (.aload_n 0, 1) := by decide +kernel
theorem dX0_init_10 : decode cX0_init 10 = .ok (.iconst 0, 1) := by decide +kernel
theorem dX0_init_11 : decode cX0_init 11 = .ok (.putfield 13, 3) := by decide +kernel
theorem dX0_init_14 : decode cX0_init 14 = .ok (.aload_n 0, 1) := by decide +kernel
theorem dX0_init_15 : decode cX0_init 15 = .ok (.iconst 0, 1) := by decide +kernel
theorem dX0_init_16 : decode cX0_init 16 = .ok (.putfield 16, 3) := by decide +kernel
theorem dX0_init_19 : decode cX0_init 19 = .ok (.aload_n 0, 1) := by decide +kernel
theorem dX0_init_20 : decode cX0_init 20 = .ok (.iconst 0, 1) := by decide +kernel
theorem dX0_init_21 : decode cX0_init 21 = .ok (.putfield 19, 3) := by decide +kernel
theorem dX0_init_24 : decode cX0_init 24 = .ok (.aload_n 0, 1) := by decide +kernel
theorem dX0_init_25 : decode cX0_init 25 = .ok (.iconst 0, 1) := by decide +kernel
theorem dX0_init_26 : decode cX0_init 26 = .ok (.putfield 22, 3) := by decide +kernel
theorem dX0_init_29 : decode cX0_init 29 = .ok (.aload_n 0, 1) := by decide +kernel
theorem dX0_init_30 : decode cX0_init 30 = .ok (.iconst 0, 1) := by decide +kernel
theorem dX0_init_31 : decode cX0_init 31 = .ok (.putfield 25, 3) := by decide +kernel
theorem dX0_init_34 : decode cX0_init 34 = .ok (.aload_n 0, 1) := by decide +kernel
theorem dX0_init_35 : decode cX0_init 35 = .ok (.iconst 0, 1) := by decide +kernel
theorem dX0_init_36 : decode cX0_init 36 = .ok (.putfield 28, 3) := by decide +kernel
theorem dX0_init_39 : decode cX0_init 39 = .ok (.return_, 1) := by decide +kernel
theorem dX0_enter_0 : decode cX0_enter 0 = .ok (.aload_n 0, 1) := by decide +kernel
theorem dX0_enter_1 : decode cX0_enter 1 = .ok (.dup, 1) := by decide +kernel
theorem dX0_enter_2 : decode cX0_enter 2 = .ok (.getfield 7, 3) := by decide +kernel
theorem dX0_enter_5 : decode cX0_enter 5 = .ok (.aload_n 1, 1) := by decide +kernel
theorem dX0_enter_6 : decode cX0_enter 6 = .ok (.getfield 31, 3) := by decide +kernel
theorem dX0_enter_9 : decode cX0_enter 9 = .ok (.iadd, 1) := by decide +kernel
theorem dX0_enter_10 : decode cX0_enter 10 = .ok (.putfield 7, 3) := by decide +kernel
theorem dX0_enter_13 : decode cX0_enter 13 = .ok (.aload_n 0, 1) := by decide +kernel
theorem dX0_enter_14 : decode cX0_enter 14 = .ok (.dup, 1) := by decide +kernel
theorem dX0_enter_15 : decode cX0_enter 15 = .ok (.getfield 13, 3) := by decide +kernel
theorem dX0_enter_18 : decode cX0_enter 18 = .ok (.aload_n 1, 1) := by decide +kernel
theorem dX0_enter_19 : decode cX0_enter 19 = .ok (.getfield 36, 3) := by decide +kernel
theorem dX0_enter_22 : decode cX0_enter 22 = .ok (.iadd, 1) := by decide +kernel
theorem dX0_enter_23 : decode cX0_enter 23 = .ok (.putfield 13, 3) := by decide +kernel
theorem dX0_enter_26 : decode cX0_enter 26 = .ok (.aload_n 0, 1) := by decide +kernel
theorem dX0_enter_27 : decode cX0_enter 27 = .ok (.dup, 1) := by decide +kernel
theorem dX0_enter_28 : decode cX0_enter 28 = .ok (.getfield 16, 3) := by decide +kernel
theorem dX0_enter_31 : decode cX0_enter 31 = .ok (.aload_n 1, 1) := by decide +kernel
theorem dX0_enter_32 : decode cX0_enter 32 = .ok (.getfield 39, 3) := by decide +kernel
theorem dX0_enter_35 : decode cX0_enter 35 = .ok (.iadd, 1) := by decide +kernel
theorem dX0_enter_36 : decode cX0_enter 36 = .ok (.putfield 16, 3) := by decide +kernel
theorem dX0_enter_39 : decode cX0_enter 39 = .ok (.aload_n 0, 1) := by decide +kernel
theorem dX0_enter_40 : decode cX0_enter 40 = .ok (.dup, 1) := by decide +kernel
theorem dX0_enter_41 : decode cX0_enter 41 = .ok (.getfield 19, 3) := by decide +kernel
theorem dX0_enter_44 : decode cX0_enter 44 = .ok (.aload_n 1, 1) := by decide +kernel
theorem dX0_enter_45 : decode cX0_enter 45 = .ok (.getfield 42, 3) := by decide +kernel
theorem dX0_enter_48 : decode cX0_enter 48 = .ok (.iadd, 1) := by decide +kernel
theorem dX0_enter_49 : decode cX0_enter 49 = .ok (.putfield 19, 3) := by decide +kernel
theorem dX0_enter_52 : decode cX0_enter 52 = .ok (.aload_n 0, 1) := by decide +kernel
theorem dX0_enter_53 : decode cX0_enter 53 = .ok (.dup, 1) := by decide +kernel
theorem dX0_enter_54 : decode cX0_enter 54 = .ok (.getfield 22, 3) := by decide +kernel
theorem dX0_enter_57 : decode cX0_enter 57 = .ok (.aload_n 1, 1) := by decide +kernel
theorem dX0_enter_58 : decode cX0_enter 58 = .ok (.getfield 43, 3) := by decide +kernel
theorem dX0_enter_61 : decode cX0_enter 61 = .ok (.iadd, 1) := by decide +kernel
theorem dX0_enter_62 : decode cX0_enter 62 = .ok (.putfield 22, 3) := by decide +kernel
theorem dX0_enter_65 : decode cX0_enter 65 = .ok (.aload_n 0, 1) := by decide +kernel
theorem dX0_enter_66 : decode cX0_enter 66 = .ok (.dup, 1) := by decide +kernel
theorem dX0_enter_67 : decode cX0_enter 67 = .ok (.getfield 25, 3) := by decide +kernel
theorem dX0_enter_70 : decode cX0_enter 70 = .ok (.aload_n 1, 1) := by decide +kernel
theorem dX0_enter_71 : decode cX0_enter 71 = .ok (.getfield 44, 3) := by decide +kernel
theorem dX0_enter_74 : decode cX0_enter 74 = .ok (.iadd, 1) := by decide +kernel
theorem dX0_enter_75 : decode cX0_enter 75 = .ok (.putfield 25, 3) := by decide +kernel
theorem dX0_enter_78 : decode cX0_enter 78 = .ok (.aload_n 0, 1) := by decide +kernel
theorem dX0_enter_79 : decode cX0_enter 79 = .ok (.dup, 1) := by decide +kernel
theorem dX0_enter_80 : decode cX0_enter 80 = .ok (.getfield 28, 3) := by decide +kernel
theorem dX0_enter_83 : decode cX0_enter 83 = .ok (.aload_n 1, 1) := by decide +kernel
theorem dX0_enter_84 : decode cX0_enter 84 = .ok (.getfield 47, 3) := by decide +kernel
theorem dX0_enter_87 : decode cX0_enter 87 = .ok (.iadd, 1) := by decide +kernel
theorem dX0_enter_88 : decode cX0_enter 88 = .ok (.putfield 28, 3) := by decide +kernel
theorem dX0_enter_91 : decode cX0_enter 91 = .ok (.return_, 1) := by decide +kernel
theorem dX1_init_0 : decode cX1_init 0 = .ok (.aload_n 0, 1) := by decide +kernel
theorem dX1_init_1 : decode cX1_init 1 = .ok (.invokespecial 3, 3) := by decide +kernel
theorem dX1_init_4 : decode cX1_init 4 = .ok (.aload_n 0, 1) := by decide +kernel
theorem dX1_init_5 : decode cX1_init 5 = .ok (.sipush 200, 3) := by decide +kernel
theorem dX1_init_8 : decode cX1_init 8 = .ok (.newarray .int, 2) := by decide +kernel
theorem dX1_init_10 : decode cX1_init 10 = .ok (.putfield 9, 3) := by decide +kernel
theorem dX1_init_13 : decode cX1_init 13 = .ok (.aload_n 0, 1) := by decide +kernel
theorem dX1_init_14 : decode cX1_init 14 = .ok (.sipush 200, 3) := by decide +kernel
theorem dX1_init_17 : decode cX1_init 17 = .ok (.newarray .int, 2) := by decide +kernel
theorem dX1_init_19 : decode cX1_init 19 = .ok (.putfield 15, 3) := by decide +kernel
theorem dX1_init_22 : decode cX1_init 22 = .ok (.aload_n 0, 1) := by decide +kernel
theorem dX1_init_23 : decode cX1_init 23 = .ok (.sipush 200, 3) := by decide +kernel
theorem dX1_init_26 : decode cX1_init 26 = .ok (.newarray .int, 2) := by decide +kernel
theorem dX1_init_28 : decode cX1_init 28 = .ok (.putfield 18, 3) := by decide +kernel
theorem dX1_init_31 : decode cX1_init 31 = .ok (.aload_n 0, 1) := by decide +kernel
theorem dX1_init_32 : decode cX1_init 32 = .ok (.sipush 200, 3) := by decide +kernel
theorem dX1_init_35 : decode cX1_init 35 = .ok (.newarray .int, 2) := by decide +kernel
theorem dX1_init_37 : decode cX1_init 37 = .ok (.putfield 21, 3) := by decide +kernel
theorem dX1_init_40 : decode cX1_init 40 = .ok (.aload_n 0, 1) := by decide +kernel
theorem dX1_init_41 : decode cX1_init 41 = .ok (.sipush 200, 3) := by decide +kernel
theorem dX1_init_44 : decode cX1_init 44 = .ok (.newarray .int, 2) := by decide +kernel
theorem dX1_init_46 : decode cX1_init 46 = .ok (.putfield 24, 3) := by decide +kernel
theorem dX1_init_49 : decode cX1_init 49 = .ok (.aload_n 0, 1) := by decide +kernel
theorem dX1_init_50 : decode cX1_init 50 = .ok (.sipush 200, 3) := by decide +kernel
theorem dX1_init_53 : decode cX1_init 53 = .ok (.newarray .int, 2) := by decide +kernel
theorem dX1_init_55 : decode cX1_init 55 = .ok (.putfield 27, 3) := by decide +kernel
theorem dX1_init_58 : decode cX1_init 58 = .ok (.aload_n 0, 1) := by decide +kernel
theorem dX1_init_59 : decode cX1_init 59 = .ok (.sipush 200, 3) := by decide +kernel
theorem dX1_init_62 : decode cX1_init 62 = .ok (.newarray .int, 2) := by decide +kernel
theorem dX1_init_64 : decode cX1_init 64 = .ok (.putfield 30, 3) := by decide +kernel
theorem dX1_init_67 : decode cX1_init 67 = .ok (.aload_n 0, 1) := by decide +kernel
theorem dX1_init_68 : decode cX1_init 68 = .ok (.sipush 200, 3) := by decide +kernel
theorem dX1_init_71 : decode cX1_init 71 = .ok (.newarray .int, 2) := by decide +kernel
theorem dX1_init_73 : decode cX1_init 73 = .ok (.putfield 33, 3) := by decide +kernel
theorem dX1_init_76 : decode cX1_init 76 = .ok (.aload_n 0, 1) := by decide +kernel
theorem dX1_init_77 : decode cX1_init 77 = .ok (.sipush 200, 3) := by decide +kernel
theorem dX1_init_80 : decode cX1_init 80 = .ok (.newarray .int, 2) := by decide +kernel
theorem dX1_init_82 : decode cX1_init 82 = .ok (.putfield 36, 3) := by decide +kernel
theorem dX1_init_85 : decode cX1_init 85 = .ok (.aload_n 0, 1) := by decide +kernel
theorem dX1_init_86 : decode cX1_init 86 = .ok (.sipush 200, 3) := by decide +kernel
theorem dX1_init_89 : decode cX1_init 89 = .ok (.newarray .int, 2) := by decide +kernel
theorem dX1_init_91 : decode cX1_init 91 = .ok (.putfield 39, 3) := by decide +kernel
theorem dX1_init_94 : decode cX1_init 94 = .ok (.aload_n 0, 1) := by decide +kernel
theorem dX1_init_95 : decode cX1_init 95 = .ok (.iconst 0, 1) := by decide +kernel
theorem dX1_init_96 : decode cX1_init 96 = .ok (.putfield 42, 3) := by decide +kernel
theorem dX1_init_99 : decode cX1_init 99 = .ok (.aload_n 0, 1) := by decide +kernel
theorem dX1_init_100 : decode cX1_init 100 = .ok (.iconst (-1), 1) := by decide +kernel
theorem dX1_init_101 : decode cX1_init 101 = .ok (.putfield 46, 3) := by decide +kernel
theorem dX1_init_104 : decode cX1_init 104 = .ok (.return_, 1) := by decide +kernel
theorem dX1_has_0 : decode cX1_has 0 = .ok (.iload_n 1, 1) := by decide +kernel
theorem dX1_has_1 : decode cX1_has 1 = .ok (.ifCond .lt 15, 3) := by decide +kernel
theorem dX1_has_4 : decode cX1_has 4 = .ok (.iload_n 1, 1) := by decide +kernel
theorem dX1_has_5 : decode cX1_has 5 = .ok (.aload_n 0, 1) := by decide +kernel
theorem dX1_has_6 : decode cX1_has 6 = .ok (.getfield 42, 3) := by decide +kernel
theorem dX1_has_9 : decode cX1_has 9 = .ok (.if_icmp .ge 7, 3) := by decide +kernel
theorem dX1_has_12 : decode cX1_has 12 = .ok (.iconst 1, 1) := by decide +kernel
theorem dX1_has_13 : decode cX1_has 13 = .ok (.goto 4, 3) := by decide +kernel
theorem dX1_has_16 : decode cX1_has 16 = .ok (.iconst 0, 1) := by decide +kernel
theorem dX1_has_17 : decode cX1_has 17 = .ok (.ireturn, 1) := by decide +kernel
theorem dX1_latestWas_0 : decode cX1_latestWas 0 = .ok (.aload_n 0, 1) := by decide +kernel
theorem dX1_latestWas_1 : decode cX1_latestWas 1 = .ok (.getfield 42, 3) := by decide +kernel
theorem dX1_latestWas_4 : decode cX1_latestWas 4 = .ok (.ifCond .le 30, 3) := by decide +kernel
theorem dX1_latestWas_7 : decode cX1_latestWas 7 = .ok (.aload_n 0, 1) := by decide +kernel
theorem dX1_latestWas_8 : decode cX1_latestWas 8 = .ok (.getfield 9, 3) := by decide +kernel
theorem dX1_latestWas_11 : decode cX1_latestWas 11 = .ok (.aload_n 0, 1) := by decide +kernel
theorem dX1_latestWas_12 : decode cX1_latestWas 12 = .ok (.getfield 42, 3) := by decide +kernel
theorem dX1_latestWas_15 : decode cX1_latestWas 15 = .ok (.iconst 1, 1) := by decide +kernel
theorem dX1_latestWas_16 : decode cX1_latestWas 16 = .ok (.isub, 1) := by decide +kernel
theorem dX1_latestWas_17 : decode cX1_latestWas 17 = .ok (.iaload, 1) := by decide +kernel
theorem dX1_latestWas_18 : decode cX1_latestWas 18 = .ok (.iload_n 1, 1) := by decide +kernel
theorem dX1_latestWas_19 : decode cX1_latestWas 19 = .ok (.if_icmp .ne 15, 3) := by decide +kernel
theorem dX1_latestWas_22 : decode cX1_latestWas 22 = .ok (.aload_n 0, 1) := by decide +kernel
theorem dX1_latestWas_23 : decode cX1_latestWas 23 = .ok (.getfield 46, 3) := by decide +kernel
theorem dX1_latestWas_26 : decode cX1_latestWas 26 = .ok (.iload_n 2, 1) := by decide +kernel
theorem dX1_latestWas_27 : decode cX1_latestWas 27 = .ok (.if_icmp .ne 7, 3) := by decide +kernel
theorem dX1_latestWas_30 : decode cX1_latestWas 30 = .ok (.iconst 1, 1) := by decide +kernel
theorem dX1_latestWas_31 : decode cX1_latestWas 31 = .ok (.goto 4, 3) := by decide +kernel
theorem dX1_latestWas_34 : decode cX1_latestWas 34 = .ok (.iconst 0, 1) := by decide +kernel
theorem dX1_latestWas_35 : decode cX1_latestWas 35 = .ok (.ireturn, 1) := by decide +kernel
theorem dX1_add_0 : decode cX1_add 0 = .ok (.aload_n 0, 1) := by decide +kernel
theorem dX1_add_1 : decode cX1_add 1 = .ok (.getfield 42, 3) := by decide +kernel
theorem dX1_add_4 : decode cX1_add 4 = .ok (.sipush 200, 3) := by decide +kernel
theorem dX1_add_7 : decode cX1_add 7 = .ok (.if_icmp .lt 4, 3) := by decide +kernel
theorem dX1_add_10 : decode cX1_add 10 = .ok (.return_, 1) := by decide +kernel
theorem dX1_add_11 : decode cX1_add 11 = .ok (.aload_n 0, 1) := by decide +kernel
theorem dX1_add_12 : decode cX1_add 12 = .ok (.getfield 9, 3) := by decide +kernel
theorem dX1_add_15 : decode cX1_add 15 = .ok (.aload_n 0, 1) := by decide +kernel
theorem dX1_add_16 : decode cX1_add 16 = .ok (.getfield 42, 3) := by decide +kernel
theorem dX1_add_19 : decode cX1_add 19 = .ok (.iload_n 1, 1) := by decide +kernel
theorem dX1_add_20 : decode cX1_add 20 = .ok (.iastore, 1) := by decide +kernel
theorem dX1_add_21 : decode cX1_add 21 = .ok (.aload_n 0, 1) := by decide +kernel
theorem dX1_add_22 : decode cX1_add 22 = .ok (.getfield 15, 3) := by decide +kernel
theorem dX1_add_25 : decode cX1_add 25 = .ok (.aload_n 0, 1) := by decide +kernel
theorem dX1_add_26 : decode cX1_add 26 = .ok (.getfield 42, 3) := by decide +kernel
theorem dX1_add_29 : decode cX1_add 29 = .ok (.aload_n 2, 1) := by decide +kernel
theorem dX1_add_30 : decode cX1_add 30 = .ok (.getfield 49, 3) := by decide +kernel
theorem dX1_add_33 : decode cX1_add 33 = .ok (.iastore, 1) := by decide +kernel
theorem dX1_add_34 : decode cX1_add 34 = .ok (.aload_n 0, 1) := by decide +kernel
theorem dX1_add_35 : decode cX1_add 35 = .ok (.getfield 18, 3) := by decide +kernel
theorem dX1_add_38 : decode cX1_add 38 = .ok (.aload_n 0, 1) := by decide +kernel
theorem dX1_add_39 : decode cX1_add 39 = .ok (.getfield 42, 3) := by decide +kernel
theorem dX1_add_42 : decode cX1_add 42 = .ok (.aload_n 2, 1) := by decide +kernel
theorem dX1_add_43 : decode cX1_add 43 = .ok (.getfield 53, 3) := by decide +kernel
theorem dX1_add_46 : decode cX1_add 46 = .ok (.iastore, 1) := by decide +kernel
theorem dX1_add_47 : decode cX1_add 47 = .ok (.aload_n 0, 1) := by decide +kernel
theorem dX1_add_48 : decode cX1_add 48 = .ok (.getfield 21, 3) := by decide +kernel
theorem dX1_add_51 : decode cX1_add 51 = .ok (.aload_n 0, 1) := by decide +kernel
theorem dX1_add_52 : decode cX1_add 52 = .ok (.getfield 42, 3) := by decide +kernel
theorem dX1_add_55 : decode cX1_add 55 = .ok (.aload_n 2, 1) := by decide +kernel
theorem dX1_add_56 : decode cX1_add 56 = .ok (.getfield 55, 3) := by decide +kernel
theorem dX1_add_59 : decode cX1_add 59 = .ok (.iastore, 1) := by decide +kernel
theorem dX1_add_60 : decode cX1_add 60 = .ok (.aload_n 0, 1) := by decide +kernel
theorem dX1_add_61 : decode cX1_add 61 = .ok (.getfield 24, 3) := by decide +kernel
theorem dX1_add_64 : decode cX1_add 64 = .ok (.aload_n 0, 1) := by decide +kernel
theorem dX1_add_65 : decode cX1_add 65 = .ok (.getfield 42, 3) := by decide +kernel
theorem dX1_add_68 : decode cX1_add 68 = .ok (.aload_n 2, 1) := by decide +kernel
theorem dX1_add_69 : decode cX1_add 69 = .ok (.getfield 57, 3) := by decide +kernel
theorem dX1_add_72 : decode cX1_add 72 = .ok (.iastore, 1) := by decide +kernel
theorem dX1_add_73 : decode cX1_add 73 = .ok (.aload_n 0, 1) := by decide +kernel
theorem dX1_add_74 : decode cX1_add 74 = .ok (.getfield 27, 3) := by decide +kernel
theorem dX1_add_77 : decode cX1_add 77 = .ok (.aload_n 0, 1) := by decide +kernel
theorem dX1_add_78 : decode cX1_add 78 = .ok (.getfield 42, 3) := by decide +kernel
theorem dX1_add_81 : decode cX1_add 81 = .ok (.aload_n 2, 1) := by decide +kernel
theorem dX1_add_82 : decode cX1_add 82 = .ok (.getfield 59, 3) := by decide +kernel
theorem dX1_add_85 : decode cX1_add 85 = .ok (.iastore, 1) := by decide +kernel
theorem dX1_add_86 : decode cX1_add 86 = .ok (.aload_n 0, 1) := by decide +kernel
theorem dX1_add_87 : decode cX1_add 87 = .ok (.getfield 30, 3) := by decide +kernel
theorem dX1_add_90 : decode cX1_add 90 = .ok (.aload_n 0, 1) := by decide +kernel
theorem dX1_add_91 : decode cX1_add 91 = .ok (.getfield 42, 3) := by decide +kernel
theorem dX1_add_94 : decode cX1_add 94 = .ok (.iconst (-1), 1) := by decide +kernel
theorem dX1_add_95 : decode cX1_add 95 = .ok (.iastore, 1) := by decide +kernel
theorem dX1_add_96 : decode cX1_add 96 = .ok (.aload_n 0, 1) := by decide +kernel
theorem dX1_add_97 : decode cX1_add 97 = .ok (.getfield 33, 3) := by decide +kernel
theorem dX1_add_100 : decode cX1_add 100 = .ok (.aload_n 0, 1) := by decide +kernel
theorem dX1_add_101 : decode cX1_add 101 = .ok (.getfield 42, 3) := by decide +kernel
theorem dX1_add_104 : decode cX1_add 104 = .ok (.iload_n 3, 1) := by decide +kernel
theorem dX1_add_105 : decode cX1_add 105 = .ok (.iastore, 1) := by decide +kernel
theorem dX1_add_106 : decode cX1_add 106 = .ok (.aload_n 0, 1) := by decide +kernel
theorem dX1_add_107 : decode cX1_add 107 = .ok (.getfield 36, 3) := by decide +kernel
theorem dX1_add_110 : decode cX1_add 110 = .ok (.aload_n 0, 1) := by decide +kernel
theorem dX1_add_111 : decode cX1_add 111 = .ok (.getfield 42, 3) := by decide +kernel
theorem dX1_add_114 : decode cX1_add 114 = .ok (.iload 4, 2) := by decide +kernel
theorem dX1_add_116 : decode cX1_add 116 = .ok (.iastore, 1) := by decide +kernel
theorem dX1_add_117 : decode cX1_add 117 = .ok (.aload_n 0, 1) := by decide +kernel
theorem dX1_add_118 : decode cX1_add 118 = .ok (.dup, 1) := by decide +kernel
theorem dX1_add_119 : decode cX1_add 119 = .ok (.getfield 42, 3) := by decide +kernel
theorem dX1_add_122 : decode cX1_add 122 = .ok (.iconst 1, 1) := by decide +kernel
theorem dX1_add_123 : decode cX1_add 123 = .ok (.iadd, 1) := by decide +kernel
theorem dX1_add_124 : decode cX1_add 124 = .ok (.putfield 42, 3) := by decide +kernel
theorem dX1_add_127 : decode cX1_add 127 = .ok (.aload_n 0, 1) := by decide +kernel
theorem dX1_add_128 : decode cX1_add 128 = .ok (.iload 5, 2) := by decide +kernel
theorem dX1_add_130 : decode cX1_add 130 = .ok (.putfield 46, 3) := by decide +kernel
theorem dX1_add_133 : decode cX1_add 133 = .ok (.return_, 1) := by decide +kernel
theorem dX1_waits_0 : decode cX1_waits 0 = .ok (.aload_n 0, 1) := by decide +kernel
theorem dX1_waits_1 : decode cX1_waits 1 = .ok (.getfield 21, 3) := by decide +kernel
theorem dX1_waits_4 : decode cX1_waits 4 = .ok (.iload_n 1, 1) := by decide +kernel
theorem dX1_waits_5 : decode cX1_waits 5 = .ok (.iaload, 1) := by decide +kernel
theorem dX1_waits_6 : decode cX1_waits 6 = .ok (.ifCond .le 17, 3) := by decide +kernel
theorem dX1_waits_9 : decode cX1_waits 9 = .ok (.aload_n 0, 1) := by decide +kernel
theorem dX1_waits_10 : decode cX1_waits 10 = .ok (.getfield 30, 3) := by decide +kernel
theorem dX1_waits_13 : decode cX1_waits 13 = .ok (.iload_n 1, 1) := by decide +kernel
theorem dX1_waits_14 : decode cX1_waits 14 = .ok (.iaload, 1) := by decide +kernel
theorem dX1_waits_15 : decode cX1_waits 15 = .ok (.iconst (-1), 1) := by decide +kernel
theorem dX1_waits_16 : decode cX1_waits 16 = .ok (.if_icmp .ne 7, 3) := by decide +kernel
theorem dX1_waits_19 : decode cX1_waits 19 = .ok (.iconst 1, 1) := by decide +kernel
theorem dX1_waits_20 : decode cX1_waits 20 = .ok (.goto 4, 3) := by decide +kernel
theorem dX1_waits_23 : decode cX1_waits 23 = .ok (.iconst 0, 1) := by decide +kernel
theorem dX1_waits_24 : decode cX1_waits 24 = .ok (.ireturn, 1) := by decide +kernel
theorem dX1_waiting_0 : decode cX1_waiting 0 = .ok (.iconst 0, 1) := by decide +kernel
theorem dX1_waiting_1 : decode cX1_waiting 1 = .ok (.istore_n 1, 1) := by decide +kernel
theorem dX1_waiting_2 : decode cX1_waiting 2 = .ok (.iconst 0, 1) := by decide +kernel
theorem dX1_waiting_3 : decode cX1_waiting 3 = .ok (.istore_n 2, 1) := by decide +kernel
theorem dX1_waiting_4 : decode cX1_waiting 4 = .ok (.iload_n 2, 1) := by decide +kernel
theorem dX1_waiting_5 : decode cX1_waiting 5 = .ok (.aload_n 0, 1) := by decide +kernel
theorem dX1_waiting_6 : decode cX1_waiting 6 = .ok (.getfield 42, 3) := by decide +kernel
theorem dX1_waiting_9 : decode cX1_waiting 9 = .ok (.if_icmp .ge 20, 3) := by decide +kernel
theorem dX1_waiting_12 : decode cX1_waiting 12 = .ok (.aload_n 0, 1) := by decide +kernel
theorem dX1_waiting_13 : decode cX1_waiting 13 = .ok (.iload_n 2, 1) := by decide +kernel
theorem dX1_waiting_14 : decode cX1_waiting 14 = .ok (.invokevirtual 61, 3) := by decide +kernel
theorem dX1_waiting_17 : decode cX1_waiting 17 = .ok (.ifCond .eq 6, 3) := by decide +kernel
theorem dX1_waiting_20 : decode cX1_waiting 20 = .ok (.iinc 1 1, 3) := by decide +kernel
theorem dX1_waiting_23 : decode cX1_waiting 23 = .ok (.iinc 2 1, 3) := by decide +kernel
theorem dX1_waiting_26 : decode cX1_waiting 26 = .ok (.goto (-22), 3) := by decide +kernel
theorem dX1_waiting_29 : decode cX1_waiting 29 = .ok (.iload_n 1, 1) := by decide +kernel
theorem dX1_waiting_30 : decode cX1_waiting 30 = .ok (.ireturn, 1) := by decide +kernel
theorem dX1_firstWaiting_0 : decode cX1_firstWaiting 0 = .ok (.iconst 0, 1) := by decide +kernel
theorem dX1_firstWaiting_1 : decode cX1_firstWaiting 1 = .ok (.istore_n 1, 1) := by decide +kernel
theorem dX1_firstWaiting_2 : decode cX1_firstWaiting 2 = .ok (.iload_n 1, 1) := by decide +kernel
theorem dX1_firstWaiting_3 : decode cX1_firstWaiting 3 = .ok (.aload_n 0, 1) := by decide +kernel
theorem dX1_firstWaiting_4 : decode cX1_firstWaiting 4 = .ok (.getfield 42, 3) := by decide +kernel
theorem dX1_firstWaiting_7 : decode cX1_firstWaiting 7 = .ok (.if_icmp .ge 19, 3) := by decide +kernel
theorem dX1_firstWaiting_10 : decode cX1_firstWaiting 10 = .ok (.aload_n 0, 1) := by decide +kernel
theorem dX1_firstWaiting_11 : decode cX1_firstWaiting 11 = .ok (.iload_n 1, 1) := by decide +kernel
theorem dX1_firstWaiting_12 : decode cX1_firstWaiting 12 = .ok (.invokevirtual 61, 3) := by decide +kernel
theorem dX1_firstWaiting_15 : decode cX1_firstWaiting 15 = .ok (.ifCond .eq 5, 3) := by decide +kernel
theorem dX1_firstWaiting_18 : decode cX1_firstWaiting 18 = .ok (.iload_n 1, 1) := by decide +kernel
theorem dX1_firstWaiting_19 : decode cX1_firstWaiting 19 = .ok (.ireturn, 1) := by decide +kernel
theorem dX1_firstWaiting_20 : decode cX1_firstWaiting 20 = .ok (.iinc 1 1, 3) := by decide +kernel
theorem dX1_firstWaiting_23 : decode cX1_firstWaiting 23 = .ok (.goto (-21), 3) := by decide +kernel
theorem dX1_firstWaiting_26 : decode cX1_firstWaiting 26 = .ok (.iconst (-1), 1) := by decide +kernel
theorem dX1_firstWaiting_27 : decode cX1_firstWaiting 27 = .ok (.ireturn, 1) := by decide +kernel
theorem dX1_fillOven_0 : decode cX1_fillOven 0 = .ok (.iconst 0, 1) := by decide +kernel
theorem dX1_fillOven_1 : decode cX1_fillOven 1 = .ok (.istore 4, 2) := by decide +kernel
theorem dX1_fillOven_3 : decode cX1_fillOven 3 = .ok (.iconst 0, 1) := by decide +kernel
theorem dX1_fillOven_4 : decode cX1_fillOven 4 = .ok (.istore 5, 2) := by decide +kernel
theorem dX1_fillOven_6 : decode cX1_fillOven 6 = .ok (.iload_n 1, 1) := by decide +kernel
theorem dX1_fillOven_7 : decode cX1_fillOven 7 = .ok (.istore 6, 2) := by decide +kernel
theorem dX1_fillOven_9 : decode cX1_fillOven 9 = .ok (.iload 6, 2) := by decide +kernel
theorem dX1_fillOven_11 : decode cX1_fillOven 11 = .ok (.aload_n 0, 1) := by decide +kernel
theorem dX1_fillOven_12 : decode cX1_fillOven 12 = .ok (.getfield 42, 3) := by decide +kernel
theorem dX1_fillOven_15 : decode cX1_fillOven 15 = .ok (.if_icmp .ge 82, 3) := by decide +kernel
theorem dX1_fillOven_18 : decode cX1_fillOven 18 = .ok (.aload_n 0, 1) := by decide +kernel
theorem dX1_fillOven_19 : decode cX1_fillOven 19 = .ok (.iload 6, 2) := by decide +kernel
theorem dX1_fillOven_21 : decode cX1_fillOven 21 = .ok (.invokevirtual 61, 3) := by decide +kernel
theorem dX1_fillOven_24 : decode cX1_fillOven 24 = .ok (.ifCond .eq 67, 3) := by decide +kernel
theorem dX1_fillOven_27 : decode cX1_fillOven 27 = .ok (.aload_n 0, 1) := by decide +kernel
theorem dX1_fillOven_28 : decode cX1_fillOven 28 = .ok (.getfield 33, 3) := by decide +kernel
theorem dX1_fillOven_31 : decode cX1_fillOven 31 = .ok (.iload 6, 2) := by decide +kernel
theorem dX1_fillOven_33 : decode cX1_fillOven 33 = .ok (.iaload, 1) := by decide +kernel
theorem dX1_fillOven_34 : decode cX1_fillOven 34 = .ok (.aload_n 0, 1) := by decide +kernel
theorem dX1_fillOven_35 : decode cX1_fillOven 35 = .ok (.getfield 33, 3) := by decide +kernel
theorem dX1_fillOven_38 : decode cX1_fillOven 38 = .ok (.iload_n 1, 1) := by decide +kernel
theorem dX1_fillOven_39 : decode cX1_fillOven 39 = .ok (.iaload, 1) := by decide +kernel
theorem dX1_fillOven_40 : decode cX1_fillOven 40 = .ok (.if_icmp .eq 6, 3) := by decide +kernel
theorem dX1_fillOven_43 : decode cX1_fillOven 43 = .ok (.goto 48, 3) := by decide +kernel
theorem dX1_fillOven_46 : decode cX1_fillOven 46 = .ok (.iload 4, 2) := by decide +kernel
theorem dX1_fillOven_48 : decode cX1_fillOven 48 = .ok (.ifCond .le 20, 3) := by decide +kernel
theorem dX1_fillOven_51 : decode cX1_fillOven 51 = .ok (.iload 5, 2) := by decide +kernel
theorem dX1_fillOven_53 : decode cX1_fillOven 53 = .ok (.aload_n 0, 1) := by decide +kernel
theorem dX1_fillOven_54 : decode cX1_fillOven 54 = .ok (.getfield 21, 3) := by decide +kernel
theorem dX1_fillOven_57 : decode cX1_fillOven 57 = .ok (.iload 6, 2) := by decide +kernel
theorem dX1_fillOven_59 : decode cX1_fillOven 59 = .ok (.iaload, 1) := by decide +kernel
theorem dX1_fillOven_60 : decode cX1_fillOven 60 = .ok (.iadd, 1) := by decide +kernel
theorem dX1_fillOven_61 : decode cX1_fillOven 61 = .ok (.iload_n 2, 1) := by decide +kernel
theorem dX1_fillOven_62 : decode cX1_fillOven 62 = .ok (.if_icmp .le 6, 3) := by decide +kernel
theorem dX1_fillOven_65 : decode cX1_fillOven 65 = .ok (.goto 32, 3) := by decide +kernel
theorem dX1_fillOven_68 : decode cX1_fillOven 68 = .ok (.aload_n 0, 1) := by decide +kernel
theorem dX1_fillOven_69 : decode cX1_fillOven 69 = .ok (.getfield 30, 3) := by decide +kernel
theorem dX1_fillOven_72 : decode cX1_fillOven 72 = .ok (.iload 6, 2) := by decide +kernel
theorem dX1_fillOven_74 : decode cX1_fillOven 74 = .ok (.iload_n 3, 1) := by decide +kernel
theorem dX1_fillOven_75 : decode cX1_fillOven 75 = .ok (.iastore, 1) := by decide +kernel
theorem dX1_fillOven_76 : decode cX1_fillOven 76 = .ok (.iload 5, 2) := by decide +kernel
theorem dX1_fillOven_78 : decode cX1_fillOven 78 = .ok (.aload_n 0, 1) := by decide +kernel
theorem dX1_fillOven_79 : decode cX1_fillOven 79 = .ok (.getfield 21, 3) := by decide +kernel
theorem dX1_fillOven_82 : decode cX1_fillOven 82 = .ok (.iload 6, 2) := by decide +kernel
theorem dX1_fillOven_84 : decode cX1_fillOven 84 = .ok (.iaload, 1) := by decide +kernel
theorem dX1_fillOven_85 : decode cX1_fillOven 85 = .ok (.iadd, 1) := by decide +kernel
theorem dX1_fillOven_86 : decode cX1_fillOven 86 = .ok (.istore 5, 2) := by decide +kernel
theorem dX1_fillOven_88 : decode cX1_fillOven 88 = .ok (.iinc 4 1, 3) := by decide +kernel
theorem dX1_fillOven_91 : decode cX1_fillOven 91 = .ok (.iinc 6 1, 3) := by decide +kernel
theorem dX1_fillOven_94 : decode cX1_fillOven 94 = .ok (.goto (-85), 3) := by decide +kernel
theorem dX1_fillOven_97 : decode cX1_fillOven 97 = .ok (.iload 4, 2) := by decide +kernel
theorem dX1_fillOven_99 : decode cX1_fillOven 99 = .ok (.ireturn, 1) := by decide +kernel
theorem dX1_ovensNeeded_0 : decode cX1_ovensNeeded 0 = .ok (.iconst 0, 1) := by decide +kernel
theorem dX1_ovensNeeded_1 : decode cX1_ovensNeeded 1 = .ok (.istore_n 3, 1) := by decide +kernel
theorem dX1_ovensNeeded_2 : decode cX1_ovensNeeded 2 = .ok (.iconst 0, 1) := by decide +kernel
theorem dX1_ovensNeeded_3 : decode cX1_ovensNeeded 3 = .ok (.istore 4, 2) := by decide +kernel
theorem dX1_ovensNeeded_5 : decode cX1_ovensNeeded 5 = .ok (.iconst 0, 1) := by decide +kernel
theorem dX1_ovensNeeded_6 : decode cX1_ovensNeeded 6 = .ok (.istore 5, 2) := by decide +kernel
theorem dX1_ovensNeeded_8 : decode cX1_ovensNeeded 8 = .ok (.iload 5, 2) := by decide +kernel
theorem dX1_ovensNeeded_10 : decode cX1_ovensNeeded 10 = .ok (.aload_n 0, 1) := by decide +kernel
theorem dX1_ovensNeeded_11 : decode cX1_ovensNeeded 11 = .ok (.getfield 42, 3) := by decide +kernel
theorem dX1_ovensNeeded_14 : decode cX1_ovensNeeded 14 = .ok (.if_icmp .ge 68, 3) := by decide +kernel
theorem dX1_ovensNeeded_17 : decode cX1_ovensNeeded 17 = .ok (.aload_n 0, 1) := by decide +kernel
theorem dX1_ovensNeeded_18 : decode cX1_ovensNeeded 18 = .ok (.iload 5, 2) := by decide +kernel
theorem dX1_ovensNeeded_20 : decode cX1_ovensNeeded 20 = .ok (.invokevirtual 61, 3) := by decide +kernel
theorem dX1_ovensNeeded_23 : decode cX1_ovensNeeded 23 = .ok (.ifCond .eq 53, 3) := by decide +kernel
theorem dX1_ovensNeeded_26 : decode cX1_ovensNeeded 26 = .ok (.aload_n 0, 1) := by decide +kernel
theorem dX1_ovensNeeded_27 : decode cX1_ovensNeeded 27 = .ok (.getfield 33, 3) := by decide +kernel
theorem dX1_ovensNeeded_30 : decode cX1_ovensNeeded 30 = .ok (.iload 5, 2) := by decide +kernel
theorem dX1_ovensNeeded_32 : decode cX1_ovensNeeded 32 = .ok (.iaload, 1) := by decide +kernel
theorem dX1_ovensNeeded_33 : decode cX1_ovensNeeded 33 = .ok (.iload_n 1, 1) := by decide +kernel
theorem dX1_ovensNeeded_34 : decode cX1_ovensNeeded 34 = .ok (.if_icmp .eq 6, 3) := by decide +kernel
theorem dX1_ovensNeeded_37 : decode cX1_ovensNeeded 37 = .ok (.goto 39, 3) := by decide +kernel
theorem dX1_ovensNeeded_40 : decode cX1_ovensNeeded 40 = .ok (.iload_n 3, 1) := by decide +kernel
theorem dX1_ovensNeeded_41 : decode cX1_ovensNeeded 41 = .ok (.ifCond .eq 17, 3) := by decide +kernel
theorem dX1_ovensNeeded_44 : decode cX1_ovensNeeded 44 = .ok (.iload 4, 2) := by decide +kernel
theorem dX1_ovensNeeded_46 : decode cX1_ovensNeeded 46 = .ok (.aload_n 0, 1) := by decide +kernel
theorem dX1_ovensNeeded_47 : decode cX1_ovensNeeded 47 = .ok (.getfield 21, 3) := by decide +kernel
theorem dX1_ovensNeeded_50 : decode cX1_ovensNeeded 50 = .ok (.iload 5, 2) := by decide +kernel
theorem dX1_ovensNeeded_52 : decode cX1_ovensNeeded 52 = .ok (.iaload, 1) := by decide +kernel
theorem dX1_ovensNeeded_53 : decode cX1_ovensNeeded 53 = .ok (.iadd, 1) := by decide +kernel
theorem dX1_ovensNeeded_54 : decode cX1_ovensNeeded 54 = .ok (.iload_n 2, 1) := by decide +kernel
theorem dX1_ovensNeeded_55 : decode cX1_ovensNeeded 55 = .ok (.if_icmp .le 9, 3) := by decide +kernel
theorem dX1_ovensNeeded_58 : decode cX1_ovensNeeded 58 = .ok (.iinc 3 1, 3) := by decide +kernel
theorem dX1_ovensNeeded_61 : decode cX1_ovensNeeded 61 = .ok (.iconst 0, 1) := by decide +kernel
theorem dX1_ovensNeeded_62 : decode cX1_ovensNeeded 62 = .ok (.istore 4, 2) := by decide +kernel
theorem dX1_ovensNeeded_64 : decode cX1_ovensNeeded 64 = .ok (.iload 4, 2) := by decide +kernel
theorem dX1_ovensNeeded_66 : decode cX1_ovensNeeded 66 = .ok (.aload_n 0, 1) := by decide +kernel
theorem dX1_ovensNeeded_67 : decode cX1_ovensNeeded 67 = .ok (.getfield 21, 3) := by decide +kernel
theorem dX1_ovensNeeded_70 : decode cX1_ovensNeeded 70 = .ok (.iload 5, 2) := by decide +kernel
theorem dX1_ovensNeeded_72 : decode cX1_ovensNeeded 72 = .ok (.iaload, 1) := by decide +kernel
theorem dX1_ovensNeeded_73 : decode cX1_ovensNeeded 73 = .ok (.iadd, 1) := by decide +kernel
theorem dX1_ovensNeeded_74 : decode cX1_ovensNeeded 74 = .ok (.istore 4, 2) := by decide +kernel
theorem dX1_ovensNeeded_76 : decode cX1_ovensNeeded 76 = .ok (.iinc 5 1, 3) := by decide +kernel
theorem dX1_ovensNeeded_79 : decode cX1_ovensNeeded 79 = .ok (.goto (-71), 3) := by decide +kernel
theorem dX1_ovensNeeded_82 : decode cX1_ovensNeeded 82 = .ok (.iload_n 3, 1) := by decide +kernel
theorem dX1_ovensNeeded_83 : decode cX1_ovensNeeded 83 = .ok (.ireturn, 1) := by decide +kernel
theorem dX1_isSuspect_0 : decode cX1_isSuspect 0 = .ok (.aload_n 0, 1) := by decide +kernel
theorem dX1_isSuspect_1 : decode cX1_isSuspect 1 = .ok (.getfield 39, 3) := by decide +kernel
theorem dX1_isSuspect_4 : decode cX1_isSuspect 4 = .ok (.iload_n 1, 1) := by decide +kernel
theorem dX1_isSuspect_5 : decode cX1_isSuspect 5 = .ok (.iaload, 1) := by decide +kernel
theorem dX1_isSuspect_6 : decode cX1_isSuspect 6 = .ok (.iconst 1, 1) := by decide +kernel
theorem dX1_isSuspect_7 : decode cX1_isSuspect 7 = .ok (.if_icmp .eq 23, 3) := by decide +kernel
theorem dX1_isSuspect_10 : decode cX1_isSuspect 10 = .ok (.aload_n 0, 1) := by decide +kernel
theorem dX1_isSuspect_11 : decode cX1_isSuspect 11 = .ok (.iload_n 1, 1) := by decide +kernel
theorem dX1_isSuspect_12 : decode cX1_isSuspect 12 = .ok (.invokevirtual 65, 3) := by decide +kernel
theorem dX1_isSuspect_15 : decode cX1_isSuspect 15 = .ok (.ifCond .ne 11, 3) := by decide +kernel
theorem dX1_isSuspect_18 : decode cX1_isSuspect 18 = .ok (.aload_n 0, 1) := by decide +kernel
theorem dX1_isSuspect_19 : decode cX1_isSuspect 19 = .ok (.iload_n 1, 1) := by decide +kernel
theorem dX1_isSuspect_20 : decode cX1_isSuspect 20 = .ok (.invokevirtual 68, 3) := by decide +kernel
theorem dX1_isSuspect_23 : decode cX1_isSuspect 23 = .ok (.ifCond .eq 7, 3) := by decide +kernel
theorem dX1_isSuspect_26 : decode cX1_isSuspect 26 = .ok (.iconst 1, 1) := by decide +kernel
theorem dX1_isSuspect_27 : decode cX1_isSuspect 27 = .ok (.goto 4, 3) := by decide +kernel
theorem dX1_isSuspect_30 : decode cX1_isSuspect 30 = .ok (.iconst 0, 1) := by decide +kernel
theorem dX1_isSuspect_31 : decode cX1_isSuspect 31 = .ok (.ireturn, 1) := by decide +kernel
theorem dX1_poorUpTo_0 : decode cX1_poorUpTo 0 = .ok (.iload_n 1, 1) := by decide +kernel
theorem dX1_poorUpTo_1 : decode cX1_poorUpTo 1 = .ok (.istore_n 2, 1) := by decide +kernel
theorem dX1_poorUpTo_2 : decode cX1_poorUpTo 2 = .ok (.iload_n 2, 1) := by decide +kernel
theorem dX1_poorUpTo_3 : decode cX1_poorUpTo 3 = .ok (.ifCond .lt 49, 3) := by decide +kernel
theorem dX1_poorUpTo_6 : decode cX1_poorUpTo 6 = .ok (.aload_n 0, 1) := by decide +kernel
theorem dX1_poorUpTo_7 : decode cX1_poorUpTo 7 = .ok (.getfield 9, 3) := by decide +kernel
theorem dX1_poorUpTo_10 : decode cX1_poorUpTo 10 = .ok (.iload_n 2, 1) := by decide +kernel
theorem dX1_poorUpTo_11 : decode cX1_poorUpTo 11 = .ok (.iaload, 1) := by decide +kernel
theorem dX1_poorUpTo_12 : decode cX1_poorUpTo 12 = .ok (.aload_n 0, 1) := by decide +kernel
theorem dX1_poorUpTo_13 : decode cX1_poorUpTo 13 = .ok (.getfield 9, 3) := by decide +kernel
theorem dX1_poorUpTo_16 : decode cX1_poorUpTo 16 = .ok (.iload_n 1, 1) := by decide +kernel
theorem dX1_poorUpTo_17 : decode cX1_poorUpTo 17 = .ok (.iaload, 1) := by decide +kernel
theorem dX1_poorUpTo_18 : decode cX1_poorUpTo 18 = .ok (.if_icmp .ne 28, 3) := by decide +kernel
theorem dX1_poorUpTo_21 : decode cX1_poorUpTo 21 = .ok (.aload_n 0, 1) := by decide +kernel
theorem dX1_poorUpTo_22 : decode cX1_poorUpTo 22 = .ok (.getfield 39, 3) := by decide +kernel
theorem dX1_poorUpTo_25 : decode cX1_poorUpTo 25 = .ok (.iload_n 2, 1) := by decide +kernel
theorem dX1_poorUpTo_26 : decode cX1_poorUpTo 26 = .ok (.iaload, 1) := by decide +kernel
theorem dX1_poorUpTo_27 : decode cX1_poorUpTo 27 = .ok (.ifCond .eq 19, 3) := by decide +kernel
theorem dX1_poorUpTo_30 : decode cX1_poorUpTo 30 = .ok (.aload_n 0, 1) := by decide +kernel
theorem dX1_poorUpTo_31 : decode cX1_poorUpTo 31 = .ok (.getfield 39, 3) := by decide +kernel
theorem dX1_poorUpTo_34 : decode cX1_poorUpTo 34 = .ok (.iload_n 2, 1) := by decide +kernel
theorem dX1_poorUpTo_35 : decode cX1_poorUpTo 35 = .ok (.iaload, 1) := by decide +kernel
theorem dX1_poorUpTo_36 : decode cX1_poorUpTo 36 = .ok (.iconst 2, 1) := by decide +kernel
theorem dX1_poorUpTo_37 : decode cX1_poorUpTo 37 = .ok (.if_icmp .ne 7, 3) := by decide +kernel
theorem dX1_poorUpTo_40 : decode cX1_poorUpTo 40 = .ok (.iconst 1, 1) := by decide +kernel
theorem dX1_poorUpTo_41 : decode cX1_poorUpTo 41 = .ok (.goto 4, 3) := by decide +kernel
theorem dX1_poorUpTo_44 : decode cX1_poorUpTo 44 = .ok (.iconst 0, 1) := by decide +kernel
theorem dX1_poorUpTo_45 : decode cX1_poorUpTo 45 = .ok (.ireturn, 1) := by decide +kernel
theorem dX1_poorUpTo_46 : decode cX1_poorUpTo 46 = .ok (.iinc 2 (-1), 3) := by decide +kernel
theorem dX1_poorUpTo_49 : decode cX1_poorUpTo 49 = .ok (.goto (-47), 3) := by decide +kernel
theorem dX1_poorUpTo_52 : decode cX1_poorUpTo 52 = .ok (.iconst 0, 1) := by decide +kernel
theorem dX1_poorUpTo_53 : decode cX1_poorUpTo 53 = .ok (.ireturn, 1) := by decide +kernel
theorem dX1_poorFrom_0 : decode cX1_poorFrom 0 = .ok (.iload_n 1, 1) := by decide +kernel
theorem dX1_poorFrom_1 : decode cX1_poorFrom 1 = .ok (.istore_n 2, 1) := by decide +kernel
theorem dX1_poorFrom_2 : decode cX1_poorFrom 2 = .ok (.iload_n 2, 1) := by decide +kernel
theorem dX1_poorFrom_3 : decode cX1_poorFrom 3 = .ok (.aload_n 0, 1) := by decide +kernel
theorem dX1_poorFrom_4 : decode cX1_poorFrom 4 = .ok (.getfield 42, 3) := by decide +kernel
theorem dX1_poorFrom_7 : decode cX1_poorFrom 7 = .ok (.if_icmp .ge 49, 3) := by decide +kernel
theorem dX1_poorFrom_10 : decode cX1_poorFrom 10 = .ok (.aload_n 0, 1) := by decide +kernel
theorem dX1_poorFrom_11 : decode cX1_poorFrom 11 = .ok (.getfield 9, 3) := by decide +kernel
theorem dX1_poorFrom_14 : decode cX1_poorFrom 14 = .ok (.iload_n 2, 1) := by decide +kernel
theorem dX1_poorFrom_15 : decode cX1_poorFrom 15 = .ok (.iaload, 1) := by decide +kernel
theorem dX1_poorFrom_16 : decode cX1_poorFrom 16 = .ok (.aload_n 0, 1) := by decide +kernel
theorem dX1_poorFrom_17 : decode cX1_poorFrom 17 = .ok (.getfield 9, 3) := by decide +kernel
theorem dX1_poorFrom_20 : decode cX1_poorFrom 20 = .ok (.iload_n 1, 1) := by decide +kernel
theorem dX1_poorFrom_21 : decode cX1_poorFrom 21 = .ok (.iaload, 1) := by decide +kernel
theorem dX1_poorFrom_22 : decode cX1_poorFrom 22 = .ok (.if_icmp .ne 28, 3) := by decide +kernel
theorem dX1_poorFrom_25 : decode cX1_poorFrom 25 = .ok (.aload_n 0, 1) := by decide +kernel
theorem dX1_poorFrom_26 : decode cX1_poorFrom 26 = .ok (.getfield 39, 3) := by decide +kernel
theorem dX1_poorFrom_29 : decode cX1_poorFrom 29 = .ok (.iload_n 2, 1) := by decide +kernel
theorem dX1_poorFrom_30 : decode cX1_poorFrom 30 = .ok (.iaload, 1) := by decide +kernel
theorem dX1_poorFrom_31 : decode cX1_poorFrom 31 = .ok (.ifCond .eq 19, 3) := by decide +kernel
theorem dX1_poorFrom_34 : decode cX1_poorFrom 34 = .ok (.aload_n 0, 1) := by decide +kernel
theorem dX1_poorFrom_35 : decode cX1_poorFrom 35 = .ok (.getfield 39, 3) := by decide +kernel
theorem dX1_poorFrom_38 : decode cX1_poorFrom 38 = .ok (.iload_n 2, 1) := by decide +kernel
theorem dX1_poorFrom_39 : decode cX1_poorFrom 39 = .ok (.iaload, 1) := by decide +kernel
theorem dX1_poorFrom_40 : decode cX1_poorFrom 40 = .ok (.iconst 2, 1) := by decide +kernel
theorem dX1_poorFrom_41 : decode cX1_poorFrom 41 = .ok (.if_icmp .ne 7, 3) := by decide +kernel
theorem dX1_poorFrom_44 : decode cX1_poorFrom 44 = .ok (.iconst 1, 1) := by decide +kernel
theorem dX1_poorFrom_45 : decode cX1_poorFrom 45 = .ok (.goto 4, 3) := by decide +kernel
theorem dX1_poorFrom_48 : decode cX1_poorFrom 48 = .ok (.iconst 0, 1) := by decide +kernel
theorem dX1_poorFrom_49 : decode cX1_poorFrom 49 = .ok (.ireturn, 1) := by decide +kernel
theorem dX1_poorFrom_50 : decode cX1_poorFrom 50 = .ok (.iinc 2 1, 3) := by decide +kernel
theorem dX1_poorFrom_53 : decode cX1_poorFrom 53 = .ok (.goto (-51), 3) := by decide +kernel
theorem dX1_poorFrom_56 : decode cX1_poorFrom 56 = .ok (.iconst 0, 1) := by decide +kernel
theorem dX1_poorFrom_57 : decode cX1_poorFrom 57 = .ok (.ireturn, 1) := by decide +kernel
theorem dX2_init_0 : decode cX2_init 0 = .ok (.aload_n 0, 1) := by decide +kernel
theorem dX2_init_1 : decode cX2_init 1 = .ok (.invokespecial 3, 3) := by decide +kernel
theorem dX2_init_4 : decode cX2_init 4 = .ok (.aload_n 0, 1) := by decide +kernel
theorem dX2_init_5 : decode cX2_init 5 = .ok (.bipush 12, 2) := by decide +kernel
theorem dX2_init_7 : decode cX2_init 7 = .ok (.newarray .int, 2) := by decide +kernel
theorem dX2_init_9 : decode cX2_init 9 = .ok (.putfield 9, 3) := by decide +kernel
theorem dX2_init_12 : decode cX2_init 12 = .ok (.aload_n 0, 1) := by decide +kernel
theorem dX2_init_13 : decode cX2_init 13 = .ok (.bipush 12, 2) := by decide +kernel
theorem dX2_init_15 : decode cX2_init 15 = .ok (.newarray .int, 2) := by decide +kernel
theorem dX2_init_17 : decode cX2_init 17 = .ok (.putfield 15, 3) := by decide +kernel
theorem dX2_init_20 : decode cX2_init 20 = .ok (.aload_n 0, 1) := by decide +kernel
theorem dX2_init_21 : decode cX2_init 21 = .ok (.bipush 12, 2) := by decide +kernel
theorem dX2_init_23 : decode cX2_init 23 = .ok (.newarray .int, 2) := by decide +kernel
theorem dX2_init_25 : decode cX2_init 25 = .ok (.putfield 18, 3) := by decide +kernel
theorem dX2_init_28 : decode cX2_init 28 = .ok (.aload_n 0, 1) := by decide +kernel
theorem dX2_init_29 : decode cX2_init 29 = .ok (.bipush 12, 2) := by decide +kernel
theorem dX2_init_31 : decode cX2_init 31 = .ok (.newarray .int, 2) := by decide +kernel
theorem dX2_init_33 : decode cX2_init 33 = .ok (.putfield 21, 3) := by decide +kernel
theorem dX2_init_36 : decode cX2_init 36 = .ok (.aload_n 0, 1) := by decide +kernel
theorem dX2_init_37 : decode cX2_init 37 = .ok (.bipush 12, 2) := by decide +kernel
theorem dX2_init_39 : decode cX2_init 39 = .ok (.newarray .int, 2) := by decide +kernel
theorem dX2_init_41 : decode cX2_init 41 = .ok (.putfield 24, 3) := by decide +kernel
theorem dX2_init_44 : decode cX2_init 44 = .ok (.aload_n 0, 1) := by decide +kernel
theorem dX2_init_45 : decode cX2_init 45 = .ok (.iconst 0, 1) := by decide +kernel
theorem dX2_init_46 : decode cX2_init 46 = .ok (.putfield 27, 3) := by decide +kernel
theorem dX2_init_49 : decode cX2_init 49 = .ok (.return_, 1) := by decide +kernel
theorem dX2_has_0 : decode cX2_has 0 = .ok (.iload_n 1, 1) := by decide +kernel
theorem dX2_has_1 : decode cX2_has 1 = .ok (.ifCond .lt 15, 3) := by decide +kernel
theorem dX2_has_4 : decode cX2_has 4 = .ok (.iload_n 1, 1) := by decide +kernel
theorem dX2_has_5 : decode cX2_has 5 = .ok (.aload_n 0, 1) := by decide +kernel
theorem dX2_has_6 : decode cX2_has 6 = .ok (.getfield 27, 3) := by decide +kernel
theorem dX2_has_9 : decode cX2_has 9 = .ok (.if_icmp .ge 7, 3) := by decide +kernel
theorem dX2_has_12 : decode cX2_has 12 = .ok (.iconst 1, 1) := by decide +kernel
theorem dX2_has_13 : decode cX2_has 13 = .ok (.goto 4, 3) := by decide +kernel
theorem dX2_has_16 : decode cX2_has 16 = .ok (.iconst 0, 1) := by decide +kernel
theorem dX2_has_17 : decode cX2_has 17 = .ok (.ireturn, 1) := by decide +kernel
theorem dX2_add_0 : decode cX2_add 0 = .ok (.aload_n 0, 1) := by decide +kernel
theorem dX2_add_1 : decode cX2_add 1 = .ok (.getfield 27, 3) := by decide +kernel
theorem dX2_add_4 : decode cX2_add 4 = .ok (.bipush 12, 2) := by decide +kernel
theorem dX2_add_6 : decode cX2_add 6 = .ok (.if_icmp .lt 6, 3) := by decide +kernel
theorem dX2_add_9 : decode cX2_add 9 = .ok (.bipush (-4), 2) := by decide +kernel
theorem dX2_add_11 : decode cX2_add 11 = .ok (.ireturn, 1) := by decide +kernel
theorem dX2_add_12 : decode cX2_add 12 = .ok (.aload_n 0, 1) := by decide +kernel
theorem dX2_add_13 : decode cX2_add 13 = .ok (.getfield 9, 3) := by decide +kernel
theorem dX2_add_16 : decode cX2_add 16 = .ok (.aload_n 0, 1) := by decide +kernel
theorem dX2_add_17 : decode cX2_add 17 = .ok (.getfield 27, 3) := by decide +kernel
theorem dX2_add_20 : decode cX2_add 20 = .ok (.iload_n 1, 1) := by decide +kernel
theorem dX2_add_21 : decode cX2_add 21 = .ok (.iastore, 1) := by decide +kernel
theorem dX2_add_22 : decode cX2_add 22 = .ok (.aload_n 0, 1) := by decide +kernel
theorem dX2_add_23 : decode cX2_add 23 = .ok (.getfield 15, 3) := by decide +kernel
theorem dX2_add_26 : decode cX2_add 26 = .ok (.aload_n 0, 1) := by decide +kernel
theorem dX2_add_27 : decode cX2_add 27 = .ok (.getfield 27, 3) := by decide +kernel
theorem dX2_add_30 : decode cX2_add 30 = .ok (.iload_n 2, 1) := by decide +kernel
theorem dX2_add_31 : decode cX2_add 31 = .ok (.iastore, 1) := by decide +kernel
theorem dX2_add_32 : decode cX2_add 32 = .ok (.aload_n 0, 1) := by decide +kernel
theorem dX2_add_33 : decode cX2_add 33 = .ok (.getfield 24, 3) := by decide +kernel
theorem dX2_add_36 : decode cX2_add 36 = .ok (.aload_n 0, 1) := by decide +kernel
theorem dX2_add_37 : decode cX2_add 37 = .ok (.getfield 27, 3) := by decide +kernel
theorem dX2_add_40 : decode cX2_add 40 = .ok (.iconst (-1), 1) := by decide +kernel
theorem dX2_add_41 : decode cX2_add 41 = .ok (.iastore, 1) := by decide +kernel
theorem dX2_add_42 : decode cX2_add 42 = .ok (.aload_n 0, 1) := by decide +kernel
theorem dX2_add_43 : decode cX2_add 43 = .ok (.dup, 1) := by decide +kernel
theorem dX2_add_44 : decode cX2_add 44 = .ok (.getfield 27, 3) := by decide +kernel
theorem dX2_add_47 : decode cX2_add 47 = .ok (.iconst 1, 1) := by decide +kernel
theorem dX2_add_48 : decode cX2_add 48 = .ok (.iadd, 1) := by decide +kernel
theorem dX2_add_49 : decode cX2_add 49 = .ok (.putfield 27, 3) := by decide +kernel
theorem dX2_add_52 : decode cX2_add 52 = .ok (.aload_n 0, 1) := by decide +kernel
theorem dX2_add_53 : decode cX2_add 53 = .ok (.getfield 27, 3) := by decide +kernel
theorem dX2_add_56 : decode cX2_add 56 = .ok (.iconst 1, 1) := by decide +kernel
theorem dX2_add_57 : decode cX2_add 57 = .ok (.isub, 1) := by decide +kernel
theorem dX2_add_58 : decode cX2_add 58 = .ok (.ireturn, 1) := by decide +kernel
theorem dX2_isWarm_0 : decode cX2_isWarm 0 = .ok (.aload_n 0, 1) := by decide +kernel
theorem dX2_isWarm_1 : decode cX2_isWarm 1 = .ok (.getfield 24, 3) := by decide +kernel
theorem dX2_isWarm_4 : decode cX2_isWarm 4 = .ok (.iload_n 1, 1) := by decide +kernel
theorem dX2_isWarm_5 : decode cX2_isWarm 5 = .ok (.iaload, 1) := by decide +kernel
theorem dX2_isWarm_6 : decode cX2_isWarm 6 = .ok (.iconst (-1), 1) := by decide +kernel
theorem dX2_isWarm_7 : decode cX2_isWarm 7 = .ok (.if_icmp .eq 7, 3) := by decide +kernel
theorem dX2_isWarm_10 : decode cX2_isWarm 10 = .ok (.iconst 1, 1) := by decide +kernel
theorem dX2_isWarm_11 : decode cX2_isWarm 11 = .ok (.goto 4, 3) := by decide +kernel
theorem dX2_isWarm_14 : decode cX2_isWarm 14 = .ok (.iconst 0, 1) := by decide +kernel
theorem dX2_isWarm_15 : decode cX2_isWarm 15 = .ok (.ireturn, 1) := by decide +kernel
theorem dX2_ticksWarm_0 : decode cX2_ticksWarm 0 = .ok (.aload_n 0, 1) := by decide +kernel
theorem dX2_ticksWarm_1 : decode cX2_ticksWarm 1 = .ok (.iload_n 1, 1) := by decide +kernel
theorem dX2_ticksWarm_2 : decode cX2_ticksWarm 2 = .ok (.invokevirtual 31, 3) := by decide +kernel
theorem dX2_ticksWarm_5 : decode cX2_ticksWarm 5 = .ok (.ifCond .eq 14, 3) := by decide +kernel
theorem dX2_ticksWarm_8 : decode cX2_ticksWarm 8 = .ok (.iload_n 2, 1) := by decide +kernel
theorem dX2_ticksWarm_9 : decode cX2_ticksWarm 9 = .ok (.aload_n 0, 1) := by decide +kernel
theorem dX2_ticksWarm_10 : decode cX2_ticksWarm 10 = .ok (.getfield 24, 3) := by decide +kernel
theorem dX2_ticksWarm_13 : decode cX2_ticksWarm 13 = .ok (.iload_n 1, 1) := by decide +kernel
theorem dX2_ticksWarm_14 : decode cX2_ticksWarm 14 = .ok (.iaload, 1) := by decide +kernel
theorem dX2_ticksWarm_15 : decode cX2_ticksWarm 15 = .ok (.isub, 1) := by decide +kernel
theorem dX2_ticksWarm_16 : decode cX2_ticksWarm 16 = .ok (.goto 4, 3) := by decide +kernel
theorem dX2_ticksWarm_19 : decode cX2_ticksWarm 19 = .ok (.iconst (-1), 1) := by decide +kernel
theorem dX2_ticksWarm_20 : decode cX2_ticksWarm 20 = .ok (.ireturn, 1) := by decide +kernel
theorem dX2_mayPress_0 : decode cX2_mayPress 0 = .ok (.aload_n 0, 1) := by decide +kernel
theorem dX2_mayPress_1 : decode cX2_mayPress 1 = .ok (.iload_n 1, 1) := by decide +kernel
theorem dX2_mayPress_2 : decode cX2_mayPress 2 = .ok (.iload_n 2, 1) := by decide +kernel
theorem dX2_mayPress_3 : decode cX2_mayPress 3 = .ok (.invokevirtual 35, 3) := by decide +kernel
theorem dX2_mayPress_6 : decode cX2_mayPress 6 = .ok (.iconst 3, 1) := by decide +kernel
theorem dX2_mayPress_7 : decode cX2_mayPress 7 = .ok (.bipush 12, 2) := by decide +kernel
theorem dX2_mayPress_9 : decode cX2_mayPress 9 = .ok (.invokestatic 39, 3) := by decide +kernel
theorem dX2_mayPress_12 : decode cX2_mayPress 12 = .ok (.ifCond .eq 22, 3) := by decide +kernel
theorem dX2_mayPress_15 : decode cX2_mayPress 15 = .ok (.aload_n 0, 1) := by decide +kernel
theorem dX2_mayPress_16 : decode cX2_mayPress 16 = .ok (.getfield 18, 3) := by decide +kernel
theorem dX2_mayPress_19 : decode cX2_mayPress 19 = .ok (.iload_n 1, 1) := by decide +kernel
theorem dX2_mayPress_20 : decode cX2_mayPress 20 = .ok (.iaload, 1) := by decide +kernel
theorem dX2_mayPress_21 : decode cX2_mayPress 21 = .ok (.aload_n 0, 1) := by decide +kernel
theorem dX2_mayPress_22 : decode cX2_mayPress 22 = .ok (.getfield 15, 3) := by decide +kernel
theorem dX2_mayPress_25 : decode cX2_mayPress 25 = .ok (.iload_n 1, 1) := by decide +kernel
theorem dX2_mayPress_26 : decode cX2_mayPress 26 = .ok (.iaload, 1) := by decide +kernel
theorem dX2_mayPress_27 : decode cX2_mayPress 27 = .ok (.if_icmp .ge 7, 3) := by decide +kernel
theorem dX2_mayPress_30 : decode cX2_mayPress 30 = .ok (.iconst 1, 1) := by decide +kernel
theorem dX2_mayPress_31 : decode cX2_mayPress 31 = .ok (.goto 4, 3) := by decide +kernel
theorem dX2_mayPress_34 : decode cX2_mayPress 34 = .ok (.iconst 0, 1) := by decide +kernel
theorem dX2_mayPress_35 : decode cX2_mayPress 35 = .ok (.ireturn, 1) := by decide +kernel
theorem dX2_leastWorn_0 : decode cX2_leastWorn 0 = .ok (.iconst (-1), 1) := by decide +kernel
theorem dX2_leastWorn_1 : decode cX2_leastWorn 1 = .ok (.istore_n 3, 1) := by decide +kernel
theorem dX2_leastWorn_2 : decode cX2_leastWorn 2 = .ok (.iconst 0, 1) := by decide +kernel
theorem dX2_leastWorn_3 : decode cX2_leastWorn 3 = .ok (.istore 4, 2) := by decide +kernel
theorem dX2_leastWorn_5 : decode cX2_leastWorn 5 = .ok (.iload 4, 2) := by decide +kernel
theorem dX2_leastWorn_7 : decode cX2_leastWorn 7 = .ok (.aload_n 0, 1) := by decide +kernel
theorem dX2_leastWorn_8 : decode cX2_leastWorn 8 = .ok (.getfield 27, 3) := by decide +kernel
theorem dX2_leastWorn_11 : decode cX2_leastWorn 11 = .ok (.if_icmp .ge 54, 3) := by decide +kernel
theorem dX2_leastWorn_14 : decode cX2_leastWorn 14 = .ok (.aload_n 0, 1) := by decide +kernel
theorem dX2_leastWorn_15 : decode cX2_leastWorn 15 = .ok (.getfield 9, 3) := by decide +kernel
theorem dX2_leastWorn_18 : decode cX2_leastWorn 18 = .ok (.iload 4, 2) := by decide +kernel
theorem dX2_leastWorn_20 : decode cX2_leastWorn 20 = .ok (.iaload, 1) := by decide +kernel
theorem dX2_leastWorn_21 : decode cX2_leastWorn 21 = .ok (.iload_n 1, 1) := by decide +kernel
theorem dX2_leastWorn_22 : decode cX2_leastWorn 22 = .ok (.if_icmp .ne 37, 3) := by decide +kernel
theorem dX2_leastWorn_25 : decode cX2_leastWorn 25 = .ok (.aload_n 0, 1) := by decide +kernel
theorem dX2_leastWorn_26 : decode cX2_leastWorn 26 = .ok (.iload 4, 2) := by decide +kernel
theorem dX2_leastWorn_28 : decode cX2_leastWorn 28 = .ok (.iload_n 2, 1) := by decide +kernel
theorem dX2_leastWorn_29 : decode cX2_leastWorn 29 = .ok (.invokevirtual 43, 3) := by decide +kernel
theorem dX2_leastWorn_32 : decode cX2_leastWorn 32 = .ok (.ifCond .eq 27, 3) := by decide +kernel
theorem dX2_leastWorn_35 : decode cX2_leastWorn 35 = .ok (.iload_n 3, 1) := by decide +kernel
theorem dX2_leastWorn_36 : decode cX2_leastWorn 36 = .ok (.iconst (-1), 1) := by decide +kernel
theorem dX2_leastWorn_37 : decode cX2_leastWorn 37 = .ok (.if_icmp .eq 19, 3) := by decide +kernel
theorem dX2_leastWorn_40 : decode cX2_leastWorn 40 = .ok (.aload_n 0, 1) := by decide +kernel
theorem dX2_leastWorn_41 : decode cX2_leastWorn 41 = .ok (.getfield 18, 3) := by decide +kernel
theorem dX2_leastWorn_44 : decode cX2_leastWorn 44 = .ok (.iload 4, 2) := by decide +kernel
theorem dX2_leastWorn_46 : decode cX2_leastWorn 46 = .ok (.iaload, 1) := by decide +kernel
theorem dX2_leastWorn_47 : decode cX2_leastWorn 47 = .ok (.aload_n 0, 1) := by decide +kernel
theorem dX2_leastWorn_48 : decode cX2_leastWorn 48 = .ok (.getfield 18, 3) := by decide +kernel
theorem dX2_leastWorn_51 : decode cX2_leastWorn 51 = .ok (.iload_n 3, 1) := by decide +kernel
theorem dX2_leastWorn_52 : decode cX2_leastWorn 52 = .ok (.iaload, 1) := by decide +kernel
theorem dX2_leastWorn_53 : decode cX2_leastWorn 53 = .ok (.if_icmp .ge 6, 3) := by decide +kernel
theorem dX2_leastWorn_56 : decode cX2_leastWorn 56 = .ok (.iload 4, 2) := by decide +kernel
theorem dX2_leastWorn_58 : decode cX2_leastWorn 58 = .ok (.istore_n 3, 1) := by decide +kernel
theorem dX2_leastWorn_59 : decode cX2_leastWorn 59 = .ok (.iinc 4 1, 3) := by decide +kernel
theorem dX2_leastWorn_62 : decode cX2_leastWorn 62 = .ok (.goto (-57), 3) := by decide +kernel
theorem dX2_leastWorn_65 : decode cX2_leastWorn 65 = .ok (.iload_n 3, 1) := by decide +kernel
theorem dX2_leastWorn_66 : decode cX2_leastWorn 66 = .ok (.ireturn, 1) := by decide +kernel
theorem dX2_wear_0 : decode cX2_wear 0 = .ok (.aload_n 0, 1) := by decide +kernel
theorem dX2_wear_1 : decode cX2_wear 1 = .ok (.getfield 18, 3) := by decide +kernel
theorem dX2_wear_4 : decode cX2_wear 4 = .ok (.iload_n 1, 1) := by decide +kernel
theorem dX2_wear_5 : decode cX2_wear 5 = .ok (.dup2, 1) := by decide +kernel
theorem dX2_wear_6 : decode cX2_wear 6 = .ok (.iaload, 1) := by decide +kernel
theorem dX2_wear_7 : decode cX2_wear 7 = .ok (.iconst 1, 1) := by decide +kernel
theorem dX2_wear_8 : decode cX2_wear 8 = .ok (.iadd, 1) := by decide +kernel
theorem dX2_wear_9 : decode cX2_wear 9 = .ok (.iastore, 1) := by decide +kernel
theorem dX2_wear_10 : decode cX2_wear 10 = .ok (.aload_n 0, 1) := by decide +kernel
theorem dX2_wear_11 : decode cX2_wear 11 = .ok (.getfield 21, 3) := by decide +kernel
theorem dX2_wear_14 : decode cX2_wear 14 = .ok (.iload_n 1, 1) := by decide +kernel
theorem dX2_wear_15 : decode cX2_wear 15 = .ok (.dup2, 1) := by decide +kernel
theorem dX2_wear_16 : decode cX2_wear 16 = .ok (.iaload, 1) := by decide +kernel
theorem dX2_wear_17 : decode cX2_wear 17 = .ok (.iconst 1, 1) := by decide +kernel
theorem dX2_wear_18 : decode cX2_wear 18 = .ok (.iadd, 1) := by decide +kernel
theorem dX2_wear_19 : decode cX2_wear 19 = .ok (.iastore, 1) := by decide +kernel
theorem dX2_wear_20 : decode cX2_wear 20 = .ok (.return_, 1) := by decide +kernel
theorem dX3_init_0 : decode cX3_init 0 = .ok (.aload_n 0, 1) := by decide +kernel
theorem dX3_init_1 : decode cX3_init 1 = .ok (.invokespecial 3, 3) := by decide +kernel
theorem dX3_init_4 : decode cX3_init 4 = .ok (.aload_n 0, 1) := by decide +kernel
theorem dX3_init_5 : decode cX3_init 5 = .ok (.bipush 8, 2) := by decide +kernel
theorem dX3_init_7 : decode cX3_init 7 = .ok (.newarray .int, 2) := by decide +kernel
theorem dX3_init_9 : decode cX3_init 9 = .ok (.putfield 9, 3) := by decide +kernel
theorem dX3_init_12 : decode cX3_init 12 = .ok (.aload_n 0, 1) := by decide +kernel
theorem dX3_init_13 : decode cX3_init 13 = .ok (.bipush 24, 2) := by decide +kernel
theorem dX3_init_15 : decode cX3_init 15 = .ok (.newarray .int, 2) := by decide +kernel
theorem dX3_init_17 : decode cX3_init 17 = .ok (.putfield 15, 3) := by decide +kernel
theorem dX3_init_20 : decode cX3_init 20 = .ok (.aload_n 0, 1) := by decide +kernel
theorem dX3_init_21 : decode cX3_init 21 = .ok (.bipush 24, 2) := by decide +kernel
theorem dX3_init_23 : decode cX3_init 23 = .ok (.newarray .int, 2) := by decide +kernel
theorem dX3_init_25 : decode cX3_init 25 = .ok (.putfield 18, 3) := by decide +kernel
theorem dX3_init_28 : decode cX3_init 28 = .ok (.return_, 1) := by decide +kernel
theorem dX3_add_0 : decode cX3_add 0 = .ok (.aload_n 0, 1) := by decide +kernel
theorem dX3_add_1 : decode cX3_add 1 = .ok (.getfield 9, 3) := by decide +kernel
theorem dX3_add_4 : decode cX3_add 4 = .ok (.iload_n 1, 1) := by decide +kernel
theorem dX3_add_5 : decode cX3_add 5 = .ok (.iaload, 1) := by decide +kernel
theorem dX3_add_6 : decode cX3_add 6 = .ok (.istore 4, 2) := by decide +kernel
theorem dX3_add_8 : decode cX3_add 8 = .ok (.iload 4, 2) := by decide +kernel
theorem dX3_add_10 : decode cX3_add 10 = .ok (.iconst 3, 1) := by decide +kernel
theorem dX3_add_11 : decode cX3_add 11 = .ok (.if_icmp .lt 6, 3) := by decide +kernel
theorem dX3_add_14 : decode cX3_add 14 = .ok (.bipush (-4), 2) := by decide +kernel
theorem dX3_add_16 : decode cX3_add 16 = .ok (.ireturn, 1) := by decide +kernel
theorem dX3_add_17 : decode cX3_add 17 = .ok (.aload_n 0, 1) := by decide +kernel
theorem dX3_add_18 : decode cX3_add 18 = .ok (.getfield 15, 3) := by decide +kernel
theorem dX3_add_21 : decode cX3_add 21 = .ok (.iload_n 1, 1) := by decide +kernel
theorem dX3_add_22 : decode cX3_add 22 = .ok (.iconst 3, 1) := by decide +kernel
theorem dX3_add_23 : decode cX3_add 23 = .ok (.imul, 1) := by decide +kernel
theorem dX3_add_24 : decode cX3_add 24 = .ok (.iload 4, 2) := by decide +kernel
theorem dX3_add_26 : decode cX3_add 26 = .ok (.iadd, 1) := by decide +kernel
theorem dX3_add_27 : decode cX3_add 27 = .ok (.iload_n 2, 1) := by decide +kernel
theorem dX3_add_28 : decode cX3_add 28 = .ok (.iastore, 1) := by decide +kernel
theorem dX3_add_29 : decode cX3_add 29 = .ok (.aload_n 0, 1) := by decide +kernel
theorem dX3_add_30 : decode cX3_add 30 = .ok (.getfield 18, 3) := by decide +kernel
theorem dX3_add_33 : decode cX3_add 33 = .ok (.iload_n 1, 1) := by decide +kernel
theorem dX3_add_34 : decode cX3_add 34 = .ok (.iconst 3, 1) := by decide +kernel
theorem dX3_add_35 : decode cX3_add 35 = .ok (.imul, 1) := by decide +kernel
theorem dX3_add_36 : decode cX3_add 36 = .ok (.iload 4, 2) := by decide +kernel
theorem dX3_add_38 : decode cX3_add 38 = .ok (.iadd, 1) := by decide +kernel
theorem dX3_add_39 : decode cX3_add 39 = .ok (.iload_n 3, 1) := by decide +kernel
theorem dX3_add_40 : decode cX3_add 40 = .ok (.iastore, 1) := by decide +kernel
theorem dX3_add_41 : decode cX3_add 41 = .ok (.aload_n 0, 1) := by decide +kernel
theorem dX3_add_42 : decode cX3_add 42 = .ok (.getfield 9, 3) := by decide +kernel
theorem dX3_add_45 : decode cX3_add 45 = .ok (.iload_n 1, 1) := by decide +kernel
theorem dX3_add_46 : decode cX3_add 46 = .ok (.dup2, 1) := by decide +kernel
theorem dX3_add_47 : decode cX3_add 47 = .ok (.iaload, 1) := by decide +kernel
theorem dX3_add_48 : decode cX3_add 48 = .ok (.iconst 1, 1) := by decide +kernel
theorem dX3_add_49 : decode cX3_add 49 = .ok (.iadd, 1) := by decide +kernel
theorem dX3_add_50 : decode cX3_add 50 = .ok (.iastore, 1) := by decide +kernel
theorem dX3_add_51 : decode cX3_add 51 = .ok (.iload 4, 2) := by decide +kernel
theorem dX3_add_53 : decode cX3_add 53 = .ok (.ireturn, 1) := by decide +kernel
theorem dX3_serve_0 : decode cX3_serve 0 = .ok (.iconst 0, 1) := by decide +kernel
theorem dX3_serve_1 : decode cX3_serve 1 = .ok (.istore_n 3, 1) := by decide +kernel
theorem dX3_serve_2 : decode cX3_serve 2 = .ok (.iload_n 3, 1) := by decide +kernel
theorem dX3_serve_3 : decode cX3_serve 3 = .ok (.iconst 3, 1) := by decide +kernel
theorem dX3_serve_4 : decode cX3_serve 4 = .ok (.if_icmp .ge 25, 3) := by decide +kernel
theorem dX3_serve_7 : decode cX3_serve 7 = .ok (.aload_n 0, 1) := by decide +kernel
theorem dX3_serve_8 : decode cX3_serve 8 = .ok (.getfield 18, 3) := by decide +kernel
theorem dX3_serve_11 : decode cX3_serve 11 = .ok (.iload_n 1, 1) := by decide +kernel
theorem dX3_serve_12 : decode cX3_serve 12 = .ok (.iconst 3, 1) := by decide +kernel
theorem dX3_serve_13 : decode cX3_serve 13 = .ok (.imul, 1) := by decide +kernel
theorem dX3_serve_14 : decode cX3_serve 14 = .ok (.iload_n 3, 1) := by decide +kernel
theorem dX3_serve_15 : decode cX3_serve 15 = .ok (.iadd, 1) := by decide +kernel
theorem dX3_serve_16 : decode cX3_serve 16 = .ok (.dup2, 1) := by decide +kernel
theorem dX3_serve_17 : decode cX3_serve 17 = .ok (.iaload, 1) := by decide +kernel
theorem dX3_serve_18 : decode cX3_serve 18 = .ok (.aload_n 2, 1) := by decide +kernel
theorem dX3_serve_19 : decode cX3_serve 19 = .ok (.iload_n 3, 1) := by decide +kernel
theorem dX3_serve_20 : decode cX3_serve 20 = .ok (.iaload, 1) := by decide +kernel
theorem dX3_serve_21 : decode cX3_serve 21 = .ok (.isub, 1) := by decide +kernel
theorem dX3_serve_22 : decode cX3_serve 22 = .ok (.iastore, 1) := by decide +kernel
theorem dX3_serve_23 : decode cX3_serve 23 = .ok (.iinc 3 1, 3) := by decide +kernel
theorem dX3_serve_26 : decode cX3_serve 26 = .ok (.goto (-24), 3) := by decide +kernel
theorem dX3_serve_29 : decode cX3_serve 29 = .ok (.return_, 1) := by decide +kernel
theorem dX4_init_0 : decode cX4_init 0 = .ok (.aload_n 0, 1) := by decide +kernel
theorem dX4_init_1 : decode cX4_init 1 = .ok (.invokespecial 3, 3) := by decide +kernel
theorem dX4_init_4 : decode cX4_init 4 = .ok (.aload_n 0, 1) := by decide +kernel
theorem dX4_init_5 : decode cX4_init 5 = .ok (.iconst 3, 1) := by decide +kernel
theorem dX4_init_6 : decode cX4_init 6 = .ok (.newarray .int, 2) := by decide +kernel
theorem dX4_init_8 : decode cX4_init 8 = .ok (.putfield 9, 3) := by decide +kernel
theorem dX4_init_11 : decode cX4_init 11 = .ok (.aload_n 0, 1) := by decide +kernel
theorem dX4_init_12 : decode cX4_init 12 = .ok (.iconst 0, 1) := by decide +kernel
theorem dX4_init_13 : decode cX4_init 13 = .ok (.putfield 15, 3) := by decide +kernel
theorem dX4_init_16 : decode cX4_init 16 = .ok (.aload_n 0, 1) := by decide +kernel
theorem dX4_init_17 : decode cX4_init 17 = .ok (.iconst 3, 1) := by decide +kernel
theorem dX4_init_18 : decode cX4_init 18 = .ok (.newarray .int, 2) := by decide +kernel
theorem dX4_init_20 : decode cX4_init 20 = .ok (.putfield 19, 3) := by decide +kernel
theorem dX4_init_23 : decode cX4_init 23 = .ok (.aload_n 0, 1) := by decide +kernel
theorem dX4_init_24 : decode cX4_init 24 = .ok (.iconst 3, 1) := by decide +kernel
theorem dX4_init_25 : decode cX4_init 25 = .ok (.newarray .int, 2) := by decide +kernel
theorem dX4_init_27 : decode cX4_init 27 = .ok (.putfield 22, 3) := by decide +kernel
theorem dX4_init_30 : decode cX4_init 30 = .ok (.aload_n 0, 1) := by decide +kernel
theorem dX4_init_31 : decode cX4_init 31 = .ok (.iconst 0, 1) := by decide +kernel
theorem dX4_init_32 : decode cX4_init 32 = .ok (.putfield 25, 3) := by decide +kernel
theorem dX4_init_35 : decode cX4_init 35 = .ok (.return_, 1) := by decide +kernel
theorem dX4_seek_0 : decode cX4_seek 0 = .ok (.aload_n 0, 1) := by decide +kernel
theorem dX4_seek_1 : decode cX4_seek 1 = .ok (.aload_n 1, 1) := by decide +kernel
theorem dX4_seek_2 : decode cX4_seek 2 = .ok (.iload_n 2, 1) := by decide +kernel
theorem dX4_seek_3 : decode cX4_seek 3 = .ok (.invokevirtual 28, 3) := by decide +kernel
theorem dX4_seek_6 : decode cX4_seek 6 = .ok (.aload_n 0, 1) := by decide +kernel
theorem dX4_seek_7 : decode cX4_seek 7 = .ok (.iload 4, 2) := by decide +kernel
theorem dX4_seek_9 : decode cX4_seek 9 = .ok (.putfield 25, 3) := by decide +kernel
theorem dX4_seek_12 : decode cX4_seek 12 = .ok (.aload_n 0, 1) := by decide +kernel
theorem dX4_seek_13 : decode cX4_seek 13 = .ok (.iconst 0, 1) := by decide +kernel
theorem dX4_seek_14 : decode cX4_seek 14 = .ok (.putfield 15, 3) := by decide +kernel
theorem dX4_seek_17 : decode cX4_seek 17 = .ok (.aload_n 0, 1) := by decide +kernel
theorem dX4_seek_18 : decode cX4_seek 18 = .ok (.getfield 9, 3) := by decide +kernel
theorem dX4_seek_21 : decode cX4_seek 21 = .ok (.iconst 0, 1) := by decide +kernel
theorem dX4_seek_22 : decode cX4_seek 22 = .ok (.iconst 0, 1) := by decide +kernel
theorem dX4_seek_23 : decode cX4_seek 23 = .ok (.iastore, 1) := by decide +kernel
theorem dX4_seek_24 : decode cX4_seek 24 = .ok (.aload_n 0, 1) := by decide +kernel
theorem dX4_seek_25 : decode cX4_seek 25 = .ok (.getfield 9, 3) := by decide +kernel
theorem dX4_seek_28 : decode cX4_seek 28 = .ok (.iconst 1, 1) := by decide +kernel
theorem dX4_seek_29 : decode cX4_seek 29 = .ok (.iconst 0, 1) := by decide +kernel
theorem dX4_seek_30 : decode cX4_seek 30 = .ok (.iastore, 1) := by decide +kernel
theorem dX4_seek_31 : decode cX4_seek 31 = .ok (.aload_n 0, 1) := by decide +kernel
theorem dX4_seek_32 : decode cX4_seek 32 = .ok (.getfield 9, 3) := by decide +kernel
theorem dX4_seek_35 : decode cX4_seek 35 = .ok (.iconst 2, 1) := by decide +kernel
theorem dX4_seek_36 : decode cX4_seek 36 = .ok (.iconst 0, 1) := by decide +kernel
theorem dX4_seek_37 : decode cX4_seek 37 = .ok (.iastore, 1) := by decide +kernel
theorem dX4_seek_38 : decode cX4_seek 38 = .ok (.iload_n 3, 1) := by decide +kernel
theorem dX4_seek_39 : decode cX4_seek 39 = .ok (.iload 4, 2) := by decide +kernel
theorem dX4_seek_41 : decode cX4_seek 41 = .ok (.iadd, 1) := by decide +kernel
theorem dX4_seek_42 : decode cX4_seek 42 = .ok (.istore 5, 2) := by decide +kernel
theorem dX4_seek_44 : decode cX4_seek 44 = .ok (.aload_n 0, 1) := by decide +kernel
theorem dX4_seek_45 : decode cX4_seek 45 = .ok (.getfield 22, 3) := by decide +kernel
theorem dX4_seek_48 : decode cX4_seek 48 = .ok (.iconst 1, 1) := by decide +kernel
theorem dX4_seek_49 : decode cX4_seek 49 = .ok (.iaload, 1) := by decide +kernel
theorem dX4_seek_50 : decode cX4_seek 50 = .ok (.aload_n 0, 1) := by decide +kernel
theorem dX4_seek_51 : decode cX4_seek 51 = .ok (.getfield 19, 3) := by decide +kernel
theorem dX4_seek_54 : decode cX4_seek 54 = .ok (.iconst 1, 1) := by decide +kernel
theorem dX4_seek_55 : decode cX4_seek 55 = .ok (.iaload, 1) := by decide +kernel
theorem dX4_seek_56 : decode cX4_seek 56 = .ok (.imul, 1) := by decide +kernel
theorem dX4_seek_57 : decode cX4_seek 57 = .ok (.aload_n 0, 1) := by decide +kernel
theorem dX4_seek_58 : decode cX4_seek 58 = .ok (.getfield 22, 3) := by decide +kernel
theorem dX4_seek_61 : decode cX4_seek 61 = .ok (.iconst 2, 1) := by decide +kernel
theorem dX4_seek_62 : decode cX4_seek 62 = .ok (.iaload, 1) := by decide +kernel
theorem dX4_seek_63 : decode cX4_seek 63 = .ok (.aload_n 0, 1) := by decide +kernel
theorem dX4_seek_64 : decode cX4_seek 64 = .ok (.getfield 19, 3) := by decide +kernel
theorem dX4_seek_67 : decode cX4_seek 67 = .ok (.iconst 2, 1) := by decide +kernel
theorem dX4_seek_68 : decode cX4_seek 68 = .ok (.iaload, 1) := by decide +kernel
theorem dX4_seek_69 : decode cX4_seek 69 = .ok (.imul, 1) := by decide +kernel
theorem dX4_seek_70 : decode cX4_seek 70 = .ok (.iadd, 1) := by decide +kernel
theorem dX4_seek_71 : decode cX4_seek 71 = .ok (.istore 6, 2) := by decide +kernel
theorem dX4_seek_73 : decode cX4_seek 73 = .ok (.aload_n 0, 1) := by decide +kernel
theorem dX4_seek_74 : decode cX4_seek 74 = .ok (.iconst 0, 1) := by decide +kernel
theorem dX4_seek_75 : decode cX4_seek 75 = .ok (.iload 5, 2) := by decide +kernel
theorem dX4_seek_77 : decode cX4_seek 77 = .ok (.invokevirtual 32, 3) := by decide +kernel
theorem dX4_seek_80 : decode cX4_seek 80 = .ok (.istore 7, 2) := by decide +kernel
theorem dX4_seek_82 : decode cX4_seek 82 = .ok (.iload 7, 2) := by decide +kernel
theorem dX4_seek_84 : decode cX4_seek 84 = .ok (.ifCond .lt 52, 3) := by decide +kernel
theorem dX4_seek_87 : decode cX4_seek 87 = .ok (.iload 7, 2) := by decide +kernel
theorem dX4_seek_89 : decode cX4_seek 89 = .ok (.aload_n 0, 1) := by decide +kernel
theorem dX4_seek_90 : decode cX4_seek 90 = .ok (.getfield 19, 3) := by decide +kernel
theorem dX4_seek_93 : decode cX4_seek 93 = .ok (.iconst 0, 1) := by decide +kernel
theorem dX4_seek_94 : decode cX4_seek 94 = .ok (.iaload, 1) := by decide +kernel
theorem dX4_seek_95 : decode cX4_seek 95 = .ok (.imul, 1) := by decide +kernel
theorem dX4_seek_96 : decode cX4_seek 96 = .ok (.iload 6, 2) := by decide +kernel
theorem dX4_seek_98 : decode cX4_seek 98 = .ok (.iadd, 1) := by decide +kernel
theorem dX4_seek_99 : decode cX4_seek 99 = .ok (.aload_n 0, 1) := by decide +kernel
theorem dX4_seek_100 : decode cX4_seek 100 = .ok (.getfield 15, 3) := by decide +kernel
theorem dX4_seek_103 : decode cX4_seek 103 = .ok (.if_icmp .ge 6, 3) := by decide +kernel
theorem dX4_seek_106 : decode cX4_seek 106 = .ok (.goto 30, 3) := by decide +kernel
theorem dX4_seek_109 : decode cX4_seek 109 = .ok (.aload_n 0, 1) := by decide +kernel
theorem dX4_seek_110 : decode cX4_seek 110 = .ok (.iload 7, 2) := by decide +kernel
theorem dX4_seek_112 : decode cX4_seek 112 = .ok (.iload 5, 2) := by decide +kernel
theorem dX4_seek_114 : decode cX4_seek 114 = .ok (.iload 7, 2) := by decide +kernel
theorem dX4_seek_116 : decode cX4_seek 116 = .ok (.aload_n 0, 1) := by decide +kernel
theorem dX4_seek_117 : decode cX4_seek 117 = .ok (.getfield 19, 3) := by decide +kernel
theorem dX4_seek_120 : decode cX4_seek 120 = .ok (.iconst 0, 1) := by decide +kernel
theorem dX4_seek_121 : decode cX4_seek 121 = .ok (.iaload, 1) := by decide +kernel
theorem dX4_seek_122 : decode cX4_seek 122 = .ok (.iload 4, 2) := by decide +kernel
theorem dX4_seek_124 : decode cX4_seek 124 = .ok (.iadd, 1) := by decide +kernel
theorem dX4_seek_125 : decode cX4_seek 125 = .ok (.imul, 1) := by decide +kernel
theorem dX4_seek_126 : decode cX4_seek 126 = .ok (.isub, 1) := by decide +kernel
theorem dX4_seek_127 : decode cX4_seek 127 = .ok (.invokevirtual 36, 3) := by decide +kernel
theorem dX4_seek_130 : decode cX4_seek 130 = .ok (.iinc 7 (-1), 3) := by decide +kernel
theorem dX4_seek_133 : decode cX4_seek 133 = .ok (.goto (-51), 3) := by decide +kernel
theorem dX4_seek_136 : decode cX4_seek 136 = .ok (.return_, 1) := by decide +kernel
theorem dX4_load_0 : decode cX4_load 0 = .ok (.iconst 0, 1) := by decide +kernel
theorem dX4_load_1 : decode cX4_load 1 = .ok (.istore_n 3, 1) := by decide +kernel
theorem dX4_load_2 : decode cX4_load 2 = .ok (.iload_n 3, 1) := by decide +kernel
theorem dX4_load_3 : decode cX4_load 3 = .ok (.iconst 3, 1) := by decide +kernel
theorem dX4_load_4 : decode cX4_load 4 = .ok (.if_icmp .ge 82, 3) := by decide +kernel
theorem dX4_load_7 : decode cX4_load 7 = .ok (.iload_n 3, 1) := by decide +kernel
theorem dX4_load_8 : decode cX4_load 8 = .ok (.aload_n 1, 1) := by decide +kernel
theorem dX4_load_9 : decode cX4_load 9 = .ok (.getfield 40, 3) := by decide +kernel
theorem dX4_load_12 : decode cX4_load 12 = .ok (.iload_n 2, 1) := by decide +kernel
theorem dX4_load_13 : decode cX4_load 13 = .ok (.iaload, 1) := by decide +kernel
theorem dX4_load_14 : decode cX4_load 14 = .ok (.if_icmp .ge 7, 3) := by decide +kernel
theorem dX4_load_17 : decode cX4_load 17 = .ok (.iconst 1, 1) := by decide +kernel
theorem dX4_load_18 : decode cX4_load 18 = .ok (.goto 4, 3) := by decide +kernel
theorem dX4_load_21 : decode cX4_load 21 = .ok (.iconst 0, 1) := by decide +kernel
theorem dX4_load_22 : decode cX4_load 22 = .ok (.istore 4, 2) := by decide +kernel
theorem dX4_load_24 : decode cX4_load 24 = .ok (.iload_n 2, 1) := by decide +kernel
theorem dX4_load_25 : decode cX4_load 25 = .ok (.iconst 3, 1) := by decide +kernel
theorem dX4_load_26 : decode cX4_load 26 = .ok (.imul, 1) := by decide +kernel
theorem dX4_load_27 : decode cX4_load 27 = .ok (.iload_n 3, 1) := by decide +kernel
theorem dX4_load_28 : decode cX4_load 28 = .ok (.iadd, 1) := by decide +kernel
theorem dX4_load_29 : decode cX4_load 29 = .ok (.istore 5, 2) := by decide +kernel
theorem dX4_load_31 : decode cX4_load 31 = .ok (.aload_n 0, 1) := by decide +kernel
theorem dX4_load_32 : decode cX4_load 32 = .ok (.getfield 19, 3) := by decide +kernel
theorem dX4_load_35 : decode cX4_load 35 = .ok (.iload_n 3, 1) := by decide +kernel
theorem dX4_load_36 : decode cX4_load 36 = .ok (.iload 4, 2) := by decide +kernel
theorem dX4_load_38 : decode cX4_load 38 = .ok (.ifCond .eq 13, 3) := by decide +kernel
theorem dX4_load_41 : decode cX4_load 41 = .ok (.aload_n 1, 1) := by decide +kernel
theorem dX4_load_42 : decode cX4_load 42 = .ok (.getfield 45, 3) := by decide +kernel
theorem dX4_load_45 : decode cX4_load 45 = .ok (.iload 5, 2) := by decide +kernel
theorem dX4_load_47 : decode cX4_load 47 = .ok (.iaload, 1) := by decide +kernel
theorem dX4_load_48 : decode cX4_load 48 = .ok (.goto 4, 3) := by decide +kernel
theorem dX4_load_51 : decode cX4_load 51 = .ok (.iconst 0, 1) := by decide +kernel
theorem dX4_load_52 : decode cX4_load 52 = .ok (.iastore, 1) := by decide +kernel
theorem dX4_load_53 : decode cX4_load 53 = .ok (.aload_n 0, 1) := by decide +kernel
theorem dX4_load_54 : decode cX4_load 54 = .ok (.getfield 22, 3) := by decide +kernel
theorem dX4_load_57 : decode cX4_load 57 = .ok (.iload_n 3, 1) := by decide +kernel
theorem dX4_load_58 : decode cX4_load 58 = .ok (.iload 4, 2) := by decide +kernel
theorem dX4_load_60 : decode cX4_load 60 = .ok (.ifCond .eq 18, 3) := by decide +kernel
theorem dX4_load_63 : decode cX4_load 63 = .ok (.bipush 60, 2) := by decide +kernel
theorem dX4_load_65 : decode cX4_load 65 = .ok (.aload_n 1, 1) := by decide +kernel
theorem dX4_load_66 : decode cX4_load 66 = .ok (.getfield 46, 3) := by decide +kernel
theorem dX4_load_69 : decode cX4_load 69 = .ok (.iload 5, 2) := by decide +kernel
theorem dX4_load_71 : decode cX4_load 71 = .ok (.iaload, 1) := by decide +kernel
theorem dX4_load_72 : decode cX4_load 72 = .ok (.invokestatic 49, 3) := by decide +kernel
theorem dX4_load_75 : decode cX4_load 75 = .ok (.goto 4, 3) := by decide +kernel
theorem dX4_load_78 : decode cX4_load 78 = .ok (.iconst 0, 1) := by decide +kernel
theorem dX4_load_79 : decode cX4_load 79 = .ok (.iastore, 1) := by decide +kernel
theorem dX4_load_80 : decode cX4_load 80 = .ok (.iinc 3 1, 3) := by decide +kernel
theorem dX4_load_83 : decode cX4_load 83 = .ok (.goto (-81), 3) := by decide +kernel
theorem dX4_load_86 : decode cX4_load 86 = .ok (.return_, 1) := by decide +kernel
theorem dX4_seekSecond_0 : decode cX4_seekSecond 0 = .ok (.aload_n 0, 1) := by decide +kernel
theorem dX4_seekSecond_1 : decode cX4_seekSecond 1 = .ok (.iconst 1, 1) := by decide +kernel
theorem dX4_seekSecond_2 : decode cX4_seekSecond 2 = .ok (.iload_n 2, 1) := by decide +kernel
theorem dX4_seekSecond_3 : decode cX4_seekSecond 3 = .ok (.invokevirtual 32, 3) := by decide +kernel
theorem dX4_seekSecond_6 : decode cX4_seekSecond 6 = .ok (.istore_n 3, 1) := by decide +kernel
theorem dX4_seekSecond_7 : decode cX4_seekSecond 7 = .ok (.iload_n 3, 1) := by decide +kernel
theorem dX4_seekSecond_8 : decode cX4_seekSecond 8 = .ok (.ifCond .lt 76, 3) := by decide +kernel
theorem dX4_seekSecond_11 : decode cX4_seekSecond 11 = .ok (.iload_n 1, 1) := by decide +kernel
theorem dX4_seekSecond_12 : decode cX4_seekSecond 12 = .ok (.aload_n 0, 1) := by decide +kernel
theorem dX4_seekSecond_13 : decode cX4_seekSecond 13 = .ok (.getfield 19, 3) := by decide +kernel
theorem dX4_seekSecond_16 : decode cX4_seekSecond 16 = .ok (.iconst 0, 1) := by decide +kernel
theorem dX4_seekSecond_17 : decode cX4_seekSecond 17 = .ok (.iaload, 1) := by decide +kernel
theorem dX4_seekSecond_18 : decode cX4_seekSecond 18 = .ok (.imul, 1) := by decide +kernel
theorem dX4_seekSecond_19 : decode cX4_seekSecond 19 = .ok (.iload_n 3, 1) := by decide +kernel
theorem dX4_seekSecond_20 : decode cX4_seekSecond 20 = .ok (.aload_n 0, 1) := by decide +kernel
theorem dX4_seekSecond_21 : decode cX4_seekSecond 21 = .ok (.getfield 19, 3) := by decide +kernel
theorem dX4_seekSecond_24 : decode cX4_seekSecond 24 = .ok (.iconst 1, 1) := by decide +kernel
theorem dX4_seekSecond_25 : decode cX4_seekSecond 25 = .ok (.iaload, 1) := by decide +kernel
theorem dX4_seekSecond_26 : decode cX4_seekSecond 26 = .ok (.imul, 1) := by decide +kernel
theorem dX4_seekSecond_27 : decode cX4_seekSecond 27 = .ok (.iadd, 1) := by decide +kernel
theorem dX4_seekSecond_28 : decode cX4_seekSecond 28 = .ok (.aload_n 0, 1) := by decide +kernel
theorem dX4_seekSecond_29 : decode cX4_seekSecond 29 = .ok (.getfield 22, 3) := by decide +kernel
theorem dX4_seekSecond_32 : decode cX4_seekSecond 32 = .ok (.iconst 2, 1) := by decide +kernel
theorem dX4_seekSecond_33 : decode cX4_seekSecond 33 = .ok (.iaload, 1) := by decide +kernel
theorem dX4_seekSecond_34 : decode cX4_seekSecond 34 = .ok (.aload_n 0, 1) := by decide +kernel
theorem dX4_seekSecond_35 : decode cX4_seekSecond 35 = .ok (.getfield 19, 3) := by decide +kernel
theorem dX4_seekSecond_38 : decode cX4_seekSecond 38 = .ok (.iconst 2, 1) := by decide +kernel
theorem dX4_seekSecond_39 : decode cX4_seekSecond 39 = .ok (.iaload, 1) := by decide +kernel
theorem dX4_seekSecond_40 : decode cX4_seekSecond 40 = .ok (.imul, 1) := by decide +kernel
theorem dX4_seekSecond_41 : decode cX4_seekSecond 41 = .ok (.iadd, 1) := by decide +kernel
theorem dX4_seekSecond_42 : decode cX4_seekSecond 42 = .ok (.aload_n 0, 1) := by decide +kernel
theorem dX4_seekSecond_43 : decode cX4_seekSecond 43 = .ok (.getfield 15, 3) := by decide +kernel
theorem dX4_seekSecond_46 : decode cX4_seekSecond 46 = .ok (.if_icmp .ge 6, 3) := by decide +kernel
theorem dX4_seekSecond_49 : decode cX4_seekSecond 49 = .ok (.goto 35, 3) := by decide +kernel
theorem dX4_seekSecond_52 : decode cX4_seekSecond 52 = .ok (.aload_n 0, 1) := by decide +kernel
theorem dX4_seekSecond_53 : decode cX4_seekSecond 53 = .ok (.iload_n 1, 1) := by decide +kernel
theorem dX4_seekSecond_54 : decode cX4_seekSecond 54 = .ok (.iload_n 3, 1) := by decide +kernel
theorem dX4_seekSecond_55 : decode cX4_seekSecond 55 = .ok (.aload_n 0, 1) := by decide +kernel
theorem dX4_seekSecond_56 : decode cX4_seekSecond 56 = .ok (.iconst 2, 1) := by decide +kernel
theorem dX4_seekSecond_57 : decode cX4_seekSecond 57 = .ok (.iload_n 2, 1) := by decide +kernel
theorem dX4_seekSecond_58 : decode cX4_seekSecond 58 = .ok (.iload_n 3, 1) := by decide +kernel
theorem dX4_seekSecond_59 : decode cX4_seekSecond 59 = .ok (.aload_n 0, 1) := by decide +kernel
theorem dX4_seekSecond_60 : decode cX4_seekSecond 60 = .ok (.getfield 19, 3) := by decide +kernel
theorem dX4_seekSecond_63 : decode cX4_seekSecond 63 = .ok (.iconst 1, 1) := by decide +kernel
theorem dX4_seekSecond_64 : decode cX4_seekSecond 64 = .ok (.iaload, 1) := by decide +kernel
