theorem dX9_profile_33 : decode cX9_profile 33 = .ok (.bipush 100, 2) := by decide +kernel
theorem dX9_profile_35 : decode cX9_profile 35 = .ok (.sipush 9999, 3) := by decide +kernel
theorem dX9_profile_38 : decode cX9_profile 38 = .ok (.invokestatic 93, 3) := by decide +kernel
theorem dX9_profile_41 : decode cX9_profile 41 = .ok (.ifCond .ne 6, 3) := by decide +kernel
theorem dX9_profile_44 : decode cX9_profile 44 = .ok (.bipush (-2), 2) := by decide +kernel
theorem dX9_profile_46 : decode cX9_profile 46 = .ok (.ireturn, 1) := by decide +kernel
theorem dX9_profile_47 : decode cX9_profile 47 = .ok (.aload_n 0, 1) := by decide +kernel
theorem dX9_profile_48 : decode cX9_profile 48 = .ok (.getfield 10, 3) := by decide +kernel
theorem dX9_profile_51 : decode cX9_profile 51 = .ok (.iload_n 1, 1) := by decide +kernel
theorem dX9_profile_52 : decode cX9_profile 52 = .ok (.iload_n 2, 1) := by decide +kernel
theorem dX9_profile_53 : decode cX9_profile 53 = .ok (.iload_n 3, 1) := by decide +kernel
theorem dX9_profile_54 : decode cX9_profile 54 = .ok (.iload 4, 2) := by decide +kernel
theorem dX9_profile_56 : decode cX9_profile 56 = .ok (.invokevirtual 97, 3) := by decide +kernel
theorem dX9_profile_59 : decode cX9_profile 59 = .ok (.ireturn, 1) := by decide +kernel
theorem dX9_die_0 : decode cX9_die 0 = .ok (.aload_n 0, 1) := by decide +kernel
theorem dX9_die_1 : decode cX9_die 1 = .ok (.getfield 10, 3) := by decide +kernel
theorem dX9_die_4 : decode cX9_die 4 = .ok (.iload_n 1, 1) := by decide +kernel
theorem dX9_die_5 : decode cX9_die 5 = .ok (.invokevirtual 101, 3) := by decide +kernel
theorem dX9_die_8 : decode cX9_die 8 = .ok (.ifCond .eq 13, 3) := by decide +kernel
theorem dX9_die_11 : decode cX9_die 11 = .ok (.iload_n 2, 1) := by decide +kernel
theorem dX9_die_12 : decode cX9_die 12 = .ok (.iconst 1, 1) := by decide +kernel
theorem dX9_die_13 : decode cX9_die 13 = .ok (.bipush 50, 2) := by decide +kernel
theorem dX9_die_15 : decode cX9_die 15 = .ok (.invokestatic 93, 3) := by decide +kernel
theorem dX9_die_18 : decode cX9_die 18 = .ok (.ifCond .ne 6, 3) := by decide +kernel
theorem dX9_die_21 : decode cX9_die 21 = .ok (.bipush (-2), 2) := by decide +kernel
theorem dX9_die_23 : decode cX9_die 23 = .ok (.ireturn, 1) := by decide +kernel
theorem dX9_die_24 : decode cX9_die 24 = .ok (.aload_n 0, 1) := by decide +kernel
theorem dX9_die_25 : decode cX9_die 25 = .ok (.getfield 26, 3) := by decide +kernel
theorem dX9_die_28 : decode cX9_die 28 = .ok (.iload_n 1, 1) := by decide +kernel
theorem dX9_die_29 : decode cX9_die 29 = .ok (.iload_n 2, 1) := by decide +kernel
theorem dX9_die_30 : decode cX9_die 30 = .ok (.invokevirtual 105, 3) := by decide +kernel
theorem dX9_die_33 : decode cX9_die 33 = .ok (.ireturn, 1) := by decide +kernel
theorem dX9_warm_0 : decode cX9_warm 0 = .ok (.aload_n 0, 1) := by decide +kernel
theorem dX9_warm_1 : decode cX9_warm 1 = .ok (.getfield 26, 3) := by decide +kernel
theorem dX9_warm_4 : decode cX9_warm 4 = .ok (.iload_n 1, 1) := by decide +kernel
theorem dX9_warm_5 : decode cX9_warm 5 = .ok (.invokevirtual 108, 3) := by decide +kernel
theorem dX9_warm_8 : decode cX9_warm 8 = .ok (.ifCond .ne 6, 3) := by decide +kernel
theorem dX9_warm_11 : decode cX9_warm 11 = .ok (.bipush (-2), 2) := by decide +kernel
theorem dX9_warm_13 : decode cX9_warm 13 = .ok (.ireturn, 1) := by decide +kernel
theorem dX9_warm_14 : decode cX9_warm 14 = .ok (.aload_n 0, 1) := by decide +kernel
theorem dX9_warm_15 : decode cX9_warm 15 = .ok (.getfield 26, 3) := by decide +kernel
theorem dX9_warm_18 : decode cX9_warm 18 = .ok (.iload_n 1, 1) := by decide +kernel
theorem dX9_warm_19 : decode cX9_warm 19 = .ok (.invokevirtual 109, 3) := by decide +kernel
theorem dX9_warm_22 : decode cX9_warm 22 = .ok (.ifCond .eq 6, 3) := by decide +kernel
theorem dX9_warm_25 : decode cX9_warm 25 = .ok (.bipush (-3), 2) := by decide +kernel
theorem dX9_warm_27 : decode cX9_warm 27 = .ok (.ireturn, 1) := by decide +kernel
theorem dX9_warm_28 : decode cX9_warm 28 = .ok (.aload_n 0, 1) := by decide +kernel
theorem dX9_warm_29 : decode cX9_warm 29 = .ok (.getfield 26, 3) := by decide +kernel
theorem dX9_warm_32 : decode cX9_warm 32 = .ok (.getfield 112, 3) := by decide +kernel
theorem dX9_warm_35 : decode cX9_warm 35 = .ok (.iload_n 1, 1) := by decide +kernel
theorem dX9_warm_36 : decode cX9_warm 36 = .ok (.aload_n 0, 1) := by decide +kernel
theorem dX9_warm_37 : decode cX9_warm 37 = .ok (.getfield 79, 3) := by decide +kernel
theorem dX9_warm_40 : decode cX9_warm 40 = .ok (.iastore, 1) := by decide +kernel
theorem dX9_warm_41 : decode cX9_warm 41 = .ok (.iconst 1, 1) := by decide +kernel
theorem dX9_warm_42 : decode cX9_warm 42 = .ok (.ireturn, 1) := by decide +kernel
theorem dX9_cool_0 : decode cX9_cool 0 = .ok (.aload_n 0, 1) := by decide +kernel
theorem dX9_cool_1 : decode cX9_cool 1 = .ok (.getfield 26, 3) := by decide +kernel
theorem dX9_cool_4 : decode cX9_cool 4 = .ok (.iload_n 1, 1) := by decide +kernel
theorem dX9_cool_5 : decode cX9_cool 5 = .ok (.invokevirtual 108, 3) := by decide +kernel
theorem dX9_cool_8 : decode cX9_cool 8 = .ok (.ifCond .ne 6, 3) := by decide +kernel
theorem dX9_cool_11 : decode cX9_cool 11 = .ok (.bipush (-2), 2) := by decide +kernel
theorem dX9_cool_13 : decode cX9_cool 13 = .ok (.ireturn, 1) := by decide +kernel
theorem dX9_cool_14 : decode cX9_cool 14 = .ok (.aload_n 0, 1) := by decide +kernel
theorem dX9_cool_15 : decode cX9_cool 15 = .ok (.getfield 26, 3) := by decide +kernel
theorem dX9_cool_18 : decode cX9_cool 18 = .ok (.iload_n 1, 1) := by decide +kernel
theorem dX9_cool_19 : decode cX9_cool 19 = .ok (.invokevirtual 109, 3) := by decide +kernel
theorem dX9_cool_22 : decode cX9_cool 22 = .ok (.ifCond .ne 6, 3) := by decide +kernel
theorem dX9_cool_25 : decode cX9_cool 25 = .ok (.bipush (-3), 2) := by decide +kernel
theorem dX9_cool_27 : decode cX9_cool 27 = .ok (.ireturn, 1) := by decide +kernel
theorem dX9_cool_28 : decode cX9_cool 28 = .ok (.aload_n 0, 1) := by decide +kernel
theorem dX9_cool_29 : decode cX9_cool 29 = .ok (.getfield 26, 3) := by decide +kernel
theorem dX9_cool_32 : decode cX9_cool 32 = .ok (.iload_n 1, 1) := by decide +kernel
theorem dX9_cool_33 : decode cX9_cool 33 = .ok (.aload_n 0, 1) := by decide +kernel
theorem dX9_cool_34 : decode cX9_cool 34 = .ok (.getfield 79, 3) := by decide +kernel
theorem dX9_cool_37 : decode cX9_cool 37 = .ok (.invokevirtual 115, 3) := by decide +kernel
theorem dX9_cool_40 : decode cX9_cool 40 = .ok (.istore_n 2, 1) := by decide +kernel
theorem dX9_cool_41 : decode cX9_cool 41 = .ok (.aload_n 0, 1) := by decide +kernel
theorem dX9_cool_42 : decode cX9_cool 42 = .ok (.getfield 26, 3) := by decide +kernel
theorem dX9_cool_45 : decode cX9_cool 45 = .ok (.getfield 112, 3) := by decide +kernel
theorem dX9_cool_48 : decode cX9_cool 48 = .ok (.iload_n 1, 1) := by decide +kernel
theorem dX9_cool_49 : decode cX9_cool 49 = .ok (.iconst (-1), 1) := by decide +kernel
theorem dX9_cool_50 : decode cX9_cool 50 = .ok (.iastore, 1) := by decide +kernel
theorem dX9_cool_51 : decode cX9_cool 51 = .ok (.iload_n 2, 1) := by decide +kernel
theorem dX9_cool_52 : decode cX9_cool 52 = .ok (.ireturn, 1) := by decide +kernel
theorem dX9_nitride_0 : decode cX9_nitride 0 = .ok (.aload_n 0, 1) := by decide +kernel
theorem dX9_nitride_1 : decode cX9_nitride 1 = .ok (.getfield 26, 3) := by decide +kernel
theorem dX9_nitride_4 : decode cX9_nitride 4 = .ok (.iload_n 1, 1) := by decide +kernel
theorem dX9_nitride_5 : decode cX9_nitride 5 = .ok (.invokevirtual 108, 3) := by decide +kernel
theorem dX9_nitride_8 : decode cX9_nitride 8 = .ok (.ifCond .ne 6, 3) := by decide +kernel
theorem dX9_nitride_11 : decode cX9_nitride 11 = .ok (.bipush (-2), 2) := by decide +kernel
theorem dX9_nitride_13 : decode cX9_nitride 13 = .ok (.ireturn, 1) := by decide +kernel
theorem dX9_nitride_14 : decode cX9_nitride 14 = .ok (.aload_n 0, 1) := by decide +kernel
theorem dX9_nitride_15 : decode cX9_nitride 15 = .ok (.getfield 26, 3) := by decide +kernel
theorem dX9_nitride_18 : decode cX9_nitride 18 = .ok (.iload_n 1, 1) := by decide +kernel
theorem dX9_nitride_19 : decode cX9_nitride 19 = .ok (.invokevirtual 109, 3) := by decide +kernel
theorem dX9_nitride_22 : decode cX9_nitride 22 = .ok (.ifCond .eq 6, 3) := by decide +kernel
theorem dX9_nitride_25 : decode cX9_nitride 25 = .ok (.bipush (-3), 2) := by decide +kernel
theorem dX9_nitride_27 : decode cX9_nitride 27 = .ok (.ireturn, 1) := by decide +kernel
theorem dX9_nitride_28 : decode cX9_nitride 28 = .ok (.aload_n 0, 1) := by decide +kernel
theorem dX9_nitride_29 : decode cX9_nitride 29 = .ok (.getfield 26, 3) := by decide +kernel
theorem dX9_nitride_32 : decode cX9_nitride 32 = .ok (.getfield 118, 3) := by decide +kernel
theorem dX9_nitride_35 : decode cX9_nitride 35 = .ok (.iload_n 1, 1) := by decide +kernel
theorem dX9_nitride_36 : decode cX9_nitride 36 = .ok (.iaload, 1) := by decide +kernel
theorem dX9_nitride_37 : decode cX9_nitride 37 = .ok (.istore_n 2, 1) := by decide +kernel
theorem dX9_nitride_38 : decode cX9_nitride 38 = .ok (.aload_n 0, 1) := by decide +kernel
theorem dX9_nitride_39 : decode cX9_nitride 39 = .ok (.getfield 26, 3) := by decide +kernel
theorem dX9_nitride_42 : decode cX9_nitride 42 = .ok (.getfield 118, 3) := by decide +kernel
theorem dX9_nitride_45 : decode cX9_nitride 45 = .ok (.iload_n 1, 1) := by decide +kernel
theorem dX9_nitride_46 : decode cX9_nitride 46 = .ok (.iconst 0, 1) := by decide +kernel
theorem dX9_nitride_47 : decode cX9_nitride 47 = .ok (.iastore, 1) := by decide +kernel
theorem dX9_nitride_48 : decode cX9_nitride 48 = .ok (.iload_n 2, 1) := by decide +kernel
theorem dX9_nitride_49 : decode cX9_nitride 49 = .ok (.ireturn, 1) := by decide +kernel
theorem dX9_about_0 : decode cX9_about 0 = .ok (.aload_n 0, 1) := by decide +kernel
theorem dX9_about_1 : decode cX9_about 1 = .ok (.getfield 26, 3) := by decide +kernel
theorem dX9_about_4 : decode cX9_about 4 = .ok (.iload_n 1, 1) := by decide +kernel
theorem dX9_about_5 : decode cX9_about 5 = .ok (.invokevirtual 108, 3) := by decide +kernel
theorem dX9_about_8 : decode cX9_about 8 = .ok (.ifCond .ne 6, 3) := by decide +kernel
theorem dX9_about_11 : decode cX9_about 11 = .ok (.bipush (-2), 2) := by decide +kernel
theorem dX9_about_13 : decode cX9_about 13 = .ok (.ireturn, 1) := by decide +kernel
theorem dX9_about_14 : decode cX9_about 14 = .ok (.iload_n 2, 1) := by decide +kernel
theorem dX9_about_15 : decode cX9_about 15 = .ok (.tableswitch 111 0 5 #[37, 47, 57, 67, 80, 101], 37) := by decide +kernel
theorem dX9_about_52 : decode cX9_about 52 = .ok (.aload_n 0, 1) := by decide +kernel
theorem dX9_about_53 : decode cX9_about 53 = .ok (.getfield 26, 3) := by decide +kernel
theorem dX9_about_56 : decode cX9_about 56 = .ok (.getfield 121, 3) := by decide +kernel
theorem dX9_about_59 : decode cX9_about 59 = .ok (.iload_n 1, 1) := by decide +kernel
theorem dX9_about_60 : decode cX9_about 60 = .ok (.iaload, 1) := by decide +kernel
theorem dX9_about_61 : decode cX9_about 61 = .ok (.ireturn, 1) := by decide +kernel
theorem dX9_about_62 : decode cX9_about 62 = .ok (.aload_n 0, 1) := by decide +kernel
theorem dX9_about_63 : decode cX9_about 63 = .ok (.getfield 26, 3) := by decide +kernel
theorem dX9_about_66 : decode cX9_about 66 = .ok (.getfield 124, 3) := by decide +kernel
theorem dX9_about_69 : decode cX9_about 69 = .ok (.iload_n 1, 1) := by decide +kernel
theorem dX9_about_70 : decode cX9_about 70 = .ok (.iaload, 1) := by decide +kernel
theorem dX9_about_71 : decode cX9_about 71 = .ok (.ireturn, 1) := by decide +kernel
theorem dX9_about_72 : decode cX9_about 72 = .ok (.aload_n 0, 1) := by decide +kernel
theorem dX9_about_73 : decode cX9_about 73 = .ok (.getfield 26, 3) := by decide +kernel
theorem dX9_about_76 : decode cX9_about 76 = .ok (.getfield 118, 3) := by decide +kernel
theorem dX9_about_79 : decode cX9_about 79 = .ok (.iload_n 1, 1) := by decide +kernel
theorem dX9_about_80 : decode cX9_about 80 = .ok (.iaload, 1) := by decide +kernel
theorem dX9_about_81 : decode cX9_about 81 = .ok (.ireturn, 1) := by decide +kernel
theorem dX9_about_82 : decode cX9_about 82 = .ok (.aload_n 0, 1) := by decide +kernel
theorem dX9_about_83 : decode cX9_about 83 = .ok (.getfield 26, 3) := by decide +kernel
theorem dX9_about_86 : decode cX9_about 86 = .ok (.iload_n 1, 1) := by decide +kernel
theorem dX9_about_87 : decode cX9_about 87 = .ok (.aload_n 0, 1) := by decide +kernel
theorem dX9_about_88 : decode cX9_about 88 = .ok (.getfield 79, 3) := by decide +kernel
theorem dX9_about_91 : decode cX9_about 91 = .ok (.invokevirtual 115, 3) := by decide +kernel
theorem dX9_about_94 : decode cX9_about 94 = .ok (.ireturn, 1) := by decide +kernel
theorem dX9_about_95 : decode cX9_about 95 = .ok (.aload_n 0, 1) := by decide +kernel
theorem dX9_about_96 : decode cX9_about 96 = .ok (.getfield 26, 3) := by decide +kernel
theorem dX9_about_99 : decode cX9_about 99 = .ok (.iload_n 1, 1) := by decide +kernel
theorem dX9_about_100 : decode cX9_about 100 = .ok (.aload_n 0, 1) := by decide +kernel
theorem dX9_about_101 : decode cX9_about 101 = .ok (.getfield 79, 3) := by decide +kernel
theorem dX9_about_104 : decode cX9_about 104 = .ok (.invokevirtual 127, 3) := by decide +kernel
theorem dX9_about_107 : decode cX9_about 107 = .ok (.ifCond .eq 7, 3) := by decide +kernel
theorem dX9_about_110 : decode cX9_about 110 = .ok (.iconst 1, 1) := by decide +kernel
theorem dX9_about_111 : decode cX9_about 111 = .ok (.goto 4, 3) := by decide +kernel
theorem dX9_about_114 : decode cX9_about 114 = .ok (.iconst 0, 1) := by decide +kernel
theorem dX9_about_115 : decode cX9_about 115 = .ok (.ireturn, 1) := by decide +kernel
theorem dX9_about_116 : decode cX9_about 116 = .ok (.aload_n 0, 1) := by decide +kernel
theorem dX9_about_117 : decode cX9_about 117 = .ok (.getfield 26, 3) := by decide +kernel
theorem dX9_about_120 : decode cX9_about 120 = .ok (.getfield 131, 3) := by decide +kernel
theorem dX9_about_123 : decode cX9_about 123 = .ok (.iload_n 1, 1) := by decide +kernel
theorem dX9_about_124 : decode cX9_about 124 = .ok (.iaload, 1) := by decide +kernel
theorem dX9_about_125 : decode cX9_about 125 = .ok (.ireturn, 1) := by decide +kernel
theorem dX9_about_126 : decode cX9_about 126 = .ok (.bipush (-2), 2) := by decide +kernel
theorem dX9_about_128 : decode cX9_about 128 = .ok (.ireturn, 1) := by decide +kernel
theorem dX9_ready_0 : decode cX9_ready 0 = .ok (.aload_n 0, 1) := by decide +kernel
theorem dX9_ready_1 : decode cX9_ready 1 = .ok (.getfield 10, 3) := by decide +kernel
theorem dX9_ready_4 : decode cX9_ready 4 = .ok (.iload_n 1, 1) := by decide +kernel
theorem dX9_ready_5 : decode cX9_ready 5 = .ok (.invokevirtual 101, 3) := by decide +kernel
theorem dX9_ready_8 : decode cX9_ready 8 = .ok (.ifCond .ne 6, 3) := by decide +kernel
theorem dX9_ready_11 : decode cX9_ready 11 = .ok (.bipush (-2), 2) := by decide +kernel
theorem dX9_ready_13 : decode cX9_ready 13 = .ok (.ireturn, 1) := by decide +kernel
theorem dX9_ready_14 : decode cX9_ready 14 = .ok (.aload_n 0, 1) := by decide +kernel
theorem dX9_ready_15 : decode cX9_ready 15 = .ok (.getfield 26, 3) := by decide +kernel
theorem dX9_ready_18 : decode cX9_ready 18 = .ok (.iload_n 1, 1) := by decide +kernel
theorem dX9_ready_19 : decode cX9_ready 19 = .ok (.aload_n 0, 1) := by decide +kernel
theorem dX9_ready_20 : decode cX9_ready 20 = .ok (.getfield 79, 3) := by decide +kernel
theorem dX9_ready_23 : decode cX9_ready 23 = .ok (.invokevirtual 134, 3) := by decide +kernel
theorem dX9_ready_26 : decode cX9_ready 26 = .ok (.ireturn, 1) := by decide +kernel
theorem dX9_pass_0 : decode cX9_pass 0 = .ok (.iload_n 1, 1) := by decide +kernel
theorem dX9_pass_1 : decode cX9_pass 1 = .ok (.iconst 1, 1) := by decide +kernel
theorem dX9_pass_2 : decode cX9_pass 2 = .ok (.bipush 100, 2) := by decide +kernel
theorem dX9_pass_4 : decode cX9_pass 4 = .ok (.invokestatic 93, 3) := by decide +kernel
theorem dX9_pass_7 : decode cX9_pass 7 = .ok (.ifCond .ne 6, 3) := by decide +kernel
theorem dX9_pass_10 : decode cX9_pass 10 = .ok (.bipush (-2), 2) := by decide +kernel
theorem dX9_pass_12 : decode cX9_pass 12 = .ok (.ireturn, 1) := by decide +kernel
theorem dX9_pass_13 : decode cX9_pass 13 = .ok (.aload_n 0, 1) := by decide +kernel
theorem dX9_pass_14 : decode cX9_pass 14 = .ok (.dup, 1) := by decide +kernel
theorem dX9_pass_15 : decode cX9_pass 15 = .ok (.getfield 79, 3) := by decide +kernel
theorem dX9_pass_18 : decode cX9_pass 18 = .ok (.iload_n 1, 1) := by decide +kernel
theorem dX9_pass_19 : decode cX9_pass 19 = .ok (.iadd, 1) := by decide +kernel
theorem dX9_pass_20 : decode cX9_pass 20 = .ok (.putfield 79, 3) := by decide +kernel
theorem dX9_pass_23 : decode cX9_pass 23 = .ok (.aload_n 0, 1) := by decide +kernel
theorem dX9_pass_24 : decode cX9_pass 24 = .ok (.getfield 79, 3) := by decide +kernel
theorem dX9_pass_27 : decode cX9_pass 27 = .ok (.ireturn, 1) := by decide +kernel
theorem dX9_law_0 : decode cX9_law 0 = .ok (.iload_n 1, 1) := by decide +kernel
theorem dX9_law_1 : decode cX9_law 1 = .ok (.iconst 0, 1) := by decide +kernel
theorem dX9_law_2 : decode cX9_law 2 = .ok (.getstatic 137, 3) := by decide +kernel
theorem dX9_law_5 : decode cX9_law 5 = .ok (.arraylength, 1) := by decide +kernel
theorem dX9_law_6 : decode cX9_law 6 = .ok (.iconst 1, 1) := by decide +kernel
theorem dX9_law_7 : decode cX9_law 7 = .ok (.isub, 1) := by decide +kernel
theorem dX9_law_8 : decode cX9_law 8 = .ok (.invokestatic 93, 3) := by decide +kernel
theorem dX9_law_11 : decode cX9_law 11 = .ok (.ifCond .eq 16, 3) := by decide +kernel
theorem dX9_law_14 : decode cX9_law 14 = .ok (.iload_n 2, 1) := by decide +kernel
theorem dX9_law_15 : decode cX9_law 15 = .ok (.iconst 0, 1) := by decide +kernel
theorem dX9_law_16 : decode cX9_law 16 = .ok (.getstatic 137, 3) := by decide +kernel
theorem dX9_law_19 : decode cX9_law 19 = .ok (.iload_n 1, 1) := by decide +kernel
theorem dX9_law_20 : decode cX9_law 20 = .ok (.iaload, 1) := by decide +kernel
theorem dX9_law_21 : decode cX9_law 21 = .ok (.invokestatic 93, 3) := by decide +kernel
theorem dX9_law_24 : decode cX9_law 24 = .ok (.ifCond .ne 6, 3) := by decide +kernel
theorem dX9_law_27 : decode cX9_law 27 = .ok (.bipush (-2), 2) := by decide +kernel
theorem dX9_law_29 : decode cX9_law 29 = .ok (.ireturn, 1) := by decide +kernel
theorem dX9_law_30 : decode cX9_law 30 = .ok (.aload_n 0, 1) := by decide +kernel
theorem dX9_law_31 : decode cX9_law 31 = .ok (.getfield 30, 3) := by decide +kernel
theorem dX9_law_34 : decode cX9_law 34 = .ok (.iload_n 1, 1) := by decide +kernel
theorem dX9_law_35 : decode cX9_law 35 = .ok (.iaload, 1) := by decide +kernel
theorem dX9_law_36 : decode cX9_law 36 = .ok (.istore_n 3, 1) := by decide +kernel
theorem dX9_law_37 : decode cX9_law 37 = .ok (.aload_n 0, 1) := by decide +kernel
theorem dX9_law_38 : decode cX9_law 38 = .ok (.getfield 30, 3) := by decide +kernel
theorem dX9_law_41 : decode cX9_law 41 = .ok (.iload_n 1, 1) := by decide +kernel
theorem dX9_law_42 : decode cX9_law 42 = .ok (.iload_n 2, 1) := by decide +kernel
theorem dX9_law_43 : decode cX9_law 43 = .ok (.iastore, 1) := by decide +kernel
theorem dX9_law_44 : decode cX9_law 44 = .ok (.iload_n 3, 1) := by decide +kernel
theorem dX9_law_45 : decode cX9_law 45 = .ok (.ireturn, 1) := by decide +kernel
theorem dX9_press_0 : decode cX9_press 0 = .ok (.aload_n 0, 1) := by decide +kernel
theorem dX9_press_1 : decode cX9_press 1 = .ok (.getfield 26, 3) := by decide +kernel
theorem dX9_press_4 : decode cX9_press 4 = .ok (.iload_n 1, 1) := by decide +kernel
theorem dX9_press_5 : decode cX9_press 5 = .ok (.invokevirtual 108, 3) := by decide +kernel
theorem dX9_press_8 : decode cX9_press 8 = .ok (.ifCond .eq 16, 3) := by decide +kernel
theorem dX9_press_11 : decode cX9_press 11 = .ok (.iload_n 2, 1) := by decide +kernel
theorem dX9_press_12 : decode cX9_press 12 = .ok (.sipush 200, 3) := by decide +kernel
theorem dX9_press_15 : decode cX9_press 15 = .ok (.sipush 1200, 3) := by decide +kernel
theorem dX9_press_18 : decode cX9_press 18 = .ok (.invokestatic 93, 3) := by decide +kernel
theorem dX9_press_21 : decode cX9_press 21 = .ok (.ifCond .ne 6, 3) := by decide +kernel
theorem dX9_press_24 : decode cX9_press 24 = .ok (.bipush (-2), 2) := by decide +kernel
theorem dX9_press_26 : decode cX9_press 26 = .ok (.ireturn, 1) := by decide +kernel
theorem dX9_press_27 : decode cX9_press 27 = .ok (.aload_n 0, 1) := by decide +kernel
theorem dX9_press_28 : decode cX9_press 28 = .ok (.getfield 26, 3) := by decide +kernel
theorem dX9_press_31 : decode cX9_press 31 = .ok (.iload_n 1, 1) := by decide +kernel
theorem dX9_press_32 : decode cX9_press 32 = .ok (.aload_n 0, 1) := by decide +kernel
theorem dX9_press_33 : decode cX9_press 33 = .ok (.getfield 79, 3) := by decide +kernel
theorem dX9_press_36 : decode cX9_press 36 = .ok (.invokevirtual 127, 3) := by decide +kernel
theorem dX9_press_39 : decode cX9_press 39 = .ok (.ifCond .ne 6, 3) := by decide +kernel
theorem dX9_press_42 : decode cX9_press 42 = .ok (.bipush (-3), 2) := by decide +kernel
theorem dX9_press_44 : decode cX9_press 44 = .ok (.ireturn, 1) := by decide +kernel
theorem dX9_press_45 : decode cX9_press 45 = .ok (.aload_n 0, 1) := by decide +kernel
theorem dX9_press_46 : decode cX9_press 46 = .ok (.getfield 51, 3) := by decide +kernel
theorem dX9_press_49 : decode cX9_press 49 = .ok (.getfield 140, 3) := by decide +kernel
theorem dX9_press_52 : decode cX9_press 52 = .ok (.sipush 200, 3) := by decide +kernel
theorem dX9_press_55 : decode cX9_press 55 = .ok (.if_icmp .lt 6, 3) := by decide +kernel
theorem dX9_press_58 : decode cX9_press 58 = .ok (.bipush (-4), 2) := by decide +kernel
theorem dX9_press_60 : decode cX9_press 60 = .ok (.ireturn, 1) := by decide +kernel
theorem dX9_press_61 : decode cX9_press 61 = .ok (.aload_n 0, 1) := by decide +kernel
theorem dX9_press_62 : decode cX9_press 62 = .ok (.getfield 26, 3) := by decide +kernel
theorem dX9_press_65 : decode cX9_press 65 = .ok (.getfield 121, 3) := by decide +kernel
theorem dX9_press_68 : decode cX9_press 68 = .ok (.iload_n 1, 1) := by decide +kernel
theorem dX9_press_69 : decode cX9_press 69 = .ok (.iaload, 1) := by decide +kernel
theorem dX9_press_70 : decode cX9_press 70 = .ok (.istore_n 3, 1) := by decide +kernel
theorem dX9_press_71 : decode cX9_press 71 = .ok (.aload_n 0, 1) := by decide +kernel
theorem dX9_press_72 : decode cX9_press 72 = .ok (.iload_n 3, 1) := by decide +kernel
theorem dX9_press_73 : decode cX9_press 73 = .ok (.iload_n 2, 1) := by decide +kernel
theorem dX9_press_74 : decode cX9_press 74 = .ok (.aload_n 0, 1) := by decide +kernel
theorem dX9_press_75 : decode cX9_press 75 = .ok (.getfield 51, 3) := by decide +kernel
theorem dX9_press_78 : decode cX9_press 78 = .ok (.iload_n 1, 1) := by decide +kernel
theorem dX9_press_79 : decode cX9_press 79 = .ok (.aload_n 0, 1) := by decide +kernel
theorem dX9_press_80 : decode cX9_press 80 = .ok (.getfield 79, 3) := by decide +kernel
theorem dX9_press_83 : decode cX9_press 83 = .ok (.iconst 1, 1) := by decide +kernel
theorem dX9_press_84 : decode cX9_press 84 = .ok (.isub, 1) := by decide +kernel
theorem dX9_press_85 : decode cX9_press 85 = .ok (.invokevirtual 143, 3) := by decide +kernel
theorem dX9_press_88 : decode cX9_press 88 = .ok (.invokevirtual 146, 3) := by decide +kernel
theorem dX9_press_91 : decode cX9_press 91 = .ok (.aload_n 0, 1) := by decide +kernel
theorem dX9_press_92 : decode cX9_press 92 = .ok (.getfield 51, 3) := by decide +kernel
theorem dX9_press_95 : decode cX9_press 95 = .ok (.iload_n 1, 1) := by decide +kernel
theorem dX9_press_96 : decode cX9_press 96 = .ok (.aload_n 0, 1) := by decide +kernel
theorem dX9_press_97 : decode cX9_press 97 = .ok (.getfield 37, 3) := by decide +kernel
theorem dX9_press_100 : decode cX9_press 100 = .ok (.aload_n 0, 1) := by decide +kernel
theorem dX9_press_101 : decode cX9_press 101 = .ok (.getfield 10, 3) := by decide +kernel
theorem dX9_press_104 : decode cX9_press 104 = .ok (.getfield 150, 3) := by decide +kernel
theorem dX9_press_107 : decode cX9_press 107 = .ok (.iload_n 3, 1) := by decide +kernel
theorem dX9_press_108 : decode cX9_press 108 = .ok (.iaload, 1) := by decide +kernel
theorem dX9_press_109 : decode cX9_press 109 = .ok (.aload_n 0, 1) := by decide +kernel
theorem dX9_press_110 : decode cX9_press 110 = .ok (.getfield 10, 3) := by decide +kernel
theorem dX9_press_113 : decode cX9_press 113 = .ok (.getfield 153, 3) := by decide +kernel
theorem dX9_press_116 : decode cX9_press 116 = .ok (.iload_n 3, 1) := by decide +kernel
theorem dX9_press_117 : decode cX9_press 117 = .ok (.iaload, 1) := by decide +kernel
theorem dX9_press_118 : decode cX9_press 118 = .ok (.aload_n 0, 1) := by decide +kernel
theorem dX9_press_119 : decode cX9_press 119 = .ok (.getfield 79, 3) := by decide +kernel
theorem dX9_press_122 : decode cX9_press 122 = .ok (.invokevirtual 156, 3) := by decide +kernel
theorem dX9_press_125 : decode cX9_press 125 = .ok (.aload_n 0, 1) := by decide +kernel
theorem dX9_press_126 : decode cX9_press 126 = .ok (.getfield 58, 3) := by decide +kernel
theorem dX9_press_129 : decode cX9_press 129 = .ok (.aload_n 0, 1) := by decide +kernel
theorem dX9_press_130 : decode cX9_press 130 = .ok (.getfield 37, 3) := by decide +kernel
theorem dX9_press_133 : decode cX9_press 133 = .ok (.invokevirtual 159, 3) := by decide +kernel
theorem dX9_press_136 : decode cX9_press 136 = .ok (.aload_n 0, 1) := by decide +kernel
theorem dX9_press_137 : decode cX9_press 137 = .ok (.getfield 19, 3) := by decide +kernel
theorem dX9_press_140 : decode cX9_press 140 = .ok (.iload_n 3, 1) := by decide +kernel
theorem dX9_press_141 : decode cX9_press 141 = .ok (.aload_n 0, 1) := by decide +kernel
theorem dX9_press_142 : decode cX9_press 142 = .ok (.getfield 44, 3) := by decide +kernel
theorem dX9_press_145 : decode cX9_press 145 = .ok (.getfield 163, 3) := by decide +kernel
theorem dX9_press_148 : decode cX9_press 148 = .ok (.invokevirtual 166, 3) := by decide +kernel
theorem dX9_press_151 : decode cX9_press 151 = .ok (.aload_n 0, 1) := by decide +kernel
theorem dX9_press_152 : decode cX9_press 152 = .ok (.getfield 26, 3) := by decide +kernel
theorem dX9_press_155 : decode cX9_press 155 = .ok (.iload_n 1, 1) := by decide +kernel
theorem dX9_press_156 : decode cX9_press 156 = .ok (.invokevirtual 170, 3) := by decide +kernel
theorem dX9_press_159 : decode cX9_press 159 = .ok (.aload_n 0, 1) := by decide +kernel
theorem dX9_press_160 : decode cX9_press 160 = .ok (.dup, 1) := by decide +kernel
theorem dX9_press_161 : decode cX9_press 161 = .ok (.getfield 79, 3) := by decide +kernel
theorem dX9_press_164 : decode cX9_press 164 = .ok (.iconst 1, 1) := by decide +kernel
theorem dX9_press_165 : decode cX9_press 165 = .ok (.iadd, 1) := by decide +kernel
theorem dX9_press_166 : decode cX9_press 166 = .ok (.putfield 79, 3) := by decide +kernel
theorem dX9_press_169 : decode cX9_press 169 = .ok (.aload_n 0, 1) := by decide +kernel
theorem dX9_press_170 : decode cX9_press 170 = .ok (.getfield 37, 3) := by decide +kernel
theorem dX9_press_173 : decode cX9_press 173 = .ok (.getfield 174, 3) := by decide +kernel
theorem dX9_press_176 : decode cX9_press 176 = .ok (.ireturn, 1) := by decide +kernel
theorem dX9_bar_0 : decode cX9_bar 0 = .ok (.aload_n 0, 1) := by decide +kernel
theorem dX9_bar_1 : decode cX9_bar 1 = .ok (.getfield 51, 3) := by decide +kernel
theorem dX9_bar_4 : decode cX9_bar 4 = .ok (.iload_n 1, 1) := by decide +kernel
theorem dX9_bar_5 : decode cX9_bar 5 = .ok (.invokevirtual 177, 3) := by decide +kernel
theorem dX9_bar_8 : decode cX9_bar 8 = .ok (.ifCond .ne 6, 3) := by decide +kernel
theorem dX9_bar_11 : decode cX9_bar 11 = .ok (.bipush (-2), 2) := by decide +kernel
theorem dX9_bar_13 : decode cX9_bar 13 = .ok (.ireturn, 1) := by decide +kernel
theorem dX9_bar_14 : decode cX9_bar 14 = .ok (.iload_n 2, 1) := by decide +kernel
theorem dX9_bar_15 : decode cX9_bar 15 = .ok (.tableswitch 111 0 6 #[41, 51, 61, 71, 81, 91, 101], 41) := by decide +kernel
theorem dX9_bar_56 : decode cX9_bar 56 = .ok (.aload_n 0, 1) := by decide +kernel
theorem dX9_bar_57 : decode cX9_bar 57 = .ok (.getfield 51, 3) := by decide +kernel
theorem dX9_bar_60 : decode cX9_bar 60 = .ok (.getfield 178, 3) := by decide +kernel
theorem dX9_bar_63 : decode cX9_bar 63 = .ok (.iload_n 1, 1) := by decide +kernel
theorem dX9_bar_64 : decode cX9_bar 64 = .ok (.iaload, 1) := by decide +kernel
theorem dX9_bar_65 : decode cX9_bar 65 = .ok (.ireturn, 1) := by decide +kernel
theorem dX9_bar_66 : decode cX9_bar 66 = .ok (.aload_n 0, 1) := by decide +kernel
theorem dX9_bar_67 : decode cX9_bar 67 = .ok (.getfield 51, 3) := by decide +kernel
theorem dX9_bar_70 : decode cX9_bar 70 = .ok (.getfield 181, 3) := by decide +kernel
theorem dX9_bar_73 : decode cX9_bar 73 = .ok (.iload_n 1, 1) := by decide +kernel
theorem dX9_bar_74 : decode cX9_bar 74 = .ok (.iaload, 1) := by decide +kernel
theorem dX9_bar_75 : decode cX9_bar 75 = .ok (.ireturn, 1) := by decide +kernel
theorem dX9_bar_76 : decode cX9_bar 76 = .ok (.aload_n 0, 1) := by decide +kernel
theorem dX9_bar_77 : decode cX9_bar 77 = .ok (.getfield 51, 3) := by decide +kernel
theorem dX9_bar_80 : decode cX9_bar 80 = .ok (.getfield 184, 3) := by decide +kernel
theorem dX9_bar_83 : decode cX9_bar 83 = .ok (.iload_n 1, 1) := by decide +kernel
theorem dX9_bar_84 : decode cX9_bar 84 = .ok (.iaload, 1) := by decide +kernel
theorem dX9_bar_85 : decode cX9_bar 85 = .ok (.ireturn, 1) := by decide +kernel
theorem dX9_bar_86 : decode cX9_bar 86 = .ok (.aload_n 0, 1) := by decide +kernel
theorem dX9_bar_87 : decode cX9_bar 87 = .ok (.getfield 51, 3) := by decide +kernel
theorem dX9_bar_90 : decode cX9_bar 90 = .ok (.getfield 187, 3) := by decide +kernel
theorem dX9_bar_93 : decode cX9_bar 93 = .ok (.iload_n 1, 1) := by decide +kernel
theorem dX9_bar_94 : decode cX9_bar 94 = .ok (.iaload, 1) := by decide +kernel
theorem dX9_bar_95 : decode cX9_bar 95 = .ok (.ireturn, 1) := by decide +kernel
theorem dX9_bar_96 : decode cX9_bar 96 = .ok (.aload_n 0, 1) := by decide +kernel
theorem dX9_bar_97 : decode cX9_bar 97 = .ok (.getfield 51, 3) := by decide +kernel
theorem dX9_bar_100 : decode cX9_bar 100 = .ok (.getfield 189, 3) := by decide +kernel
theorem dX9_bar_103 : decode cX9_bar 103 = .ok (.iload_n 1, 1) := by decide +kernel
theorem dX9_bar_104 : decode cX9_bar 104 = .ok (.iaload, 1) := by decide +kernel
theorem dX9_bar_105 : decode cX9_bar 105 = .ok (.ireturn, 1) := by decide +kernel
theorem dX9_bar_106 : decode cX9_bar 106 = .ok (.aload_n 0, 1) := by decide +kernel
theorem dX9_bar_107 : decode cX9_bar 107 = .ok (.getfield 51, 3) := by decide +kernel
theorem dX9_bar_110 : decode cX9_bar 110 = .ok (.getfield 192, 3) := by decide +kernel
theorem dX9_bar_113 : decode cX9_bar 113 = .ok (.iload_n 1, 1) := by decide +kernel
theorem dX9_bar_114 : decode cX9_bar 114 = .ok (.iaload, 1) := by decide +kernel
theorem dX9_bar_115 : decode cX9_bar 115 = .ok (.ireturn, 1) := by decide +kernel
theorem dX9_bar_116 : decode cX9_bar 116 = .ok (.aload_n 0, 1) := by decide +kernel
theorem dX9_bar_117 : decode cX9_bar 117 = .ok (.getfield 51, 3) := by decide +kernel
theorem dX9_bar_120 : decode cX9_bar 120 = .ok (.getfield 195, 3) := by decide +kernel
theorem dX9_bar_123 : decode cX9_bar 123 = .ok (.iload_n 1, 1) := by decide +kernel
theorem dX9_bar_124 : decode cX9_bar 124 = .ok (.iaload, 1) := by decide +kernel
theorem dX9_bar_125 : decode cX9_bar 125 = .ok (.ireturn, 1) := by decide +kernel
theorem dX9_bar_126 : decode cX9_bar 126 = .ok (.bipush (-2), 2) := by decide +kernel
theorem dX9_bar_128 : decode cX9_bar 128 = .ok (.ireturn, 1) := by decide +kernel
theorem dX9_order_0 : decode cX9_order 0 = .ok (.aload_n 0, 1) := by decide +kernel
theorem dX9_order_1 : decode cX9_order 1 = .ok (.getfield 10, 3) := by decide +kernel
theorem dX9_order_4 : decode cX9_order 4 = .ok (.iload_n 1, 1) := by decide +kernel
theorem dX9_order_5 : decode cX9_order 5 = .ok (.invokevirtual 101, 3) := by decide +kernel
theorem dX9_order_8 : decode cX9_order 8 = .ok (.ifCond .eq 26, 3) := by decide +kernel
theorem dX9_order_11 : decode cX9_order 11 = .ok (.iload_n 2, 1) := by decide +kernel
theorem dX9_order_12 : decode cX9_order 12 = .ok (.bipush 100, 2) := by decide +kernel
theorem dX9_order_14 : decode cX9_order 14 = .ok (.sipush 9000, 3) := by decide +kernel
theorem dX9_order_17 : decode cX9_order 17 = .ok (.invokestatic 93, 3) := by decide +kernel
theorem dX9_order_20 : decode cX9_order 20 = .ok (.ifCond .eq 14, 3) := by decide +kernel
theorem dX9_order_23 : decode cX9_order 23 = .ok (.iload_n 3, 1) := by decide +kernel
theorem dX9_order_24 : decode cX9_order 24 = .ok (.iconst 0, 1) := by decide +kernel
theorem dX9_order_25 : decode cX9_order 25 = .ok (.sipush 500, 3) := by decide +kernel
theorem dX9_order_28 : decode cX9_order 28 = .ok (.invokestatic 93, 3) := by decide +kernel
theorem dX9_order_31 : decode cX9_order 31 = .ok (.ifCond .ne 6, 3) := by decide +kernel
theorem dX9_order_34 : decode cX9_order 34 = .ok (.bipush (-2), 2) := by decide +kernel
theorem dX9_order_36 : decode cX9_order 36 = .ok (.ireturn, 1) := by decide +kernel
theorem dX9_order_37 : decode cX9_order 37 = .ok (.aload_n 0, 1) := by decide +kernel
theorem dX9_order_38 : decode cX9_order 38 = .ok (.getfield 19, 3) := by decide +kernel
theorem dX9_order_41 : decode cX9_order 41 = .ok (.iload_n 1, 1) := by decide +kernel
theorem dX9_order_42 : decode cX9_order 42 = .ok (.iload_n 2, 1) := by decide +kernel
theorem dX9_order_43 : decode cX9_order 43 = .ok (.iload_n 3, 1) := by decide +kernel
theorem dX9_order_44 : decode cX9_order 44 = .ok (.invokevirtual 198, 3) := by decide +kernel
theorem dX9_order_47 : decode cX9_order 47 = .ok (.ireturn, 1) := by decide +kernel
theorem dX9_wanted_0 : decode cX9_wanted 0 = .ok (.aload_n 0, 1) := by decide +kernel
theorem dX9_wanted_1 : decode cX9_wanted 1 = .ok (.getfield 10, 3) := by decide +kernel
theorem dX9_wanted_4 : decode cX9_wanted 4 = .ok (.iload_n 1, 1) := by decide +kernel
theorem dX9_wanted_5 : decode cX9_wanted 5 = .ok (.invokevirtual 101, 3) := by decide +kernel
theorem dX9_wanted_8 : decode cX9_wanted 8 = .ok (.ifCond .eq 22, 3) := by decide +kernel
theorem dX9_wanted_11 : decode cX9_wanted 11 = .ok (.iload_n 2, 1) := by decide +kernel
theorem dX9_wanted_12 : decode cX9_wanted 12 = .ok (.iconst 0, 1) := by decide +kernel
theorem dX9_wanted_13 : decode cX9_wanted 13 = .ok (.aload_n 0, 1) := by decide +kernel
theorem dX9_wanted_14 : decode cX9_wanted 14 = .ok (.getfield 19, 3) := by decide +kernel
theorem dX9_wanted_17 : decode cX9_wanted 17 = .ok (.getfield 201, 3) := by decide +kernel
theorem dX9_wanted_20 : decode cX9_wanted 20 = .ok (.iload_n 1, 1) := by decide +kernel
theorem dX9_wanted_21 : decode cX9_wanted 21 = .ok (.iaload, 1) := by decide +kernel
theorem dX9_wanted_22 : decode cX9_wanted 22 = .ok (.iconst 1, 1) := by decide +kernel
theorem dX9_wanted_23 : decode cX9_wanted 23 = .ok (.isub, 1) := by decide +kernel
theorem dX9_wanted_24 : decode cX9_wanted 24 = .ok (.invokestatic 93, 3) := by decide +kernel
theorem dX9_wanted_27 : decode cX9_wanted 27 = .ok (.ifCond .ne 6, 3) := by decide +kernel
theorem dX9_wanted_30 : decode cX9_wanted 30 = .ok (.bipush (-2), 2) := by decide +kernel
theorem dX9_wanted_32 : decode cX9_wanted 32 = .ok (.ireturn, 1) := by decide +kernel
theorem dX9_wanted_33 : decode cX9_wanted 33 = .ok (.aload_n 0, 1) := by decide +kernel
theorem dX9_wanted_34 : decode cX9_wanted 34 = .ok (.getfield 19, 3) := by decide +kernel
theorem dX9_wanted_37 : decode cX9_wanted 37 = .ok (.getfield 203, 3) := by decide +kernel
theorem dX9_wanted_40 : decode cX9_wanted 40 = .ok (.iload_n 1, 1) := by decide +kernel
theorem dX9_wanted_41 : decode cX9_wanted 41 = .ok (.iconst 3, 1) := by decide +kernel
theorem dX9_wanted_42 : decode cX9_wanted 42 = .ok (.imul, 1) := by decide +kernel
theorem dX9_wanted_43 : decode cX9_wanted 43 = .ok (.iload_n 2, 1) := by decide +kernel
theorem dX9_wanted_44 : decode cX9_wanted 44 = .ok (.iadd, 1) := by decide +kernel
theorem dX9_wanted_45 : decode cX9_wanted 45 = .ok (.iaload, 1) := by decide +kernel
theorem dX9_wanted_46 : decode cX9_wanted 46 = .ok (.ireturn, 1) := by decide +kernel
theorem dX9_pattern_0 : decode cX9_pattern 0 = .ok (.aload_n 0, 1) := by decide +kernel
theorem dX9_pattern_1 : decode cX9_pattern 1 = .ok (.getfield 10, 3) := by decide +kernel
theorem dX9_pattern_4 : decode cX9_pattern 4 = .ok (.iload_n 1, 1) := by decide +kernel
theorem dX9_pattern_5 : decode cX9_pattern 5 = .ok (.invokevirtual 101, 3) := by decide +kernel
theorem dX9_pattern_8 : decode cX9_pattern 8 = .ok (.ifCond .eq 22, 3) := by decide +kernel
theorem dX9_pattern_11 : decode cX9_pattern 11 = .ok (.iload_n 2, 1) := by decide +kernel
theorem dX9_pattern_12 : decode cX9_pattern 12 = .ok (.iconst 0, 1) := by decide +kernel
theorem dX9_pattern_13 : decode cX9_pattern 13 = .ok (.ldc 206, 2) := by decide +kernel
theorem dX9_pattern_15 : decode cX9_pattern 15 = .ok (.invokestatic 93, 3) := by decide +kernel
theorem dX9_pattern_18 : decode cX9_pattern 18 = .ok (.ifCond .eq 12, 3) := by decide +kernel
theorem dX9_pattern_21 : decode cX9_pattern 21 = .ok (.iload_n 3, 1) := by decide +kernel
theorem dX9_pattern_22 : decode cX9_pattern 22 = .ok (.iconst 0, 1) := by decide +kernel
theorem dX9_pattern_23 : decode cX9_pattern 23 = .ok (.iconst 3, 1) := by decide +kernel
theorem dX9_pattern_24 : decode cX9_pattern 24 = .ok (.invokestatic 93, 3) := by decide +kernel
theorem dX9_pattern_27 : decode cX9_pattern 27 = .ok (.ifCond .ne 6, 3) := by decide +kernel
theorem dX9_pattern_30 : decode cX9_pattern 30 = .ok (.bipush (-2), 2) := by decide +kernel
theorem dX9_pattern_32 : decode cX9_pattern 32 = .ok (.ireturn, 1) := by decide +kernel
theorem dX9_pattern_33 : decode cX9_pattern 33 = .ok (.aload_n 0, 1) := by decide +kernel
theorem dX9_pattern_34 : decode cX9_pattern 34 = .ok (.getfield 44, 3) := by decide +kernel
theorem dX9_pattern_37 : decode cX9_pattern 37 = .ok (.aload_n 0, 1) := by decide +kernel
theorem dX9_pattern_38 : decode cX9_pattern 38 = .ok (.getfield 19, 3) := by decide +kernel
theorem dX9_pattern_41 : decode cX9_pattern 41 = .ok (.iload_n 1, 1) := by decide +kernel
theorem dX9_pattern_42 : decode cX9_pattern 42 = .ok (.iload_n 2, 1) := by decide +kernel
theorem dX9_pattern_43 : decode cX9_pattern 43 = .ok (.aload_n 0, 1) := by decide +kernel
theorem dX9_pattern_44 : decode cX9_pattern 44 = .ok (.getfield 30, 3) := by decide +kernel
theorem dX9_pattern_47 : decode cX9_pattern 47 = .ok (.iconst 4, 1) := by decide +kernel
theorem dX9_pattern_48 : decode cX9_pattern 48 = .ok (.iaload, 1) := by decide +kernel
theorem dX9_pattern_49 : decode cX9_pattern 49 = .ok (.invokevirtual 207, 3) := by decide +kernel
theorem dX9_pattern_52 : decode cX9_pattern 52 = .ok (.iload_n 3, 1) := by decide +kernel
theorem dX9_pattern_53 : decode cX9_pattern 53 = .ok (.iconst 3, 1) := by decide +kernel
theorem dX9_pattern_54 : decode cX9_pattern 54 = .ok (.if_icmp .ne 13, 3) := by decide +kernel
theorem dX9_pattern_57 : decode cX9_pattern 57 = .ok (.aload_n 0, 1) := by decide +kernel
theorem dX9_pattern_58 : decode cX9_pattern 58 = .ok (.getfield 44, 3) := by decide +kernel
theorem dX9_pattern_61 : decode cX9_pattern 61 = .ok (.getfield 211, 3) := by decide +kernel
theorem dX9_pattern_64 : decode cX9_pattern 64 = .ok (.goto 12, 3) := by decide +kernel
theorem dX9_pattern_67 : decode cX9_pattern 67 = .ok (.aload_n 0, 1) := by decide +kernel
theorem dX9_pattern_68 : decode cX9_pattern 68 = .ok (.getfield 44, 3) := by decide +kernel
theorem dX9_pattern_71 : decode cX9_pattern 71 = .ok (.getfield 163, 3) := by decide +kernel
theorem dX9_pattern_74 : decode cX9_pattern 74 = .ok (.iload_n 3, 1) := by decide +kernel
theorem dX9_pattern_75 : decode cX9_pattern 75 = .ok (.iaload, 1) := by decide +kernel
theorem dX9_pattern_76 : decode cX9_pattern 76 = .ok (.ireturn, 1) := by decide +kernel
theorem dX9_account_0 : decode cX9_account 0 = .ok (.iload_n 1, 1) := by decide +kernel
theorem dX9_account_1 : decode cX9_account 1 = .ok (.tableswitch 99 0 6 #[43, 51, 59, 67, 75, 83, 91], 43) := by decide +kernel
theorem dX9_account_44 : decode cX9_account 44 = .ok (.aload_n 0, 1) := by decide +kernel
theorem dX9_account_45 : decode cX9_account 45 = .ok (.getfield 58, 3) := by decide +kernel
theorem dX9_account_48 : decode cX9_account 48 = .ok (.getfield 212, 3) := by decide +kernel
theorem dX9_account_51 : decode cX9_account 51 = .ok (.ireturn, 1) := by decide +kernel
theorem dX9_account_52 : decode cX9_account 52 = .ok (.aload_n 0, 1) := by decide +kernel
theorem dX9_account_53 : decode cX9_account 53 = .ok (.getfield 58, 3) := by decide +kernel
theorem dX9_account_56 : decode cX9_account 56 = .ok (.getfield 215, 3) := by decide +kernel
theorem dX9_account_59 : decode cX9_account 59 = .ok (.ireturn, 1) := by decide +kernel
theorem dX9_account_60 : decode cX9_account 60 = .ok (.aload_n 0, 1) := by decide +kernel
theorem dX9_account_61 : decode cX9_account 61 = .ok (.getfield 58, 3) := by decide +kernel
theorem dX9_account_64 : decode cX9_account 64 = .ok (.getfield 218, 3) := by decide +kernel
theorem dX9_account_67 : decode cX9_account 67 = .ok (.ireturn, 1) := by decide +kernel
theorem dX9_account_68 : decode cX9_account 68 = .ok (.aload_n 0, 1) := by decide +kernel
theorem dX9_account_69 : decode cX9_account 69 = .ok (.getfield 58, 3) := by decide +kernel
theorem dX9_account_72 : decode cX9_account 72 = .ok (.getfield 221, 3) := by decide +kernel
theorem dX9_account_75 : decode cX9_account 75 = .ok (.ireturn, 1) := by decide +kernel
theorem dX9_account_76 : decode cX9_account 76 = .ok (.aload_n 0, 1) := by decide +kernel
theorem dX9_account_77 : decode cX9_account 77 = .ok (.getfield 58, 3) := by decide +kernel
theorem dX9_account_80 : decode cX9_account 80 = .ok (.getfield 222, 3) := by decide +kernel
theorem dX9_account_83 : decode cX9_account 83 = .ok (.ireturn, 1) := by decide +kernel
theorem dX9_account_84 : decode cX9_account 84 = .ok (.aload_n 0, 1) := by decide +kernel
theorem dX9_account_85 : decode cX9_account 85 = .ok (.getfield 58, 3) := by decide +kernel
theorem dX9_account_88 : decode cX9_account 88 = .ok (.getfield 224, 3) := by decide +kernel
theorem dX9_account_91 : decode cX9_account 91 = .ok (.ireturn, 1) := by decide +kernel
theorem dX9_account_92 : decode cX9_account 92 = .ok (.aload_n 0, 1) := by decide +kernel
theorem dX9_account_93 : decode cX9_account 93 = .ok (.getfield 58, 3) := by decide +kernel
theorem dX9_account_96 : decode cX9_account 96 = .ok (.getfield 227, 3) := by decide +kernel
theorem dX9_account_99 : decode cX9_account 99 = .ok (.ireturn, 1) := by decide +kernel
theorem dX9_account_100 : decode cX9_account 100 = .ok (.bipush (-2), 2) := by decide +kernel
theorem dX9_account_102 : decode cX9_account 102 = .ok (.ireturn, 1) := by decide +kernel
theorem dX9_stock_0 : decode cX9_stock 0 = .ok (.iload_n 1, 1) := by decide +kernel
theorem dX9_stock_1 : decode cX9_stock 1 = .ok (.sipush 200, 3) := by decide +kernel
theorem dX9_stock_4 : decode cX9_stock 4 = .ok (.sipush 1200, 3) := by decide +kernel
theorem dX9_stock_7 : decode cX9_stock 7 = .ok (.invokestatic 93, 3) := by decide +kernel
theorem dX9_stock_10 : decode cX9_stock 10 = .ok (.ifCond .ne 6, 3) := by decide +kernel
theorem dX9_stock_13 : decode cX9_stock 13 = .ok (.bipush (-2), 2) := by decide +kernel
theorem dX9_stock_15 : decode cX9_stock 15 = .ok (.ireturn, 1) := by decide +kernel
theorem dX9_stock_16 : decode cX9_stock 16 = .ok (.aload_n 0, 1) := by decide +kernel
theorem dX9_stock_17 : decode cX9_stock 17 = .ok (.getfield 83, 3) := by decide +kernel
theorem dX9_stock_20 : decode cX9_stock 20 = .ok (.bipush 6, 2) := by decide +kernel
theorem dX9_stock_22 : decode cX9_stock 22 = .ok (.if_icmp .lt 6, 3) := by decide +kernel
theorem dX9_stock_25 : decode cX9_stock 25 = .ok (.bipush (-4), 2) := by decide +kernel
theorem dX9_stock_27 : decode cX9_stock 27 = .ok (.ireturn, 1) := by decide +kernel
theorem dX9_stock_28 : decode cX9_stock 28 = .ok (.aload_n 0, 1) := by decide +kernel
theorem dX9_stock_29 : decode cX9_stock 29 = .ok (.getfield 62, 3) := by decide +kernel
theorem dX9_stock_32 : decode cX9_stock 32 = .ok (.aload_n 0, 1) := by decide +kernel
theorem dX9_stock_33 : decode cX9_stock 33 = .ok (.getfield 83, 3) := by decide +kernel
theorem dX9_stock_36 : decode cX9_stock 36 = .ok (.iload_n 1, 1) := by decide +kernel
theorem dX9_stock_37 : decode cX9_stock 37 = .ok (.iastore, 1) := by decide +kernel
theorem dX9_stock_38 : decode cX9_stock 38 = .ok (.aload_n 0, 1) := by decide +kernel
theorem dX9_stock_39 : decode cX9_stock 39 = .ok (.dup, 1) := by decide +kernel
theorem dX9_stock_40 : decode cX9_stock 40 = .ok (.getfield 83, 3) := by decide +kernel
theorem dX9_stock_43 : decode cX9_stock 43 = .ok (.iconst 1, 1) := by decide +kernel
theorem dX9_stock_44 : decode cX9_stock 44 = .ok (.iadd, 1) := by decide +kernel
theorem dX9_stock_45 : decode cX9_stock 45 = .ok (.putfield 83, 3) := by decide +kernel
theorem dX9_stock_48 : decode cX9_stock 48 = .ok (.aload_n 0, 1) := by decide +kernel
theorem dX9_stock_49 : decode cX9_stock 49 = .ok (.getfield 83, 3) := by decide +kernel
theorem dX9_stock_52 : decode cX9_stock 52 = .ok (.ireturn, 1) := by decide +kernel
theorem dX9_best_0 : decode cX9_best 0 = .ok (.aload_n 0, 1) := by decide +kernel
theorem dX9_best_1 : decode cX9_best 1 = .ok (.getfield 26, 3) := by decide +kernel
theorem dX9_best_4 : decode cX9_best 4 = .ok (.iload_n 1, 1) := by decide +kernel
theorem dX9_best_5 : decode cX9_best 5 = .ok (.invokevirtual 108, 3) := by decide +kernel
theorem dX9_best_8 : decode cX9_best 8 = .ok (.ifCond .ne 6, 3) := by decide +kernel
theorem dX9_best_11 : decode cX9_best 11 = .ok (.bipush (-2), 2) := by decide +kernel
theorem dX9_best_13 : decode cX9_best 13 = .ok (.ireturn, 1) := by decide +kernel
theorem dX9_best_14 : decode cX9_best 14 = .ok (.iconst (-1), 1) := by decide +kernel
theorem dX9_best_15 : decode cX9_best 15 = .ok (.istore_n 3, 1) := by decide +kernel
theorem dX9_best_16 : decode cX9_best 16 = .ok (.iconst 0, 1) := by decide +kernel
theorem dX9_best_17 : decode cX9_best 17 = .ok (.istore 4, 2) := by decide +kernel
theorem dX9_best_19 : decode cX9_best 19 = .ok (.iconst 0, 1) := by decide +kernel
theorem dX9_best_20 : decode cX9_best 20 = .ok (.istore 5, 2) := by decide +kernel
theorem dX9_best_22 : decode cX9_best 22 = .ok (.iload 5, 2) := by decide +kernel
theorem dX9_best_24 : decode cX9_best 24 = .ok (.aload_n 0, 1) := by decide +kernel
theorem dX9_best_25 : decode cX9_best 25 = .ok (.getfield 83, 3) := by decide +kernel
theorem dX9_best_28 : decode cX9_best 28 = .ok (.if_icmp .ge 64, 3) := by decide +kernel
theorem dX9_best_31 : decode cX9_best 31 = .ok (.aload_n 0, 1) := by decide +kernel
theorem dX9_best_32 : decode cX9_best 32 = .ok (.getfield 62, 3) := by decide +kernel
theorem dX9_best_35 : decode cX9_best 35 = .ok (.iload 5, 2) := by decide +kernel
theorem dX9_best_37 : decode cX9_best 37 = .ok (.iaload, 1) := by decide +kernel
theorem dX9_best_38 : decode cX9_best 38 = .ok (.istore 6, 2) := by decide +kernel
theorem dX9_best_40 : decode cX9_best 40 = .ok (.aload_n 0, 1) := by decide +kernel
theorem dX9_best_41 : decode cX9_best 41 = .ok (.aload_n 0, 1) := by decide +kernel
theorem dX9_best_42 : decode cX9_best 42 = .ok (.getfield 26, 3) := by decide +kernel
theorem dX9_best_45 : decode cX9_best 45 = .ok (.getfield 121, 3) := by decide +kernel
theorem dX9_best_48 : decode cX9_best 48 = .ok (.iload_n 1, 1) := by decide +kernel
theorem dX9_best_49 : decode cX9_best 49 = .ok (.iaload, 1) := by decide +kernel
theorem dX9_best_50 : decode cX9_best 50 = .ok (.iload 6, 2) := by decide +kernel
theorem dX9_best_52 : decode cX9_best 52 = .ok (.iload_n 2, 1) := by decide +kernel
theorem dX9_best_53 : decode cX9_best 53 = .ok (.invokevirtual 146, 3) := by decide +kernel
theorem dX9_best_56 : decode cX9_best 56 = .ok (.aload_n 0, 1) := by decide +kernel
theorem dX9_best_57 : decode cX9_best 57 = .ok (.getfield 37, 3) := by decide +kernel
theorem dX9_best_60 : decode cX9_best 60 = .ok (.getfield 174, 3) := by decide +kernel
theorem dX9_best_63 : decode cX9_best 63 = .ok (.iload 6, 2) := by decide +kernel
theorem dX9_best_65 : decode cX9_best 65 = .ok (.iload 4, 2) := by decide +kernel
theorem dX9_best_67 : decode cX9_best 67 = .ok (.iload_n 3, 1) := by decide +kernel
theorem dX9_best_68 : decode cX9_best 68 = .ok (.invokestatic 230, 3) := by decide +kernel
theorem dX9_best_71 : decode cX9_best 71 = .ok (.ifCond .eq 15, 3) := by decide +kernel
theorem dX9_best_74 : decode cX9_best 74 = .ok (.iload 6, 2) := by decide +kernel
theorem dX9_best_76 : decode cX9_best 76 = .ok (.istore_n 3, 1) := by decide +kernel
theorem dX9_best_77 : decode cX9_best 77 = .ok (.aload_n 0, 1) := by decide +kernel
theorem dX9_best_78 : decode cX9_best 78 = .ok (.getfield 37, 3) := by decide +kernel
theorem dX9_best_81 : decode cX9_best 81 = .ok (.getfield 174, 3) := by decide +kernel
theorem dX9_best_84 : decode cX9_best 84 = .ok (.istore 4, 2) := by decide +kernel
theorem dX9_best_86 : decode cX9_best 86 = .ok (.iinc 5 1, 3) := by decide +kernel
theorem dX9_best_89 : decode cX9_best 89 = .ok (.goto (-67), 3) := by decide +kernel
theorem dX9_best_92 : decode cX9_best 92 = .ok (.iload_n 3, 1) := by decide +kernel
theorem dX9_best_93 : decode cX9_best 93 = .ok (.ireturn, 1) := by decide +kernel
theorem dX9_job_0 : decode cX9_job 0 = .ok (.aload_n 0, 1) := by decide +kernel
theorem dX9_job_1 : decode cX9_job 1 = .ok (.getfield 10, 3) := by decide +kernel
theorem dX9_job_4 : decode cX9_job 4 = .ok (.iload_n 1, 1) := by decide +kernel
theorem dX9_job_5 : decode cX9_job 5 = .ok (.invokevirtual 101, 3) := by decide +kernel
theorem dX9_job_8 : decode cX9_job 8 = .ok (.ifCond .eq 24, 3) := by decide +kernel
theorem dX9_job_11 : decode cX9_job 11 = .ok (.iload_n 2, 1) := by decide +kernel
theorem dX9_job_12 : decode cX9_job 12 = .ok (.iconst 1, 1) := by decide +kernel
theorem dX9_job_13 : decode cX9_job 13 = .ok (.bipush 50, 2) := by decide +kernel
theorem dX9_job_15 : decode cX9_job 15 = .ok (.invokestatic 93, 3) := by decide +kernel
theorem dX9_job_18 : decode cX9_job 18 = .ok (.ifCond .eq 14, 3) := by decide +kernel
theorem dX9_job_21 : decode cX9_job 21 = .ok (.iload_n 3, 1) := by decide +kernel
theorem dX9_job_22 : decode cX9_job 22 = .ok (.iconst 0, 1) := by decide +kernel
theorem dX9_job_23 : decode cX9_job 23 = .ok (.sipush 1000, 3) := by decide +kernel
theorem dX9_job_26 : decode cX9_job 26 = .ok (.invokestatic 93, 3) := by decide +kernel
theorem dX9_job_29 : decode cX9_job 29 = .ok (.ifCond .ne 6, 3) := by decide +kernel
theorem dX9_job_32 : decode cX9_job 32 = .ok (.bipush (-2), 2) := by decide +kernel
theorem dX9_job_34 : decode cX9_job 34 = .ok (.ireturn, 1) := by decide +kernel
theorem dX9_job_35 : decode cX9_job 35 = .ok (.aload_n 0, 1) := by decide +kernel
theorem dX9_job_36 : decode cX9_job 36 = .ok (.getfield 68, 3) := by decide +kernel
theorem dX9_job_39 : decode cX9_job 39 = .ok (.aload_n 0, 1) := by decide +kernel
theorem dX9_job_40 : decode cX9_job 40 = .ok (.getfield 10, 3) := by decide +kernel
theorem dX9_job_43 : decode cX9_job 43 = .ok (.getfield 234, 3) := by decide +kernel
theorem dX9_job_46 : decode cX9_job 46 = .ok (.iload_n 1, 1) := by decide +kernel
theorem dX9_job_47 : decode cX9_job 47 = .ok (.iaload, 1) := by decide +kernel
theorem dX9_job_48 : decode cX9_job 48 = .ok (.iload_n 2, 1) := by decide +kernel
theorem dX9_job_49 : decode cX9_job 49 = .ok (.iload_n 3, 1) := by decide +kernel
theorem dX9_job_50 : decode cX9_job 50 = .ok (.invokevirtual 237, 3) := by decide +kernel
theorem dX9_job_53 : decode cX9_job 53 = .ok (.ireturn, 1) := by decide +kernel
theorem dX9_change_0 : decode cX9_change 0 = .ok (.iload_n 1, 1) := by decide +kernel
theorem dX9_change_1 : decode cX9_change 1 = .ok (.iconst 0, 1) := by decide +kernel
theorem dX9_change_2 : decode cX9_change 2 = .ok (.bipush 20, 2) := by decide +kernel
theorem dX9_change_4 : decode cX9_change 4 = .ok (.invokestatic 93, 3) := by decide +kernel
theorem dX9_change_7 : decode cX9_change 7 = .ok (.ifCond .ne 6, 3) := by decide +kernel
theorem dX9_change_10 : decode cX9_change 10 = .ok (.bipush (-2), 2) := by decide +kernel
theorem dX9_change_12 : decode cX9_change 12 = .ok (.ireturn, 1) := by decide +kernel
theorem dX9_change_13 : decode cX9_change 13 = .ok (.aload_n 0, 1) := by decide +kernel
theorem dX9_change_14 : decode cX9_change 14 = .ok (.getfield 68, 3) := by decide +kernel
theorem dX9_change_17 : decode cX9_change 17 = .ok (.iload_n 1, 1) := by decide +kernel
theorem dX9_change_18 : decode cX9_change 18 = .ok (.invokevirtual 238, 3) := by decide +kernel
theorem dX9_change_21 : decode cX9_change 21 = .ok (.ireturn, 1) := by decide +kernel
theorem dX9_late_0 : decode cX9_late 0 = .ok (.aload_n 0, 1) := by decide +kernel
theorem dX9_late_1 : decode cX9_late 1 = .ok (.getfield 68, 3) := by decide +kernel
theorem dX9_late_4 : decode cX9_late 4 = .ok (.invokevirtual 242, 3) := by decide +kernel
theorem dX9_late_7 : decode cX9_late 7 = .ok (.aload_n 0, 1) := by decide +kernel
theorem dX9_late_8 : decode cX9_late 8 = .ok (.getfield 68, 3) := by decide +kernel
theorem dX9_late_11 : decode cX9_late 11 = .ok (.getfield 245, 3) := by decide +kernel
theorem dX9_late_14 : decode cX9_late 14 = .ok (.ireturn, 1) := by decide +kernel
theorem dX9_planned_0 : decode cX9_planned 0 = .ok (.iload_n 1, 1) := by decide +kernel
theorem dX9_planned_1 : decode cX9_planned 1 = .ok (.iconst 0, 1) := by decide +kernel
theorem dX9_planned_2 : decode cX9_planned 2 = .ok (.aload_n 0, 1) := by decide +kernel
theorem dX9_planned_3 : decode cX9_planned 3 = .ok (.getfield 68, 3) := by decide +kernel
theorem dX9_planned_6 : decode cX9_planned 6 = .ok (.getfield 248, 3) := by decide +kernel
theorem dX9_planned_9 : decode cX9_planned 9 = .ok (.iconst 1, 1) := by decide +kernel
theorem dX9_planned_10 : decode cX9_planned 10 = .ok (.isub, 1) := by decide +kernel
theorem dX9_planned_11 : decode cX9_planned 11 = .ok (.invokestatic 93, 3) := by decide +kernel
theorem dX9_planned_14 : decode cX9_planned 14 = .ok (.ifCond .ne 6, 3) := by decide +kernel
theorem dX9_planned_17 : decode cX9_planned 17 = .ok (.bipush (-2), 2) := by decide +kernel
theorem dX9_planned_19 : decode cX9_planned 19 = .ok (.ireturn, 1) := by decide +kernel
theorem dX9_planned_20 : decode cX9_planned 20 = .ok (.aload_n 0, 1) := by decide +kernel
theorem dX9_planned_21 : decode cX9_planned 21 = .ok (.getfield 68, 3) := by decide +kernel
theorem dX9_planned_24 : decode cX9_planned 24 = .ok (.invokevirtual 242, 3) := by decide +kernel
theorem dX9_planned_27 : decode cX9_planned 27 = .ok (.aload_n 0, 1) := by decide +kernel
theorem dX9_planned_28 : decode cX9_planned 28 = .ok (.getfield 68, 3) := by decide +kernel
theorem dX9_planned_31 : decode cX9_planned 31 = .ok (.getfield 249, 3) := by decide +kernel
theorem dX9_planned_34 : decode cX9_planned 34 = .ok (.iload_n 1, 1) := by decide +kernel
theorem dX9_planned_35 : decode cX9_planned 35 = .ok (.iaload, 1) := by decide +kernel
theorem dX9_planned_36 : decode cX9_planned 36 = .ok (.ireturn, 1) := by decide +kernel
theorem dX9_room_0 : decode cX9_room 0 = .ok (.iload_n 1, 1) := by decide +kernel
theorem dX9_room_1 : decode cX9_room 1 = .ok (.sipush 1000, 3) := by decide +kernel
theorem dX9_room_4 : decode cX9_room 4 = .ok (.ldc 252, 2) := by decide +kernel
theorem dX9_room_6 : decode cX9_room 6 = .ok (.invokestatic 93, 3) := by decide +kernel
theorem dX9_room_9 : decode cX9_room 9 = .ok (.ifCond .ne 6, 3) := by decide +kernel
theorem dX9_room_12 : decode cX9_room 12 = .ok (.bipush (-2), 2) := by decide +kernel
theorem dX9_room_14 : decode cX9_room 14 = .ok (.ireturn, 1) := by decide +kernel
theorem dX9_room_15 : decode cX9_room 15 = .ok (.aload_n 0, 1) := by decide +kernel
theorem dX9_room_16 : decode cX9_room 16 = .ok (.getfield 87, 3) := by decide +kernel
theorem dX9_room_19 : decode cX9_room 19 = .ok (.istore_n 2, 1) := by decide +kernel
theorem dX9_room_20 : decode cX9_room 20 = .ok (.aload_n 0, 1) := by decide +kernel
theorem dX9_room_21 : decode cX9_room 21 = .ok (.iload_n 1, 1) := by decide +kernel
theorem dX9_room_22 : decode cX9_room 22 = .ok (.putfield 87, 3) := by decide +kernel
theorem dX9_room_25 : decode cX9_room 25 = .ok (.iload_n 2, 1) := by decide +kernel
theorem dX9_room_26 : decode cX9_room 26 = .ok (.ireturn, 1) := by decide +kernel
theorem dX9_age_0 : decode cX9_age 0 = .ok (.aload_n 0, 1) := by decide +kernel
theorem dX9_age_1 : decode cX9_age 1 = .ok (.getfield 51, 3) := by decide +kernel
theorem dX9_age_4 : decode cX9_age 4 = .ok (.invokevirtual 253, 3) := by decide +kernel
theorem dX9_age_7 : decode cX9_age 7 = .ok (.istore_n 1, 1) := by decide +kernel
theorem dX9_age_8 : decode cX9_age 8 = .ok (.iload_n 1, 1) := by decide +kernel
theorem dX9_age_9 : decode cX9_age 9 = .ok (.iconst (-1), 1) := by decide +kernel
theorem dX9_age_10 : decode cX9_age 10 = .ok (.if_icmp .ne 6, 3) := by decide +kernel
theorem dX9_age_13 : decode cX9_age 13 = .ok (.bipush (-3), 2) := by decide +kernel
theorem dX9_age_15 : decode cX9_age 15 = .ok (.ireturn, 1) := by decide +kernel
theorem dX9_age_16 : decode cX9_age 16 = .ok (.aload_n 0, 1) := by decide +kernel
theorem dX9_age_17 : decode cX9_age 17 = .ok (.getfield 51, 3) := by decide +kernel
theorem dX9_age_20 : decode cX9_age 20 = .ok (.iload_n 1, 1) := by decide +kernel
theorem dX9_age_21 : decode cX9_age 21 = .ok (.aload_n 0, 1) := by decide +kernel
theorem dX9_age_22 : decode cX9_age 22 = .ok (.getfield 87, 3) := by decide +kernel
theorem dX9_age_25 : decode cX9_age 25 = .ok (.aload_n 0, 1) := by decide +kernel
theorem dX9_age_26 : decode cX9_age 26 = .ok (.getfield 90, 3) := by decide +kernel
theorem dX9_age_29 : decode cX9_age 29 = .ok (.invokevirtual 257, 3) := by decide +kernel
theorem dX9_age_32 : decode cX9_age 32 = .ok (.istore_n 2, 1) := by decide +kernel
theorem dX9_age_33 : decode cX9_age 33 = .ok (.aload_n 0, 1) := by decide +kernel
theorem dX9_age_34 : decode cX9_age 34 = .ok (.dup, 1) := by decide +kernel
theorem dX9_age_35 : decode cX9_age 35 = .ok (.getfield 90, 3) := by decide +kernel
theorem dX9_age_38 : decode cX9_age 38 = .ok (.iconst 1, 1) := by decide +kernel
theorem dX9_age_39 : decode cX9_age 39 = .ok (.iadd, 1) := by decide +kernel
theorem dX9_age_40 : decode cX9_age 40 = .ok (.putfield 90, 3) := by decide +kernel
theorem dX9_age_43 : decode cX9_age 43 = .ok (.iload_n 2, 1) := by decide +kernel
theorem dX9_age_44 : decode cX9_age 44 = .ok (.ireturn, 1) := by decide +kernel
theorem dX9_batches_0 : decode cX9_batches 0 = .ok (.iconst 0, 1) := by decide +kernel
theorem dX9_batches_1 : decode cX9_batches 1 = .ok (.istore_n 1, 1) := by decide +kernel
theorem dX9_batches_2 : decode cX9_batches 2 = .ok (.iconst 0, 1) := by decide +kernel
theorem dX9_batches_3 : decode cX9_batches 3 = .ok (.istore_n 2, 1) := by decide +kernel
theorem dX9_batches_4 : decode cX9_batches 4 = .ok (.iload_n 2, 1) := by decide +kernel
theorem dX9_batches_5 : decode cX9_batches 5 = .ok (.iconst 4, 1) := by decide +kernel
theorem dX9_batches_6 : decode cX9_batches 6 = .ok (.if_icmp .ge 24, 3) := by decide +kernel
theorem dX9_batches_9 : decode cX9_batches 9 = .ok (.iload_n 1, 1) := by decide +kernel
theorem dX9_batches_10 : decode cX9_batches 10 = .ok (.aload_n 0, 1) := by decide +kernel
theorem dX9_batches_11 : decode cX9_batches 11 = .ok (.getfield 51, 3) := by decide +kernel
theorem dX9_batches_14 : decode cX9_batches 14 = .ok (.iload_n 2, 1) := by decide +kernel
theorem dX9_batches_15 : decode cX9_batches 15 = .ok (.aload_n 0, 1) := by decide +kernel
theorem dX9_batches_16 : decode cX9_batches 16 = .ok (.getfield 87, 3) := by decide +kernel
theorem dX9_batches_19 : decode cX9_batches 19 = .ok (.invokevirtual 260, 3) := by decide +kernel
theorem dX9_batches_22 : decode cX9_batches 22 = .ok (.iadd, 1) := by decide +kernel
theorem dX9_batches_23 : decode cX9_batches 23 = .ok (.istore_n 1, 1) := by decide +kernel
theorem dX9_batches_24 : decode cX9_batches 24 = .ok (.iinc 2 1, 3) := by decide +kernel
theorem dX9_batches_27 : decode cX9_batches 27 = .ok (.goto (-23), 3) := by decide +kernel
theorem dX9_batches_30 : decode cX9_batches 30 = .ok (.iload_n 1, 1) := by decide +kernel
theorem dX9_batches_31 : decode cX9_batches 31 = .ok (.ireturn, 1) := by decide +kernel
theorem dX9_sample_0 : decode cX9_sample 0 = .ok (.aload_n 0, 1) := by decide +kernel
theorem dX9_sample_1 : decode cX9_sample 1 = .ok (.getfield 51, 3) := by decide +kernel
theorem dX9_sample_4 : decode cX9_sample 4 = .ok (.iload_n 1, 1) := by decide +kernel
theorem dX9_sample_5 : decode cX9_sample 5 = .ok (.invokevirtual 177, 3) := by decide +kernel
theorem dX9_sample_8 : decode cX9_sample 8 = .ok (.ifCond .ne 6, 3) := by decide +kernel
theorem dX9_sample_11 : decode cX9_sample 11 = .ok (.bipush (-2), 2) := by decide +kernel
theorem dX9_sample_13 : decode cX9_sample 13 = .ok (.ireturn, 1) := by decide +kernel
theorem dX9_sample_14 : decode cX9_sample 14 = .ok (.aload_n 0, 1) := by decide +kernel
theorem dX9_sample_15 : decode cX9_sample 15 = .ok (.getfield 51, 3) := by decide +kernel
theorem dX9_sample_18 : decode cX9_sample 18 = .ok (.getfield 263, 3) := by decide +kernel
theorem dX9_sample_21 : decode cX9_sample 21 = .ok (.iload_n 1, 1) := by decide +kernel
theorem dX9_sample_22 : decode cX9_sample 22 = .ok (.iload_n 2, 1) := by decide +kernel
theorem dX9_sample_23 : decode cX9_sample 23 = .ok (.ifCond .eq 7, 3) := by decide +kernel
theorem dX9_sample_26 : decode cX9_sample 26 = .ok (.iconst 1, 1) := by decide +kernel
theorem dX9_sample_27 : decode cX9_sample 27 = .ok (.goto 4, 3) := by decide +kernel
theorem dX9_sample_30 : decode cX9_sample 30 = .ok (.iconst 2, 1) := by decide +kernel
theorem dX9_sample_31 : decode cX9_sample 31 = .ok (.iastore, 1) := by decide +kernel
theorem dX9_sample_32 : decode cX9_sample 32 = .ok (.iconst 1, 1) := by decide +kernel
theorem dX9_sample_33 : decode cX9_sample 33 = .ok (.ireturn, 1) := by decide +kernel
theorem dX9_suspect_0 : decode cX9_suspect 0 = .ok (.aload_n 0, 1) := by decide +kernel
theorem dX9_suspect_1 : decode cX9_suspect 1 = .ok (.getfield 51, 3) := by decide +kernel
theorem dX9_suspect_4 : decode cX9_suspect 4 = .ok (.iload_n 1, 1) := by decide +kernel
theorem dX9_suspect_5 : decode cX9_suspect 5 = .ok (.invokevirtual 177, 3) := by decide +kernel
theorem dX9_suspect_8 : decode cX9_suspect 8 = .ok (.ifCond .ne 6, 3) := by decide +kernel
theorem dX9_suspect_11 : decode cX9_suspect 11 = .ok (.bipush (-2), 2) := by decide +kernel
theorem dX9_suspect_13 : decode cX9_suspect 13 = .ok (.ireturn, 1) := by decide +kernel
theorem dX9_suspect_14 : decode cX9_suspect 14 = .ok (.aload_n 0, 1) := by decide +kernel
theorem dX9_suspect_15 : decode cX9_suspect 15 = .ok (.getfield 51, 3) := by decide +kernel
theorem dX9_suspect_18 : decode cX9_suspect 18 = .ok (.iload_n 1, 1) := by decide +kernel
theorem dX9_suspect_19 : decode cX9_suspect 19 = .ok (.invokevirtual 266, 3) := by decide +kernel
theorem dX9_suspect_22 : decode cX9_suspect 22 = .ok (.ifCond .eq 7, 3) := by decide +kernel
theorem dX9_suspect_25 : decode cX9_suspect 25 = .ok (.iconst 1, 1) := by decide +kernel
theorem dX9_suspect_26 : decode cX9_suspect 26 = .ok (.goto 4, 3) := by decide +kernel
theorem dX9_suspect_29 : decode cX9_suspect 29 = .ok (.iconst 0, 1) := by decide +kernel
theorem dX9_suspect_30 : decode cX9_suspect 30 = .ok (.ireturn, 1) := by decide +kernel
theorem dX9_held_0 : decode cX9_held 0 = .ok (.iconst 0, 1) := by decide +kernel
theorem dX9_held_1 : decode cX9_held 1 = .ok (.istore_n 1, 1) := by decide +kernel
theorem dX9_held_2 : decode cX9_held 2 = .ok (.iconst 0, 1) := by decide +kernel
theorem dX9_held_3 : decode cX9_held 3 = .ok (.istore_n 2, 1) := by decide +kernel
theorem dX9_held_4 : decode cX9_held 4 = .ok (.iload_n 2, 1) := by decide +kernel
theorem dX9_held_5 : decode cX9_held 5 = .ok (.aload_n 0, 1) := by decide +kernel
theorem dX9_held_6 : decode cX9_held 6 = .ok (.getfield 51, 3) := by decide +kernel
theorem dX9_held_9 : decode cX9_held 9 = .ok (.getfield 140, 3) := by decide +kernel
theorem dX9_held_12 : decode cX9_held 12 = .ok (.if_icmp .ge 32, 3) := by decide +kernel
theorem dX9_held_15 : decode cX9_held 15 = .ok (.aload_n 0, 1) := by decide +kernel
theorem dX9_held_16 : decode cX9_held 16 = .ok (.getfield 51, 3) := by decide +kernel
theorem dX9_held_19 : decode cX9_held 19 = .ok (.iload_n 2, 1) := by decide +kernel
theorem dX9_held_20 : decode cX9_held 20 = .ok (.invokevirtual 266, 3) := by decide +kernel
theorem dX9_held_23 : decode cX9_held 23 = .ok (.ifCond .eq 15, 3) := by decide +kernel
theorem dX9_held_26 : decode cX9_held 26 = .ok (.iload_n 1, 1) := by decide +kernel
theorem dX9_held_27 : decode cX9_held 27 = .ok (.aload_n 0, 1) := by decide +kernel
theorem dX9_held_28 : decode cX9_held 28 = .ok (.getfield 51, 3) := by decide +kernel
theorem dX9_held_31 : decode cX9_held 31 = .ok (.getfield 187, 3) := by decide +kernel
theorem dX9_held_34 : decode cX9_held 34 = .ok (.iload_n 2, 1) := by decide +kernel
theorem dX9_held_35 : decode cX9_held 35 = .ok (.iaload, 1) := by decide +kernel
theorem dX9_held_36 : decode cX9_held 36 = .ok (.iadd, 1) := by decide +kernel
theorem dX9_held_37 : decode cX9_held 37 = .ok (.istore_n 1, 1) := by decide +kernel
theorem dX9_held_38 : decode cX9_held 38 = .ok (.iinc 2 1, 3) := by decide +kernel
theorem dX9_held_41 : decode cX9_held 41 = .ok (.goto (-37), 3) := by decide +kernel
theorem dX9_held_44 : decode cX9_held 44 = .ok (.iload_n 1, 1) := by decide +kernel
theorem dX9_held_45 : decode cX9_held 45 = .ok (.ireturn, 1) := by decide +kernel
theorem dX9_drift_0 : decode cX9_drift 0 = .ok (.aload_n 0, 1) := by decide +kernel
theorem dX9_drift_1 : decode cX9_drift 1 = .ok (.getfield 51, 3) := by decide +kernel
theorem dX9_drift_4 : decode cX9_drift 4 = .ok (.iload_n 1, 1) := by decide +kernel
theorem dX9_drift_5 : decode cX9_drift 5 = .ok (.invokevirtual 177, 3) := by decide +kernel
theorem dX9_drift_8 : decode cX9_drift 8 = .ok (.ifCond .eq 19, 3) := by decide +kernel
theorem dX9_drift_11 : decode cX9_drift 11 = .ok (.aload_n 0, 1) := by decide +kernel
theorem dX9_drift_12 : decode cX9_drift 12 = .ok (.getfield 51, 3) := by decide +kernel
theorem dX9_drift_15 : decode cX9_drift 15 = .ok (.iload_n 2, 1) := by decide +kernel
theorem dX9_drift_16 : decode cX9_drift 16 = .ok (.invokevirtual 177, 3) := by decide +kernel
theorem dX9_drift_19 : decode cX9_drift 19 = .ok (.ifCond .eq 8, 3) := by decide +kernel
theorem dX9_drift_22 : decode cX9_drift 22 = .ok (.iload_n 1, 1) := by decide +kernel
theorem dX9_drift_23 : decode cX9_drift 23 = .ok (.iload_n 2, 1) := by decide +kernel
theorem dX9_drift_24 : decode cX9_drift 24 = .ok (.if_icmp .le 7, 3) := by decide +kernel
theorem dX9_drift_27 : decode cX9_drift 27 = .ok (.ldc_w 269, 3) := by decide +kernel
theorem dX9_drift_30 : decode cX9_drift 30 = .ok (.ireturn, 1) := by decide +kernel
theorem dX9_drift_31 : decode cX9_drift 31 = .ok (.iconst 0, 1) := by decide +kernel
theorem dX9_drift_32 : decode cX9_drift 32 = .ok (.istore_n 3, 1) := by decide +kernel
theorem dX9_drift_33 : decode cX9_drift 33 = .ok (.iconst 0, 1) := by decide +kernel
theorem dX9_drift_34 : decode cX9_drift 34 = .ok (.istore 4, 2) := by decide +kernel
theorem dX9_drift_36 : decode cX9_drift 36 = .ok (.iload_n 1, 1) := by decide +kernel
theorem dX9_drift_37 : decode cX9_drift 37 = .ok (.istore 5, 2) := by decide +kernel
theorem dX9_drift_39 : decode cX9_drift 39 = .ok (.iload 5, 2) := by decide +kernel
theorem dX9_drift_41 : decode cX9_drift 41 = .ok (.iload_n 2, 1) := by decide +kernel
theorem dX9_drift_42 : decode cX9_drift 42 = .ok (.if_icmp .gt 47, 3) := by decide +kernel
theorem dX9_drift_45 : decode cX9_drift 45 = .ok (.aload_n 0, 1) := by decide +kernel
theorem dX9_drift_46 : decode cX9_drift 46 = .ok (.getfield 75, 3) := by decide +kernel
theorem dX9_drift_49 : decode cX9_drift 49 = .ok (.iload 5, 2) := by decide +kernel
theorem dX9_drift_51 : decode cX9_drift 51 = .ok (.invokevirtual 270, 3) := by decide +kernel
theorem dX9_drift_54 : decode cX9_drift 54 = .ok (.istore 6, 2) := by decide +kernel
theorem dX9_drift_56 : decode cX9_drift 56 = .ok (.iload 6, 2) := by decide +kernel
theorem dX9_drift_58 : decode cX9_drift 58 = .ok (.iconst (-1), 1) := by decide +kernel
theorem dX9_drift_59 : decode cX9_drift 59 = .ok (.if_icmp .eq 24, 3) := by decide +kernel
theorem dX9_drift_62 : decode cX9_drift 62 = .ok (.iinc 3 1, 3) := by decide +kernel
theorem dX9_drift_65 : decode cX9_drift 65 = .ok (.iload 4, 2) := by decide +kernel
theorem dX9_drift_67 : decode cX9_drift 67 = .ok (.iload 6, 2) := by decide +kernel
theorem dX9_drift_69 : decode cX9_drift 69 = .ok (.aload_n 0, 1) := by decide +kernel
theorem dX9_drift_70 : decode cX9_drift 70 = .ok (.getfield 51, 3) := by decide +kernel
theorem dX9_drift_73 : decode cX9_drift 73 = .ok (.getfield 273, 3) := by decide +kernel
theorem dX9_drift_76 : decode cX9_drift 76 = .ok (.iload 5, 2) := by decide +kernel
theorem dX9_drift_78 : decode cX9_drift 78 = .ok (.iaload, 1) := by decide +kernel
theorem dX9_drift_79 : decode cX9_drift 79 = .ok (.isub, 1) := by decide +kernel
theorem dX9_drift_80 : decode cX9_drift 80 = .ok (.iadd, 1) := by decide +kernel
theorem dX9_drift_81 : decode cX9_drift 81 = .ok (.istore 4, 2) := by decide +kernel
theorem dX9_drift_83 : decode cX9_drift 83 = .ok (.iinc 5 1, 3) := by decide +kernel
theorem dX9_drift_86 : decode cX9_drift 86 = .ok (.goto (-47), 3) := by decide +kernel
theorem dX9_drift_89 : decode cX9_drift 89 = .ok (.iload_n 3, 1) := by decide +kernel
theorem dX9_drift_90 : decode cX9_drift 90 = .ok (.ifCond .ne 9, 3) := by decide +kernel
theorem dX9_drift_93 : decode cX9_drift 93 = .ok (.ldc_w 274, 3) := by decide +kernel
theorem dX9_drift_96 : decode cX9_drift 96 = .ok (.goto 9, 3) := by decide +kernel
theorem dX9_drift_99 : decode cX9_drift 99 = .ok (.iload 4, 2) := by decide +kernel
theorem dX9_drift_101 : decode cX9_drift 101 = .ok (.iload_n 3, 1) := by decide +kernel
theorem dX9_drift_102 : decode cX9_drift 102 = .ok (.invokestatic 275, 3) := by decide +kernel
theorem dX9_drift_105 : decode cX9_drift 105 = .ok (.ireturn, 1) := by decide +kernel
theorem dX9_sheet_0 : decode cX9_sheet 0 = .ok (.iload_n 1, 1) := by decide +kernel
theorem dX9_sheet_1 : decode cX9_sheet 1 = .ok (.invokestatic 280, 3) := by decide +kernel
theorem dX9_sheet_4 : decode cX9_sheet 4 = .ok (.ifCond .eq 17, 3) := by decide +kernel
theorem dX9_sheet_7 : decode cX9_sheet 7 = .ok (.iload_n 2, 1) := by decide +kernel
theorem dX9_sheet_8 : decode cX9_sheet 8 = .ok (.invokestatic 283, 3) := by decide +kernel
theorem dX9_sheet_11 : decode cX9_sheet 11 = .ok (.ifCond .eq 10, 3) := by decide +kernel
theorem dX9_sheet_14 : decode cX9_sheet 14 = .ok (.iload_n 3, 1) := by decide +kernel
theorem dX9_sheet_15 : decode cX9_sheet 15 = .ok (.sipush 200, 3) := by decide +kernel
theorem dX9_sheet_18 : decode cX9_sheet 18 = .ok (.if_icmp .le 6, 3) := by decide +kernel
theorem dX9_sheet_21 : decode cX9_sheet 21 = .ok (.bipush (-2), 2) := by decide +kernel
theorem dX9_sheet_23 : decode cX9_sheet 23 = .ok (.ireturn, 1) := by decide +kernel
theorem dX9_sheet_24 : decode cX9_sheet 24 = .ok (.aload_n 0, 1) := by decide +kernel
theorem dX9_sheet_25 : decode cX9_sheet 25 = .ok (.getfield 75, 3) := by decide +kernel
theorem dX9_sheet_28 : decode cX9_sheet 28 = .ok (.iload_n 1, 1) := by decide +kernel
theorem dX9_sheet_29 : decode cX9_sheet 29 = .ok (.iload_n 2, 1) := by decide +kernel
theorem dX9_sheet_30 : decode cX9_sheet 30 = .ok (.iload_n 3, 1) := by decide +kernel
theorem dX9_sheet_31 : decode cX9_sheet 31 = .ok (.invokevirtual 286, 3) := by decide +kernel
theorem dX9_sheet_34 : decode cX9_sheet 34 = .ok (.ireturn, 1) := by decide +kernel
theorem dX9_lose_0 : decode cX9_lose 0 = .ok (.iload_n 1, 1) := by decide +kernel
theorem dX9_lose_1 : decode cX9_lose 1 = .ok (.invokestatic 280, 3) := by decide +kernel
theorem dX9_lose_4 : decode cX9_lose 4 = .ok (.ifCond .ne 6, 3) := by decide +kernel
theorem dX9_lose_7 : decode cX9_lose 7 = .ok (.bipush (-2), 2) := by decide +kernel
theorem dX9_lose_9 : decode cX9_lose 9 = .ok (.ireturn, 1) := by decide +kernel
theorem dX9_lose_10 : decode cX9_lose 10 = .ok (.aload_n 0, 1) := by decide +kernel
theorem dX9_lose_11 : decode cX9_lose 11 = .ok (.getfield 75, 3) := by decide +kernel
theorem dX9_lose_14 : decode cX9_lose 14 = .ok (.iload_n 1, 1) := by decide +kernel
theorem dX9_lose_15 : decode cX9_lose 15 = .ok (.invokevirtual 289, 3) := by decide +kernel
theorem dX9_lose_18 : decode cX9_lose 18 = .ok (.ireturn, 1) := by decide +kernel
theorem dX9_put_0 : decode cX9_put 0 = .ok (.iload_n 1, 1) := by decide +kernel
theorem dX9_put_1 : decode cX9_put 1 = .ok (.invokestatic 280, 3) := by decide +kernel
theorem dX9_put_4 : decode cX9_put 4 = .ok (.ifCond .eq 10, 3) := by decide +kernel
theorem dX9_put_7 : decode cX9_put 7 = .ok (.iload_n 2, 1) := by decide +kernel
theorem dX9_put_8 : decode cX9_put 8 = .ok (.invokestatic 283, 3) := by decide +kernel
theorem dX9_put_11 : decode cX9_put 11 = .ok (.ifCond .ne 6, 3) := by decide +kernel
theorem dX9_put_14 : decode cX9_put 14 = .ok (.bipush (-2), 2) := by decide +kernel
theorem dX9_put_16 : decode cX9_put 16 = .ok (.ireturn, 1) := by decide +kernel
theorem dX9_put_17 : decode cX9_put 17 = .ok (.aload_n 0, 1) := by decide +kernel
theorem dX9_put_18 : decode cX9_put 18 = .ok (.getfield 75, 3) := by decide +kernel
theorem dX9_put_21 : decode cX9_put 21 = .ok (.iload_n 1, 1) := by decide +kernel
theorem dX9_put_22 : decode cX9_put 22 = .ok (.iload_n 2, 1) := by decide +kernel
theorem dX9_put_23 : decode cX9_put 23 = .ok (.iload_n 3, 1) := by decide +kernel
theorem dX9_put_24 : decode cX9_put 24 = .ok (.invokevirtual 292, 3) := by decide +kernel
theorem dX9_put_27 : decode cX9_put 27 = .ok (.istore 5, 2) := by decide +kernel
theorem dX9_put_29 : decode cX9_put 29 = .ok (.iload 5, 2) := by decide +kernel
theorem dX9_put_31 : decode cX9_put 31 = .ok (.ifCond .eq 13, 3) := by decide +kernel
theorem dX9_put_34 : decode cX9_put 34 = .ok (.aload_n 0, 1) := by decide +kernel
theorem dX9_put_35 : decode cX9_put 35 = .ok (.getfield 75, 3) := by decide +kernel
theorem dX9_put_38 : decode cX9_put 38 = .ok (.iload 5, 2) := by decide +kernel
theorem dX9_put_40 : decode cX9_put 40 = .ok (.invokevirtual 295, 3) := by decide +kernel
theorem dX9_put_43 : decode cX9_put 43 = .ok (.ireturn, 1) := by decide +kernel
theorem dX9_put_44 : decode cX9_put 44 = .ok (.aload_n 0, 1) := by decide +kernel
theorem dX9_put_45 : decode cX9_put 45 = .ok (.getfield 75, 3) := by decide +kernel
theorem dX9_put_48 : decode cX9_put 48 = .ok (.iload_n 1, 1) := by decide +kernel
theorem dX9_put_49 : decode cX9_put 49 = .ok (.iload_n 3, 1) := by decide +kernel
theorem dX9_put_50 : decode cX9_put 50 = .ok (.iload 4, 2) := by decide +kernel
theorem dX9_put_52 : decode cX9_put 52 = .ok (.invokevirtual 298, 3) := by decide +kernel
theorem dX9_put_55 : decode cX9_put 55 = .ok (.iconst 1, 1) := by decide +kernel
theorem dX9_put_56 : decode cX9_put 56 = .ok (.ireturn, 1) := by decide +kernel
theorem dX9_get_0 : decode cX9_get 0 = .ok (.iload_n 1, 1) := by decide +kernel
theorem dX9_get_1 : decode cX9_get 1 = .ok (.invokestatic 280, 3) := by decide +kernel
theorem dX9_get_4 : decode cX9_get 4 = .ok (.ifCond .eq 10, 3) := by decide +kernel
theorem dX9_get_7 : decode cX9_get 7 = .ok (.iload_n 2, 1) := by decide +kernel
theorem dX9_get_8 : decode cX9_get 8 = .ok (.invokestatic 283, 3) := by decide +kernel
theorem dX9_get_11 : decode cX9_get 11 = .ok (.ifCond .ne 7, 3) := by decide +kernel
theorem dX9_get_14 : decode cX9_get 14 = .ok (.ldc_w 302, 3) := by decide +kernel
theorem dX9_get_17 : decode cX9_get 17 = .ok (.ireturn, 1) := by decide +kernel
theorem dX9_get_18 : decode cX9_get 18 = .ok (.aload_n 0, 1) := by decide +kernel
theorem dX9_get_19 : decode cX9_get 19 = .ok (.getfield 75, 3) := by decide +kernel
theorem dX9_get_22 : decode cX9_get 22 = .ok (.iload_n 1, 1) := by decide +kernel
theorem dX9_get_23 : decode cX9_get 23 = .ok (.iload_n 2, 1) := by decide +kernel
theorem dX9_get_24 : decode cX9_get 24 = .ok (.iload_n 3, 1) := by decide +kernel
theorem dX9_get_25 : decode cX9_get 25 = .ok (.invokevirtual 292, 3) := by decide +kernel
theorem dX9_get_28 : decode cX9_get 28 = .ok (.istore 4, 2) := by decide +kernel
theorem dX9_get_30 : decode cX9_get 30 = .ok (.iload 4, 2) := by decide +kernel
theorem dX9_get_32 : decode cX9_get 32 = .ok (.ifCond .eq 17, 3) := by decide +kernel
theorem dX9_get_35 : decode cX9_get 35 = .ok (.aload_n 0, 1) := by decide +kernel
theorem dX9_get_36 : decode cX9_get 36 = .ok (.getfield 75, 3) := by decide +kernel
theorem dX9_get_39 : decode cX9_get 39 = .ok (.iload 4, 2) := by decide +kernel
theorem dX9_get_41 : decode cX9_get 41 = .ok (.invokevirtual 295, 3) := by decide +kernel
theorem dX9_get_44 : decode cX9_get 44 = .ok (.pop, 1) := by decide +kernel
theorem dX9_get_45 : decode cX9_get 45 = .ok (.ldc_w 302, 3) := by decide +kernel
theorem dX9_get_48 : decode cX9_get 48 = .ok (.ireturn, 1) := by decide +kernel
theorem dX9_get_49 : decode cX9_get 49 = .ok (.aload_n 0, 1) := by decide +kernel
theorem dX9_get_50 : decode cX9_get 50 = .ok (.getfield 75, 3) := by decide +kernel
theorem dX9_get_53 : decode cX9_get 53 = .ok (.getfield 303, 3) := by decide +kernel
theorem dX9_get_56 : decode cX9_get 56 = .ok (.iload_n 1, 1) := by decide +kernel
theorem dX9_get_57 : decode cX9_get 57 = .ok (.sipush 200, 3) := by decide +kernel
theorem dX9_get_60 : decode cX9_get 60 = .ok (.imul, 1) := by decide +kernel
theorem dX9_get_61 : decode cX9_get 61 = .ok (.iload_n 3, 1) := by decide +kernel
