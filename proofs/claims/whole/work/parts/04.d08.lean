theorem dX8_takeNumber_29 : decode cX8_takeNumber 29 = .ok (.if_icmp .lt 11, 3) := by decide +kernel
theorem dX8_takeNumber_32 : decode cX8_takeNumber 32 = .ok (.aload_n 0, 1) := by decide +kernel
theorem dX8_takeNumber_33 : decode cX8_takeNumber 33 = .ok (.getfield 46, 3) := by decide +kernel
theorem dX8_takeNumber_36 : decode cX8_takeNumber 36 = .ok (.iload_n 2, 1) := by decide +kernel
theorem dX8_takeNumber_37 : decode cX8_takeNumber 37 = .ok (.if_icmp .le 10, 3) := by decide +kernel
theorem dX8_takeNumber_40 : decode cX8_takeNumber 40 = .ok (.aload_n 0, 1) := by decide +kernel
theorem dX8_takeNumber_41 : decode cX8_takeNumber 41 = .ok (.iconst 2, 1) := by decide +kernel
theorem dX8_takeNumber_42 : decode cX8_takeNumber 42 = .ok (.invokevirtual 66, 3) := by decide +kernel
theorem dX8_takeNumber_45 : decode cX8_takeNumber 45 = .ok (.iconst 0, 1) := by decide +kernel
theorem dX8_takeNumber_46 : decode cX8_takeNumber 46 = .ok (.ireturn, 1) := by decide +kernel
theorem dX8_takeNumber_47 : decode cX8_takeNumber 47 = .ok (.aload_n 0, 1) := by decide +kernel
theorem dX8_takeNumber_48 : decode cX8_takeNumber 48 = .ok (.getfield 46, 3) := by decide +kernel
theorem dX8_takeNumber_51 : decode cX8_takeNumber 51 = .ok (.istore_n 3, 1) := by decide +kernel
theorem dX8_takeNumber_52 : decode cX8_takeNumber 52 = .ok (.aload_n 0, 1) := by decide +kernel
theorem dX8_takeNumber_53 : decode cX8_takeNumber 53 = .ok (.invokevirtual 40, 3) := by decide +kernel
theorem dX8_takeNumber_56 : decode cX8_takeNumber 56 = .ok (.iload_n 3, 1) := by decide +kernel
theorem dX8_takeNumber_57 : decode cX8_takeNumber 57 = .ok (.ireturn, 1) := by decide +kernel
theorem dX9_init_0 : decode cX9_init 0 = .ok (.aload_n 0, 1) := by decide +kernel
theorem dX9_init_1 : decode cX9_init 1 = .ok (.invokespecial 3, 3) := by decide +kernel
theorem dX9_init_4 : decode cX9_init 4 = .ok (.aload_n 0, 1) := by decide +kernel
theorem dX9_init_5 : decode cX9_init 5 = .ok (.bipush 31, 2) := by decide +kernel
theorem dX9_init_7 : decode cX9_init 7 = .ok (.newarray .int, 2) := by decide +kernel
theorem dX9_init_9 : decode cX9_init 9 = .ok (.putfield 11, 3) := by decide +kernel
theorem dX9_init_12 : decode cX9_init 12 = .ok (.aload_n 0, 1) := by decide +kernel
theorem dX9_init_13 : decode cX9_init 13 = .ok (.bipush 31, 2) := by decide +kernel
theorem dX9_init_15 : decode cX9_init 15 = .ok (.newarray .int, 2) := by decide +kernel
theorem dX9_init_17 : decode cX9_init 17 = .ok (.putfield 15, 3) := by decide +kernel
theorem dX9_init_20 : decode cX9_init 20 = .ok (.aload_n 0, 1) := by decide +kernel
theorem dX9_init_21 : decode cX9_init 21 = .ok (.bipush 31, 2) := by decide +kernel
theorem dX9_init_23 : decode cX9_init 23 = .ok (.newarray .int, 2) := by decide +kernel
theorem dX9_init_25 : decode cX9_init 25 = .ok (.putfield 18, 3) := by decide +kernel
theorem dX9_init_28 : decode cX9_init 28 = .ok (.aload_n 0, 1) := by decide +kernel
theorem dX9_init_29 : decode cX9_init 29 = .ok (.bipush 31, 2) := by decide +kernel
theorem dX9_init_31 : decode cX9_init 31 = .ok (.newarray .int, 2) := by decide +kernel
theorem dX9_init_33 : decode cX9_init 33 = .ok (.putfield 21, 3) := by decide +kernel
theorem dX9_init_36 : decode cX9_init 36 = .ok (.return_, 1) := by decide +kernel
theorem dX9_readText_0 : decode cX9_readText 0 = .ok (.aload_n 0, 1) := by decide +kernel
theorem dX9_readText_1 : decode cX9_readText 1 = .ok (.iconst 0, 1) := by decide +kernel
theorem dX9_readText_2 : decode cX9_readText 2 = .ok (.putfield 24, 3) := by decide +kernel
theorem dX9_readText_5 : decode cX9_readText 5 = .ok (.aload_n 0, 1) := by decide +kernel
theorem dX9_readText_6 : decode cX9_readText 6 = .ok (.aload_n 1, 1) := by decide +kernel
theorem dX9_readText_7 : decode cX9_readText 7 = .ok (.aload_n 2, 1) := by decide +kernel
theorem dX9_readText_8 : decode cX9_readText 8 = .ok (.iconst 0, 1) := by decide +kernel
theorem dX9_readText_9 : decode cX9_readText 9 = .ok (.invokevirtual 28, 3) := by decide +kernel
theorem dX9_readText_12 : decode cX9_readText 12 = .ok (.aload_n 1, 1) := by decide +kernel
theorem dX9_readText_13 : decode cX9_readText 13 = .ok (.invokevirtual 32, 3) := by decide +kernel
theorem dX9_readText_16 : decode cX9_readText 16 = .ok (.ifCond .ne 7, 3) := by decide +kernel
theorem dX9_readText_19 : decode cX9_readText 19 = .ok (.iconst 1, 1) := by decide +kernel
theorem dX9_readText_20 : decode cX9_readText 20 = .ok (.goto 4, 3) := by decide +kernel
theorem dX9_readText_23 : decode cX9_readText 23 = .ok (.iconst 0, 1) := by decide +kernel
theorem dX9_readText_24 : decode cX9_readText 24 = .ok (.ireturn, 1) := by decide +kernel
theorem dX9_readSteps_0 : decode cX9_readSteps 0 = .ok (.iconst 0, 1) := by decide +kernel
theorem dX9_readSteps_1 : decode cX9_readSteps 1 = .ok (.istore 4, 2) := by decide +kernel
theorem dX9_readSteps_3 : decode cX9_readSteps 3 = .ok (.iload 4, 2) := by decide +kernel
theorem dX9_readSteps_5 : decode cX9_readSteps 5 = .ok (.sipush 150, 3) := by decide +kernel
theorem dX9_readSteps_8 : decode cX9_readSteps 8 = .ok (.if_icmp .ge 50, 3) := by decide +kernel
theorem dX9_readSteps_11 : decode cX9_readSteps 11 = .ok (.aload_n 1, 1) := by decide +kernel
theorem dX9_readSteps_12 : decode cX9_readSteps 12 = .ok (.invokevirtual 32, 3) := by decide +kernel
theorem dX9_readSteps_15 : decode cX9_readSteps 15 = .ok (.ifCond .ne 43, 3) := by decide +kernel
theorem dX9_readSteps_18 : decode cX9_readSteps 18 = .ok (.aload_n 1, 1) := by decide +kernel
theorem dX9_readSteps_19 : decode cX9_readSteps 19 = .ok (.invokevirtual 38, 3) := by decide +kernel
theorem dX9_readSteps_22 : decode cX9_readSteps 22 = .ok (.ifCond .ne 36, 3) := by decide +kernel
theorem dX9_readSteps_25 : decode cX9_readSteps 25 = .ok (.iload_n 3, 1) := by decide +kernel
theorem dX9_readSteps_26 : decode cX9_readSteps 26 = .ok (.ifCond .le 13, 3) := by decide +kernel
theorem dX9_readSteps_29 : decode cX9_readSteps 29 = .ok (.aload_n 1, 1) := by decide +kernel
theorem dX9_readSteps_30 : decode cX9_readSteps 30 = .ok (.bipush 93, 2) := by decide +kernel
theorem dX9_readSteps_32 : decode cX9_readSteps 32 = .ok (.invokevirtual 41, 3) := by decide +kernel
theorem dX9_readSteps_35 : decode cX9_readSteps 35 = .ok (.ifCond .eq 4, 3) := by decide +kernel
theorem dX9_readSteps_38 : decode cX9_readSteps 38 = .ok (.return_, 1) := by decide +kernel
theorem dX9_readSteps_39 : decode cX9_readSteps 39 = .ok (.aload_n 0, 1) := by decide +kernel
theorem dX9_readSteps_40 : decode cX9_readSteps 40 = .ok (.aload_n 1, 1) := by decide +kernel
theorem dX9_readSteps_41 : decode cX9_readSteps 41 = .ok (.aload_n 2, 1) := by decide +kernel
theorem dX9_readSteps_42 : decode cX9_readSteps 42 = .ok (.iload_n 3, 1) := by decide +kernel
theorem dX9_readSteps_43 : decode cX9_readSteps 43 = .ok (.invokevirtual 45, 3) := by decide +kernel
theorem dX9_readSteps_46 : decode cX9_readSteps 46 = .ok (.aload_n 1, 1) := by decide +kernel
theorem dX9_readSteps_47 : decode cX9_readSteps 47 = .ok (.bipush 59, 2) := by decide +kernel
theorem dX9_readSteps_49 : decode cX9_readSteps 49 = .ok (.invokevirtual 48, 3) := by decide +kernel
theorem dX9_readSteps_52 : decode cX9_readSteps 52 = .ok (.iinc 4 1, 3) := by decide +kernel
theorem dX9_readSteps_55 : decode cX9_readSteps 55 = .ok (.goto (-52), 3) := by decide +kernel
theorem dX9_readSteps_58 : decode cX9_readSteps 58 = .ok (.return_, 1) := by decide +kernel
theorem dX9_readStep_0 : decode cX9_readStep 0 = .ok (.aload_n 1, 1) := by decide +kernel
theorem dX9_readStep_1 : decode cX9_readStep 1 = .ok (.invokestatic 52, 3) := by decide +kernel
theorem dX9_readStep_4 : decode cX9_readStep 4 = .ok (.istore 4, 2) := by decide +kernel
theorem dX9_readStep_6 : decode cX9_readStep 6 = .ok (.iload 4, 2) := by decide +kernel
theorem dX9_readStep_8 : decode cX9_readStep 8 = .ok (.iconst (-1), 1) := by decide +kernel
theorem dX9_readStep_9 : decode cX9_readStep 9 = .ok (.if_icmp .eq 12, 3) := by decide +kernel
theorem dX9_readStep_12 : decode cX9_readStep 12 = .ok (.aload_n 0, 1) := by decide +kernel
theorem dX9_readStep_13 : decode cX9_readStep 13 = .ok (.getfield 24, 3) := by decide +kernel
theorem dX9_readStep_16 : decode cX9_readStep 16 = .ok (.bipush 31, 2) := by decide +kernel
theorem dX9_readStep_18 : decode cX9_readStep 18 = .ok (.if_icmp .lt 9, 3) := by decide +kernel
theorem dX9_readStep_21 : decode cX9_readStep 21 = .ok (.aload_n 1, 1) := by decide +kernel
theorem dX9_readStep_22 : decode cX9_readStep 22 = .ok (.iconst 1, 1) := by decide +kernel
theorem dX9_readStep_23 : decode cX9_readStep 23 = .ok (.invokevirtual 56, 3) := by decide +kernel
theorem dX9_readStep_26 : decode cX9_readStep 26 = .ok (.return_, 1) := by decide +kernel
theorem dX9_readStep_27 : decode cX9_readStep 27 = .ok (.iload 4, 2) := by decide +kernel
theorem dX9_readStep_29 : decode cX9_readStep 29 = .ok (.bipush 7, 2) := by decide +kernel
theorem dX9_readStep_31 : decode cX9_readStep 31 = .ok (.if_icmp .ne 15, 3) := by decide +kernel
theorem dX9_readStep_34 : decode cX9_readStep 34 = .ok (.iload_n 3, 1) := by decide +kernel
theorem dX9_readStep_35 : decode cX9_readStep 35 = .ok (.bipush 6, 2) := by decide +kernel
theorem dX9_readStep_37 : decode cX9_readStep 37 = .ok (.if_icmp .lt 9, 3) := by decide +kernel
theorem dX9_readStep_40 : decode cX9_readStep 40 = .ok (.aload_n 1, 1) := by decide +kernel
theorem dX9_readStep_41 : decode cX9_readStep 41 = .ok (.iconst 3, 1) := by decide +kernel
theorem dX9_readStep_42 : decode cX9_readStep 42 = .ok (.invokevirtual 56, 3) := by decide +kernel
theorem dX9_readStep_45 : decode cX9_readStep 45 = .ok (.return_, 1) := by decide +kernel
theorem dX9_readStep_46 : decode cX9_readStep 46 = .ok (.aload_n 0, 1) := by decide +kernel
theorem dX9_readStep_47 : decode cX9_readStep 47 = .ok (.getfield 24, 3) := by decide +kernel
theorem dX9_readStep_50 : decode cX9_readStep 50 = .ok (.istore 5, 2) := by decide +kernel
theorem dX9_readStep_52 : decode cX9_readStep 52 = .ok (.aload_n 0, 1) := by decide +kernel
theorem dX9_readStep_53 : decode cX9_readStep 53 = .ok (.dup, 1) := by decide +kernel
theorem dX9_readStep_54 : decode cX9_readStep 54 = .ok (.getfield 24, 3) := by decide +kernel
theorem dX9_readStep_57 : decode cX9_readStep 57 = .ok (.iconst 1, 1) := by decide +kernel
theorem dX9_readStep_58 : decode cX9_readStep 58 = .ok (.iadd, 1) := by decide +kernel
theorem dX9_readStep_59 : decode cX9_readStep 59 = .ok (.putfield 24, 3) := by decide +kernel
theorem dX9_readStep_62 : decode cX9_readStep 62 = .ok (.aload_n 0, 1) := by decide +kernel
theorem dX9_readStep_63 : decode cX9_readStep 63 = .ok (.getfield 11, 3) := by decide +kernel
theorem dX9_readStep_66 : decode cX9_readStep 66 = .ok (.iload 5, 2) := by decide +kernel
theorem dX9_readStep_68 : decode cX9_readStep 68 = .ok (.iload 4, 2) := by decide +kernel
theorem dX9_readStep_70 : decode cX9_readStep 70 = .ok (.iastore, 1) := by decide +kernel
theorem dX9_readStep_71 : decode cX9_readStep 71 = .ok (.aload_n 1, 1) := by decide +kernel
theorem dX9_readStep_72 : decode cX9_readStep 72 = .ok (.invokevirtual 60, 3) := by decide +kernel
theorem dX9_readStep_75 : decode cX9_readStep 75 = .ok (.iload 4, 2) := by decide +kernel
theorem dX9_readStep_77 : decode cX9_readStep 77 = .ok (.bipush 7, 2) := by decide +kernel
theorem dX9_readStep_79 : decode cX9_readStep 79 = .ok (.if_icmp .ne 41, 3) := by decide +kernel
theorem dX9_readStep_82 : decode cX9_readStep 82 = .ok (.aload_n 0, 1) := by decide +kernel
theorem dX9_readStep_83 : decode cX9_readStep 83 = .ok (.getfield 15, 3) := by decide +kernel
theorem dX9_readStep_86 : decode cX9_readStep 86 = .ok (.iload 5, 2) := by decide +kernel
theorem dX9_readStep_88 : decode cX9_readStep 88 = .ok (.aload_n 1, 1) := by decide +kernel
theorem dX9_readStep_89 : decode cX9_readStep 89 = .ok (.iconst 0, 1) := by decide +kernel
theorem dX9_readStep_90 : decode cX9_readStep 90 = .ok (.bipush 30, 2) := by decide +kernel
theorem dX9_readStep_92 : decode cX9_readStep 92 = .ok (.invokevirtual 63, 3) := by decide +kernel
theorem dX9_readStep_95 : decode cX9_readStep 95 = .ok (.iastore, 1) := by decide +kernel
theorem dX9_readStep_96 : decode cX9_readStep 96 = .ok (.aload_n 1, 1) := by decide +kernel
theorem dX9_readStep_97 : decode cX9_readStep 97 = .ok (.bipush 91, 2) := by decide +kernel
theorem dX9_readStep_99 : decode cX9_readStep 99 = .ok (.invokevirtual 48, 3) := by decide +kernel
theorem dX9_readStep_102 : decode cX9_readStep 102 = .ok (.aload_n 0, 1) := by decide +kernel
theorem dX9_readStep_103 : decode cX9_readStep 103 = .ok (.aload_n 1, 1) := by decide +kernel
theorem dX9_readStep_104 : decode cX9_readStep 104 = .ok (.aload_n 2, 1) := by decide +kernel
theorem dX9_readStep_105 : decode cX9_readStep 105 = .ok (.iload_n 3, 1) := by decide +kernel
theorem dX9_readStep_106 : decode cX9_readStep 106 = .ok (.iconst 1, 1) := by decide +kernel
theorem dX9_readStep_107 : decode cX9_readStep 107 = .ok (.iadd, 1) := by decide +kernel
theorem dX9_readStep_108 : decode cX9_readStep 108 = .ok (.invokevirtual 28, 3) := by decide +kernel
theorem dX9_readStep_111 : decode cX9_readStep 111 = .ok (.aload_n 1, 1) := by decide +kernel
theorem dX9_readStep_112 : decode cX9_readStep 112 = .ok (.bipush 93, 2) := by decide +kernel
theorem dX9_readStep_114 : decode cX9_readStep 114 = .ok (.invokevirtual 48, 3) := by decide +kernel
theorem dX9_readStep_117 : decode cX9_readStep 117 = .ok (.goto 11, 3) := by decide +kernel
theorem dX9_readStep_120 : decode cX9_readStep 120 = .ok (.aload_n 0, 1) := by decide +kernel
theorem dX9_readStep_121 : decode cX9_readStep 121 = .ok (.aload_n 1, 1) := by decide +kernel
theorem dX9_readStep_122 : decode cX9_readStep 122 = .ok (.aload_n 2, 1) := by decide +kernel
theorem dX9_readStep_123 : decode cX9_readStep 123 = .ok (.iload 5, 2) := by decide +kernel
theorem dX9_readStep_125 : decode cX9_readStep 125 = .ok (.invokevirtual 67, 3) := by decide +kernel
theorem dX9_readStep_128 : decode cX9_readStep 128 = .ok (.aload_n 0, 1) := by decide +kernel
theorem dX9_readStep_129 : decode cX9_readStep 129 = .ok (.getfield 21, 3) := by decide +kernel
theorem dX9_readStep_132 : decode cX9_readStep 132 = .ok (.iload 5, 2) := by decide +kernel
theorem dX9_readStep_134 : decode cX9_readStep 134 = .ok (.aload_n 0, 1) := by decide +kernel
theorem dX9_readStep_135 : decode cX9_readStep 135 = .ok (.getfield 24, 3) := by decide +kernel
theorem dX9_readStep_138 : decode cX9_readStep 138 = .ok (.iastore, 1) := by decide +kernel
theorem dX9_readStep_139 : decode cX9_readStep 139 = .ok (.return_, 1) := by decide +kernel
theorem dX9_readOperands_0 : decode cX9_readOperands 0 = .ok (.aload_n 0, 1) := by decide +kernel
theorem dX9_readOperands_1 : decode cX9_readOperands 1 = .ok (.getfield 11, 3) := by decide +kernel
theorem dX9_readOperands_4 : decode cX9_readOperands 4 = .ok (.iload_n 3, 1) := by decide +kernel
theorem dX9_readOperands_5 : decode cX9_readOperands 5 = .ok (.iaload, 1) := by decide +kernel
theorem dX9_readOperands_6 : decode cX9_readOperands 6 = .ok (.istore 4, 2) := by decide +kernel
theorem dX9_readOperands_8 : decode cX9_readOperands 8 = .ok (.iload 4, 2) := by decide +kernel
theorem dX9_readOperands_10 : decode cX9_readOperands 10 = .ok (.iconst 4, 1) := by decide +kernel
theorem dX9_readOperands_11 : decode cX9_readOperands 11 = .ok (.if_icmp .ne 23, 3) := by decide +kernel
theorem dX9_readOperands_14 : decode cX9_readOperands 14 = .ok (.aload_n 0, 1) := by decide +kernel
theorem dX9_readOperands_15 : decode cX9_readOperands 15 = .ok (.getfield 15, 3) := by decide +kernel
theorem dX9_readOperands_18 : decode cX9_readOperands 18 = .ok (.iload_n 3, 1) := by decide +kernel
theorem dX9_readOperands_19 : decode cX9_readOperands 19 = .ok (.aload_n 1, 1) := by decide +kernel
theorem dX9_readOperands_20 : decode cX9_readOperands 20 = .ok (.iconst 0, 1) := by decide +kernel
theorem dX9_readOperands_21 : decode cX9_readOperands 21 = .ok (.aload_n 2, 1) := by decide +kernel
theorem dX9_readOperands_22 : decode cX9_readOperands 22 = .ok (.getfield 70, 3) := by decide +kernel
theorem dX9_readOperands_25 : decode cX9_readOperands 25 = .ok (.iconst 1, 1) := by decide +kernel
theorem dX9_readOperands_26 : decode cX9_readOperands 26 = .ok (.isub, 1) := by decide +kernel
theorem dX9_readOperands_27 : decode cX9_readOperands 27 = .ok (.invokevirtual 63, 3) := by decide +kernel
theorem dX9_readOperands_30 : decode cX9_readOperands 30 = .ok (.iastore, 1) := by decide +kernel
theorem dX9_readOperands_31 : decode cX9_readOperands 31 = .ok (.goto 27, 3) := by decide +kernel
theorem dX9_readOperands_34 : decode cX9_readOperands 34 = .ok (.iload 4, 2) := by decide +kernel
theorem dX9_readOperands_36 : decode cX9_readOperands 36 = .ok (.bipush 6, 2) := by decide +kernel
theorem dX9_readOperands_38 : decode cX9_readOperands 38 = .ok (.if_icmp .eq 20, 3) := by decide +kernel
theorem dX9_readOperands_41 : decode cX9_readOperands 41 = .ok (.aload_n 0, 1) := by decide +kernel
theorem dX9_readOperands_42 : decode cX9_readOperands 42 = .ok (.getfield 15, 3) := by decide +kernel
theorem dX9_readOperands_45 : decode cX9_readOperands 45 = .ok (.iload_n 3, 1) := by decide +kernel
theorem dX9_readOperands_46 : decode cX9_readOperands 46 = .ok (.aload_n 1, 1) := by decide +kernel
theorem dX9_readOperands_47 : decode cX9_readOperands 47 = .ok (.iconst 0, 1) := by decide +kernel
theorem dX9_readOperands_48 : decode cX9_readOperands 48 = .ok (.aload_n 2, 1) := by decide +kernel
theorem dX9_readOperands_49 : decode cX9_readOperands 49 = .ok (.getfield 75, 3) := by decide +kernel
theorem dX9_readOperands_52 : decode cX9_readOperands 52 = .ok (.iconst 1, 1) := by decide +kernel
theorem dX9_readOperands_53 : decode cX9_readOperands 53 = .ok (.isub, 1) := by decide +kernel
theorem dX9_readOperands_54 : decode cX9_readOperands 54 = .ok (.invokevirtual 63, 3) := by decide +kernel
theorem dX9_readOperands_57 : decode cX9_readOperands 57 = .ok (.iastore, 1) := by decide +kernel
theorem dX9_readOperands_58 : decode cX9_readOperands 58 = .ok (.iload 4, 2) := by decide +kernel
theorem dX9_readOperands_60 : decode cX9_readOperands 60 = .ok (.ifCond .ne 23, 3) := by decide +kernel
theorem dX9_readOperands_63 : decode cX9_readOperands 63 = .ok (.aload_n 0, 1) := by decide +kernel
theorem dX9_readOperands_64 : decode cX9_readOperands 64 = .ok (.getfield 18, 3) := by decide +kernel
theorem dX9_readOperands_67 : decode cX9_readOperands 67 = .ok (.iload_n 3, 1) := by decide +kernel
theorem dX9_readOperands_68 : decode cX9_readOperands 68 = .ok (.aload_n 1, 1) := by decide +kernel
theorem dX9_readOperands_69 : decode cX9_readOperands 69 = .ok (.iconst 0, 1) := by decide +kernel
theorem dX9_readOperands_70 : decode cX9_readOperands 70 = .ok (.aload_n 2, 1) := by decide +kernel
theorem dX9_readOperands_71 : decode cX9_readOperands 71 = .ok (.getfield 70, 3) := by decide +kernel
theorem dX9_readOperands_74 : decode cX9_readOperands 74 = .ok (.iconst 1, 1) := by decide +kernel
theorem dX9_readOperands_75 : decode cX9_readOperands 75 = .ok (.isub, 1) := by decide +kernel
theorem dX9_readOperands_76 : decode cX9_readOperands 76 = .ok (.invokevirtual 63, 3) := by decide +kernel
theorem dX9_readOperands_79 : decode cX9_readOperands 79 = .ok (.iastore, 1) := by decide +kernel
theorem dX9_readOperands_80 : decode cX9_readOperands 80 = .ok (.goto 26, 3) := by decide +kernel
theorem dX9_readOperands_83 : decode cX9_readOperands 83 = .ok (.iload 4, 2) := by decide +kernel
theorem dX9_readOperands_85 : decode cX9_readOperands 85 = .ok (.iconst 2, 1) := by decide +kernel
theorem dX9_readOperands_86 : decode cX9_readOperands 86 = .ok (.if_icmp .ne 20, 3) := by decide +kernel
theorem dX9_readOperands_89 : decode cX9_readOperands 89 = .ok (.aload_n 0, 1) := by decide +kernel
theorem dX9_readOperands_90 : decode cX9_readOperands 90 = .ok (.getfield 18, 3) := by decide +kernel
theorem dX9_readOperands_93 : decode cX9_readOperands 93 = .ok (.iload_n 3, 1) := by decide +kernel
theorem dX9_readOperands_94 : decode cX9_readOperands 94 = .ok (.aload_n 1, 1) := by decide +kernel
theorem dX9_readOperands_95 : decode cX9_readOperands 95 = .ok (.iconst 0, 1) := by decide +kernel
theorem dX9_readOperands_96 : decode cX9_readOperands 96 = .ok (.aload_n 2, 1) := by decide +kernel
theorem dX9_readOperands_97 : decode cX9_readOperands 97 = .ok (.getfield 78, 3) := by decide +kernel
theorem dX9_readOperands_100 : decode cX9_readOperands 100 = .ok (.iconst 1, 1) := by decide +kernel
theorem dX9_readOperands_101 : decode cX9_readOperands 101 = .ok (.isub, 1) := by decide +kernel
theorem dX9_readOperands_102 : decode cX9_readOperands 102 = .ok (.invokevirtual 63, 3) := by decide +kernel
theorem dX9_readOperands_105 : decode cX9_readOperands 105 = .ok (.iastore, 1) := by decide +kernel
theorem dX9_readOperands_106 : decode cX9_readOperands 106 = .ok (.return_, 1) := by decide +kernel
theorem dX9_stepOf_0 : decode cX9_stepOf 0 = .ok (.aload_n 0, 1) := by decide +kernel
theorem dX9_stepOf_1 : decode cX9_stepOf 1 = .ok (.ldc 81, 2) := by decide +kernel
theorem dX9_stepOf_3 : decode cX9_stepOf 3 = .ok (.invokevirtual 83, 3) := by decide +kernel
theorem dX9_stepOf_6 : decode cX9_stepOf 6 = .ok (.ifCond .eq 5, 3) := by decide +kernel
theorem dX9_stepOf_9 : decode cX9_stepOf 9 = .ok (.iconst 0, 1) := by decide +kernel
theorem dX9_stepOf_10 : decode cX9_stepOf 10 = .ok (.ireturn, 1) := by decide +kernel
theorem dX9_stepOf_11 : decode cX9_stepOf 11 = .ok (.aload_n 0, 1) := by decide +kernel
theorem dX9_stepOf_12 : decode cX9_stepOf 12 = .ok (.ldc 87, 2) := by decide +kernel
theorem dX9_stepOf_14 : decode cX9_stepOf 14 = .ok (.invokevirtual 83, 3) := by decide +kernel
theorem dX9_stepOf_17 : decode cX9_stepOf 17 = .ok (.ifCond .eq 5, 3) := by decide +kernel
theorem dX9_stepOf_20 : decode cX9_stepOf 20 = .ok (.iconst 1, 1) := by decide +kernel
theorem dX9_stepOf_21 : decode cX9_stepOf 21 = .ok (.ireturn, 1) := by decide +kernel
theorem dX9_stepOf_22 : decode cX9_stepOf 22 = .ok (.aload_n 0, 1) := by decide +kernel
theorem dX9_stepOf_23 : decode cX9_stepOf 23 = .ok (.ldc 89, 2) := by decide +kernel
theorem dX9_stepOf_25 : decode cX9_stepOf 25 = .ok (.invokevirtual 83, 3) := by decide +kernel
theorem dX9_stepOf_28 : decode cX9_stepOf 28 = .ok (.ifCond .eq 5, 3) := by decide +kernel
theorem dX9_stepOf_31 : decode cX9_stepOf 31 = .ok (.iconst 2, 1) := by decide +kernel
theorem dX9_stepOf_32 : decode cX9_stepOf 32 = .ok (.ireturn, 1) := by decide +kernel
theorem dX9_stepOf_33 : decode cX9_stepOf 33 = .ok (.aload_n 0, 1) := by decide +kernel
theorem dX9_stepOf_34 : decode cX9_stepOf 34 = .ok (.ldc 91, 2) := by decide +kernel
theorem dX9_stepOf_36 : decode cX9_stepOf 36 = .ok (.invokevirtual 83, 3) := by decide +kernel
theorem dX9_stepOf_39 : decode cX9_stepOf 39 = .ok (.ifCond .eq 5, 3) := by decide +kernel
theorem dX9_stepOf_42 : decode cX9_stepOf 42 = .ok (.iconst 3, 1) := by decide +kernel
theorem dX9_stepOf_43 : decode cX9_stepOf 43 = .ok (.ireturn, 1) := by decide +kernel
theorem dX9_stepOf_44 : decode cX9_stepOf 44 = .ok (.aload_n 0, 1) := by decide +kernel
theorem dX9_stepOf_45 : decode cX9_stepOf 45 = .ok (.ldc 93, 2) := by decide +kernel
theorem dX9_stepOf_47 : decode cX9_stepOf 47 = .ok (.invokevirtual 83, 3) := by decide +kernel
theorem dX9_stepOf_50 : decode cX9_stepOf 50 = .ok (.ifCond .eq 5, 3) := by decide +kernel
theorem dX9_stepOf_53 : decode cX9_stepOf 53 = .ok (.iconst 4, 1) := by decide +kernel
theorem dX9_stepOf_54 : decode cX9_stepOf 54 = .ok (.ireturn, 1) := by decide +kernel
theorem dX9_stepOf_55 : decode cX9_stepOf 55 = .ok (.aload_n 0, 1) := by decide +kernel
theorem dX9_stepOf_56 : decode cX9_stepOf 56 = .ok (.ldc 95, 2) := by decide +kernel
theorem dX9_stepOf_58 : decode cX9_stepOf 58 = .ok (.invokevirtual 83, 3) := by decide +kernel
theorem dX9_stepOf_61 : decode cX9_stepOf 61 = .ok (.ifCond .eq 5, 3) := by decide +kernel
theorem dX9_stepOf_64 : decode cX9_stepOf 64 = .ok (.iconst 5, 1) := by decide +kernel
theorem dX9_stepOf_65 : decode cX9_stepOf 65 = .ok (.ireturn, 1) := by decide +kernel
theorem dX9_stepOf_66 : decode cX9_stepOf 66 = .ok (.aload_n 0, 1) := by decide +kernel
theorem dX9_stepOf_67 : decode cX9_stepOf 67 = .ok (.ldc 97, 2) := by decide +kernel
theorem dX9_stepOf_69 : decode cX9_stepOf 69 = .ok (.invokevirtual 83, 3) := by decide +kernel
theorem dX9_stepOf_72 : decode cX9_stepOf 72 = .ok (.ifCond .eq 6, 3) := by decide +kernel
theorem dX9_stepOf_75 : decode cX9_stepOf 75 = .ok (.bipush 6, 2) := by decide +kernel
theorem dX9_stepOf_77 : decode cX9_stepOf 77 = .ok (.ireturn, 1) := by decide +kernel
theorem dX9_stepOf_78 : decode cX9_stepOf 78 = .ok (.aload_n 0, 1) := by decide +kernel
theorem dX9_stepOf_79 : decode cX9_stepOf 79 = .ok (.ldc 99, 2) := by decide +kernel
theorem dX9_stepOf_81 : decode cX9_stepOf 81 = .ok (.invokevirtual 83, 3) := by decide +kernel
theorem dX9_stepOf_84 : decode cX9_stepOf 84 = .ok (.ifCond .eq 8, 3) := by decide +kernel
theorem dX9_stepOf_87 : decode cX9_stepOf 87 = .ok (.bipush 7, 2) := by decide +kernel
theorem dX9_stepOf_89 : decode cX9_stepOf 89 = .ok (.goto 4, 3) := by decide +kernel
theorem dX9_stepOf_92 : decode cX9_stepOf 92 = .ok (.iconst (-1), 1) := by decide +kernel
theorem dX9_stepOf_93 : decode cX9_stepOf 93 = .ok (.ireturn, 1) := by decide +kernel
theorem dX9_begin_0 : decode cX9_begin 0 = .ok (.aload_n 0, 1) := by decide +kernel
theorem dX9_begin_1 : decode cX9_begin 1 = .ok (.iconst 0, 1) := by decide +kernel
theorem dX9_begin_2 : decode cX9_begin 2 = .ok (.putfield 101, 3) := by decide +kernel
theorem dX9_begin_5 : decode cX9_begin 5 = .ok (.aload_n 0, 1) := by decide +kernel
theorem dX9_begin_6 : decode cX9_begin 6 = .ok (.iconst 0, 1) := by decide +kernel
theorem dX9_begin_7 : decode cX9_begin 7 = .ok (.putfield 104, 3) := by decide +kernel
theorem dX9_begin_10 : decode cX9_begin 10 = .ok (.aload_n 0, 1) := by decide +kernel
theorem dX9_begin_11 : decode cX9_begin 11 = .ok (.iconst 0, 1) := by decide +kernel
theorem dX9_begin_12 : decode cX9_begin 12 = .ok (.putfield 107, 3) := by decide +kernel
theorem dX9_begin_15 : decode cX9_begin 15 = .ok (.aload_n 0, 1) := by decide +kernel
theorem dX9_begin_16 : decode cX9_begin 16 = .ok (.aload_n 1, 1) := by decide +kernel
theorem dX9_begin_17 : decode cX9_begin 17 = .ok (.aload_n 2, 1) := by decide +kernel
theorem dX9_begin_18 : decode cX9_begin 18 = .ok (.iconst 0, 1) := by decide +kernel
theorem dX9_begin_19 : decode cX9_begin 19 = .ok (.aload_n 0, 1) := by decide +kernel
theorem dX9_begin_20 : decode cX9_begin 20 = .ok (.getfield 24, 3) := by decide +kernel
theorem dX9_begin_23 : decode cX9_begin 23 = .ok (.iconst 0, 1) := by decide +kernel
theorem dX9_begin_24 : decode cX9_begin 24 = .ok (.invokevirtual 110, 3) := by decide +kernel
theorem dX9_begin_27 : decode cX9_begin 27 = .ok (.return_, 1) := by decide +kernel
theorem dX9_doSteps_0 : decode cX9_doSteps 0 = .ok (.iload_n 3, 1) := by decide +kernel
theorem dX9_doSteps_1 : decode cX9_doSteps 1 = .ok (.istore 6, 2) := by decide +kernel
theorem dX9_doSteps_3 : decode cX9_doSteps 3 = .ok (.iload 6, 2) := by decide +kernel
theorem dX9_doSteps_5 : decode cX9_doSteps 5 = .ok (.iload 4, 2) := by decide +kernel
theorem dX9_doSteps_7 : decode cX9_doSteps 7 = .ok (.if_icmp .ge 143, 3) := by decide +kernel
theorem dX9_doSteps_10 : decode cX9_doSteps 10 = .ok (.aload_n 0, 1) := by decide +kernel
theorem dX9_doSteps_11 : decode cX9_doSteps 11 = .ok (.getfield 101, 3) := by decide +kernel
theorem dX9_doSteps_14 : decode cX9_doSteps 14 = .ok (.sipush 200, 3) := by decide +kernel
theorem dX9_doSteps_17 : decode cX9_doSteps 17 = .ok (.if_icmp .ge 133, 3) := by decide +kernel
theorem dX9_doSteps_20 : decode cX9_doSteps 20 = .ok (.aload_n 0, 1) := by decide +kernel
theorem dX9_doSteps_21 : decode cX9_doSteps 21 = .ok (.dup, 1) := by decide +kernel
theorem dX9_doSteps_22 : decode cX9_doSteps 22 = .ok (.getfield 101, 3) := by decide +kernel
theorem dX9_doSteps_25 : decode cX9_doSteps 25 = .ok (.iconst 1, 1) := by decide +kernel
theorem dX9_doSteps_26 : decode cX9_doSteps 26 = .ok (.iadd, 1) := by decide +kernel
theorem dX9_doSteps_27 : decode cX9_doSteps 27 = .ok (.putfield 101, 3) := by decide +kernel
theorem dX9_doSteps_30 : decode cX9_doSteps 30 = .ok (.aload_n 0, 1) := by decide +kernel
theorem dX9_doSteps_31 : decode cX9_doSteps 31 = .ok (.getfield 11, 3) := by decide +kernel
theorem dX9_doSteps_34 : decode cX9_doSteps 34 = .ok (.iload 6, 2) := by decide +kernel
theorem dX9_doSteps_36 : decode cX9_doSteps 36 = .ok (.iaload, 1) := by decide +kernel
theorem dX9_doSteps_37 : decode cX9_doSteps 37 = .ok (.bipush 7, 2) := by decide +kernel
theorem dX9_doSteps_39 : decode cX9_doSteps 39 = .ok (.if_icmp .ne 65, 3) := by decide +kernel
theorem dX9_doSteps_42 : decode cX9_doSteps 42 = .ok (.iconst 0, 1) := by decide +kernel
theorem dX9_doSteps_43 : decode cX9_doSteps 43 = .ok (.istore 7, 2) := by decide +kernel
theorem dX9_doSteps_45 : decode cX9_doSteps 45 = .ok (.iload 7, 2) := by decide +kernel
theorem dX9_doSteps_47 : decode cX9_doSteps 47 = .ok (.aload_n 0, 1) := by decide +kernel
theorem dX9_doSteps_48 : decode cX9_doSteps 48 = .ok (.getfield 15, 3) := by decide +kernel
theorem dX9_doSteps_51 : decode cX9_doSteps 51 = .ok (.iload 6, 2) := by decide +kernel
theorem dX9_doSteps_53 : decode cX9_doSteps 53 = .ok (.iaload, 1) := by decide +kernel
theorem dX9_doSteps_54 : decode cX9_doSteps 54 = .ok (.if_icmp .ge 47, 3) := by decide +kernel
theorem dX9_doSteps_57 : decode cX9_doSteps 57 = .ok (.aload_n 0, 1) := by decide +kernel
theorem dX9_doSteps_58 : decode cX9_doSteps 58 = .ok (.getfield 101, 3) := by decide +kernel
theorem dX9_doSteps_61 : decode cX9_doSteps 61 = .ok (.sipush 200, 3) := by decide +kernel
theorem dX9_doSteps_64 : decode cX9_doSteps 64 = .ok (.if_icmp .ge 37, 3) := by decide +kernel
theorem dX9_doSteps_67 : decode cX9_doSteps 67 = .ok (.iload 5, 2) := by decide +kernel
theorem dX9_doSteps_69 : decode cX9_doSteps 69 = .ok (.bipush 6, 2) := by decide +kernel
theorem dX9_doSteps_71 : decode cX9_doSteps 71 = .ok (.if_icmp .ge 30, 3) := by decide +kernel
theorem dX9_doSteps_74 : decode cX9_doSteps 74 = .ok (.aload_n 0, 1) := by decide +kernel
theorem dX9_doSteps_75 : decode cX9_doSteps 75 = .ok (.aload_n 1, 1) := by decide +kernel
theorem dX9_doSteps_76 : decode cX9_doSteps 76 = .ok (.aload_n 2, 1) := by decide +kernel
theorem dX9_doSteps_77 : decode cX9_doSteps 77 = .ok (.iload 6, 2) := by decide +kernel
theorem dX9_doSteps_79 : decode cX9_doSteps 79 = .ok (.iconst 1, 1) := by decide +kernel
theorem dX9_doSteps_80 : decode cX9_doSteps 80 = .ok (.iadd, 1) := by decide +kernel
theorem dX9_doSteps_81 : decode cX9_doSteps 81 = .ok (.aload_n 0, 1) := by decide +kernel
theorem dX9_doSteps_82 : decode cX9_doSteps 82 = .ok (.getfield 21, 3) := by decide +kernel
theorem dX9_doSteps_85 : decode cX9_doSteps 85 = .ok (.iload 6, 2) := by decide +kernel
theorem dX9_doSteps_87 : decode cX9_doSteps 87 = .ok (.iaload, 1) := by decide +kernel
theorem dX9_doSteps_88 : decode cX9_doSteps 88 = .ok (.iload 5, 2) := by decide +kernel
theorem dX9_doSteps_90 : decode cX9_doSteps 90 = .ok (.iconst 1, 1) := by decide +kernel
theorem dX9_doSteps_91 : decode cX9_doSteps 91 = .ok (.iadd, 1) := by decide +kernel
theorem dX9_doSteps_92 : decode cX9_doSteps 92 = .ok (.invokevirtual 110, 3) := by decide +kernel
theorem dX9_doSteps_95 : decode cX9_doSteps 95 = .ok (.iinc 7 1, 3) := by decide +kernel
theorem dX9_doSteps_98 : decode cX9_doSteps 98 = .ok (.goto (-53), 3) := by decide +kernel
theorem dX9_doSteps_101 : decode cX9_doSteps 101 = .ok (.goto 37, 3) := by decide +kernel
theorem dX9_doSteps_104 : decode cX9_doSteps 104 = .ok (.aload_n 0, 1) := by decide +kernel
theorem dX9_doSteps_105 : decode cX9_doSteps 105 = .ok (.aload_n 1, 1) := by decide +kernel
theorem dX9_doSteps_106 : decode cX9_doSteps 106 = .ok (.aload_n 2, 1) := by decide +kernel
theorem dX9_doSteps_107 : decode cX9_doSteps 107 = .ok (.iload 6, 2) := by decide +kernel
theorem dX9_doSteps_109 : decode cX9_doSteps 109 = .ok (.invokevirtual 114, 3) := by decide +kernel
theorem dX9_doSteps_112 : decode cX9_doSteps 112 = .ok (.ifCond .eq 16, 3) := by decide +kernel
theorem dX9_doSteps_115 : decode cX9_doSteps 115 = .ok (.aload_n 0, 1) := by decide +kernel
theorem dX9_doSteps_116 : decode cX9_doSteps 116 = .ok (.dup, 1) := by decide +kernel
theorem dX9_doSteps_117 : decode cX9_doSteps 117 = .ok (.getfield 104, 3) := by decide +kernel
theorem dX9_doSteps_120 : decode cX9_doSteps 120 = .ok (.iconst 1, 1) := by decide +kernel
theorem dX9_doSteps_121 : decode cX9_doSteps 121 = .ok (.iadd, 1) := by decide +kernel
theorem dX9_doSteps_122 : decode cX9_doSteps 122 = .ok (.putfield 104, 3) := by decide +kernel
theorem dX9_doSteps_125 : decode cX9_doSteps 125 = .ok (.goto 13, 3) := by decide +kernel
theorem dX9_doSteps_128 : decode cX9_doSteps 128 = .ok (.aload_n 0, 1) := by decide +kernel
theorem dX9_doSteps_129 : decode cX9_doSteps 129 = .ok (.dup, 1) := by decide +kernel
theorem dX9_doSteps_130 : decode cX9_doSteps 130 = .ok (.getfield 107, 3) := by decide +kernel
theorem dX9_doSteps_133 : decode cX9_doSteps 133 = .ok (.iconst 1, 1) := by decide +kernel
theorem dX9_doSteps_134 : decode cX9_doSteps 134 = .ok (.iadd, 1) := by decide +kernel
theorem dX9_doSteps_135 : decode cX9_doSteps 135 = .ok (.putfield 107, 3) := by decide +kernel
theorem dX9_doSteps_138 : decode cX9_doSteps 138 = .ok (.aload_n 0, 1) := by decide +kernel
theorem dX9_doSteps_139 : decode cX9_doSteps 139 = .ok (.getfield 21, 3) := by decide +kernel
theorem dX9_doSteps_142 : decode cX9_doSteps 142 = .ok (.iload 6, 2) := by decide +kernel
theorem dX9_doSteps_144 : decode cX9_doSteps 144 = .ok (.iaload, 1) := by decide +kernel
theorem dX9_doSteps_145 : decode cX9_doSteps 145 = .ok (.istore 6, 2) := by decide +kernel
theorem dX9_doSteps_147 : decode cX9_doSteps 147 = .ok (.goto (-144), 3) := by decide +kernel
theorem dX9_doSteps_150 : decode cX9_doSteps 150 = .ok (.return_, 1) := by decide +kernel
theorem dX9_doStep_0 : decode cX9_doStep 0 = .ok (.aload_n 0, 1) := by decide +kernel
theorem dX9_doStep_1 : decode cX9_doStep 1 = .ok (.getfield 11, 3) := by decide +kernel
theorem dX9_doStep_4 : decode cX9_doStep 4 = .ok (.iload_n 3, 1) := by decide +kernel
theorem dX9_doStep_5 : decode cX9_doStep 5 = .ok (.iaload, 1) := by decide +kernel
theorem dX9_doStep_6 : decode cX9_doStep 6 = .ok (.tableswitch 130 0 5 #[38, 55, 66, 83, 94, 105], 38) := by decide +kernel
theorem dX9_doStep_44 : decode cX9_doStep 44 = .ok (.aload_n 1, 1) := by decide +kernel
theorem dX9_doStep_45 : decode cX9_doStep 45 = .ok (.aload_n 0, 1) := by decide +kernel
theorem dX9_doStep_46 : decode cX9_doStep 46 = .ok (.getfield 15, 3) := by decide +kernel
theorem dX9_doStep_49 : decode cX9_doStep 49 = .ok (.iload_n 3, 1) := by decide +kernel
theorem dX9_doStep_50 : decode cX9_doStep 50 = .ok (.iaload, 1) := by decide +kernel
theorem dX9_doStep_51 : decode cX9_doStep 51 = .ok (.aload_n 0, 1) := by decide +kernel
theorem dX9_doStep_52 : decode cX9_doStep 52 = .ok (.getfield 18, 3) := by decide +kernel
theorem dX9_doStep_55 : decode cX9_doStep 55 = .ok (.iload_n 3, 1) := by decide +kernel
theorem dX9_doStep_56 : decode cX9_doStep 56 = .ok (.iaload, 1) := by decide +kernel
theorem dX9_doStep_57 : decode cX9_doStep 57 = .ok (.invokevirtual 118, 3) := by decide +kernel
theorem dX9_doStep_60 : decode cX9_doStep 60 = .ok (.ireturn, 1) := by decide +kernel
theorem dX9_doStep_61 : decode cX9_doStep 61 = .ok (.aload_n 1, 1) := by decide +kernel
theorem dX9_doStep_62 : decode cX9_doStep 62 = .ok (.aload_n 0, 1) := by decide +kernel
theorem dX9_doStep_63 : decode cX9_doStep 63 = .ok (.getfield 15, 3) := by decide +kernel
theorem dX9_doStep_66 : decode cX9_doStep 66 = .ok (.iload_n 3, 1) := by decide +kernel
theorem dX9_doStep_67 : decode cX9_doStep 67 = .ok (.iaload, 1) := by decide +kernel
theorem dX9_doStep_68 : decode cX9_doStep 68 = .ok (.invokevirtual 123, 3) := by decide +kernel
theorem dX9_doStep_71 : decode cX9_doStep 71 = .ok (.ireturn, 1) := by decide +kernel
theorem dX9_doStep_72 : decode cX9_doStep 72 = .ok (.aload_n 1, 1) := by decide +kernel
theorem dX9_doStep_73 : decode cX9_doStep 73 = .ok (.aload_n 0, 1) := by decide +kernel
theorem dX9_doStep_74 : decode cX9_doStep 74 = .ok (.getfield 15, 3) := by decide +kernel
theorem dX9_doStep_77 : decode cX9_doStep 77 = .ok (.iload_n 3, 1) := by decide +kernel
theorem dX9_doStep_78 : decode cX9_doStep 78 = .ok (.iaload, 1) := by decide +kernel
theorem dX9_doStep_79 : decode cX9_doStep 79 = .ok (.aload_n 0, 1) := by decide +kernel
theorem dX9_doStep_80 : decode cX9_doStep 80 = .ok (.getfield 18, 3) := by decide +kernel
theorem dX9_doStep_83 : decode cX9_doStep 83 = .ok (.iload_n 3, 1) := by decide +kernel
theorem dX9_doStep_84 : decode cX9_doStep 84 = .ok (.iaload, 1) := by decide +kernel
theorem dX9_doStep_85 : decode cX9_doStep 85 = .ok (.invokevirtual 126, 3) := by decide +kernel
