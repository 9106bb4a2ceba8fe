theorem dX11_isHat_13 : decode cX11_isHat 13 = .ok (.iconst 0, 1) := by decide +kernel
theorem dX11_isHat_14 : decode cX11_isHat 14 = .ok (.invokevirtual 216, 3) := by decide +kernel
theorem dX11_isHat_17 : decode cX11_isHat 17 = .ok (.ireturn, 1) := by decide +kernel
theorem dX11_isGround_0 : decode cX11_isGround 0 = .ok (.aload_n 0, 1) := by decide +kernel
theorem dX11_isGround_1 : decode cX11_isGround 1 = .ok (.iload_n 1, 1) := by decide +kernel
theorem dX11_isGround_2 : decode cX11_isGround 2 = .ok (.iconst 0, 1) := by decide +kernel
theorem dX11_isGround_3 : decode cX11_isGround 3 = .ok (.aload_n 0, 1) := by decide +kernel
theorem dX11_isGround_4 : decode cX11_isGround 4 = .ok (.getfield 178, 3) := by decide +kernel
theorem dX11_isGround_7 : decode cX11_isGround 7 = .ok (.iconst 1, 1) := by decide +kernel
theorem dX11_isGround_8 : decode cX11_isGround 8 = .ok (.isub, 1) := by decide +kernel
theorem dX11_isGround_9 : decode cX11_isGround 9 = .ok (.invokestatic 383, 3) := by decide +kernel
theorem dX11_isGround_12 : decode cX11_isGround 12 = .ok (.iload_n 2, 1) := by decide +kernel
theorem dX11_isGround_13 : decode cX11_isGround 13 = .ok (.iconst 0, 1) := by decide +kernel
theorem dX11_isGround_14 : decode cX11_isGround 14 = .ok (.invokevirtual 216, 3) := by decide +kernel
theorem dX11_isGround_17 : decode cX11_isGround 17 = .ok (.ireturn, 1) := by decide +kernel
theorem dX11_isMan_0 : decode cX11_isMan 0 = .ok (.aload_n 0, 1) := by decide +kernel
theorem dX11_isMan_1 : decode cX11_isMan 1 = .ok (.iload_n 1, 1) := by decide +kernel
theorem dX11_isMan_2 : decode cX11_isMan 2 = .ok (.iconst 0, 1) := by decide +kernel
theorem dX11_isMan_3 : decode cX11_isMan 3 = .ok (.aload_n 0, 1) := by decide +kernel
theorem dX11_isMan_4 : decode cX11_isMan 4 = .ok (.getfield 181, 3) := by decide +kernel
theorem dX11_isMan_7 : decode cX11_isMan 7 = .ok (.iconst 1, 1) := by decide +kernel
theorem dX11_isMan_8 : decode cX11_isMan 8 = .ok (.isub, 1) := by decide +kernel
theorem dX11_isMan_9 : decode cX11_isMan 9 = .ok (.invokestatic 383, 3) := by decide +kernel
theorem dX11_isMan_12 : decode cX11_isMan 12 = .ok (.iload_n 2, 1) := by decide +kernel
theorem dX11_isMan_13 : decode cX11_isMan 13 = .ok (.iconst 0, 1) := by decide +kernel
theorem dX11_isMan_14 : decode cX11_isMan 14 = .ok (.invokevirtual 216, 3) := by decide +kernel
theorem dX11_isMan_17 : decode cX11_isMan 17 = .ok (.ireturn, 1) := by decide +kernel
theorem dX11_hat_0 : decode cX11_hat 0 = .ok (.aload_n 0, 1) := by decide +kernel
theorem dX11_hat_1 : decode cX11_hat 1 = .ok (.iconst 0, 1) := by decide +kernel
theorem dX11_hat_2 : decode cX11_hat 2 = .ok (.putfield 3, 3) := by decide +kernel
theorem dX11_hat_5 : decode cX11_hat 5 = .ok (.aload_n 0, 1) := by decide +kernel
theorem dX11_hat_6 : decode cX11_hat 6 = .ok (.iload_n 1, 1) := by decide +kernel
theorem dX11_hat_7 : decode cX11_hat 7 = .ok (.iconst 1, 1) := by decide +kernel
theorem dX11_hat_8 : decode cX11_hat 8 = .ok (.invokevirtual 398, 3) := by decide +kernel
theorem dX11_hat_11 : decode cX11_hat 11 = .ok (.ifCond .eq 18, 3) := by decide +kernel
theorem dX11_hat_14 : decode cX11_hat 14 = .ok (.aload_n 0, 1) := by decide +kernel
theorem dX11_hat_15 : decode cX11_hat 15 = .ok (.iload_n 2, 1) := by decide +kernel
theorem dX11_hat_16 : decode cX11_hat 16 = .ok (.iconst 0, 1) := by decide +kernel
theorem dX11_hat_17 : decode cX11_hat 17 = .ok (.iconst 3, 1) := by decide +kernel
theorem dX11_hat_18 : decode cX11_hat 18 = .ok (.invokestatic 383, 3) := by decide +kernel
theorem dX11_hat_21 : decode cX11_hat 21 = .ok (.iconst 2, 1) := by decide +kernel
theorem dX11_hat_22 : decode cX11_hat 22 = .ok (.iconst 1, 1) := by decide +kernel
theorem dX11_hat_23 : decode cX11_hat 23 = .ok (.invokevirtual 216, 3) := by decide +kernel
theorem dX11_hat_26 : decode cX11_hat 26 = .ok (.ifCond .ne 5, 3) := by decide +kernel
theorem dX11_hat_29 : decode cX11_hat 29 = .ok (.iconst 0, 1) := by decide +kernel
theorem dX11_hat_30 : decode cX11_hat 30 = .ok (.ireturn, 1) := by decide +kernel
theorem dX11_hat_31 : decode cX11_hat 31 = .ok (.aload_n 0, 1) := by decide +kernel
theorem dX11_hat_32 : decode cX11_hat 32 = .ok (.invokevirtual 323, 3) := by decide +kernel
theorem dX11_hat_35 : decode cX11_hat 35 = .ok (.iload_n 2, 1) := by decide +kernel
theorem dX11_hat_36 : decode cX11_hat 36 = .ok (.iconst 2, 1) := by decide +kernel
theorem dX11_hat_37 : decode cX11_hat 37 = .ok (.if_icmp .ge 16, 3) := by decide +kernel
theorem dX11_hat_40 : decode cX11_hat 40 = .ok (.aload_n 0, 1) := by decide +kernel
theorem dX11_hat_41 : decode cX11_hat 41 = .ok (.getfield 35, 3) := by decide +kernel
theorem dX11_hat_44 : decode cX11_hat 44 = .ok (.iconst 2, 1) := by decide +kernel
theorem dX11_hat_45 : decode cX11_hat 45 = .ok (.iload_n 1, 1) := by decide +kernel
theorem dX11_hat_46 : decode cX11_hat 46 = .ok (.imul, 1) := by decide +kernel
theorem dX11_hat_47 : decode cX11_hat 47 = .ok (.iload_n 2, 1) := by decide +kernel
theorem dX11_hat_48 : decode cX11_hat 48 = .ok (.iadd, 1) := by decide +kernel
theorem dX11_hat_49 : decode cX11_hat 49 = .ok (.iaload, 1) := by decide +kernel
theorem dX11_hat_50 : decode cX11_hat 50 = .ok (.goto 25, 3) := by decide +kernel
theorem dX11_hat_53 : decode cX11_hat 53 = .ok (.iload_n 2, 1) := by decide +kernel
theorem dX11_hat_54 : decode cX11_hat 54 = .ok (.iconst 2, 1) := by decide +kernel
theorem dX11_hat_55 : decode cX11_hat 55 = .ok (.if_icmp .ne 11, 3) := by decide +kernel
theorem dX11_hat_58 : decode cX11_hat 58 = .ok (.aload_n 0, 1) := by decide +kernel
theorem dX11_hat_59 : decode cX11_hat 59 = .ok (.iload_n 1, 1) := by decide +kernel
theorem dX11_hat_60 : decode cX11_hat 60 = .ok (.invokevirtual 361, 3) := by decide +kernel
theorem dX11_hat_63 : decode cX11_hat 63 = .ok (.goto 12, 3) := by decide +kernel
theorem dX11_hat_66 : decode cX11_hat 66 = .ok (.aload_n 0, 1) := by decide +kernel
theorem dX11_hat_67 : decode cX11_hat 67 = .ok (.getfield 74, 3) := by decide +kernel
theorem dX11_hat_70 : decode cX11_hat 70 = .ok (.bipush 36, 2) := by decide +kernel
theorem dX11_hat_72 : decode cX11_hat 72 = .ok (.iload_n 1, 1) := by decide +kernel
theorem dX11_hat_73 : decode cX11_hat 73 = .ok (.iadd, 1) := by decide +kernel
theorem dX11_hat_74 : decode cX11_hat 74 = .ok (.iaload, 1) := by decide +kernel
theorem dX11_hat_75 : decode cX11_hat 75 = .ok (.ireturn, 1) := by decide +kernel
theorem dX11_ground_0 : decode cX11_ground 0 = .ok (.aload_n 0, 1) := by decide +kernel
theorem dX11_ground_1 : decode cX11_ground 1 = .ok (.iconst 0, 1) := by decide +kernel
theorem dX11_ground_2 : decode cX11_ground 2 = .ok (.putfield 3, 3) := by decide +kernel
theorem dX11_ground_5 : decode cX11_ground 5 = .ok (.aload_n 0, 1) := by decide +kernel
theorem dX11_ground_6 : decode cX11_ground 6 = .ok (.iload_n 1, 1) := by decide +kernel
theorem dX11_ground_7 : decode cX11_ground 7 = .ok (.iconst 1, 1) := by decide +kernel
theorem dX11_ground_8 : decode cX11_ground 8 = .ok (.invokevirtual 401, 3) := by decide +kernel
theorem dX11_ground_11 : decode cX11_ground 11 = .ok (.ifCond .eq 18, 3) := by decide +kernel
theorem dX11_ground_14 : decode cX11_ground 14 = .ok (.aload_n 0, 1) := by decide +kernel
theorem dX11_ground_15 : decode cX11_ground 15 = .ok (.iload_n 2, 1) := by decide +kernel
theorem dX11_ground_16 : decode cX11_ground 16 = .ok (.iconst 0, 1) := by decide +kernel
theorem dX11_ground_17 : decode cX11_ground 17 = .ok (.iconst 3, 1) := by decide +kernel
theorem dX11_ground_18 : decode cX11_ground 18 = .ok (.invokestatic 383, 3) := by decide +kernel
theorem dX11_ground_21 : decode cX11_ground 21 = .ok (.iconst 2, 1) := by decide +kernel
theorem dX11_ground_22 : decode cX11_ground 22 = .ok (.iconst 1, 1) := by decide +kernel
theorem dX11_ground_23 : decode cX11_ground 23 = .ok (.invokevirtual 216, 3) := by decide +kernel
theorem dX11_ground_26 : decode cX11_ground 26 = .ok (.ifCond .ne 5, 3) := by decide +kernel
theorem dX11_ground_29 : decode cX11_ground 29 = .ok (.iconst 0, 1) := by decide +kernel
theorem dX11_ground_30 : decode cX11_ground 30 = .ok (.ireturn, 1) := by decide +kernel
theorem dX11_ground_31 : decode cX11_ground 31 = .ok (.aload_n 0, 1) := by decide +kernel
theorem dX11_ground_32 : decode cX11_ground 32 = .ok (.invokevirtual 323, 3) := by decide +kernel
theorem dX11_ground_35 : decode cX11_ground 35 = .ok (.iload_n 2, 1) := by decide +kernel
theorem dX11_ground_36 : decode cX11_ground 36 = .ok (.ifCond .ne 15, 3) := by decide +kernel
theorem dX11_ground_39 : decode cX11_ground 39 = .ok (.aload_n 0, 1) := by decide +kernel
theorem dX11_ground_40 : decode cX11_ground 40 = .ok (.getfield 74, 3) := by decide +kernel
theorem dX11_ground_43 : decode cX11_ground 43 = .ok (.bipush 44, 2) := by decide +kernel
theorem dX11_ground_45 : decode cX11_ground 45 = .ok (.iload_n 1, 1) := by decide +kernel
theorem dX11_ground_46 : decode cX11_ground 46 = .ok (.iadd, 1) := by decide +kernel
theorem dX11_ground_47 : decode cX11_ground 47 = .ok (.iaload, 1) := by decide +kernel
theorem dX11_ground_48 : decode cX11_ground 48 = .ok (.goto 42, 3) := by decide +kernel
theorem dX11_ground_51 : decode cX11_ground 51 = .ok (.iload_n 2, 1) := by decide +kernel
theorem dX11_ground_52 : decode cX11_ground 52 = .ok (.iconst 1, 1) := by decide +kernel
theorem dX11_ground_53 : decode cX11_ground 53 = .ok (.if_icmp .ne 16, 3) := by decide +kernel
theorem dX11_ground_56 : decode cX11_ground 56 = .ok (.aload_n 0, 1) := by decide +kernel
theorem dX11_ground_57 : decode cX11_ground 57 = .ok (.getfield 38, 3) := by decide +kernel
theorem dX11_ground_60 : decode cX11_ground 60 = .ok (.iconst 2, 1) := by decide +kernel
theorem dX11_ground_61 : decode cX11_ground 61 = .ok (.iload_n 1, 1) := by decide +kernel
theorem dX11_ground_62 : decode cX11_ground 62 = .ok (.imul, 1) := by decide +kernel
theorem dX11_ground_63 : decode cX11_ground 63 = .ok (.iconst 1, 1) := by decide +kernel
theorem dX11_ground_64 : decode cX11_ground 64 = .ok (.iadd, 1) := by decide +kernel
theorem dX11_ground_65 : decode cX11_ground 65 = .ok (.iaload, 1) := by decide +kernel
theorem dX11_ground_66 : decode cX11_ground 66 = .ok (.goto 24, 3) := by decide +kernel
theorem dX11_ground_69 : decode cX11_ground 69 = .ok (.iload_n 2, 1) := by decide +kernel
theorem dX11_ground_70 : decode cX11_ground 70 = .ok (.iconst 2, 1) := by decide +kernel
theorem dX11_ground_71 : decode cX11_ground 71 = .ok (.if_icmp .ne 11, 3) := by decide +kernel
theorem dX11_ground_74 : decode cX11_ground 74 = .ok (.aload_n 0, 1) := by decide +kernel
theorem dX11_ground_75 : decode cX11_ground 75 = .ok (.iload_n 1, 1) := by decide +kernel
theorem dX11_ground_76 : decode cX11_ground 76 = .ok (.invokevirtual 351, 3) := by decide +kernel
theorem dX11_ground_79 : decode cX11_ground 79 = .ok (.goto 11, 3) := by decide +kernel
theorem dX11_ground_82 : decode cX11_ground 82 = .ok (.aload_n 0, 1) := by decide +kernel
theorem dX11_ground_83 : decode cX11_ground 83 = .ok (.getfield 38, 3) := by decide +kernel
theorem dX11_ground_86 : decode cX11_ground 86 = .ok (.iconst 2, 1) := by decide +kernel
theorem dX11_ground_87 : decode cX11_ground 87 = .ok (.iload_n 1, 1) := by decide +kernel
theorem dX11_ground_88 : decode cX11_ground 88 = .ok (.imul, 1) := by decide +kernel
theorem dX11_ground_89 : decode cX11_ground 89 = .ok (.iaload, 1) := by decide +kernel
theorem dX11_ground_90 : decode cX11_ground 90 = .ok (.ireturn, 1) := by decide +kernel
theorem dX11_man_0 : decode cX11_man 0 = .ok (.aload_n 0, 1) := by decide +kernel
theorem dX11_man_1 : decode cX11_man 1 = .ok (.iconst 0, 1) := by decide +kernel
theorem dX11_man_2 : decode cX11_man 2 = .ok (.putfield 3, 3) := by decide +kernel
theorem dX11_man_5 : decode cX11_man 5 = .ok (.aload_n 0, 1) := by decide +kernel
theorem dX11_man_6 : decode cX11_man 6 = .ok (.iload_n 1, 1) := by decide +kernel
theorem dX11_man_7 : decode cX11_man 7 = .ok (.iconst 1, 1) := by decide +kernel
theorem dX11_man_8 : decode cX11_man 8 = .ok (.invokevirtual 404, 3) := by decide +kernel
theorem dX11_man_11 : decode cX11_man 11 = .ok (.ifCond .eq 19, 3) := by decide +kernel
theorem dX11_man_14 : decode cX11_man 14 = .ok (.aload_n 0, 1) := by decide +kernel
theorem dX11_man_15 : decode cX11_man 15 = .ok (.iload_n 2, 1) := by decide +kernel
theorem dX11_man_16 : decode cX11_man 16 = .ok (.iconst 0, 1) := by decide +kernel
theorem dX11_man_17 : decode cX11_man 17 = .ok (.bipush 7, 2) := by decide +kernel
theorem dX11_man_19 : decode cX11_man 19 = .ok (.invokestatic 383, 3) := by decide +kernel
theorem dX11_man_22 : decode cX11_man 22 = .ok (.iconst 2, 1) := by decide +kernel
theorem dX11_man_23 : decode cX11_man 23 = .ok (.iconst 1, 1) := by decide +kernel
theorem dX11_man_24 : decode cX11_man 24 = .ok (.invokevirtual 216, 3) := by decide +kernel
theorem dX11_man_27 : decode cX11_man 27 = .ok (.ifCond .ne 5, 3) := by decide +kernel
theorem dX11_man_30 : decode cX11_man 30 = .ok (.iconst 0, 1) := by decide +kernel
theorem dX11_man_31 : decode cX11_man 31 = .ok (.ireturn, 1) := by decide +kernel
theorem dX11_man_32 : decode cX11_man 32 = .ok (.iload_n 2, 1) := by decide +kernel
theorem dX11_man_33 : decode cX11_man 33 = .ok (.ifCond .eq 9, 3) := by decide +kernel
theorem dX11_man_36 : decode cX11_man 36 = .ok (.iload_n 2, 1) := by decide +kernel
theorem dX11_man_37 : decode cX11_man 37 = .ok (.bipush 6, 2) := by decide +kernel
theorem dX11_man_39 : decode cX11_man 39 = .ok (.if_icmp .ne 23, 3) := by decide +kernel
theorem dX11_man_42 : decode cX11_man 42 = .ok (.iload_n 2, 1) := by decide +kernel
theorem dX11_man_43 : decode cX11_man 43 = .ok (.ifCond .ne 12, 3) := by decide +kernel
theorem dX11_man_46 : decode cX11_man 46 = .ok (.aload_n 0, 1) := by decide +kernel
theorem dX11_man_47 : decode cX11_man 47 = .ok (.getfield 41, 3) := by decide +kernel
theorem dX11_man_50 : decode cX11_man 50 = .ok (.iload_n 1, 1) := by decide +kernel
theorem dX11_man_51 : decode cX11_man 51 = .ok (.iaload, 1) := by decide +kernel
theorem dX11_man_52 : decode cX11_man 52 = .ok (.goto 9, 3) := by decide +kernel
theorem dX11_man_55 : decode cX11_man 55 = .ok (.aload_n 0, 1) := by decide +kernel
theorem dX11_man_56 : decode cX11_man 56 = .ok (.getfield 44, 3) := by decide +kernel
theorem dX11_man_59 : decode cX11_man 59 = .ok (.iload_n 1, 1) := by decide +kernel
theorem dX11_man_60 : decode cX11_man 60 = .ok (.iaload, 1) := by decide +kernel
theorem dX11_man_61 : decode cX11_man 61 = .ok (.ireturn, 1) := by decide +kernel
theorem dX11_man_62 : decode cX11_man 62 = .ok (.aload_n 0, 1) := by decide +kernel
theorem dX11_man_63 : decode cX11_man 63 = .ok (.getfield 71, 3) := by decide +kernel
theorem dX11_man_66 : decode cX11_man 66 = .ok (.iload_n 2, 1) := by decide +kernel
theorem dX11_man_67 : decode cX11_man 67 = .ok (.iconst 1, 1) := by decide +kernel
theorem dX11_man_68 : decode cX11_man 68 = .ok (.if_icmp .ne 8, 3) := by decide +kernel
theorem dX11_man_71 : decode cX11_man 71 = .ok (.bipush 18, 2) := by decide +kernel
theorem dX11_man_73 : decode cX11_man 73 = .ok (.goto 44, 3) := by decide +kernel
theorem dX11_man_76 : decode cX11_man 76 = .ok (.iload_n 2, 1) := by decide +kernel
theorem dX11_man_77 : decode cX11_man 77 = .ok (.iconst 2, 1) := by decide +kernel
theorem dX11_man_78 : decode cX11_man 78 = .ok (.if_icmp .ne 7, 3) := by decide +kernel
theorem dX11_man_81 : decode cX11_man 81 = .ok (.iconst 0, 1) := by decide +kernel
theorem dX11_man_82 : decode cX11_man 82 = .ok (.goto 35, 3) := by decide +kernel
theorem dX11_man_85 : decode cX11_man 85 = .ok (.iload_n 2, 1) := by decide +kernel
theorem dX11_man_86 : decode cX11_man 86 = .ok (.iconst 3, 1) := by decide +kernel
theorem dX11_man_87 : decode cX11_man 87 = .ok (.if_icmp .ne 8, 3) := by decide +kernel
theorem dX11_man_90 : decode cX11_man 90 = .ok (.bipush 6, 2) := by decide +kernel
theorem dX11_man_92 : decode cX11_man 92 = .ok (.goto 25, 3) := by decide +kernel
theorem dX11_man_95 : decode cX11_man 95 = .ok (.iload_n 2, 1) := by decide +kernel
theorem dX11_man_96 : decode cX11_man 96 = .ok (.iconst 4, 1) := by decide +kernel
theorem dX11_man_97 : decode cX11_man 97 = .ok (.if_icmp .ne 8, 3) := by decide +kernel
theorem dX11_man_100 : decode cX11_man 100 = .ok (.bipush 12, 2) := by decide +kernel
theorem dX11_man_102 : decode cX11_man 102 = .ok (.goto 15, 3) := by decide +kernel
theorem dX11_man_105 : decode cX11_man 105 = .ok (.iload_n 2, 1) := by decide +kernel
theorem dX11_man_106 : decode cX11_man 106 = .ok (.iconst 5, 1) := by decide +kernel
theorem dX11_man_107 : decode cX11_man 107 = .ok (.if_icmp .ne 8, 3) := by decide +kernel
theorem dX11_man_110 : decode cX11_man 110 = .ok (.bipush 24, 2) := by decide +kernel
theorem dX11_man_112 : decode cX11_man 112 = .ok (.goto 5, 3) := by decide +kernel
theorem dX11_man_115 : decode cX11_man 115 = .ok (.bipush 30, 2) := by decide +kernel
theorem dX11_man_117 : decode cX11_man 117 = .ok (.iload_n 1, 1) := by decide +kernel
theorem dX11_man_118 : decode cX11_man 118 = .ok (.iadd, 1) := by decide +kernel
theorem dX11_man_119 : decode cX11_man 119 = .ok (.iaload, 1) := by decide +kernel
theorem dX11_man_120 : decode cX11_man 120 = .ok (.ireturn, 1) := by decide +kernel
theorem dX11_sea_0 : decode cX11_sea 0 = .ok (.aload_n 0, 1) := by decide +kernel
theorem dX11_sea_1 : decode cX11_sea 1 = .ok (.iconst 0, 1) := by decide +kernel
theorem dX11_sea_2 : decode cX11_sea 2 = .ok (.putfield 3, 3) := by decide +kernel
theorem dX11_sea_5 : decode cX11_sea 5 = .ok (.aload_n 0, 1) := by decide +kernel
theorem dX11_sea_6 : decode cX11_sea 6 = .ok (.iload_n 1, 1) := by decide +kernel
theorem dX11_sea_7 : decode cX11_sea 7 = .ok (.iconst 1, 1) := by decide +kernel
theorem dX11_sea_8 : decode cX11_sea 8 = .ok (.invokevirtual 404, 3) := by decide +kernel
theorem dX11_sea_11 : decode cX11_sea 11 = .ok (.ifCond .ne 5, 3) := by decide +kernel
theorem dX11_sea_14 : decode cX11_sea 14 = .ok (.iconst 0, 1) := by decide +kernel
theorem dX11_sea_15 : decode cX11_sea 15 = .ok (.ireturn, 1) := by decide +kernel
theorem dX11_sea_16 : decode cX11_sea 16 = .ok (.aload_n 0, 1) := by decide +kernel
theorem dX11_sea_17 : decode cX11_sea 17 = .ok (.invokevirtual 323, 3) := by decide +kernel
theorem dX11_sea_20 : decode cX11_sea 20 = .ok (.aload_n 0, 1) := by decide +kernel
theorem dX11_sea_21 : decode cX11_sea 21 = .ok (.iload_n 1, 1) := by decide +kernel
theorem dX11_sea_22 : decode cX11_sea 22 = .ok (.invokevirtual 380, 3) := by decide +kernel
theorem dX11_sea_25 : decode cX11_sea 25 = .ok (.ireturn, 1) := by decide +kernel
theorem dX11_would_0 : decode cX11_would 0 = .ok (.aload_n 0, 1) := by decide +kernel
theorem dX11_would_1 : decode cX11_would 1 = .ok (.iconst 0, 1) := by decide +kernel
theorem dX11_would_2 : decode cX11_would 2 = .ok (.putfield 3, 3) := by decide +kernel
theorem dX11_would_5 : decode cX11_would 5 = .ok (.aload_n 0, 1) := by decide +kernel
theorem dX11_would_6 : decode cX11_would 6 = .ok (.iload_n 1, 1) := by decide +kernel
theorem dX11_would_7 : decode cX11_would 7 = .ok (.iconst 1, 1) := by decide +kernel
theorem dX11_would_8 : decode cX11_would 8 = .ok (.bipush 21, 2) := by decide +kernel
theorem dX11_would_10 : decode cX11_would 10 = .ok (.invokestatic 383, 3) := by decide +kernel
theorem dX11_would_13 : decode cX11_would 13 = .ok (.ifCond .eq 84, 3) := by decide +kernel
theorem dX11_would_16 : decode cX11_would 16 = .ok (.iload_n 2, 1) := by decide +kernel
theorem dX11_would_17 : decode cX11_would 17 = .ok (.iconst 0, 1) := by decide +kernel
theorem dX11_would_18 : decode cX11_would 18 = .ok (.iconst 4, 1) := by decide +kernel
theorem dX11_would_19 : decode cX11_would 19 = .ok (.invokestatic 383, 3) := by decide +kernel
theorem dX11_would_22 : decode cX11_would 22 = .ok (.ifCond .eq 75, 3) := by decide +kernel
theorem dX11_would_25 : decode cX11_would 25 = .ok (.iload_n 3, 1) := by decide +kernel
theorem dX11_would_26 : decode cX11_would 26 = .ok (.iconst 0, 1) := by decide +kernel
theorem dX11_would_27 : decode cX11_would 27 = .ok (.sipush 999, 3) := by decide +kernel
theorem dX11_would_30 : decode cX11_would 30 = .ok (.invokestatic 383, 3) := by decide +kernel
theorem dX11_would_33 : decode cX11_would 33 = .ok (.ifCond .eq 64, 3) := by decide +kernel
theorem dX11_would_36 : decode cX11_would 36 = .ok (.iload 4, 2) := by decide +kernel
theorem dX11_would_38 : decode cX11_would 38 = .ok (.iconst 1, 1) := by decide +kernel
theorem dX11_would_39 : decode cX11_would 39 = .ok (.bipush 99, 2) := by decide +kernel
theorem dX11_would_41 : decode cX11_would 41 = .ok (.invokestatic 383, 3) := by decide +kernel
theorem dX11_would_44 : decode cX11_would 44 = .ok (.ifCond .eq 53, 3) := by decide +kernel
theorem dX11_would_47 : decode cX11_would 47 = .ok (.iload 5, 2) := by decide +kernel
theorem dX11_would_49 : decode cX11_would 49 = .ok (.iconst 0, 1) := by decide +kernel
theorem dX11_would_50 : decode cX11_would 50 = .ok (.sipush 999, 3) := by decide +kernel
theorem dX11_would_53 : decode cX11_would 53 = .ok (.invokestatic 383, 3) := by decide +kernel
theorem dX11_would_56 : decode cX11_would 56 = .ok (.ifCond .eq 41, 3) := by decide +kernel
theorem dX11_would_59 : decode cX11_would 59 = .ok (.iload 6, 2) := by decide +kernel
theorem dX11_would_61 : decode cX11_would 61 = .ok (.iconst 0, 1) := by decide +kernel
theorem dX11_would_62 : decode cX11_would 62 = .ok (.sipush 999, 3) := by decide +kernel
theorem dX11_would_65 : decode cX11_would 65 = .ok (.invokestatic 383, 3) := by decide +kernel
theorem dX11_would_68 : decode cX11_would 68 = .ok (.ifCond .eq 29, 3) := by decide +kernel
theorem dX11_would_71 : decode cX11_would 71 = .ok (.iload 7, 2) := by decide +kernel
theorem dX11_would_73 : decode cX11_would 73 = .ok (.iconst 0, 1) := by decide +kernel
theorem dX11_would_74 : decode cX11_would 74 = .ok (.iconst 5, 1) := by decide +kernel
theorem dX11_would_75 : decode cX11_would 75 = .ok (.invokestatic 383, 3) := by decide +kernel
theorem dX11_would_78 : decode cX11_would 78 = .ok (.ifCond .eq 19, 3) := by decide +kernel
theorem dX11_would_81 : decode cX11_would 81 = .ok (.iload 8, 2) := by decide +kernel
theorem dX11_would_83 : decode cX11_would 83 = .ok (.iconst 0, 1) := by decide +kernel
theorem dX11_would_84 : decode cX11_would 84 = .ok (.sipush 900, 3) := by decide +kernel
theorem dX11_would_87 : decode cX11_would 87 = .ok (.invokestatic 383, 3) := by decide +kernel
theorem dX11_would_90 : decode cX11_would 90 = .ok (.ifCond .eq 7, 3) := by decide +kernel
theorem dX11_would_93 : decode cX11_would 93 = .ok (.iconst 1, 1) := by decide +kernel
theorem dX11_would_94 : decode cX11_would 94 = .ok (.goto 4, 3) := by decide +kernel
theorem dX11_would_97 : decode cX11_would 97 = .ok (.iconst 0, 1) := by decide +kernel
theorem dX11_would_98 : decode cX11_would 98 = .ok (.iconst 1, 1) := by decide +kernel
theorem dX11_would_99 : decode cX11_would 99 = .ok (.iconst 1, 1) := by decide +kernel
theorem dX11_would_100 : decode cX11_would 100 = .ok (.invokevirtual 216, 3) := by decide +kernel
theorem dX11_would_103 : decode cX11_would 103 = .ok (.ifCond .ne 5, 3) := by decide +kernel
theorem dX11_would_106 : decode cX11_would 106 = .ok (.iconst 0, 1) := by decide +kernel
theorem dX11_would_107 : decode cX11_would 107 = .ok (.ireturn, 1) := by decide +kernel
theorem dX11_would_108 : decode cX11_would 108 = .ok (.aload_n 0, 1) := by decide +kernel
theorem dX11_would_109 : decode cX11_would 109 = .ok (.iload_n 1, 1) := by decide +kernel
theorem dX11_would_110 : decode cX11_would 110 = .ok (.iload_n 2, 1) := by decide +kernel
theorem dX11_would_111 : decode cX11_would 111 = .ok (.iload_n 3, 1) := by decide +kernel
theorem dX11_would_112 : decode cX11_would 112 = .ok (.iload 4, 2) := by decide +kernel
theorem dX11_would_114 : decode cX11_would 114 = .ok (.iload 5, 2) := by decide +kernel
theorem dX11_would_116 : decode cX11_would 116 = .ok (.iload 6, 2) := by decide +kernel
theorem dX11_would_118 : decode cX11_would 118 = .ok (.iload 7, 2) := by decide +kernel
theorem dX11_would_120 : decode cX11_would 120 = .ok (.iload 8, 2) := by decide +kernel
theorem dX11_would_122 : decode cX11_would 122 = .ok (.invokevirtual 357, 3) := by decide +kernel
theorem dX11_would_125 : decode cX11_would 125 = .ok (.ireturn, 1) := by decide +kernel
theorem dX11_ahead_0 : decode cX11_ahead 0 = .ok (.aload_n 0, 1) := by decide +kernel
theorem dX11_ahead_1 : decode cX11_ahead 1 = .ok (.iconst 0, 1) := by decide +kernel
theorem dX11_ahead_2 : decode cX11_ahead 2 = .ok (.putfield 3, 3) := by decide +kernel
theorem dX11_ahead_5 : decode cX11_ahead 5 = .ok (.aload_n 0, 1) := by decide +kernel
theorem dX11_ahead_6 : decode cX11_ahead 6 = .ok (.iload_n 1, 1) := by decide +kernel
theorem dX11_ahead_7 : decode cX11_ahead 7 = .ok (.iconst 0, 1) := by decide +kernel
theorem dX11_ahead_8 : decode cX11_ahead 8 = .ok (.bipush 99, 2) := by decide +kernel
theorem dX11_ahead_10 : decode cX11_ahead 10 = .ok (.invokestatic 383, 3) := by decide +kernel
theorem dX11_ahead_13 : decode cX11_ahead 13 = .ok (.ifCond .eq 16, 3) := by decide +kernel
theorem dX11_ahead_16 : decode cX11_ahead 16 = .ok (.iload_n 2, 1) := by decide +kernel
theorem dX11_ahead_17 : decode cX11_ahead 17 = .ok (.iconst 0, 1) := by decide +kernel
theorem dX11_ahead_18 : decode cX11_ahead 18 = .ok (.iconst 2, 1) := by decide +kernel
theorem dX11_ahead_19 : decode cX11_ahead 19 = .ok (.invokestatic 383, 3) := by decide +kernel
theorem dX11_ahead_22 : decode cX11_ahead 22 = .ok (.ifCond .eq 7, 3) := by decide +kernel
theorem dX11_ahead_25 : decode cX11_ahead 25 = .ok (.iconst 1, 1) := by decide +kernel
theorem dX11_ahead_26 : decode cX11_ahead 26 = .ok (.goto 4, 3) := by decide +kernel
theorem dX11_ahead_29 : decode cX11_ahead 29 = .ok (.iconst 0, 1) := by decide +kernel
theorem dX11_ahead_30 : decode cX11_ahead 30 = .ok (.iconst 1, 1) := by decide +kernel
theorem dX11_ahead_31 : decode cX11_ahead 31 = .ok (.iconst 1, 1) := by decide +kernel
theorem dX11_ahead_32 : decode cX11_ahead 32 = .ok (.invokevirtual 216, 3) := by decide +kernel
theorem dX11_ahead_35 : decode cX11_ahead 35 = .ok (.ifCond .ne 5, 3) := by decide +kernel
theorem dX11_ahead_38 : decode cX11_ahead 38 = .ok (.iconst 0, 1) := by decide +kernel
theorem dX11_ahead_39 : decode cX11_ahead 39 = .ok (.ireturn, 1) := by decide +kernel
theorem dX11_ahead_40 : decode cX11_ahead 40 = .ok (.aload_n 0, 1) := by decide +kernel
theorem dX11_ahead_41 : decode cX11_ahead 41 = .ok (.invokevirtual 323, 3) := by decide +kernel
theorem dX11_ahead_44 : decode cX11_ahead 44 = .ok (.iconst 0, 1) := by decide +kernel
theorem dX11_ahead_45 : decode cX11_ahead 45 = .ok (.istore_n 3, 1) := by decide +kernel
theorem dX11_ahead_46 : decode cX11_ahead 46 = .ok (.iload_n 3, 1) := by decide +kernel
theorem dX11_ahead_47 : decode cX11_ahead 47 = .ok (.iload_n 1, 1) := by decide +kernel
theorem dX11_ahead_48 : decode cX11_ahead 48 = .ok (.if_icmp .ge 13, 3) := by decide +kernel
theorem dX11_ahead_51 : decode cX11_ahead 51 = .ok (.aload_n 0, 1) := by decide +kernel
theorem dX11_ahead_52 : decode cX11_ahead 52 = .ok (.invokevirtual 377, 3) := by decide +kernel
theorem dX11_ahead_55 : decode cX11_ahead 55 = .ok (.iinc 3 1, 3) := by decide +kernel
theorem dX11_ahead_58 : decode cX11_ahead 58 = .ok (.goto (-12), 3) := by decide +kernel
theorem dX11_ahead_61 : decode cX11_ahead 61 = .ok (.iload_n 2, 1) := by decide +kernel
theorem dX11_ahead_62 : decode cX11_ahead 62 = .ok (.ifCond .ne 16, 3) := by decide +kernel
theorem dX11_ahead_65 : decode cX11_ahead 65 = .ok (.aload_n 0, 1) := by decide +kernel
theorem dX11_ahead_66 : decode cX11_ahead 66 = .ok (.bipush 24, 2) := by decide +kernel
theorem dX11_ahead_68 : decode cX11_ahead 68 = .ok (.aload_n 0, 1) := by decide +kernel
theorem dX11_ahead_69 : decode cX11_ahead 69 = .ok (.getfield 181, 3) := by decide +kernel
theorem dX11_ahead_72 : decode cX11_ahead 72 = .ok (.invokevirtual 395, 3) := by decide +kernel
theorem dX11_ahead_75 : decode cX11_ahead 75 = .ok (.goto 25, 3) := by decide +kernel
theorem dX11_ahead_78 : decode cX11_ahead 78 = .ok (.iload_n 2, 1) := by decide +kernel
theorem dX11_ahead_79 : decode cX11_ahead 79 = .ok (.iconst 1, 1) := by decide +kernel
theorem dX11_ahead_80 : decode cX11_ahead 80 = .ok (.if_icmp .ne 10, 3) := by decide +kernel
theorem dX11_ahead_83 : decode cX11_ahead 83 = .ok (.aload_n 0, 1) := by decide +kernel
theorem dX11_ahead_84 : decode cX11_ahead 84 = .ok (.invokevirtual 386, 3) := by decide +kernel
theorem dX11_ahead_87 : decode cX11_ahead 87 = .ok (.goto 13, 3) := by decide +kernel
theorem dX11_ahead_90 : decode cX11_ahead 90 = .ok (.aload_n 0, 1) := by decide +kernel
theorem dX11_ahead_91 : decode cX11_ahead 91 = .ok (.bipush 44, 2) := by decide +kernel
theorem dX11_ahead_93 : decode cX11_ahead 93 = .ok (.aload_n 0, 1) := by decide +kernel
theorem dX11_ahead_94 : decode cX11_ahead 94 = .ok (.getfield 178, 3) := by decide +kernel
theorem dX11_ahead_97 : decode cX11_ahead 97 = .ok (.invokevirtual 395, 3) := by decide +kernel
theorem dX11_ahead_100 : decode cX11_ahead 100 = .ok (.ireturn, 1) := by decide +kernel
theorem dX11_doom_0 : decode cX11_doom 0 = .ok (.aload_n 0, 1) := by decide +kernel
theorem dX11_doom_1 : decode cX11_doom 1 = .ok (.iconst 0, 1) := by decide +kernel
theorem dX11_doom_2 : decode cX11_doom 2 = .ok (.putfield 3, 3) := by decide +kernel
theorem dX11_doom_5 : decode cX11_doom 5 = .ok (.aload_n 0, 1) := by decide +kernel
theorem dX11_doom_6 : decode cX11_doom 6 = .ok (.iload_n 1, 1) := by decide +kernel
theorem dX11_doom_7 : decode cX11_doom 7 = .ok (.iconst 1, 1) := by decide +kernel
theorem dX11_doom_8 : decode cX11_doom 8 = .ok (.invokevirtual 404, 3) := by decide +kernel
theorem dX11_doom_11 : decode cX11_doom 11 = .ok (.ifCond .ne 5, 3) := by decide +kernel
theorem dX11_doom_14 : decode cX11_doom 14 = .ok (.iconst 0, 1) := by decide +kernel
theorem dX11_doom_15 : decode cX11_doom 15 = .ok (.ireturn, 1) := by decide +kernel
theorem dX11_doom_16 : decode cX11_doom 16 = .ok (.aload_n 0, 1) := by decide +kernel
theorem dX11_doom_17 : decode cX11_doom 17 = .ok (.invokevirtual 323, 3) := by decide +kernel
theorem dX11_doom_20 : decode cX11_doom 20 = .ok (.iconst 0, 1) := by decide +kernel
theorem dX11_doom_21 : decode cX11_doom 21 = .ok (.istore_n 2, 1) := by decide +kernel
theorem dX11_doom_22 : decode cX11_doom 22 = .ok (.iload_n 2, 1) := by decide +kernel
theorem dX11_doom_23 : decode cX11_doom 23 = .ok (.sipush 200, 3) := by decide +kernel
theorem dX11_doom_26 : decode cX11_doom 26 = .ok (.if_icmp .gt 27, 3) := by decide +kernel
theorem dX11_doom_29 : decode cX11_doom 29 = .ok (.aload_n 0, 1) := by decide +kernel
theorem dX11_doom_30 : decode cX11_doom 30 = .ok (.getfield 74, 3) := by decide +kernel
theorem dX11_doom_33 : decode cX11_doom 33 = .ok (.bipush 30, 2) := by decide +kernel
theorem dX11_doom_35 : decode cX11_doom 35 = .ok (.iload_n 1, 1) := by decide +kernel
theorem dX11_doom_36 : decode cX11_doom 36 = .ok (.iadd, 1) := by decide +kernel
theorem dX11_doom_37 : decode cX11_doom 37 = .ok (.iaload, 1) := by decide +kernel
theorem dX11_doom_38 : decode cX11_doom 38 = .ok (.ifCond .ne 5, 3) := by decide +kernel
theorem dX11_doom_41 : decode cX11_doom 41 = .ok (.iload_n 2, 1) := by decide +kernel
theorem dX11_doom_42 : decode cX11_doom 42 = .ok (.ireturn, 1) := by decide +kernel
theorem dX11_doom_43 : decode cX11_doom 43 = .ok (.aload_n 0, 1) := by decide +kernel
theorem dX11_doom_44 : decode cX11_doom 44 = .ok (.invokevirtual 377, 3) := by decide +kernel
theorem dX11_doom_47 : decode cX11_doom 47 = .ok (.iinc 2 1, 3) := by decide +kernel
theorem dX11_doom_50 : decode cX11_doom 50 = .ok (.goto (-28), 3) := by decide +kernel
theorem dX11_doom_53 : decode cX11_doom 53 = .ok (.iconst (-1), 1) := by decide +kernel
theorem dX11_doom_54 : decode cX11_doom 54 = .ok (.ireturn, 1) := by decide +kernel
theorem dX11_layAlone_0 : decode cX11_layAlone 0 = .ok (.aload_n 0, 1) := by decide +kernel
theorem dX11_layAlone_1 : decode cX11_layAlone 1 = .ok (.getfield 71, 3) := by decide +kernel
theorem dX11_layAlone_4 : decode cX11_layAlone 4 = .ok (.bipush 18, 2) := by decide +kernel
theorem dX11_layAlone_6 : decode cX11_layAlone 6 = .ok (.iload_n 1, 1) := by decide +kernel
theorem dX11_layAlone_7 : decode cX11_layAlone 7 = .ok (.iadd, 1) := by decide +kernel
theorem dX11_layAlone_8 : decode cX11_layAlone 8 = .ok (.iaload, 1) := by decide +kernel
theorem dX11_layAlone_9 : decode cX11_layAlone 9 = .ok (.istore 5, 2) := by decide +kernel
theorem dX11_layAlone_11 : decode cX11_layAlone 11 = .ok (.iconst 0, 1) := by decide +kernel
theorem dX11_layAlone_12 : decode cX11_layAlone 12 = .ok (.istore 6, 2) := by decide +kernel
theorem dX11_layAlone_14 : decode cX11_layAlone 14 = .ok (.iload 6, 2) := by decide +kernel
theorem dX11_layAlone_16 : decode cX11_layAlone 16 = .ok (.iload 4, 2) := by decide +kernel
theorem dX11_layAlone_18 : decode cX11_layAlone 18 = .ok (.if_icmp .ge 86, 3) := by decide +kernel
theorem dX11_layAlone_21 : decode cX11_layAlone 21 = .ok (.aload_n 0, 1) := by decide +kernel
theorem dX11_layAlone_22 : decode cX11_layAlone 22 = .ok (.getfield 89, 3) := by decide +kernel
theorem dX11_layAlone_25 : decode cX11_layAlone 25 = .ok (.iload 6, 2) := by decide +kernel
theorem dX11_layAlone_27 : decode cX11_layAlone 27 = .ok (.aload_n 0, 1) := by decide +kernel
theorem dX11_layAlone_28 : decode cX11_layAlone 28 = .ok (.aload_n 0, 1) := by decide +kernel
theorem dX11_layAlone_29 : decode cX11_layAlone 29 = .ok (.getfield 35, 3) := by decide +kernel
theorem dX11_layAlone_32 : decode cX11_layAlone 32 = .ok (.iconst 2, 1) := by decide +kernel
theorem dX11_layAlone_33 : decode cX11_layAlone 33 = .ok (.iload_n 2, 1) := by decide +kernel
theorem dX11_layAlone_34 : decode cX11_layAlone 34 = .ok (.imul, 1) := by decide +kernel
theorem dX11_layAlone_35 : decode cX11_layAlone 35 = .ok (.iaload, 1) := by decide +kernel
theorem dX11_layAlone_36 : decode cX11_layAlone 36 = .ok (.aload_n 0, 1) := by decide +kernel
theorem dX11_layAlone_37 : decode cX11_layAlone 37 = .ok (.getfield 71, 3) := by decide +kernel
theorem dX11_layAlone_40 : decode cX11_layAlone 40 = .ok (.bipush 36, 2) := by decide +kernel
theorem dX11_layAlone_42 : decode cX11_layAlone 42 = .ok (.iload_n 2, 1) := by decide +kernel
theorem dX11_layAlone_43 : decode cX11_layAlone 43 = .ok (.iadd, 1) := by decide +kernel
theorem dX11_layAlone_44 : decode cX11_layAlone 44 = .ok (.iaload, 1) := by decide +kernel
theorem dX11_layAlone_45 : decode cX11_layAlone 45 = .ok (.iadd, 1) := by decide +kernel
theorem dX11_layAlone_46 : decode cX11_layAlone 46 = .ok (.aload_n 0, 1) := by decide +kernel
theorem dX11_layAlone_47 : decode cX11_layAlone 47 = .ok (.iload_n 2, 1) := by decide +kernel
theorem dX11_layAlone_48 : decode cX11_layAlone 48 = .ok (.iload_n 3, 1) := by decide +kernel
theorem dX11_layAlone_49 : decode cX11_layAlone 49 = .ok (.invokevirtual 348, 3) := by decide +kernel
theorem dX11_layAlone_52 : decode cX11_layAlone 52 = .ok (.iload 6, 2) := by decide +kernel
theorem dX11_layAlone_54 : decode cX11_layAlone 54 = .ok (.aload_n 0, 1) := by decide +kernel
theorem dX11_layAlone_55 : decode cX11_layAlone 55 = .ok (.getfield 41, 3) := by decide +kernel
