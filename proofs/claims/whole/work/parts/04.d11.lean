theorem dX10_line_16 : decode cX10_line 16 = .ok (.iload_n 2, 1) := by decide +kernel
theorem dX10_line_17 : decode cX10_line 17 = .ok (.iconst 0, 1) := by decide +kernel
theorem dX10_line_18 : decode cX10_line 18 = .ok (.ldc_w 278, 3) := by decide +kernel
theorem dX10_line_21 : decode cX10_line 21 = .ok (.invokevirtual 158, 3) := by decide +kernel
theorem dX10_line_24 : decode cX10_line 24 = .ok (.aload_n 0, 1) := by decide +kernel
theorem dX10_line_25 : decode cX10_line 25 = .ok (.getfield 19, 3) := by decide +kernel
theorem dX10_line_28 : decode cX10_line 28 = .ok (.getfield 85, 3) := by decide +kernel
theorem dX10_line_31 : decode cX10_line 31 = .ok (.iload_n 1, 1) := by decide +kernel
theorem dX10_line_32 : decode cX10_line 32 = .ok (.iload_n 2, 1) := by decide +kernel
theorem dX10_line_33 : decode cX10_line 33 = .ok (.invokevirtual 279, 3) := by decide +kernel
theorem dX10_line_36 : decode cX10_line 36 = .ok (.ireturn, 1) := by decide +kernel
theorem dX10_meets_0 : decode cX10_meets 0 = .ok (.aload_n 0, 1) := by decide +kernel
theorem dX10_meets_1 : decode cX10_meets 1 = .ok (.iload_n 1, 1) := by decide +kernel
theorem dX10_meets_2 : decode cX10_meets 2 = .ok (.aload_n 0, 1) := by decide +kernel
theorem dX10_meets_3 : decode cX10_meets 3 = .ok (.getfield 19, 3) := by decide +kernel
theorem dX10_meets_6 : decode cX10_meets 6 = .ok (.getfield 85, 3) := by decide +kernel
theorem dX10_meets_9 : decode cX10_meets 9 = .ok (.getfield 127, 3) := by decide +kernel
theorem dX10_meets_12 : decode cX10_meets 12 = .ok (.invokevirtual 187, 3) := by decide +kernel
theorem dX10_meets_15 : decode cX10_meets 15 = .ok (.aload_n 0, 1) := by decide +kernel
theorem dX10_meets_16 : decode cX10_meets 16 = .ok (.iload_n 2, 1) := by decide +kernel
theorem dX10_meets_17 : decode cX10_meets 17 = .ok (.aload_n 0, 1) := by decide +kernel
theorem dX10_meets_18 : decode cX10_meets 18 = .ok (.getfield 19, 3) := by decide +kernel
theorem dX10_meets_21 : decode cX10_meets 21 = .ok (.getfield 85, 3) := by decide +kernel
theorem dX10_meets_24 : decode cX10_meets 24 = .ok (.getfield 127, 3) := by decide +kernel
theorem dX10_meets_27 : decode cX10_meets 27 = .ok (.invokevirtual 187, 3) := by decide +kernel
theorem dX10_meets_30 : decode cX10_meets 30 = .ok (.aload_n 0, 1) := by decide +kernel
theorem dX10_meets_31 : decode cX10_meets 31 = .ok (.iload_n 3, 1) := by decide +kernel
theorem dX10_meets_32 : decode cX10_meets 32 = .ok (.iconst 0, 1) := by decide +kernel
theorem dX10_meets_33 : decode cX10_meets 33 = .ok (.iconst 1, 1) := by decide +kernel
theorem dX10_meets_34 : decode cX10_meets 34 = .ok (.invokevirtual 158, 3) := by decide +kernel
theorem dX10_meets_37 : decode cX10_meets 37 = .ok (.aload_n 0, 1) := by decide +kernel
theorem dX10_meets_38 : decode cX10_meets 38 = .ok (.getfield 19, 3) := by decide +kernel
theorem dX10_meets_41 : decode cX10_meets 41 = .ok (.getfield 85, 3) := by decide +kernel
theorem dX10_meets_44 : decode cX10_meets 44 = .ok (.iload_n 1, 1) := by decide +kernel
theorem dX10_meets_45 : decode cX10_meets 45 = .ok (.iload_n 2, 1) := by decide +kernel
theorem dX10_meets_46 : decode cX10_meets 46 = .ok (.invokevirtual 283, 3) := by decide +kernel
theorem dX10_meets_49 : decode cX10_meets 49 = .ok (.istore 4, 2) := by decide +kernel
theorem dX10_meets_51 : decode cX10_meets 51 = .ok (.iload 4, 2) := by decide +kernel
theorem dX10_meets_53 : decode cX10_meets 53 = .ok (.iconst (-1), 1) := by decide +kernel
theorem dX10_meets_54 : decode cX10_meets 54 = .ok (.if_icmp .eq 7, 3) := by decide +kernel
theorem dX10_meets_57 : decode cX10_meets 57 = .ok (.iload_n 3, 1) := by decide +kernel
theorem dX10_meets_58 : decode cX10_meets 58 = .ok (.ifCond .ne 6, 3) := by decide +kernel
theorem dX10_meets_61 : decode cX10_meets 61 = .ok (.iload 4, 2) := by decide +kernel
theorem dX10_meets_63 : decode cX10_meets 63 = .ok (.ireturn, 1) := by decide +kernel
theorem dX10_meets_64 : decode cX10_meets 64 = .ok (.aload_n 0, 1) := by decide +kernel
theorem dX10_meets_65 : decode cX10_meets 65 = .ok (.getfield 19, 3) := by decide +kernel
theorem dX10_meets_68 : decode cX10_meets 68 = .ok (.getfield 85, 3) := by decide +kernel
theorem dX10_meets_71 : decode cX10_meets 71 = .ok (.iload_n 1, 1) := by decide +kernel
theorem dX10_meets_72 : decode cX10_meets 72 = .ok (.iload 4, 2) := by decide +kernel
theorem dX10_meets_74 : decode cX10_meets 74 = .ok (.invokevirtual 286, 3) := by decide +kernel
theorem dX10_meets_77 : decode cX10_meets 77 = .ok (.aload_n 0, 1) := by decide +kernel
theorem dX10_meets_78 : decode cX10_meets 78 = .ok (.getfield 19, 3) := by decide +kernel
theorem dX10_meets_81 : decode cX10_meets 81 = .ok (.getfield 85, 3) := by decide +kernel
theorem dX10_meets_84 : decode cX10_meets 84 = .ok (.iload_n 2, 1) := by decide +kernel
theorem dX10_meets_85 : decode cX10_meets 85 = .ok (.iload 4, 2) := by decide +kernel
theorem dX10_meets_87 : decode cX10_meets 87 = .ok (.invokevirtual 286, 3) := by decide +kernel
theorem dX10_meets_90 : decode cX10_meets 90 = .ok (.iadd, 1) := by decide +kernel
theorem dX10_meets_91 : decode cX10_meets 91 = .ok (.ireturn, 1) := by decide +kernel
theorem dX10_fits_0 : decode cX10_fits 0 = .ok (.aload_n 0, 1) := by decide +kernel
theorem dX10_fits_1 : decode cX10_fits 1 = .ok (.iload_n 1, 1) := by decide +kernel
theorem dX10_fits_2 : decode cX10_fits 2 = .ok (.aload_n 0, 1) := by decide +kernel
theorem dX10_fits_3 : decode cX10_fits 3 = .ok (.getfield 19, 3) := by decide +kernel
theorem dX10_fits_6 : decode cX10_fits 6 = .ok (.getfield 85, 3) := by decide +kernel
theorem dX10_fits_9 : decode cX10_fits 9 = .ok (.getfield 127, 3) := by decide +kernel
theorem dX10_fits_12 : decode cX10_fits 12 = .ok (.invokevirtual 187, 3) := by decide +kernel
theorem dX10_fits_15 : decode cX10_fits 15 = .ok (.aload_n 0, 1) := by decide +kernel
theorem dX10_fits_16 : decode cX10_fits 16 = .ok (.iload_n 2, 1) := by decide +kernel
theorem dX10_fits_17 : decode cX10_fits 17 = .ok (.iconst 0, 1) := by decide +kernel
theorem dX10_fits_18 : decode cX10_fits 18 = .ok (.iconst 1, 1) := by decide +kernel
theorem dX10_fits_19 : decode cX10_fits 19 = .ok (.invokevirtual 158, 3) := by decide +kernel
theorem dX10_fits_22 : decode cX10_fits 22 = .ok (.aload_n 0, 1) := by decide +kernel
theorem dX10_fits_23 : decode cX10_fits 23 = .ok (.getfield 50, 3) := by decide +kernel
theorem dX10_fits_26 : decode cX10_fits 26 = .ok (.aload_n 0, 1) := by decide +kernel
theorem dX10_fits_27 : decode cX10_fits 27 = .ok (.getfield 19, 3) := by decide +kernel
theorem dX10_fits_30 : decode cX10_fits 30 = .ok (.aload_n 0, 1) := by decide +kernel
theorem dX10_fits_31 : decode cX10_fits 31 = .ok (.getfield 26, 3) := by decide +kernel
theorem dX10_fits_34 : decode cX10_fits 34 = .ok (.aload_n 0, 1) := by decide +kernel
theorem dX10_fits_35 : decode cX10_fits 35 = .ok (.getfield 78, 3) := by decide +kernel
theorem dX10_fits_38 : decode cX10_fits 38 = .ok (.iload_n 1, 1) := by decide +kernel
theorem dX10_fits_39 : decode cX10_fits 39 = .ok (.aload_n 0, 1) := by decide +kernel
theorem dX10_fits_40 : decode cX10_fits 40 = .ok (.getfield 78, 3) := by decide +kernel
theorem dX10_fits_43 : decode cX10_fits 43 = .ok (.invokevirtual 289, 3) := by decide +kernel
theorem dX10_fits_46 : decode cX10_fits 46 = .ok (.invokevirtual 292, 3) := by decide +kernel
theorem dX10_fits_49 : decode cX10_fits 49 = .ok (.iload_n 2, 1) := by decide +kernel
theorem dX10_fits_50 : decode cX10_fits 50 = .ok (.ifCond .ne 13, 3) := by decide +kernel
theorem dX10_fits_53 : decode cX10_fits 53 = .ok (.aload_n 0, 1) := by decide +kernel
theorem dX10_fits_54 : decode cX10_fits 54 = .ok (.getfield 50, 3) := by decide +kernel
theorem dX10_fits_57 : decode cX10_fits 57 = .ok (.getfield 296, 3) := by decide +kernel
theorem dX10_fits_60 : decode cX10_fits 60 = .ok (.goto 10, 3) := by decide +kernel
theorem dX10_fits_63 : decode cX10_fits 63 = .ok (.aload_n 0, 1) := by decide +kernel
theorem dX10_fits_64 : decode cX10_fits 64 = .ok (.getfield 50, 3) := by decide +kernel
theorem dX10_fits_67 : decode cX10_fits 67 = .ok (.getfield 299, 3) := by decide +kernel
theorem dX10_fits_70 : decode cX10_fits 70 = .ok (.ireturn, 1) := by decide +kernel
theorem dX10_look_0 : decode cX10_look 0 = .ok (.aload_n 0, 1) := by decide +kernel
theorem dX10_look_1 : decode cX10_look 1 = .ok (.iload_n 1, 1) := by decide +kernel
theorem dX10_look_2 : decode cX10_look 2 = .ok (.aload_n 0, 1) := by decide +kernel
theorem dX10_look_3 : decode cX10_look 3 = .ok (.getfield 19, 3) := by decide +kernel
theorem dX10_look_6 : decode cX10_look 6 = .ok (.getfield 85, 3) := by decide +kernel
theorem dX10_look_9 : decode cX10_look 9 = .ok (.getfield 127, 3) := by decide +kernel
theorem dX10_look_12 : decode cX10_look 12 = .ok (.invokevirtual 187, 3) := by decide +kernel
theorem dX10_look_15 : decode cX10_look 15 = .ok (.aload_n 0, 1) := by decide +kernel
theorem dX10_look_16 : decode cX10_look 16 = .ok (.iload_n 2, 1) := by decide +kernel
theorem dX10_look_17 : decode cX10_look 17 = .ok (.iconst 0, 1) := by decide +kernel
theorem dX10_look_18 : decode cX10_look 18 = .ok (.iconst 1, 1) := by decide +kernel
theorem dX10_look_19 : decode cX10_look 19 = .ok (.invokevirtual 158, 3) := by decide +kernel
theorem dX10_look_22 : decode cX10_look 22 = .ok (.aload_n 0, 1) := by decide +kernel
theorem dX10_look_23 : decode cX10_look 23 = .ok (.getfield 50, 3) := by decide +kernel
theorem dX10_look_26 : decode cX10_look 26 = .ok (.aload_n 0, 1) := by decide +kernel
theorem dX10_look_27 : decode cX10_look 27 = .ok (.getfield 19, 3) := by decide +kernel
theorem dX10_look_30 : decode cX10_look 30 = .ok (.aload_n 0, 1) := by decide +kernel
theorem dX10_look_31 : decode cX10_look 31 = .ok (.getfield 26, 3) := by decide +kernel
theorem dX10_look_34 : decode cX10_look 34 = .ok (.aload_n 0, 1) := by decide +kernel
theorem dX10_look_35 : decode cX10_look 35 = .ok (.getfield 78, 3) := by decide +kernel
theorem dX10_look_38 : decode cX10_look 38 = .ok (.iload_n 1, 1) := by decide +kernel
theorem dX10_look_39 : decode cX10_look 39 = .ok (.bipush 24, 2) := by decide +kernel
theorem dX10_look_41 : decode cX10_look 41 = .ok (.invokevirtual 292, 3) := by decide +kernel
theorem dX10_look_44 : decode cX10_look 44 = .ok (.aload_n 0, 1) := by decide +kernel
theorem dX10_look_45 : decode cX10_look 45 = .ok (.getfield 50, 3) := by decide +kernel
theorem dX10_look_48 : decode cX10_look 48 = .ok (.aload_n 0, 1) := by decide +kernel
theorem dX10_look_49 : decode cX10_look 49 = .ok (.getfield 78, 3) := by decide +kernel
theorem dX10_look_52 : decode cX10_look 52 = .ok (.invokevirtual 302, 3) := by decide +kernel
theorem dX10_look_55 : decode cX10_look 55 = .ok (.iload_n 2, 1) := by decide +kernel
theorem dX10_look_56 : decode cX10_look 56 = .ok (.ifCond .ne 13, 3) := by decide +kernel
theorem dX10_look_59 : decode cX10_look 59 = .ok (.aload_n 0, 1) := by decide +kernel
theorem dX10_look_60 : decode cX10_look 60 = .ok (.getfield 50, 3) := by decide +kernel
theorem dX10_look_63 : decode cX10_look 63 = .ok (.getfield 265, 3) := by decide +kernel
theorem dX10_look_66 : decode cX10_look 66 = .ok (.goto 10, 3) := by decide +kernel
theorem dX10_look_69 : decode cX10_look 69 = .ok (.aload_n 0, 1) := by decide +kernel
theorem dX10_look_70 : decode cX10_look 70 = .ok (.getfield 50, 3) := by decide +kernel
theorem dX10_look_73 : decode cX10_look 73 = .ok (.getfield 306, 3) := by decide +kernel
theorem dX10_look_76 : decode cX10_look 76 = .ok (.ireturn, 1) := by decide +kernel
theorem dX10_fleet_0 : decode cX10_fleet 0 = .ok (.aload_n 0, 1) := by decide +kernel
theorem dX10_fleet_1 : decode cX10_fleet 1 = .ok (.iload_n 1, 1) := by decide +kernel
theorem dX10_fleet_2 : decode cX10_fleet 2 = .ok (.aload_n 0, 1) := by decide +kernel
theorem dX10_fleet_3 : decode cX10_fleet 3 = .ok (.getfield 19, 3) := by decide +kernel
theorem dX10_fleet_6 : decode cX10_fleet 6 = .ok (.getfield 85, 3) := by decide +kernel
theorem dX10_fleet_9 : decode cX10_fleet 9 = .ok (.getfield 165, 3) := by decide +kernel
theorem dX10_fleet_12 : decode cX10_fleet 12 = .ok (.invokevirtual 187, 3) := by decide +kernel
theorem dX10_fleet_15 : decode cX10_fleet 15 = .ok (.aload_n 0, 1) := by decide +kernel
theorem dX10_fleet_16 : decode cX10_fleet 16 = .ok (.iload_n 2, 1) := by decide +kernel
theorem dX10_fleet_17 : decode cX10_fleet 17 = .ok (.iconst 0, 1) := by decide +kernel
theorem dX10_fleet_18 : decode cX10_fleet 18 = .ok (.bipush 99, 2) := by decide +kernel
theorem dX10_fleet_20 : decode cX10_fleet 20 = .ok (.invokevirtual 158, 3) := by decide +kernel
theorem dX10_fleet_23 : decode cX10_fleet 23 = .ok (.aload_n 0, 1) := by decide +kernel
theorem dX10_fleet_24 : decode cX10_fleet 24 = .ok (.getfield 50, 3) := by decide +kernel
theorem dX10_fleet_27 : decode cX10_fleet 27 = .ok (.aload_n 0, 1) := by decide +kernel
theorem dX10_fleet_28 : decode cX10_fleet 28 = .ok (.getfield 19, 3) := by decide +kernel
theorem dX10_fleet_31 : decode cX10_fleet 31 = .ok (.aload_n 0, 1) := by decide +kernel
theorem dX10_fleet_32 : decode cX10_fleet 32 = .ok (.getfield 26, 3) := by decide +kernel
theorem dX10_fleet_35 : decode cX10_fleet 35 = .ok (.iload_n 1, 1) := by decide +kernel
theorem dX10_fleet_36 : decode cX10_fleet 36 = .ok (.iload_n 2, 1) := by decide +kernel
theorem dX10_fleet_37 : decode cX10_fleet 37 = .ok (.invokevirtual 309, 3) := by decide +kernel
theorem dX10_fleet_40 : decode cX10_fleet 40 = .ok (.ireturn, 1) := by decide +kernel
theorem dX10_squall_0 : decode cX10_squall 0 = .ok (.aload_n 0, 1) := by decide +kernel
theorem dX10_squall_1 : decode cX10_squall 1 = .ok (.iload_n 1, 1) := by decide +kernel
theorem dX10_squall_2 : decode cX10_squall 2 = .ok (.iconst 0, 1) := by decide +kernel
theorem dX10_squall_3 : decode cX10_squall 3 = .ok (.bipush 16, 2) := by decide +kernel
theorem dX10_squall_5 : decode cX10_squall 5 = .ok (.invokevirtual 158, 3) := by decide +kernel
theorem dX10_squall_8 : decode cX10_squall 8 = .ok (.aload_n 0, 1) := by decide +kernel
theorem dX10_squall_9 : decode cX10_squall 9 = .ok (.iload_n 2, 1) := by decide +kernel
theorem dX10_squall_10 : decode cX10_squall 10 = .ok (.iconst 0, 1) := by decide +kernel
theorem dX10_squall_11 : decode cX10_squall 11 = .ok (.bipush 12, 2) := by decide +kernel
theorem dX10_squall_13 : decode cX10_squall 13 = .ok (.invokevirtual 158, 3) := by decide +kernel
theorem dX10_squall_16 : decode cX10_squall 16 = .ok (.aload_n 0, 1) := by decide +kernel
theorem dX10_squall_17 : decode cX10_squall 17 = .ok (.iload_n 3, 1) := by decide +kernel
theorem dX10_squall_18 : decode cX10_squall 18 = .ok (.iconst 0, 1) := by decide +kernel
theorem dX10_squall_19 : decode cX10_squall 19 = .ok (.iconst 1, 1) := by decide +kernel
theorem dX10_squall_20 : decode cX10_squall 20 = .ok (.invokevirtual 158, 3) := by decide +kernel
theorem dX10_squall_23 : decode cX10_squall 23 = .ok (.lconst 1, 1) := by decide +kernel
theorem dX10_squall_24 : decode cX10_squall 24 = .ok (.lstore 4, 2) := by decide +kernel
theorem dX10_squall_26 : decode cX10_squall 26 = .ok (.lconst 0, 1) := by decide +kernel
theorem dX10_squall_27 : decode cX10_squall 27 = .ok (.lstore 6, 2) := by decide +kernel
theorem dX10_squall_29 : decode cX10_squall 29 = .ok (.lconst 1, 1) := by decide +kernel
theorem dX10_squall_30 : decode cX10_squall 30 = .ok (.lstore 8, 2) := by decide +kernel
theorem dX10_squall_32 : decode cX10_squall 32 = .ok (.iconst 0, 1) := by decide +kernel
theorem dX10_squall_33 : decode cX10_squall 33 = .ok (.istore 10, 2) := by decide +kernel
theorem dX10_squall_35 : decode cX10_squall 35 = .ok (.iload 10, 2) := by decide +kernel
theorem dX10_squall_37 : decode cX10_squall 37 = .ok (.iload_n 2, 1) := by decide +kernel
theorem dX10_squall_38 : decode cX10_squall 38 = .ok (.if_icmp .ge 43, 3) := by decide +kernel
theorem dX10_squall_41 : decode cX10_squall 41 = .ok (.lload 6, 2) := by decide +kernel
theorem dX10_squall_43 : decode cX10_squall 43 = .ok (.bipush 16, 2) := by decide +kernel
theorem dX10_squall_45 : decode cX10_squall 45 = .ok (.iload_n 1, 1) := by decide +kernel
theorem dX10_squall_46 : decode cX10_squall 46 = .ok (.isub, 1) := by decide +kernel
theorem dX10_squall_47 : decode cX10_squall 47 = .ok (.i2l, 1) := by decide +kernel
theorem dX10_squall_48 : decode cX10_squall 48 = .ok (.lmul, 1) := by decide +kernel
theorem dX10_squall_49 : decode cX10_squall 49 = .ok (.lload 4, 2) := by decide +kernel
theorem dX10_squall_51 : decode cX10_squall 51 = .ok (.iload_n 1, 1) := by decide +kernel
theorem dX10_squall_52 : decode cX10_squall 52 = .ok (.i2l, 1) := by decide +kernel
theorem dX10_squall_53 : decode cX10_squall 53 = .ok (.lmul, 1) := by decide +kernel
theorem dX10_squall_54 : decode cX10_squall 54 = .ok (.ladd, 1) := by decide +kernel
theorem dX10_squall_55 : decode cX10_squall 55 = .ok (.lstore 6, 2) := by decide +kernel
theorem dX10_squall_57 : decode cX10_squall 57 = .ok (.lload 4, 2) := by decide +kernel
theorem dX10_squall_59 : decode cX10_squall 59 = .ok (.bipush 16, 2) := by decide +kernel
theorem dX10_squall_61 : decode cX10_squall 61 = .ok (.iload_n 1, 1) := by decide +kernel
theorem dX10_squall_62 : decode cX10_squall 62 = .ok (.isub, 1) := by decide +kernel
theorem dX10_squall_63 : decode cX10_squall 63 = .ok (.i2l, 1) := by decide +kernel
theorem dX10_squall_64 : decode cX10_squall 64 = .ok (.lmul, 1) := by decide +kernel
theorem dX10_squall_65 : decode cX10_squall 65 = .ok (.lstore 4, 2) := by decide +kernel
theorem dX10_squall_67 : decode cX10_squall 67 = .ok (.lload 8, 2) := by decide +kernel
theorem dX10_squall_69 : decode cX10_squall 69 = .ok (.ldc2_w 313, 3) := by decide +kernel
theorem dX10_squall_72 : decode cX10_squall 72 = .ok (.lmul, 1) := by decide +kernel
theorem dX10_squall_73 : decode cX10_squall 73 = .ok (.lstore 8, 2) := by decide +kernel
theorem dX10_squall_75 : decode cX10_squall 75 = .ok (.iinc 10 1, 3) := by decide +kernel
theorem dX10_squall_78 : decode cX10_squall 78 = .ok (.goto (-43), 3) := by decide +kernel
theorem dX10_squall_81 : decode cX10_squall 81 = .ok (.lload 4, 2) := by decide +kernel
theorem dX10_squall_83 : decode cX10_squall 83 = .ok (.lload 6, 2) := by decide +kernel
theorem dX10_squall_85 : decode cX10_squall 85 = .ok (.ladd, 1) := by decide +kernel
theorem dX10_squall_86 : decode cX10_squall 86 = .ok (.lload 8, 2) := by decide +kernel
theorem dX10_squall_88 : decode cX10_squall 88 = .ok (.invokestatic 315, 3) := by decide +kernel
theorem dX10_squall_91 : decode cX10_squall 91 = .ok (.lstore 10, 2) := by decide +kernel
theorem dX10_squall_93 : decode cX10_squall 93 = .ok (.iload_n 3, 1) := by decide +kernel
theorem dX10_squall_94 : decode cX10_squall 94 = .ok (.ifCond .ne 14, 3) := by decide +kernel
theorem dX10_squall_97 : decode cX10_squall 97 = .ok (.lload 4, 2) := by decide +kernel
theorem dX10_squall_99 : decode cX10_squall 99 = .ok (.lload 6, 2) := by decide +kernel
theorem dX10_squall_101 : decode cX10_squall 101 = .ok (.ladd, 1) := by decide +kernel
theorem dX10_squall_102 : decode cX10_squall 102 = .ok (.lload 10, 2) := by decide +kernel
theorem dX10_squall_104 : decode cX10_squall 104 = .ok (.ldiv, 1) := by decide +kernel
theorem dX10_squall_105 : decode cX10_squall 105 = .ok (.goto 8, 3) := by decide +kernel
theorem dX10_squall_108 : decode cX10_squall 108 = .ok (.lload 8, 2) := by decide +kernel
theorem dX10_squall_110 : decode cX10_squall 110 = .ok (.lload 10, 2) := by decide +kernel
theorem dX10_squall_112 : decode cX10_squall 112 = .ok (.ldiv, 1) := by decide +kernel
theorem dX10_squall_113 : decode cX10_squall 113 = .ok (.lreturn, 1) := by decide +kernel
theorem dX10_two_0 : decode cX10_two 0 = .ok (.aload_n 0, 1) := by decide +kernel
theorem dX10_two_1 : decode cX10_two 1 = .ok (.iload_n 1, 1) := by decide +kernel
theorem dX10_two_2 : decode cX10_two 2 = .ok (.iconst 0, 1) := by decide +kernel
theorem dX10_two_3 : decode cX10_two 3 = .ok (.bipush 99, 2) := by decide +kernel
theorem dX10_two_5 : decode cX10_two 5 = .ok (.invokevirtual 158, 3) := by decide +kernel
theorem dX10_two_8 : decode cX10_two 8 = .ok (.aload_n 0, 1) := by decide +kernel
theorem dX10_two_9 : decode cX10_two 9 = .ok (.iload_n 2, 1) := by decide +kernel
theorem dX10_two_10 : decode cX10_two 10 = .ok (.iconst 0, 1) := by decide +kernel
theorem dX10_two_11 : decode cX10_two 11 = .ok (.bipush 99, 2) := by decide +kernel
theorem dX10_two_13 : decode cX10_two 13 = .ok (.invokevirtual 158, 3) := by decide +kernel
theorem dX10_two_16 : decode cX10_two 16 = .ok (.aload_n 0, 1) := by decide +kernel
theorem dX10_two_17 : decode cX10_two 17 = .ok (.iload_n 3, 1) := by decide +kernel
theorem dX10_two_18 : decode cX10_two 18 = .ok (.iconst 0, 1) := by decide +kernel
theorem dX10_two_19 : decode cX10_two 19 = .ok (.iconst 2, 1) := by decide +kernel
theorem dX10_two_20 : decode cX10_two 20 = .ok (.invokevirtual 158, 3) := by decide +kernel
theorem dX10_two_23 : decode cX10_two 23 = .ok (.iconst 0, 1) := by decide +kernel
theorem dX10_two_24 : decode cX10_two 24 = .ok (.istore 4, 2) := by decide +kernel
theorem dX10_two_26 : decode cX10_two 26 = .ok (.iconst (-1), 1) := by decide +kernel
theorem dX10_two_27 : decode cX10_two 27 = .ok (.istore 5, 2) := by decide +kernel
theorem dX10_two_29 : decode cX10_two 29 = .ok (.iconst 0, 1) := by decide +kernel
theorem dX10_two_30 : decode cX10_two 30 = .ok (.istore 6, 2) := by decide +kernel
theorem dX10_two_32 : decode cX10_two 32 = .ok (.iconst 0, 1) := by decide +kernel
theorem dX10_two_33 : decode cX10_two 33 = .ok (.istore 7, 2) := by decide +kernel
theorem dX10_two_35 : decode cX10_two 35 = .ok (.iload 7, 2) := by decide +kernel
theorem dX10_two_37 : decode cX10_two 37 = .ok (.iconst 4, 1) := by decide +kernel
theorem dX10_two_38 : decode cX10_two 38 = .ok (.if_icmp .ge 107, 3) := by decide +kernel
theorem dX10_two_41 : decode cX10_two 41 = .ok (.iload 7, 2) := by decide +kernel
theorem dX10_two_43 : decode cX10_two 43 = .ok (.iconst 2, 1) := by decide +kernel
theorem dX10_two_44 : decode cX10_two 44 = .ok (.idiv, 1) := by decide +kernel
theorem dX10_two_45 : decode cX10_two 45 = .ok (.istore 8, 2) := by decide +kernel
theorem dX10_two_47 : decode cX10_two 47 = .ok (.iload 7, 2) := by decide +kernel
theorem dX10_two_49 : decode cX10_two 49 = .ok (.iconst 2, 1) := by decide +kernel
theorem dX10_two_50 : decode cX10_two 50 = .ok (.irem, 1) := by decide +kernel
theorem dX10_two_51 : decode cX10_two 51 = .ok (.istore 9, 2) := by decide +kernel
theorem dX10_two_53 : decode cX10_two 53 = .ok (.iload 8, 2) := by decide +kernel
theorem dX10_two_55 : decode cX10_two 55 = .ok (.iload 9, 2) := by decide +kernel
theorem dX10_two_57 : decode cX10_two 57 = .ok (.iload_n 1, 1) := by decide +kernel
theorem dX10_two_58 : decode cX10_two 58 = .ok (.iload_n 2, 1) := by decide +kernel
theorem dX10_two_59 : decode cX10_two 59 = .ok (.invokestatic 319, 3) := by decide +kernel
theorem dX10_two_62 : decode cX10_two 62 = .ok (.iconst 1, 1) := by decide +kernel
theorem dX10_two_63 : decode cX10_two 63 = .ok (.iload 8, 2) := by decide +kernel
theorem dX10_two_65 : decode cX10_two 65 = .ok (.isub, 1) := by decide +kernel
theorem dX10_two_66 : decode cX10_two 66 = .ok (.iload 9, 2) := by decide +kernel
theorem dX10_two_68 : decode cX10_two 68 = .ok (.iload_n 1, 1) := by decide +kernel
theorem dX10_two_69 : decode cX10_two 69 = .ok (.iload_n 2, 1) := by decide +kernel
theorem dX10_two_70 : decode cX10_two 70 = .ok (.invokestatic 319, 3) := by decide +kernel
theorem dX10_two_73 : decode cX10_two 73 = .ok (.if_icmp .lt 66, 3) := by decide +kernel
theorem dX10_two_76 : decode cX10_two 76 = .ok (.iload 9, 2) := by decide +kernel
theorem dX10_two_78 : decode cX10_two 78 = .ok (.iload 8, 2) := by decide +kernel
theorem dX10_two_80 : decode cX10_two 80 = .ok (.iload_n 1, 1) := by decide +kernel
theorem dX10_two_81 : decode cX10_two 81 = .ok (.iload_n 2, 1) := by decide +kernel
theorem dX10_two_82 : decode cX10_two 82 = .ok (.invokestatic 319, 3) := by decide +kernel
theorem dX10_two_85 : decode cX10_two 85 = .ok (.iconst 1, 1) := by decide +kernel
theorem dX10_two_86 : decode cX10_two 86 = .ok (.iload 9, 2) := by decide +kernel
theorem dX10_two_88 : decode cX10_two 88 = .ok (.isub, 1) := by decide +kernel
theorem dX10_two_89 : decode cX10_two 89 = .ok (.iload 8, 2) := by decide +kernel
theorem dX10_two_91 : decode cX10_two 91 = .ok (.iload_n 1, 1) := by decide +kernel
theorem dX10_two_92 : decode cX10_two 92 = .ok (.iload_n 2, 1) := by decide +kernel
theorem dX10_two_93 : decode cX10_two 93 = .ok (.invokestatic 319, 3) := by decide +kernel
theorem dX10_two_96 : decode cX10_two 96 = .ok (.if_icmp .lt 43, 3) := by decide +kernel
theorem dX10_two_99 : decode cX10_two 99 = .ok (.iinc 4 1, 3) := by decide +kernel
theorem dX10_two_102 : decode cX10_two 102 = .ok (.iload 5, 2) := by decide +kernel
theorem dX10_two_104 : decode cX10_two 104 = .ok (.iconst (-1), 1) := by decide +kernel
theorem dX10_two_105 : decode cX10_two 105 = .ok (.if_icmp .ne 34, 3) := by decide +kernel
theorem dX10_two_108 : decode cX10_two 108 = .ok (.bipush 10, 2) := by decide +kernel
theorem dX10_two_110 : decode cX10_two 110 = .ok (.iload 8, 2) := by decide +kernel
theorem dX10_two_112 : decode cX10_two 112 = .ok (.imul, 1) := by decide +kernel
theorem dX10_two_113 : decode cX10_two 113 = .ok (.iload 9, 2) := by decide +kernel
theorem dX10_two_115 : decode cX10_two 115 = .ok (.iadd, 1) := by decide +kernel
theorem dX10_two_116 : decode cX10_two 116 = .ok (.istore 5, 2) := by decide +kernel
theorem dX10_two_118 : decode cX10_two 118 = .ok (.iload 8, 2) := by decide +kernel
theorem dX10_two_120 : decode cX10_two 120 = .ok (.iload 9, 2) := by decide +kernel
theorem dX10_two_122 : decode cX10_two 122 = .ok (.iload_n 1, 1) := by decide +kernel
theorem dX10_two_123 : decode cX10_two 123 = .ok (.iload_n 2, 1) := by decide +kernel
theorem dX10_two_124 : decode cX10_two 124 = .ok (.invokestatic 319, 3) := by decide +kernel
theorem dX10_two_127 : decode cX10_two 127 = .ok (.iload 9, 2) := by decide +kernel
theorem dX10_two_129 : decode cX10_two 129 = .ok (.iload 8, 2) := by decide +kernel
theorem dX10_two_131 : decode cX10_two 131 = .ok (.iload_n 1, 1) := by decide +kernel
theorem dX10_two_132 : decode cX10_two 132 = .ok (.iload_n 2, 1) := by decide +kernel
theorem dX10_two_133 : decode cX10_two 133 = .ok (.invokestatic 319, 3) := by decide +kernel
theorem dX10_two_136 : decode cX10_two 136 = .ok (.iadd, 1) := by decide +kernel
theorem dX10_two_137 : decode cX10_two 137 = .ok (.istore 6, 2) := by decide +kernel
theorem dX10_two_139 : decode cX10_two 139 = .ok (.iinc 7 1, 3) := by decide +kernel
theorem dX10_two_142 : decode cX10_two 142 = .ok (.goto (-107), 3) := by decide +kernel
theorem dX10_two_145 : decode cX10_two 145 = .ok (.iload_n 3, 1) := by decide +kernel
theorem dX10_two_146 : decode cX10_two 146 = .ok (.ifCond .ne 8, 3) := by decide +kernel
theorem dX10_two_149 : decode cX10_two 149 = .ok (.iload 4, 2) := by decide +kernel
theorem dX10_two_151 : decode cX10_two 151 = .ok (.goto 15, 3) := by decide +kernel
theorem dX10_two_154 : decode cX10_two 154 = .ok (.iload_n 3, 1) := by decide +kernel
theorem dX10_two_155 : decode cX10_two 155 = .ok (.iconst 1, 1) := by decide +kernel
theorem dX10_two_156 : decode cX10_two 156 = .ok (.if_icmp .ne 8, 3) := by decide +kernel
theorem dX10_two_159 : decode cX10_two 159 = .ok (.iload 5, 2) := by decide +kernel
theorem dX10_two_161 : decode cX10_two 161 = .ok (.goto 5, 3) := by decide +kernel
theorem dX10_two_164 : decode cX10_two 164 = .ok (.iload 6, 2) := by decide +kernel
theorem dX10_two_166 : decode cX10_two 166 = .ok (.ireturn, 1) := by decide +kernel
theorem dX10_share_0 : decode cX10_share 0 = .ok (.aload_n 0, 1) := by decide +kernel
theorem dX10_share_1 : decode cX10_share 1 = .ok (.iload_n 1, 1) := by decide +kernel
theorem dX10_share_2 : decode cX10_share 2 = .ok (.aload_n 0, 1) := by decide +kernel
theorem dX10_share_3 : decode cX10_share 3 = .ok (.getfield 19, 3) := by decide +kernel
theorem dX10_share_6 : decode cX10_share 6 = .ok (.getfield 85, 3) := by decide +kernel
theorem dX10_share_9 : decode cX10_share 9 = .ok (.getfield 127, 3) := by decide +kernel
theorem dX10_share_12 : decode cX10_share 12 = .ok (.invokevirtual 187, 3) := by decide +kernel
theorem dX10_share_15 : decode cX10_share 15 = .ok (.aload_n 0, 1) := by decide +kernel
theorem dX10_share_16 : decode cX10_share 16 = .ok (.iload_n 2, 1) := by decide +kernel
theorem dX10_share_17 : decode cX10_share 17 = .ok (.iconst 0, 1) := by decide +kernel
theorem dX10_share_18 : decode cX10_share 18 = .ok (.iconst 1, 1) := by decide +kernel
theorem dX10_share_19 : decode cX10_share 19 = .ok (.aload_n 0, 1) := by decide +kernel
theorem dX10_share_20 : decode cX10_share 20 = .ok (.getfield 19, 3) := by decide +kernel
theorem dX10_share_23 : decode cX10_share 23 = .ok (.getfield 85, 3) := by decide +kernel
theorem dX10_share_26 : decode cX10_share 26 = .ok (.getfield 127, 3) := by decide +kernel
theorem dX10_share_29 : decode cX10_share 29 = .ok (.ishl, 1) := by decide +kernel
theorem dX10_share_30 : decode cX10_share 30 = .ok (.iconst 1, 1) := by decide +kernel
theorem dX10_share_31 : decode cX10_share 31 = .ok (.isub, 1) := by decide +kernel
theorem dX10_share_32 : decode cX10_share 32 = .ok (.invokevirtual 158, 3) := by decide +kernel
theorem dX10_share_35 : decode cX10_share 35 = .ok (.aload_n 0, 1) := by decide +kernel
theorem dX10_share_36 : decode cX10_share 36 = .ok (.iload_n 3, 1) := by decide +kernel
theorem dX10_share_37 : decode cX10_share 37 = .ok (.iconst 0, 1) := by decide +kernel
theorem dX10_share_38 : decode cX10_share 38 = .ok (.sipush 9999, 3) := by decide +kernel
theorem dX10_share_41 : decode cX10_share 41 = .ok (.invokevirtual 158, 3) := by decide +kernel
theorem dX10_share_44 : decode cX10_share 44 = .ok (.iload_n 2, 1) := by decide +kernel
theorem dX10_share_45 : decode cX10_share 45 = .ok (.iload_n 1, 1) := by decide +kernel
theorem dX10_share_46 : decode cX10_share 46 = .ok (.ishr, 1) := by decide +kernel
theorem dX10_share_47 : decode cX10_share 47 = .ok (.iconst 1, 1) := by decide +kernel
theorem dX10_share_48 : decode cX10_share 48 = .ok (.iand, 1) := by decide +kernel
theorem dX10_share_49 : decode cX10_share 49 = .ok (.ifCond .ne 5, 3) := by decide +kernel
theorem dX10_share_52 : decode cX10_share 52 = .ok (.iconst 0, 1) := by decide +kernel
theorem dX10_share_53 : decode cX10_share 53 = .ok (.ireturn, 1) := by decide +kernel
theorem dX10_share_54 : decode cX10_share 54 = .ok (.aload_n 0, 1) := by decide +kernel
theorem dX10_share_55 : decode cX10_share 55 = .ok (.getfield 26, 3) := by decide +kernel
theorem dX10_share_58 : decode cX10_share 58 = .ok (.getfield 231, 3) := by decide +kernel
theorem dX10_share_61 : decode cX10_share 61 = .ok (.iload_n 1, 1) := by decide +kernel
theorem dX10_share_62 : decode cX10_share 62 = .ok (.iaload, 1) := by decide +kernel
theorem dX10_share_63 : decode cX10_share 63 = .ok (.aload_n 0, 1) := by decide +kernel
theorem dX10_share_64 : decode cX10_share 64 = .ok (.getfield 26, 3) := by decide +kernel
theorem dX10_share_67 : decode cX10_share 67 = .ok (.iload_n 2, 1) := by decide +kernel
theorem dX10_share_68 : decode cX10_share 68 = .ok (.iload_n 3, 1) := by decide +kernel
theorem dX10_share_69 : decode cX10_share 69 = .ok (.invokevirtual 323, 3) := by decide +kernel
theorem dX10_share_72 : decode cX10_share 72 = .ok (.invokestatic 326, 3) := by decide +kernel
theorem dX10_share_75 : decode cX10_share 75 = .ok (.ireturn, 1) := by decide +kernel
theorem dX10_best_0 : decode cX10_best 0 = .ok (.aload_n 0, 1) := by decide +kernel
theorem dX10_best_1 : decode cX10_best 1 = .ok (.iload_n 1, 1) := by decide +kernel
theorem dX10_best_2 : decode cX10_best 2 = .ok (.iconst 0, 1) := by decide +kernel
theorem dX10_best_3 : decode cX10_best 3 = .ok (.iconst 1, 1) := by decide +kernel
theorem dX10_best_4 : decode cX10_best 4 = .ok (.invokevirtual 158, 3) := by decide +kernel
theorem dX10_best_7 : decode cX10_best 7 = .ok (.aload_n 0, 1) := by decide +kernel
theorem dX10_best_8 : decode cX10_best 8 = .ok (.getfield 26, 3) := by decide +kernel
theorem dX10_best_11 : decode cX10_best 11 = .ok (.invokevirtual 331, 3) := by decide +kernel
theorem dX10_best_14 : decode cX10_best 14 = .ok (.istore_n 2, 1) := by decide +kernel
theorem dX10_best_15 : decode cX10_best 15 = .ok (.iload_n 2, 1) := by decide +kernel
theorem dX10_best_16 : decode cX10_best 16 = .ok (.iconst (-1), 1) := by decide +kernel
theorem dX10_best_17 : decode cX10_best 17 = .ok (.if_icmp .eq 7, 3) := by decide +kernel
theorem dX10_best_20 : decode cX10_best 20 = .ok (.iload_n 1, 1) := by decide +kernel
theorem dX10_best_21 : decode cX10_best 21 = .ok (.ifCond .ne 7, 3) := by decide +kernel
theorem dX10_best_24 : decode cX10_best 24 = .ok (.iload_n 2, 1) := by decide +kernel
theorem dX10_best_25 : decode cX10_best 25 = .ok (.goto 12, 3) := by decide +kernel
theorem dX10_best_28 : decode cX10_best 28 = .ok (.aload_n 0, 1) := by decide +kernel
theorem dX10_best_29 : decode cX10_best 29 = .ok (.getfield 26, 3) := by decide +kernel
theorem dX10_best_32 : decode cX10_best 32 = .ok (.getfield 231, 3) := by decide +kernel
theorem dX10_best_35 : decode cX10_best 35 = .ok (.iload_n 2, 1) := by decide +kernel
theorem dX10_best_36 : decode cX10_best 36 = .ok (.iaload, 1) := by decide +kernel
theorem dX10_best_37 : decode cX10_best 37 = .ok (.ireturn, 1) := by decide +kernel
theorem dX10_from_0 : decode cX10_from 0 = .ok (.aload_n 0, 1) := by decide +kernel
theorem dX10_from_1 : decode cX10_from 1 = .ok (.iload_n 1, 1) := by decide +kernel
theorem dX10_from_2 : decode cX10_from 2 = .ok (.iconst 0, 1) := by decide +kernel
theorem dX10_from_3 : decode cX10_from 3 = .ok (.bipush 7, 2) := by decide +kernel
theorem dX10_from_5 : decode cX10_from 5 = .ok (.invokevirtual 158, 3) := by decide +kernel
theorem dX10_from_8 : decode cX10_from 8 = .ok (.aload_n 0, 1) := by decide +kernel
theorem dX10_from_9 : decode cX10_from 9 = .ok (.getfield 19, 3) := by decide +kernel
theorem dX10_from_12 : decode cX10_from 12 = .ok (.getfield 85, 3) := by decide +kernel
theorem dX10_from_15 : decode cX10_from 15 = .ok (.iload_n 1, 1) := by decide +kernel
theorem dX10_from_16 : decode cX10_from 16 = .ok (.invokevirtual 334, 3) := by decide +kernel
theorem dX10_from_19 : decode cX10_from 19 = .ok (.ireturn, 1) := by decide +kernel
theorem dX10_row_0 : decode cX10_row 0 = .ok (.aload_n 0, 1) := by decide +kernel
theorem dX10_row_1 : decode cX10_row 1 = .ok (.iload_n 1, 1) := by decide +kernel
theorem dX10_row_2 : decode cX10_row 2 = .ok (.aload_n 0, 1) := by decide +kernel
theorem dX10_row_3 : decode cX10_row 3 = .ok (.getfield 19, 3) := by decide +kernel
theorem dX10_row_6 : decode cX10_row 6 = .ok (.getfield 85, 3) := by decide +kernel
theorem dX10_row_9 : decode cX10_row 9 = .ok (.getfield 127, 3) := by decide +kernel
