theorem dX5_factOf_34 : decode cX5_factOf 34 = .ok (.ldc 104, 2) := by decide +kernel
theorem dX5_factOf_36 : decode cX5_factOf 36 = .ok (.invokevirtual 78, 3) := by decide +kernel
theorem dX5_factOf_39 : decode cX5_factOf 39 = .ok (.ifCond .eq 5, 3) := by decide +kernel
theorem dX5_factOf_42 : decode cX5_factOf 42 = .ok (.iconst 3, 1) := by decide +kernel
theorem dX5_factOf_43 : decode cX5_factOf 43 = .ok (.ireturn, 1) := by decide +kernel
theorem dX5_factOf_44 : decode cX5_factOf 44 = .ok (.aload_n 0, 1) := by decide +kernel
theorem dX5_factOf_45 : decode cX5_factOf 45 = .ok (.ldc 106, 2) := by decide +kernel
theorem dX5_factOf_47 : decode cX5_factOf 47 = .ok (.invokevirtual 78, 3) := by decide +kernel
theorem dX5_factOf_50 : decode cX5_factOf 50 = .ok (.ifCond .eq 5, 3) := by decide +kernel
theorem dX5_factOf_53 : decode cX5_factOf 53 = .ok (.iconst 4, 1) := by decide +kernel
theorem dX5_factOf_54 : decode cX5_factOf 54 = .ok (.ireturn, 1) := by decide +kernel
theorem dX5_factOf_55 : decode cX5_factOf 55 = .ok (.aload_n 0, 1) := by decide +kernel
theorem dX5_factOf_56 : decode cX5_factOf 56 = .ok (.ldc 108, 2) := by decide +kernel
theorem dX5_factOf_58 : decode cX5_factOf 58 = .ok (.invokevirtual 78, 3) := by decide +kernel
theorem dX5_factOf_61 : decode cX5_factOf 61 = .ok (.ifCond .eq 5, 3) := by decide +kernel
theorem dX5_factOf_64 : decode cX5_factOf 64 = .ok (.iconst 5, 1) := by decide +kernel
theorem dX5_factOf_65 : decode cX5_factOf 65 = .ok (.ireturn, 1) := by decide +kernel
theorem dX5_factOf_66 : decode cX5_factOf 66 = .ok (.aload_n 0, 1) := by decide +kernel
theorem dX5_factOf_67 : decode cX5_factOf 67 = .ok (.ldc 110, 2) := by decide +kernel
theorem dX5_factOf_69 : decode cX5_factOf 69 = .ok (.invokevirtual 78, 3) := by decide +kernel
theorem dX5_factOf_72 : decode cX5_factOf 72 = .ok (.ifCond .eq 6, 3) := by decide +kernel
theorem dX5_factOf_75 : decode cX5_factOf 75 = .ok (.bipush 6, 2) := by decide +kernel
theorem dX5_factOf_77 : decode cX5_factOf 77 = .ok (.ireturn, 1) := by decide +kernel
theorem dX5_factOf_78 : decode cX5_factOf 78 = .ok (.aload_n 0, 1) := by decide +kernel
theorem dX5_factOf_79 : decode cX5_factOf 79 = .ok (.ldc 112, 2) := by decide +kernel
theorem dX5_factOf_81 : decode cX5_factOf 81 = .ok (.invokevirtual 78, 3) := by decide +kernel
theorem dX5_factOf_84 : decode cX5_factOf 84 = .ok (.ifCond .eq 8, 3) := by decide +kernel
theorem dX5_factOf_87 : decode cX5_factOf 87 = .ok (.bipush 7, 2) := by decide +kernel
theorem dX5_factOf_89 : decode cX5_factOf 89 = .ok (.goto 4, 3) := by decide +kernel
theorem dX5_factOf_92 : decode cX5_factOf 92 = .ok (.iconst (-1), 1) := by decide +kernel
theorem dX5_factOf_93 : decode cX5_factOf 93 = .ok (.ireturn, 1) := by decide +kernel
theorem dX5_seaBy_0 : decode cX5_seaBy 0 = .ok (.iconst 0, 1) := by decide +kernel
theorem dX5_seaBy_1 : decode cX5_seaBy 1 = .ok (.istore_n 2, 1) := by decide +kernel
theorem dX5_seaBy_2 : decode cX5_seaBy 2 = .ok (.iconst 0, 1) := by decide +kernel
theorem dX5_seaBy_3 : decode cX5_seaBy 3 = .ok (.istore_n 3, 1) := by decide +kernel
theorem dX5_seaBy_4 : decode cX5_seaBy 4 = .ok (.iload_n 3, 1) := by decide +kernel
theorem dX5_seaBy_5 : decode cX5_seaBy 5 = .ok (.aload_n 0, 1) := by decide +kernel
theorem dX5_seaBy_6 : decode cX5_seaBy 6 = .ok (.getfield 27, 3) := by decide +kernel
theorem dX5_seaBy_9 : decode cX5_seaBy 9 = .ok (.if_icmp .ge 85, 3) := by decide +kernel
theorem dX5_seaBy_12 : decode cX5_seaBy 12 = .ok (.aload_n 0, 1) := by decide +kernel
theorem dX5_seaBy_13 : decode cX5_seaBy 13 = .ok (.getfield 15, 3) := by decide +kernel
theorem dX5_seaBy_16 : decode cX5_seaBy 16 = .ok (.iload_n 3, 1) := by decide +kernel
theorem dX5_seaBy_17 : decode cX5_seaBy 17 = .ok (.iaload, 1) := by decide +kernel
theorem dX5_seaBy_18 : decode cX5_seaBy 18 = .ok (.istore 4, 2) := by decide +kernel
theorem dX5_seaBy_20 : decode cX5_seaBy 20 = .ok (.aload_n 0, 1) := by decide +kernel
theorem dX5_seaBy_21 : decode cX5_seaBy 21 = .ok (.getfield 9, 3) := by decide +kernel
theorem dX5_seaBy_24 : decode cX5_seaBy 24 = .ok (.iload_n 3, 1) := by decide +kernel
theorem dX5_seaBy_25 : decode cX5_seaBy 25 = .ok (.iaload, 1) := by decide +kernel
theorem dX5_seaBy_26 : decode cX5_seaBy 26 = .ok (.ifCond .ne 9, 3) := by decide +kernel
theorem dX5_seaBy_29 : decode cX5_seaBy 29 = .ok (.iload 4, 2) := by decide +kernel
theorem dX5_seaBy_31 : decode cX5_seaBy 31 = .ok (.istore_n 2, 1) := by decide +kernel
theorem dX5_seaBy_32 : decode cX5_seaBy 32 = .ok (.goto 49, 3) := by decide +kernel
theorem dX5_seaBy_35 : decode cX5_seaBy 35 = .ok (.aload_n 0, 1) := by decide +kernel
theorem dX5_seaBy_36 : decode cX5_seaBy 36 = .ok (.getfield 9, 3) := by decide +kernel
theorem dX5_seaBy_39 : decode cX5_seaBy 39 = .ok (.iload_n 3, 1) := by decide +kernel
theorem dX5_seaBy_40 : decode cX5_seaBy 40 = .ok (.iaload, 1) := by decide +kernel
theorem dX5_seaBy_41 : decode cX5_seaBy 41 = .ok (.iconst 1, 1) := by decide +kernel
theorem dX5_seaBy_42 : decode cX5_seaBy 42 = .ok (.if_icmp .ne 11, 3) := by decide +kernel
theorem dX5_seaBy_45 : decode cX5_seaBy 45 = .ok (.aload_n 1, 1) := by decide +kernel
theorem dX5_seaBy_46 : decode cX5_seaBy 46 = .ok (.iload 4, 2) := by decide +kernel
theorem dX5_seaBy_48 : decode cX5_seaBy 48 = .ok (.iaload, 1) := by decide +kernel
theorem dX5_seaBy_49 : decode cX5_seaBy 49 = .ok (.istore_n 2, 1) := by decide +kernel
theorem dX5_seaBy_50 : decode cX5_seaBy 50 = .ok (.goto 31, 3) := by decide +kernel
theorem dX5_seaBy_53 : decode cX5_seaBy 53 = .ok (.aload_n 0, 1) := by decide +kernel
theorem dX5_seaBy_54 : decode cX5_seaBy 54 = .ok (.getfield 9, 3) := by decide +kernel
theorem dX5_seaBy_57 : decode cX5_seaBy 57 = .ok (.iload_n 3, 1) := by decide +kernel
theorem dX5_seaBy_58 : decode cX5_seaBy 58 = .ok (.iaload, 1) := by decide +kernel
theorem dX5_seaBy_59 : decode cX5_seaBy 59 = .ok (.aload_n 0, 1) := by decide +kernel
theorem dX5_seaBy_60 : decode cX5_seaBy 60 = .ok (.getfield 21, 3) := by decide +kernel
theorem dX5_seaBy_63 : decode cX5_seaBy 63 = .ok (.iload 4, 2) := by decide +kernel
theorem dX5_seaBy_65 : decode cX5_seaBy 65 = .ok (.iaload, 1) := by decide +kernel
theorem dX5_seaBy_66 : decode cX5_seaBy 66 = .ok (.aload_n 0, 1) := by decide +kernel
theorem dX5_seaBy_67 : decode cX5_seaBy 67 = .ok (.getfield 21, 3) := by decide +kernel
theorem dX5_seaBy_70 : decode cX5_seaBy 70 = .ok (.aload_n 0, 1) := by decide +kernel
theorem dX5_seaBy_71 : decode cX5_seaBy 71 = .ok (.getfield 18, 3) := by decide +kernel
theorem dX5_seaBy_74 : decode cX5_seaBy 74 = .ok (.iload_n 3, 1) := by decide +kernel
theorem dX5_seaBy_75 : decode cX5_seaBy 75 = .ok (.iaload, 1) := by decide +kernel
theorem dX5_seaBy_76 : decode cX5_seaBy 76 = .ok (.iaload, 1) := by decide +kernel
theorem dX5_seaBy_77 : decode cX5_seaBy 77 = .ok (.invokestatic 114, 3) := by decide +kernel
theorem dX5_seaBy_80 : decode cX5_seaBy 80 = .ok (.istore_n 2, 1) := by decide +kernel
theorem dX5_seaBy_81 : decode cX5_seaBy 81 = .ok (.aload_n 0, 1) := by decide +kernel
theorem dX5_seaBy_82 : decode cX5_seaBy 82 = .ok (.getfield 21, 3) := by decide +kernel
theorem dX5_seaBy_85 : decode cX5_seaBy 85 = .ok (.iload_n 3, 1) := by decide +kernel
theorem dX5_seaBy_86 : decode cX5_seaBy 86 = .ok (.iload_n 2, 1) := by decide +kernel
theorem dX5_seaBy_87 : decode cX5_seaBy 87 = .ok (.iastore, 1) := by decide +kernel
theorem dX5_seaBy_88 : decode cX5_seaBy 88 = .ok (.iinc 3 1, 3) := by decide +kernel
theorem dX5_seaBy_91 : decode cX5_seaBy 91 = .ok (.goto (-87), 3) := by decide +kernel
theorem dX5_seaBy_94 : decode cX5_seaBy 94 = .ok (.iconst 0, 1) := by decide +kernel
theorem dX5_seaBy_95 : decode cX5_seaBy 95 = .ok (.bipush 99, 2) := by decide +kernel
theorem dX5_seaBy_97 : decode cX5_seaBy 97 = .ok (.iload_n 2, 1) := by decide +kernel
theorem dX5_seaBy_98 : decode cX5_seaBy 98 = .ok (.invokestatic 117, 3) := by decide +kernel
theorem dX5_seaBy_101 : decode cX5_seaBy 101 = .ok (.invokestatic 122, 3) := by decide +kernel
theorem dX5_seaBy_104 : decode cX5_seaBy 104 = .ok (.ireturn, 1) := by decide +kernel
theorem dX5_joined_0 : decode cX5_joined 0 = .ok (.iload_n 0, 1) := by decide +kernel
theorem dX5_joined_1 : decode cX5_joined 1 = .ok (.tableswitch 86 2 7 #[39, 43, 47, 51, 63, 75], 39) := by decide +kernel
theorem dX5_joined_40 : decode cX5_joined 40 = .ok (.iload_n 1, 1) := by decide +kernel
theorem dX5_joined_41 : decode cX5_joined 41 = .ok (.iload_n 2, 1) := by decide +kernel
theorem dX5_joined_42 : decode cX5_joined 42 = .ok (.iadd, 1) := by decide +kernel
theorem dX5_joined_43 : decode cX5_joined 43 = .ok (.ireturn, 1) := by decide +kernel
theorem dX5_joined_44 : decode cX5_joined 44 = .ok (.iload_n 1, 1) := by decide +kernel
theorem dX5_joined_45 : decode cX5_joined 45 = .ok (.iload_n 2, 1) := by decide +kernel
theorem dX5_joined_46 : decode cX5_joined 46 = .ok (.isub, 1) := by decide +kernel
theorem dX5_joined_47 : decode cX5_joined 47 = .ok (.ireturn, 1) := by decide +kernel
theorem dX5_joined_48 : decode cX5_joined 48 = .ok (.iload_n 1, 1) := by decide +kernel
theorem dX5_joined_49 : decode cX5_joined 49 = .ok (.iload_n 2, 1) := by decide +kernel
theorem dX5_joined_50 : decode cX5_joined 50 = .ok (.imul, 1) := by decide +kernel
theorem dX5_joined_51 : decode cX5_joined 51 = .ok (.ireturn, 1) := by decide +kernel
theorem dX5_joined_52 : decode cX5_joined 52 = .ok (.iload_n 2, 1) := by decide +kernel
theorem dX5_joined_53 : decode cX5_joined 53 = .ok (.ifCond .ne 7, 3) := by decide +kernel
theorem dX5_joined_56 : decode cX5_joined 56 = .ok (.iconst 0, 1) := by decide +kernel
theorem dX5_joined_57 : decode cX5_joined 57 = .ok (.goto 6, 3) := by decide +kernel
theorem dX5_joined_60 : decode cX5_joined 60 = .ok (.iload_n 1, 1) := by decide +kernel
theorem dX5_joined_61 : decode cX5_joined 61 = .ok (.iload_n 2, 1) := by decide +kernel
theorem dX5_joined_62 : decode cX5_joined 62 = .ok (.idiv, 1) := by decide +kernel
theorem dX5_joined_63 : decode cX5_joined 63 = .ok (.ireturn, 1) := by decide +kernel
theorem dX5_joined_64 : decode cX5_joined 64 = .ok (.iload_n 2, 1) := by decide +kernel
theorem dX5_joined_65 : decode cX5_joined 65 = .ok (.ifCond .ne 7, 3) := by decide +kernel
theorem dX5_joined_68 : decode cX5_joined 68 = .ok (.iconst 0, 1) := by decide +kernel
theorem dX5_joined_69 : decode cX5_joined 69 = .ok (.goto 6, 3) := by decide +kernel
theorem dX5_joined_72 : decode cX5_joined 72 = .ok (.iload_n 1, 1) := by decide +kernel
theorem dX5_joined_73 : decode cX5_joined 73 = .ok (.iload_n 2, 1) := by decide +kernel
theorem dX5_joined_74 : decode cX5_joined 74 = .ok (.irem, 1) := by decide +kernel
theorem dX5_joined_75 : decode cX5_joined 75 = .ok (.ireturn, 1) := by decide +kernel
theorem dX5_joined_76 : decode cX5_joined 76 = .ok (.iload_n 1, 1) := by decide +kernel
theorem dX5_joined_77 : decode cX5_joined 77 = .ok (.iload_n 2, 1) := by decide +kernel
theorem dX5_joined_78 : decode cX5_joined 78 = .ok (.if_icmp .ge 7, 3) := by decide +kernel
theorem dX5_joined_81 : decode cX5_joined 81 = .ok (.iload_n 1, 1) := by decide +kernel
theorem dX5_joined_82 : decode cX5_joined 82 = .ok (.goto 4, 3) := by decide +kernel
theorem dX5_joined_85 : decode cX5_joined 85 = .ok (.iload_n 2, 1) := by decide +kernel
theorem dX5_joined_86 : decode cX5_joined 86 = .ok (.ireturn, 1) := by decide +kernel
theorem dX5_joined_87 : decode cX5_joined 87 = .ok (.iload_n 1, 1) := by decide +kernel
theorem dX5_joined_88 : decode cX5_joined 88 = .ok (.iload_n 2, 1) := by decide +kernel
theorem dX5_joined_89 : decode cX5_joined 89 = .ok (.if_icmp .le 7, 3) := by decide +kernel
theorem dX5_joined_92 : decode cX5_joined 92 = .ok (.iload_n 1, 1) := by decide +kernel
theorem dX5_joined_93 : decode cX5_joined 93 = .ok (.goto 4, 3) := by decide +kernel
theorem dX5_joined_96 : decode cX5_joined 96 = .ok (.iload_n 2, 1) := by decide +kernel
theorem dX5_joined_97 : decode cX5_joined 97 = .ok (.ireturn, 1) := by decide +kernel
theorem dX6_init_0 : decode cX6_init 0 = .ok (.aload_n 0, 1) := by decide +kernel
theorem dX6_init_1 : decode cX6_init 1 = .ok (.invokespecial 1, 3) := by decide +kernel
theorem dX6_init_4 : decode cX6_init 4 = .ok (.return_, 1) := by decide +kernel
theorem dX6_draw_0 : decode cX6_draw 0 = .ok (.aload_n 0, 1) := by decide +kernel
theorem dX6_draw_1 : decode cX6_draw 1 = .ok (.aload_n 0, 1) := by decide +kernel
theorem dX6_draw_2 : decode cX6_draw 2 = .ok (.getfield 7, 3) := by decide +kernel
theorem dX6_draw_5 : decode cX6_draw 5 = .ok (.ldc 13, 2) := by decide +kernel
theorem dX6_draw_7 : decode cX6_draw 7 = .ok (.imul, 1) := by decide +kernel
theorem dX6_draw_8 : decode cX6_draw 8 = .ok (.sipush 12345, 3) := by decide +kernel
theorem dX6_draw_11 : decode cX6_draw 11 = .ok (.iadd, 1) := by decide +kernel
theorem dX6_draw_12 : decode cX6_draw 12 = .ok (.putfield 7, 3) := by decide +kernel
theorem dX6_draw_15 : decode cX6_draw 15 = .ok (.iload_n 1, 1) := by decide +kernel
theorem dX6_draw_16 : decode cX6_draw 16 = .ok (.ifCond .le 19, 3) := by decide +kernel
theorem dX6_draw_19 : decode cX6_draw 19 = .ok (.aload_n 0, 1) := by decide +kernel
theorem dX6_draw_20 : decode cX6_draw 20 = .ok (.getfield 7, 3) := by decide +kernel
theorem dX6_draw_23 : decode cX6_draw 23 = .ok (.bipush 16, 2) := by decide +kernel
theorem dX6_draw_25 : decode cX6_draw 25 = .ok (.iushr, 1) := by decide +kernel
theorem dX6_draw_26 : decode cX6_draw 26 = .ok (.sipush 32767, 3) := by decide +kernel
theorem dX6_draw_29 : decode cX6_draw 29 = .ok (.iand, 1) := by decide +kernel
theorem dX6_draw_30 : decode cX6_draw 30 = .ok (.iload_n 1, 1) := by decide +kernel
theorem dX6_draw_31 : decode cX6_draw 31 = .ok (.irem, 1) := by decide +kernel
theorem dX6_draw_32 : decode cX6_draw 32 = .ok (.goto 4, 3) := by decide +kernel
theorem dX6_draw_35 : decode cX6_draw 35 = .ok (.iconst 0, 1) := by decide +kernel
theorem dX6_draw_36 : decode cX6_draw 36 = .ok (.ireturn, 1) := by decide +kernel
theorem dX6_pass_0 : decode cX6_pass 0 = .ok (.aload_n 0, 1) := by decide +kernel
theorem dX6_pass_1 : decode cX6_pass 1 = .ok (.iload_n 3, 1) := by decide +kernel
theorem dX6_pass_2 : decode cX6_pass 2 = .ok (.putfield 7, 3) := by decide +kernel
theorem dX6_pass_5 : decode cX6_pass 5 = .ok (.aload_n 1, 1) := by decide +kernel
theorem dX6_pass_6 : decode cX6_pass 6 = .ok (.getfield 14, 3) := by decide +kernel
theorem dX6_pass_9 : decode cX6_pass 9 = .ok (.astore 6, 2) := by decide +kernel
theorem dX6_pass_11 : decode cX6_pass 11 = .ok (.aload 6, 2) := by decide +kernel
theorem dX6_pass_13 : decode cX6_pass 13 = .ok (.getfield 20, 3) := by decide +kernel
theorem dX6_pass_16 : decode cX6_pass 16 = .ok (.ifCond .le 23, 3) := by decide +kernel
theorem dX6_pass_19 : decode cX6_pass 19 = .ok (.aload 6, 2) := by decide +kernel
theorem dX6_pass_21 : decode cX6_pass 21 = .ok (.getfield 25, 3) := by decide +kernel
theorem dX6_pass_24 : decode cX6_pass 24 = .ok (.ifCond .le 15, 3) := by decide +kernel
theorem dX6_pass_27 : decode cX6_pass 27 = .ok (.aload 6, 2) := by decide +kernel
theorem dX6_pass_29 : decode cX6_pass 29 = .ok (.getfield 28, 3) := by decide +kernel
theorem dX6_pass_32 : decode cX6_pass 32 = .ok (.ifCond .le 7, 3) := by decide +kernel
theorem dX6_pass_35 : decode cX6_pass 35 = .ok (.iconst 1, 1) := by decide +kernel
theorem dX6_pass_36 : decode cX6_pass 36 = .ok (.goto 4, 3) := by decide +kernel
theorem dX6_pass_39 : decode cX6_pass 39 = .ok (.iconst 0, 1) := by decide +kernel
theorem dX6_pass_40 : decode cX6_pass 40 = .ok (.istore 7, 2) := by decide +kernel
theorem dX6_pass_42 : decode cX6_pass 42 = .ok (.iconst 0, 1) := by decide +kernel
theorem dX6_pass_43 : decode cX6_pass 43 = .ok (.istore 8, 2) := by decide +kernel
theorem dX6_pass_45 : decode cX6_pass 45 = .ok (.iload 8, 2) := by decide +kernel
theorem dX6_pass_47 : decode cX6_pass 47 = .ok (.iload 5, 2) := by decide +kernel
theorem dX6_pass_49 : decode cX6_pass 49 = .ok (.if_icmp .ge 28, 3) := by decide +kernel
theorem dX6_pass_52 : decode cX6_pass 52 = .ok (.iload 7, 2) := by decide +kernel
theorem dX6_pass_54 : decode cX6_pass 54 = .ok (.ifCond .eq 12, 3) := by decide +kernel
theorem dX6_pass_57 : decode cX6_pass 57 = .ok (.aload_n 0, 1) := by decide +kernel
theorem dX6_pass_58 : decode cX6_pass 58 = .ok (.aload 6, 2) := by decide +kernel
theorem dX6_pass_60 : decode cX6_pass 60 = .ok (.aload_n 2, 1) := by decide +kernel
theorem dX6_pass_61 : decode cX6_pass 61 = .ok (.iload 4, 2) := by decide +kernel
theorem dX6_pass_63 : decode cX6_pass 63 = .ok (.invokevirtual 31, 3) := by decide +kernel
theorem dX6_pass_66 : decode cX6_pass 66 = .ok (.aload_n 1, 1) := by decide +kernel
theorem dX6_pass_67 : decode cX6_pass 67 = .ok (.aload_n 2, 1) := by decide +kernel
theorem dX6_pass_68 : decode cX6_pass 68 = .ok (.invokevirtual 35, 3) := by decide +kernel
theorem dX6_pass_71 : decode cX6_pass 71 = .ok (.iinc 8 1, 3) := by decide +kernel
theorem dX6_pass_74 : decode cX6_pass 74 = .ok (.goto (-29), 3) := by decide +kernel
theorem dX6_pass_77 : decode cX6_pass 77 = .ok (.return_, 1) := by decide +kernel
theorem dX6_drawMan_0 : decode cX6_drawMan 0 = .ok (.aload_n 0, 1) := by decide +kernel
theorem dX6_drawMan_1 : decode cX6_drawMan 1 = .ok (.aload_n 1, 1) := by decide +kernel
theorem dX6_drawMan_2 : decode cX6_drawMan 2 = .ok (.getfield 20, 3) := by decide +kernel
theorem dX6_drawMan_5 : decode cX6_drawMan 5 = .ok (.invokevirtual 39, 3) := by decide +kernel
theorem dX6_drawMan_8 : decode cX6_drawMan 8 = .ok (.istore 4, 2) := by decide +kernel
theorem dX6_drawMan_10 : decode cX6_drawMan 10 = .ok (.aload_n 0, 1) := by decide +kernel
theorem dX6_drawMan_11 : decode cX6_drawMan 11 = .ok (.aload_n 1, 1) := by decide +kernel
theorem dX6_drawMan_12 : decode cX6_drawMan 12 = .ok (.getfield 25, 3) := by decide +kernel
theorem dX6_drawMan_15 : decode cX6_drawMan 15 = .ok (.invokevirtual 39, 3) := by decide +kernel
theorem dX6_drawMan_18 : decode cX6_drawMan 18 = .ok (.istore 5, 2) := by decide +kernel
theorem dX6_drawMan_20 : decode cX6_drawMan 20 = .ok (.aload_n 0, 1) := by decide +kernel
theorem dX6_drawMan_21 : decode cX6_drawMan 21 = .ok (.aload_n 1, 1) := by decide +kernel
theorem dX6_drawMan_22 : decode cX6_drawMan 22 = .ok (.getfield 28, 3) := by decide +kernel
theorem dX6_drawMan_25 : decode cX6_drawMan 25 = .ok (.invokevirtual 39, 3) := by decide +kernel
theorem dX6_drawMan_28 : decode cX6_drawMan 28 = .ok (.istore 6, 2) := by decide +kernel
theorem dX6_drawMan_30 : decode cX6_drawMan 30 = .ok (.aload_n 2, 1) := by decide +kernel
theorem dX6_drawMan_31 : decode cX6_drawMan 31 = .ok (.iload 4, 2) := by decide +kernel
theorem dX6_drawMan_33 : decode cX6_drawMan 33 = .ok (.iload 5, 2) := by decide +kernel
theorem dX6_drawMan_35 : decode cX6_drawMan 35 = .ok (.invokevirtual 43, 3) := by decide +kernel
theorem dX6_drawMan_38 : decode cX6_drawMan 38 = .ok (.pop, 1) := by decide +kernel
theorem dX6_drawMan_39 : decode cX6_drawMan 39 = .ok (.aload_n 2, 1) := by decide +kernel
theorem dX6_drawMan_40 : decode cX6_drawMan 40 = .ok (.iload 4, 2) := by decide +kernel
theorem dX6_drawMan_42 : decode cX6_drawMan 42 = .ok (.iload 6, 2) := by decide +kernel
theorem dX6_drawMan_44 : decode cX6_drawMan 44 = .ok (.invokevirtual 49, 3) := by decide +kernel
theorem dX6_drawMan_47 : decode cX6_drawMan 47 = .ok (.pop, 1) := by decide +kernel
theorem dX6_drawMan_48 : decode cX6_drawMan 48 = .ok (.aload_n 0, 1) := by decide +kernel
theorem dX6_drawMan_49 : decode cX6_drawMan 49 = .ok (.bipush 16, 2) := by decide +kernel
theorem dX6_drawMan_51 : decode cX6_drawMan 51 = .ok (.invokevirtual 39, 3) := by decide +kernel
theorem dX6_drawMan_54 : decode cX6_drawMan 54 = .ok (.iload_n 3, 1) := by decide +kernel
theorem dX6_drawMan_55 : decode cX6_drawMan 55 = .ok (.if_icmp .ge 10, 3) := by decide +kernel
theorem dX6_drawMan_58 : decode cX6_drawMan 58 = .ok (.aload_n 2, 1) := by decide +kernel
theorem dX6_drawMan_59 : decode cX6_drawMan 59 = .ok (.iload 4, 2) := by decide +kernel
theorem dX6_drawMan_61 : decode cX6_drawMan 61 = .ok (.invokevirtual 52, 3) := by decide +kernel
theorem dX6_drawMan_64 : decode cX6_drawMan 64 = .ok (.pop, 1) := by decide +kernel
theorem dX6_drawMan_65 : decode cX6_drawMan 65 = .ok (.return_, 1) := by decide +kernel
theorem dX7_init_0 : decode cX7_init 0 = .ok (.aload_n 0, 1) := by decide +kernel
theorem dX7_init_1 : decode cX7_init 1 = .ok (.invokespecial 3, 3) := by decide +kernel
theorem dX7_init_4 : decode cX7_init 4 = .ok (.aload_n 0, 1) := by decide +kernel
theorem dX7_init_5 : decode cX7_init 5 = .ok (.new 9, 3) := by decide +kernel
theorem dX7_init_8 : decode cX7_init 8 = .ok (.dup, 1) := by decide +kernel
theorem dX7_init_9 : decode cX7_init 9 = .ok (.invokespecial 11, 3) := by decide +kernel
theorem dX7_init_12 : decode cX7_init 12 = .ok (.putfield 12, 3) := by decide +kernel
theorem dX7_init_15 : decode cX7_init 15 = .ok (.aload_n 0, 1) := by decide +kernel
theorem dX7_init_16 : decode cX7_init 16 = .ok (.new 18, 3) := by decide +kernel
theorem dX7_init_19 : decode cX7_init 19 = .ok (.dup, 1) := by decide +kernel
theorem dX7_init_20 : decode cX7_init 20 = .ok (.invokespecial 20, 3) := by decide +kernel
theorem dX7_init_23 : decode cX7_init 23 = .ok (.putfield 21, 3) := by decide +kernel
theorem dX7_init_26 : decode cX7_init 26 = .ok (.aload_n 0, 1) := by decide +kernel
theorem dX7_init_27 : decode cX7_init 27 = .ok (.bipush 8, 2) := by decide +kernel
theorem dX7_init_29 : decode cX7_init 29 = .ok (.newarray .int, 2) := by decide +kernel
theorem dX7_init_31 : decode cX7_init 31 = .ok (.putfield 25, 3) := by decide +kernel
theorem dX7_init_34 : decode cX7_init 34 = .ok (.aload_n 0, 1) := by decide +kernel
theorem dX7_init_35 : decode cX7_init 35 = .ok (.bipush 6, 2) := by decide +kernel
theorem dX7_init_37 : decode cX7_init 37 = .ok (.newarray .int, 2) := by decide +kernel
theorem dX7_init_39 : decode cX7_init 39 = .ok (.putfield 29, 3) := by decide +kernel
theorem dX7_init_42 : decode cX7_init 42 = .ok (.return_, 1) := by decide +kernel
theorem dX7_seaOf_0 : decode cX7_seaOf 0 = .ok (.aload_n 1, 1) := by decide +kernel
theorem dX7_seaOf_1 : decode cX7_seaOf 1 = .ok (.getfield 32, 3) := by decide +kernel
theorem dX7_seaOf_4 : decode cX7_seaOf 4 = .ok (.iload_n 2, 1) := by decide +kernel
theorem dX7_seaOf_5 : decode cX7_seaOf 5 = .ok (.iaload, 1) := by decide +kernel
theorem dX7_seaOf_6 : decode cX7_seaOf 6 = .ok (.istore_n 3, 1) := by decide +kernel
theorem dX7_seaOf_7 : decode cX7_seaOf 7 = .ok (.aload_n 1, 1) := by decide +kernel
theorem dX7_seaOf_8 : decode cX7_seaOf 8 = .ok (.getfield 37, 3) := by decide +kernel
theorem dX7_seaOf_11 : decode cX7_seaOf 11 = .ok (.iload_n 2, 1) := by decide +kernel
theorem dX7_seaOf_12 : decode cX7_seaOf 12 = .ok (.iaload, 1) := by decide +kernel
theorem dX7_seaOf_13 : decode cX7_seaOf 13 = .ok (.istore 4, 2) := by decide +kernel
theorem dX7_seaOf_15 : decode cX7_seaOf 15 = .ok (.iload_n 3, 1) := by decide +kernel
theorem dX7_seaOf_16 : decode cX7_seaOf 16 = .ok (.iconst (-1), 1) := by decide +kernel
theorem dX7_seaOf_17 : decode cX7_seaOf 17 = .ok (.if_icmp .eq 9, 3) := by decide +kernel
theorem dX7_seaOf_20 : decode cX7_seaOf 20 = .ok (.iload 4, 2) := by decide +kernel
theorem dX7_seaOf_22 : decode cX7_seaOf 22 = .ok (.iconst (-1), 1) := by decide +kernel
theorem dX7_seaOf_23 : decode cX7_seaOf 23 = .ok (.if_icmp .ne 5, 3) := by decide +kernel
theorem dX7_seaOf_26 : decode cX7_seaOf 26 = .ok (.iconst 0, 1) := by decide +kernel
theorem dX7_seaOf_27 : decode cX7_seaOf 27 = .ok (.ireturn, 1) := by decide +kernel
theorem dX7_seaOf_28 : decode cX7_seaOf 28 = .ok (.aload_n 0, 1) := by decide +kernel
theorem dX7_seaOf_29 : decode cX7_seaOf 29 = .ok (.aload_n 1, 1) := by decide +kernel
theorem dX7_seaOf_30 : decode cX7_seaOf 30 = .ok (.iload_n 2, 1) := by decide +kernel
theorem dX7_seaOf_31 : decode cX7_seaOf 31 = .ok (.iload 4, 2) := by decide +kernel
theorem dX7_seaOf_33 : decode cX7_seaOf 33 = .ok (.iload_n 3, 1) := by decide +kernel
theorem dX7_seaOf_34 : decode cX7_seaOf 34 = .ok (.invokevirtual 40, 3) := by decide +kernel
theorem dX7_seaOf_37 : decode cX7_seaOf 37 = .ok (.aload_n 0, 1) := by decide +kernel
theorem dX7_seaOf_38 : decode cX7_seaOf 38 = .ok (.getfield 25, 3) := by decide +kernel
theorem dX7_seaOf_41 : decode cX7_seaOf 41 = .ok (.iconst 2, 1) := by decide +kernel
theorem dX7_seaOf_42 : decode cX7_seaOf 42 = .ok (.aload_n 1, 1) := by decide +kernel
theorem dX7_seaOf_43 : decode cX7_seaOf 43 = .ok (.getfield 44, 3) := by decide +kernel
theorem dX7_seaOf_46 : decode cX7_seaOf 46 = .ok (.iload_n 2, 1) := by decide +kernel
theorem dX7_seaOf_47 : decode cX7_seaOf 47 = .ok (.iaload, 1) := by decide +kernel
theorem dX7_seaOf_48 : decode cX7_seaOf 48 = .ok (.iastore, 1) := by decide +kernel
theorem dX7_seaOf_49 : decode cX7_seaOf 49 = .ok (.aload_n 0, 1) := by decide +kernel
theorem dX7_seaOf_50 : decode cX7_seaOf 50 = .ok (.getfield 25, 3) := by decide +kernel
theorem dX7_seaOf_53 : decode cX7_seaOf 53 = .ok (.bipush 6, 2) := by decide +kernel
theorem dX7_seaOf_55 : decode cX7_seaOf 55 = .ok (.aload_n 1, 1) := by decide +kernel
theorem dX7_seaOf_56 : decode cX7_seaOf 56 = .ok (.iload_n 3, 1) := by decide +kernel
theorem dX7_seaOf_57 : decode cX7_seaOf 57 = .ok (.invokevirtual 47, 3) := by decide +kernel
theorem dX7_seaOf_60 : decode cX7_seaOf 60 = .ok (.invokestatic 51, 3) := by decide +kernel
theorem dX7_seaOf_63 : decode cX7_seaOf 63 = .ok (.iconst 1, 1) := by decide +kernel
theorem dX7_seaOf_64 : decode cX7_seaOf 64 = .ok (.isub, 1) := by decide +kernel
theorem dX7_seaOf_65 : decode cX7_seaOf 65 = .ok (.iastore, 1) := by decide +kernel
theorem dX7_seaOf_66 : decode cX7_seaOf 66 = .ok (.aload_n 0, 1) := by decide +kernel
theorem dX7_seaOf_67 : decode cX7_seaOf 67 = .ok (.getfield 21, 3) := by decide +kernel
theorem dX7_seaOf_70 : decode cX7_seaOf 70 = .ok (.aload_n 0, 1) := by decide +kernel
theorem dX7_seaOf_71 : decode cX7_seaOf 71 = .ok (.getfield 25, 3) := by decide +kernel
theorem dX7_seaOf_74 : decode cX7_seaOf 74 = .ok (.invokevirtual 56, 3) := by decide +kernel
theorem dX7_seaOf_77 : decode cX7_seaOf 77 = .ok (.ireturn, 1) := by decide +kernel
theorem dX7_standAlone_0 : decode cX7_standAlone 0 = .ok (.aload_n 0, 1) := by decide +kernel
theorem dX7_standAlone_1 : decode cX7_standAlone 1 = .ok (.getfield 25, 3) := by decide +kernel
theorem dX7_standAlone_4 : decode cX7_standAlone 4 = .ok (.iconst 0, 1) := by decide +kernel
theorem dX7_standAlone_5 : decode cX7_standAlone 5 = .ok (.aload_n 0, 1) := by decide +kernel
theorem dX7_standAlone_6 : decode cX7_standAlone 6 = .ok (.getfield 12, 3) := by decide +kernel
theorem dX7_standAlone_9 : decode cX7_standAlone 9 = .ok (.getfield 60, 3) := by decide +kernel
theorem dX7_standAlone_12 : decode cX7_standAlone 12 = .ok (.iload_n 3, 1) := by decide +kernel
theorem dX7_standAlone_13 : decode cX7_standAlone 13 = .ok (.iaload, 1) := by decide +kernel
theorem dX7_standAlone_14 : decode cX7_standAlone 14 = .ok (.aload_n 1, 1) := by decide +kernel
theorem dX7_standAlone_15 : decode cX7_standAlone 15 = .ok (.getfield 63, 3) := by decide +kernel
theorem dX7_standAlone_18 : decode cX7_standAlone 18 = .ok (.iload_n 3, 1) := by decide +kernel
theorem dX7_standAlone_19 : decode cX7_standAlone 19 = .ok (.iaload, 1) := by decide +kernel
theorem dX7_standAlone_20 : decode cX7_standAlone 20 = .ok (.iadd, 1) := by decide +kernel
theorem dX7_standAlone_21 : decode cX7_standAlone 21 = .ok (.iastore, 1) := by decide +kernel
theorem dX7_standAlone_22 : decode cX7_standAlone 22 = .ok (.aload_n 0, 1) := by decide +kernel
theorem dX7_standAlone_23 : decode cX7_standAlone 23 = .ok (.getfield 25, 3) := by decide +kernel
theorem dX7_standAlone_26 : decode cX7_standAlone 26 = .ok (.iconst 1, 1) := by decide +kernel
theorem dX7_standAlone_27 : decode cX7_standAlone 27 = .ok (.aload_n 0, 1) := by decide +kernel
theorem dX7_standAlone_28 : decode cX7_standAlone 28 = .ok (.getfield 12, 3) := by decide +kernel
theorem dX7_standAlone_31 : decode cX7_standAlone 31 = .ok (.iload_n 3, 1) := by decide +kernel
theorem dX7_standAlone_32 : decode cX7_standAlone 32 = .ok (.iload 4, 2) := by decide +kernel
theorem dX7_standAlone_34 : decode cX7_standAlone 34 = .ok (.invokevirtual 66, 3) := by decide +kernel
theorem dX7_standAlone_37 : decode cX7_standAlone 37 = .ok (.iastore, 1) := by decide +kernel
theorem dX7_standAlone_38 : decode cX7_standAlone 38 = .ok (.aload_n 0, 1) := by decide +kernel
theorem dX7_standAlone_39 : decode cX7_standAlone 39 = .ok (.getfield 25, 3) := by decide +kernel
theorem dX7_standAlone_42 : decode cX7_standAlone 42 = .ok (.iconst 2, 1) := by decide +kernel
theorem dX7_standAlone_43 : decode cX7_standAlone 43 = .ok (.iconst 0, 1) := by decide +kernel
theorem dX7_standAlone_44 : decode cX7_standAlone 44 = .ok (.iastore, 1) := by decide +kernel
theorem dX7_standAlone_45 : decode cX7_standAlone 45 = .ok (.aload_n 0, 1) := by decide +kernel
theorem dX7_standAlone_46 : decode cX7_standAlone 46 = .ok (.getfield 25, 3) := by decide +kernel
theorem dX7_standAlone_49 : decode cX7_standAlone 49 = .ok (.iconst 3, 1) := by decide +kernel
theorem dX7_standAlone_50 : decode cX7_standAlone 50 = .ok (.aload_n 0, 1) := by decide +kernel
theorem dX7_standAlone_51 : decode cX7_standAlone 51 = .ok (.getfield 12, 3) := by decide +kernel
theorem dX7_standAlone_54 : decode cX7_standAlone 54 = .ok (.getfield 70, 3) := by decide +kernel
theorem dX7_standAlone_57 : decode cX7_standAlone 57 = .ok (.iload_n 2, 1) := by decide +kernel
theorem dX7_standAlone_58 : decode cX7_standAlone 58 = .ok (.iaload, 1) := by decide +kernel
theorem dX7_standAlone_59 : decode cX7_standAlone 59 = .ok (.iastore, 1) := by decide +kernel
theorem dX7_standAlone_60 : decode cX7_standAlone 60 = .ok (.aload_n 0, 1) := by decide +kernel
theorem dX7_standAlone_61 : decode cX7_standAlone 61 = .ok (.getfield 25, 3) := by decide +kernel
theorem dX7_standAlone_64 : decode cX7_standAlone 64 = .ok (.iconst 4, 1) := by decide +kernel
theorem dX7_standAlone_65 : decode cX7_standAlone 65 = .ok (.aload_n 1, 1) := by decide +kernel
theorem dX7_standAlone_66 : decode cX7_standAlone 66 = .ok (.getfield 73, 3) := by decide +kernel
theorem dX7_standAlone_69 : decode cX7_standAlone 69 = .ok (.iload_n 2, 1) := by decide +kernel
theorem dX7_standAlone_70 : decode cX7_standAlone 70 = .ok (.iaload, 1) := by decide +kernel
theorem dX7_standAlone_71 : decode cX7_standAlone 71 = .ok (.iastore, 1) := by decide +kernel
theorem dX7_standAlone_72 : decode cX7_standAlone 72 = .ok (.aload_n 0, 1) := by decide +kernel
theorem dX7_standAlone_73 : decode cX7_standAlone 73 = .ok (.getfield 25, 3) := by decide +kernel
theorem dX7_standAlone_76 : decode cX7_standAlone 76 = .ok (.iconst 5, 1) := by decide +kernel
theorem dX7_standAlone_77 : decode cX7_standAlone 77 = .ok (.aload_n 1, 1) := by decide +kernel
theorem dX7_standAlone_78 : decode cX7_standAlone 78 = .ok (.getfield 76, 3) := by decide +kernel
theorem dX7_standAlone_81 : decode cX7_standAlone 81 = .ok (.iload 4, 2) := by decide +kernel
theorem dX7_standAlone_83 : decode cX7_standAlone 83 = .ok (.iaload, 1) := by decide +kernel
theorem dX7_standAlone_84 : decode cX7_standAlone 84 = .ok (.iastore, 1) := by decide +kernel
theorem dX7_standAlone_85 : decode cX7_standAlone 85 = .ok (.aload_n 0, 1) := by decide +kernel
theorem dX7_standAlone_86 : decode cX7_standAlone 86 = .ok (.getfield 25, 3) := by decide +kernel
theorem dX7_standAlone_89 : decode cX7_standAlone 89 = .ok (.bipush 6, 2) := by decide +kernel
theorem dX7_standAlone_91 : decode cX7_standAlone 91 = .ok (.iconst 0, 1) := by decide +kernel
theorem dX7_standAlone_92 : decode cX7_standAlone 92 = .ok (.iastore, 1) := by decide +kernel
theorem dX7_standAlone_93 : decode cX7_standAlone 93 = .ok (.aload_n 0, 1) := by decide +kernel
theorem dX7_standAlone_94 : decode cX7_standAlone 94 = .ok (.getfield 25, 3) := by decide +kernel
theorem dX7_standAlone_97 : decode cX7_standAlone 97 = .ok (.bipush 7, 2) := by decide +kernel
theorem dX7_standAlone_99 : decode cX7_standAlone 99 = .ok (.aload_n 1, 1) := by decide +kernel
theorem dX7_standAlone_100 : decode cX7_standAlone 100 = .ok (.getfield 79, 3) := by decide +kernel
theorem dX7_standAlone_103 : decode cX7_standAlone 103 = .ok (.iastore, 1) := by decide +kernel
theorem dX7_standAlone_104 : decode cX7_standAlone 104 = .ok (.return_, 1) := by decide +kernel
theorem dX7_nextSea_0 : decode cX7_nextSea 0 = .ok (.aload_n 0, 1) := by decide +kernel
theorem dX7_nextSea_1 : decode cX7_nextSea 1 = .ok (.getfield 21, 3) := by decide +kernel
theorem dX7_nextSea_4 : decode cX7_nextSea 4 = .ok (.aload_n 0, 1) := by decide +kernel
theorem dX7_nextSea_5 : decode cX7_nextSea 5 = .ok (.getfield 25, 3) := by decide +kernel
theorem dX7_nextSea_8 : decode cX7_nextSea 8 = .ok (.invokevirtual 56, 3) := by decide +kernel
theorem dX7_nextSea_11 : decode cX7_nextSea 11 = .ok (.istore_n 1, 1) := by decide +kernel
theorem dX7_nextSea_12 : decode cX7_nextSea 12 = .ok (.aload_n 0, 1) := by decide +kernel
theorem dX7_nextSea_13 : decode cX7_nextSea 13 = .ok (.getfield 25, 3) := by decide +kernel
theorem dX7_nextSea_16 : decode cX7_nextSea 16 = .ok (.iconst 2, 1) := by decide +kernel
theorem dX7_nextSea_17 : decode cX7_nextSea 17 = .ok (.dup2, 1) := by decide +kernel
theorem dX7_nextSea_18 : decode cX7_nextSea 18 = .ok (.iaload, 1) := by decide +kernel
theorem dX7_nextSea_19 : decode cX7_nextSea 19 = .ok (.iconst 1, 1) := by decide +kernel
theorem dX7_nextSea_20 : decode cX7_nextSea 20 = .ok (.iadd, 1) := by decide +kernel
theorem dX7_nextSea_21 : decode cX7_nextSea 21 = .ok (.iastore, 1) := by decide +kernel
theorem dX7_nextSea_22 : decode cX7_nextSea 22 = .ok (.aload_n 0, 1) := by decide +kernel
theorem dX7_nextSea_23 : decode cX7_nextSea 23 = .ok (.getfield 25, 3) := by decide +kernel
theorem dX7_nextSea_26 : decode cX7_nextSea 26 = .ok (.bipush 7, 2) := by decide +kernel
theorem dX7_nextSea_28 : decode cX7_nextSea 28 = .ok (.dup2, 1) := by decide +kernel
theorem dX7_nextSea_29 : decode cX7_nextSea 29 = .ok (.iaload, 1) := by decide +kernel
theorem dX7_nextSea_30 : decode cX7_nextSea 30 = .ok (.iconst 1, 1) := by decide +kernel
theorem dX7_nextSea_31 : decode cX7_nextSea 31 = .ok (.iadd, 1) := by decide +kernel
theorem dX7_nextSea_32 : decode cX7_nextSea 32 = .ok (.iastore, 1) := by decide +kernel
theorem dX7_nextSea_33 : decode cX7_nextSea 33 = .ok (.aload_n 0, 1) := by decide +kernel
theorem dX7_nextSea_34 : decode cX7_nextSea 34 = .ok (.getfield 25, 3) := by decide +kernel
theorem dX7_nextSea_37 : decode cX7_nextSea 37 = .ok (.iconst 4, 1) := by decide +kernel
theorem dX7_nextSea_38 : decode cX7_nextSea 38 = .ok (.dup2, 1) := by decide +kernel
theorem dX7_nextSea_39 : decode cX7_nextSea 39 = .ok (.iaload, 1) := by decide +kernel
theorem dX7_nextSea_40 : decode cX7_nextSea 40 = .ok (.iload_n 1, 1) := by decide +kernel
theorem dX7_nextSea_41 : decode cX7_nextSea 41 = .ok (.iadd, 1) := by decide +kernel
theorem dX7_nextSea_42 : decode cX7_nextSea 42 = .ok (.iastore, 1) := by decide +kernel
theorem dX7_nextSea_43 : decode cX7_nextSea 43 = .ok (.iload_n 1, 1) := by decide +kernel
theorem dX7_nextSea_44 : decode cX7_nextSea 44 = .ok (.ireturn, 1) := by decide +kernel
theorem dX7_passHour_0 : decode cX7_passHour 0 = .ok (.iconst 0, 1) := by decide +kernel
