theorem dX11_seaBy_89 : decode cX11_seaBy 89 = .ok (.getfield 74, 3) := by decide +kernel
theorem dX11_seaBy_92 : decode cX11_seaBy 92 = .ok (.bipush 50, 2) := by decide +kernel
theorem dX11_seaBy_94 : decode cX11_seaBy 94 = .ok (.iaload, 1) := by decide +kernel
theorem dX11_seaBy_95 : decode cX11_seaBy 95 = .ok (.invokevirtual 357, 3) := by decide +kernel
theorem dX11_seaBy_98 : decode cX11_seaBy 98 = .ok (.ireturn, 1) := by decide +kernel
theorem dX11_wearerOf_0 : decode cX11_wearerOf 0 = .ok (.iconst 0, 1) := by decide +kernel
theorem dX11_wearerOf_1 : decode cX11_wearerOf 1 = .ok (.istore_n 2, 1) := by decide +kernel
theorem dX11_wearerOf_2 : decode cX11_wearerOf 2 = .ok (.iload_n 2, 1) := by decide +kernel
theorem dX11_wearerOf_3 : decode cX11_wearerOf 3 = .ok (.aload_n 0, 1) := by decide +kernel
theorem dX11_wearerOf_4 : decode cX11_wearerOf 4 = .ok (.getfield 181, 3) := by decide +kernel
theorem dX11_wearerOf_7 : decode cX11_wearerOf 7 = .ok (.if_icmp .ge 23, 3) := by decide +kernel
theorem dX11_wearerOf_10 : decode cX11_wearerOf 10 = .ok (.aload_n 0, 1) := by decide +kernel
theorem dX11_wearerOf_11 : decode cX11_wearerOf 11 = .ok (.getfield 74, 3) := by decide +kernel
theorem dX11_wearerOf_14 : decode cX11_wearerOf 14 = .ok (.iconst 0, 1) := by decide +kernel
theorem dX11_wearerOf_15 : decode cX11_wearerOf 15 = .ok (.iload_n 2, 1) := by decide +kernel
theorem dX11_wearerOf_16 : decode cX11_wearerOf 16 = .ok (.iadd, 1) := by decide +kernel
theorem dX11_wearerOf_17 : decode cX11_wearerOf 17 = .ok (.iaload, 1) := by decide +kernel
theorem dX11_wearerOf_18 : decode cX11_wearerOf 18 = .ok (.iload_n 1, 1) := by decide +kernel
theorem dX11_wearerOf_19 : decode cX11_wearerOf 19 = .ok (.if_icmp .ne 5, 3) := by decide +kernel
theorem dX11_wearerOf_22 : decode cX11_wearerOf 22 = .ok (.iload_n 2, 1) := by decide +kernel
theorem dX11_wearerOf_23 : decode cX11_wearerOf 23 = .ok (.ireturn, 1) := by decide +kernel
theorem dX11_wearerOf_24 : decode cX11_wearerOf 24 = .ok (.iinc 2 1, 3) := by decide +kernel
theorem dX11_wearerOf_27 : decode cX11_wearerOf 27 = .ok (.goto (-25), 3) := by decide +kernel
theorem dX11_wearerOf_30 : decode cX11_wearerOf 30 = .ok (.iconst (-1), 1) := by decide +kernel
theorem dX11_wearerOf_31 : decode cX11_wearerOf 31 = .ok (.ireturn, 1) := by decide +kernel
theorem dX11_dies_0 : decode cX11_dies 0 = .ok (.aload_n 0, 1) := by decide +kernel
theorem dX11_dies_1 : decode cX11_dies 1 = .ok (.getfield 74, 3) := by decide +kernel
theorem dX11_dies_4 : decode cX11_dies 4 = .ok (.iconst 0, 1) := by decide +kernel
theorem dX11_dies_5 : decode cX11_dies 5 = .ok (.iload_n 1, 1) := by decide +kernel
theorem dX11_dies_6 : decode cX11_dies 6 = .ok (.iadd, 1) := by decide +kernel
theorem dX11_dies_7 : decode cX11_dies 7 = .ok (.iaload, 1) := by decide +kernel
theorem dX11_dies_8 : decode cX11_dies 8 = .ok (.istore_n 2, 1) := by decide +kernel
theorem dX11_dies_9 : decode cX11_dies 9 = .ok (.aload_n 0, 1) := by decide +kernel
theorem dX11_dies_10 : decode cX11_dies 10 = .ok (.getfield 74, 3) := by decide +kernel
theorem dX11_dies_13 : decode cX11_dies 13 = .ok (.bipush 30, 2) := by decide +kernel
theorem dX11_dies_15 : decode cX11_dies 15 = .ok (.iload_n 1, 1) := by decide +kernel
theorem dX11_dies_16 : decode cX11_dies 16 = .ok (.iadd, 1) := by decide +kernel
theorem dX11_dies_17 : decode cX11_dies 17 = .ok (.iconst 0, 1) := by decide +kernel
theorem dX11_dies_18 : decode cX11_dies 18 = .ok (.iastore, 1) := by decide +kernel
theorem dX11_dies_19 : decode cX11_dies 19 = .ok (.aload_n 0, 1) := by decide +kernel
theorem dX11_dies_20 : decode cX11_dies 20 = .ok (.getfield 74, 3) := by decide +kernel
theorem dX11_dies_23 : decode cX11_dies 23 = .ok (.iconst 0, 1) := by decide +kernel
theorem dX11_dies_24 : decode cX11_dies 24 = .ok (.iload_n 1, 1) := by decide +kernel
theorem dX11_dies_25 : decode cX11_dies 25 = .ok (.iadd, 1) := by decide +kernel
theorem dX11_dies_26 : decode cX11_dies 26 = .ok (.iconst (-1), 1) := by decide +kernel
theorem dX11_dies_27 : decode cX11_dies 27 = .ok (.iastore, 1) := by decide +kernel
theorem dX11_dies_28 : decode cX11_dies 28 = .ok (.aload_n 0, 1) := by decide +kernel
theorem dX11_dies_29 : decode cX11_dies 29 = .ok (.getfield 74, 3) := by decide +kernel
theorem dX11_dies_32 : decode cX11_dies 32 = .ok (.bipush 6, 2) := by decide +kernel
theorem dX11_dies_34 : decode cX11_dies 34 = .ok (.iload_n 1, 1) := by decide +kernel
theorem dX11_dies_35 : decode cX11_dies 35 = .ok (.iadd, 1) := by decide +kernel
theorem dX11_dies_36 : decode cX11_dies 36 = .ok (.iconst (-1), 1) := by decide +kernel
theorem dX11_dies_37 : decode cX11_dies 37 = .ok (.iastore, 1) := by decide +kernel
theorem dX11_dies_38 : decode cX11_dies 38 = .ok (.aload_n 0, 1) := by decide +kernel
theorem dX11_dies_39 : decode cX11_dies 39 = .ok (.getfield 74, 3) := by decide +kernel
theorem dX11_dies_42 : decode cX11_dies 42 = .ok (.bipush 12, 2) := by decide +kernel
theorem dX11_dies_44 : decode cX11_dies 44 = .ok (.iload_n 1, 1) := by decide +kernel
theorem dX11_dies_45 : decode cX11_dies 45 = .ok (.iadd, 1) := by decide +kernel
theorem dX11_dies_46 : decode cX11_dies 46 = .ok (.iconst 0, 1) := by decide +kernel
theorem dX11_dies_47 : decode cX11_dies 47 = .ok (.iastore, 1) := by decide +kernel
theorem dX11_dies_48 : decode cX11_dies 48 = .ok (.aload_n 0, 1) := by decide +kernel
theorem dX11_dies_49 : decode cX11_dies 49 = .ok (.getfield 44, 3) := by decide +kernel
theorem dX11_dies_52 : decode cX11_dies 52 = .ok (.iload_n 1, 1) := by decide +kernel
theorem dX11_dies_53 : decode cX11_dies 53 = .ok (.iaload, 1) := by decide +kernel
theorem dX11_dies_54 : decode cX11_dies 54 = .ok (.istore_n 3, 1) := by decide +kernel
theorem dX11_dies_55 : decode cX11_dies 55 = .ok (.iload_n 2, 1) := by decide +kernel
theorem dX11_dies_56 : decode cX11_dies 56 = .ok (.iconst (-1), 1) := by decide +kernel
theorem dX11_dies_57 : decode cX11_dies 57 = .ok (.if_icmp .eq 42, 3) := by decide +kernel
theorem dX11_dies_60 : decode cX11_dies 60 = .ok (.iload_n 3, 1) := by decide +kernel
theorem dX11_dies_61 : decode cX11_dies 61 = .ok (.iconst (-1), 1) := by decide +kernel
theorem dX11_dies_62 : decode cX11_dies 62 = .ok (.if_icmp .eq 37, 3) := by decide +kernel
theorem dX11_dies_65 : decode cX11_dies 65 = .ok (.aload_n 0, 1) := by decide +kernel
theorem dX11_dies_66 : decode cX11_dies 66 = .ok (.getfield 74, 3) := by decide +kernel
theorem dX11_dies_69 : decode cX11_dies 69 = .ok (.bipush 30, 2) := by decide +kernel
theorem dX11_dies_71 : decode cX11_dies 71 = .ok (.iload_n 3, 1) := by decide +kernel
theorem dX11_dies_72 : decode cX11_dies 72 = .ok (.iadd, 1) := by decide +kernel
theorem dX11_dies_73 : decode cX11_dies 73 = .ok (.iaload, 1) := by decide +kernel
theorem dX11_dies_74 : decode cX11_dies 74 = .ok (.iconst 1, 1) := by decide +kernel
theorem dX11_dies_75 : decode cX11_dies 75 = .ok (.if_icmp .ne 24, 3) := by decide +kernel
theorem dX11_dies_78 : decode cX11_dies 78 = .ok (.aload_n 0, 1) := by decide +kernel
theorem dX11_dies_79 : decode cX11_dies 79 = .ok (.getfield 74, 3) := by decide +kernel
theorem dX11_dies_82 : decode cX11_dies 82 = .ok (.iconst 0, 1) := by decide +kernel
theorem dX11_dies_83 : decode cX11_dies 83 = .ok (.iload_n 3, 1) := by decide +kernel
theorem dX11_dies_84 : decode cX11_dies 84 = .ok (.iadd, 1) := by decide +kernel
theorem dX11_dies_85 : decode cX11_dies 85 = .ok (.iaload, 1) := by decide +kernel
theorem dX11_dies_86 : decode cX11_dies 86 = .ok (.iconst (-1), 1) := by decide +kernel
theorem dX11_dies_87 : decode cX11_dies 87 = .ok (.if_icmp .ne 12, 3) := by decide +kernel
theorem dX11_dies_90 : decode cX11_dies 90 = .ok (.aload_n 0, 1) := by decide +kernel
theorem dX11_dies_91 : decode cX11_dies 91 = .ok (.getfield 74, 3) := by decide +kernel
theorem dX11_dies_94 : decode cX11_dies 94 = .ok (.iconst 0, 1) := by decide +kernel
theorem dX11_dies_95 : decode cX11_dies 95 = .ok (.iload_n 3, 1) := by decide +kernel
theorem dX11_dies_96 : decode cX11_dies 96 = .ok (.iadd, 1) := by decide +kernel
theorem dX11_dies_97 : decode cX11_dies 97 = .ok (.iload_n 2, 1) := by decide +kernel
theorem dX11_dies_98 : decode cX11_dies 98 = .ok (.iastore, 1) := by decide +kernel
theorem dX11_dies_99 : decode cX11_dies 99 = .ok (.return_, 1) := by decide +kernel
theorem dX11_wears_0 : decode cX11_wears 0 = .ok (.aload_n 0, 1) := by decide +kernel
theorem dX11_wears_1 : decode cX11_wears 1 = .ok (.getfield 74, 3) := by decide +kernel
theorem dX11_wears_4 : decode cX11_wears 4 = .ok (.bipush 30, 2) := by decide +kernel
theorem dX11_wears_6 : decode cX11_wears 6 = .ok (.iload_n 1, 1) := by decide +kernel
theorem dX11_wears_7 : decode cX11_wears 7 = .ok (.iadd, 1) := by decide +kernel
theorem dX11_wears_8 : decode cX11_wears 8 = .ok (.iaload, 1) := by decide +kernel
theorem dX11_wears_9 : decode cX11_wears 9 = .ok (.ifCond .eq 12, 3) := by decide +kernel
theorem dX11_wears_12 : decode cX11_wears 12 = .ok (.aload_n 0, 1) := by decide +kernel
theorem dX11_wears_13 : decode cX11_wears 13 = .ok (.iload_n 2, 1) := by decide +kernel
theorem dX11_wears_14 : decode cX11_wears 14 = .ok (.invokevirtual 361, 3) := by decide +kernel
theorem dX11_wears_17 : decode cX11_wears 17 = .ok (.iconst (-1), 1) := by decide +kernel
theorem dX11_wears_18 : decode cX11_wears 18 = .ok (.if_icmp .eq 5, 3) := by decide +kernel
theorem dX11_wears_21 : decode cX11_wears 21 = .ok (.iconst 0, 1) := by decide +kernel
theorem dX11_wears_22 : decode cX11_wears 22 = .ok (.ireturn, 1) := by decide +kernel
theorem dX11_wears_23 : decode cX11_wears 23 = .ok (.aload_n 0, 1) := by decide +kernel
theorem dX11_wears_24 : decode cX11_wears 24 = .ok (.getfield 74, 3) := by decide +kernel
theorem dX11_wears_27 : decode cX11_wears 27 = .ok (.iconst 0, 1) := by decide +kernel
theorem dX11_wears_28 : decode cX11_wears 28 = .ok (.iload_n 1, 1) := by decide +kernel
theorem dX11_wears_29 : decode cX11_wears 29 = .ok (.iadd, 1) := by decide +kernel
theorem dX11_wears_30 : decode cX11_wears 30 = .ok (.iload_n 2, 1) := by decide +kernel
theorem dX11_wears_31 : decode cX11_wears 31 = .ok (.iastore, 1) := by decide +kernel
theorem dX11_wears_32 : decode cX11_wears 32 = .ok (.iconst 1, 1) := by decide +kernel
theorem dX11_wears_33 : decode cX11_wears 33 = .ok (.ireturn, 1) := by decide +kernel
theorem dX11_sails_0 : decode cX11_sails 0 = .ok (.aload_n 0, 1) := by decide +kernel
theorem dX11_sails_1 : decode cX11_sails 1 = .ok (.getfield 74, 3) := by decide +kernel
theorem dX11_sails_4 : decode cX11_sails 4 = .ok (.bipush 30, 2) := by decide +kernel
theorem dX11_sails_6 : decode cX11_sails 6 = .ok (.iload_n 1, 1) := by decide +kernel
theorem dX11_sails_7 : decode cX11_sails 7 = .ok (.iadd, 1) := by decide +kernel
theorem dX11_sails_8 : decode cX11_sails 8 = .ok (.iaload, 1) := by decide +kernel
theorem dX11_sails_9 : decode cX11_sails 9 = .ok (.ifCond .eq 28, 3) := by decide +kernel
theorem dX11_sails_12 : decode cX11_sails 12 = .ok (.aload_n 0, 1) := by decide +kernel
theorem dX11_sails_13 : decode cX11_sails 13 = .ok (.getfield 74, 3) := by decide +kernel
theorem dX11_sails_16 : decode cX11_sails 16 = .ok (.bipush 6, 2) := by decide +kernel
theorem dX11_sails_18 : decode cX11_sails 18 = .ok (.iload_n 1, 1) := by decide +kernel
theorem dX11_sails_19 : decode cX11_sails 19 = .ok (.iadd, 1) := by decide +kernel
theorem dX11_sails_20 : decode cX11_sails 20 = .ok (.iaload, 1) := by decide +kernel
theorem dX11_sails_21 : decode cX11_sails 21 = .ok (.iload_n 2, 1) := by decide +kernel
theorem dX11_sails_22 : decode cX11_sails 22 = .ok (.if_icmp .eq 15, 3) := by decide +kernel
theorem dX11_sails_25 : decode cX11_sails 25 = .ok (.aload_n 0, 1) := by decide +kernel
theorem dX11_sails_26 : decode cX11_sails 26 = .ok (.getfield 74, 3) := by decide +kernel
theorem dX11_sails_29 : decode cX11_sails 29 = .ok (.iconst 0, 1) := by decide +kernel
theorem dX11_sails_30 : decode cX11_sails 30 = .ok (.iload_n 1, 1) := by decide +kernel
theorem dX11_sails_31 : decode cX11_sails 31 = .ok (.iadd, 1) := by decide +kernel
theorem dX11_sails_32 : decode cX11_sails 32 = .ok (.iaload, 1) := by decide +kernel
theorem dX11_sails_33 : decode cX11_sails 33 = .ok (.iconst (-1), 1) := by decide +kernel
theorem dX11_sails_34 : decode cX11_sails 34 = .ok (.if_icmp .ne 5, 3) := by decide +kernel
theorem dX11_sails_37 : decode cX11_sails 37 = .ok (.iconst 0, 1) := by decide +kernel
theorem dX11_sails_38 : decode cX11_sails 38 = .ok (.ireturn, 1) := by decide +kernel
theorem dX11_sails_39 : decode cX11_sails 39 = .ok (.aload_n 0, 1) := by decide +kernel
theorem dX11_sails_40 : decode cX11_sails 40 = .ok (.getfield 74, 3) := by decide +kernel
theorem dX11_sails_43 : decode cX11_sails 43 = .ok (.bipush 6, 2) := by decide +kernel
theorem dX11_sails_45 : decode cX11_sails 45 = .ok (.iload_n 1, 1) := by decide +kernel
theorem dX11_sails_46 : decode cX11_sails 46 = .ok (.iadd, 1) := by decide +kernel
theorem dX11_sails_47 : decode cX11_sails 47 = .ok (.iload_n 2, 1) := by decide +kernel
theorem dX11_sails_48 : decode cX11_sails 48 = .ok (.iastore, 1) := by decide +kernel
theorem dX11_sails_49 : decode cX11_sails 49 = .ok (.aload_n 0, 1) := by decide +kernel
theorem dX11_sails_50 : decode cX11_sails 50 = .ok (.getfield 74, 3) := by decide +kernel
theorem dX11_sails_53 : decode cX11_sails 53 = .ok (.bipush 12, 2) := by decide +kernel
theorem dX11_sails_55 : decode cX11_sails 55 = .ok (.iload_n 1, 1) := by decide +kernel
theorem dX11_sails_56 : decode cX11_sails 56 = .ok (.iadd, 1) := by decide +kernel
theorem dX11_sails_57 : decode cX11_sails 57 = .ok (.iconst 0, 1) := by decide +kernel
theorem dX11_sails_58 : decode cX11_sails 58 = .ok (.iastore, 1) := by decide +kernel
theorem dX11_sails_59 : decode cX11_sails 59 = .ok (.iconst 1, 1) := by decide +kernel
theorem dX11_sails_60 : decode cX11_sails 60 = .ok (.ireturn, 1) := by decide +kernel
theorem dX11_comesHome_0 : decode cX11_comesHome 0 = .ok (.aload_n 0, 1) := by decide +kernel
theorem dX11_comesHome_1 : decode cX11_comesHome 1 = .ok (.getfield 74, 3) := by decide +kernel
theorem dX11_comesHome_4 : decode cX11_comesHome 4 = .ok (.bipush 6, 2) := by decide +kernel
theorem dX11_comesHome_6 : decode cX11_comesHome 6 = .ok (.iload_n 1, 1) := by decide +kernel
theorem dX11_comesHome_7 : decode cX11_comesHome 7 = .ok (.iadd, 1) := by decide +kernel
theorem dX11_comesHome_8 : decode cX11_comesHome 8 = .ok (.iaload, 1) := by decide +kernel
theorem dX11_comesHome_9 : decode cX11_comesHome 9 = .ok (.iconst (-1), 1) := by decide +kernel
theorem dX11_comesHome_10 : decode cX11_comesHome 10 = .ok (.if_icmp .ne 5, 3) := by decide +kernel
theorem dX11_comesHome_13 : decode cX11_comesHome 13 = .ok (.iconst 0, 1) := by decide +kernel
theorem dX11_comesHome_14 : decode cX11_comesHome 14 = .ok (.ireturn, 1) := by decide +kernel
theorem dX11_comesHome_15 : decode cX11_comesHome 15 = .ok (.aload_n 0, 1) := by decide +kernel
theorem dX11_comesHome_16 : decode cX11_comesHome 16 = .ok (.getfield 74, 3) := by decide +kernel
theorem dX11_comesHome_19 : decode cX11_comesHome 19 = .ok (.bipush 6, 2) := by decide +kernel
theorem dX11_comesHome_21 : decode cX11_comesHome 21 = .ok (.iload_n 1, 1) := by decide +kernel
theorem dX11_comesHome_22 : decode cX11_comesHome 22 = .ok (.iadd, 1) := by decide +kernel
theorem dX11_comesHome_23 : decode cX11_comesHome 23 = .ok (.iconst (-1), 1) := by decide +kernel
theorem dX11_comesHome_24 : decode cX11_comesHome 24 = .ok (.iastore, 1) := by decide +kernel
theorem dX11_comesHome_25 : decode cX11_comesHome 25 = .ok (.aload_n 0, 1) := by decide +kernel
theorem dX11_comesHome_26 : decode cX11_comesHome 26 = .ok (.getfield 74, 3) := by decide +kernel
theorem dX11_comesHome_29 : decode cX11_comesHome 29 = .ok (.bipush 12, 2) := by decide +kernel
theorem dX11_comesHome_31 : decode cX11_comesHome 31 = .ok (.iload_n 1, 1) := by decide +kernel
theorem dX11_comesHome_32 : decode cX11_comesHome 32 = .ok (.iadd, 1) := by decide +kernel
theorem dX11_comesHome_33 : decode cX11_comesHome 33 = .ok (.iconst 0, 1) := by decide +kernel
theorem dX11_comesHome_34 : decode cX11_comesHome 34 = .ok (.iastore, 1) := by decide +kernel
theorem dX11_comesHome_35 : decode cX11_comesHome 35 = .ok (.iconst 1, 1) := by decide +kernel
theorem dX11_comesHome_36 : decode cX11_comesHome 36 = .ok (.ireturn, 1) := by decide +kernel
theorem dX11_goes_0 : decode cX11_goes 0 = .ok (.iload_n 1, 1) := by decide +kernel
theorem dX11_goes_1 : decode cX11_goes 1 = .ok (.ifCond .ne 10, 3) := by decide +kernel
theorem dX11_goes_4 : decode cX11_goes 4 = .ok (.aload_n 0, 1) := by decide +kernel
theorem dX11_goes_5 : decode cX11_goes 5 = .ok (.iload_n 2, 1) := by decide +kernel
theorem dX11_goes_6 : decode cX11_goes 6 = .ok (.iload_n 3, 1) := by decide +kernel
theorem dX11_goes_7 : decode cX11_goes 7 = .ok (.invokevirtual 364, 3) := by decide +kernel
theorem dX11_goes_10 : decode cX11_goes 10 = .ok (.ireturn, 1) := by decide +kernel
theorem dX11_goes_11 : decode cX11_goes 11 = .ok (.iload_n 1, 1) := by decide +kernel
theorem dX11_goes_12 : decode cX11_goes 12 = .ok (.iconst 2, 1) := by decide +kernel
theorem dX11_goes_13 : decode cX11_goes 13 = .ok (.if_icmp .ne 10, 3) := by decide +kernel
theorem dX11_goes_16 : decode cX11_goes 16 = .ok (.aload_n 0, 1) := by decide +kernel
theorem dX11_goes_17 : decode cX11_goes 17 = .ok (.iload_n 2, 1) := by decide +kernel
theorem dX11_goes_18 : decode cX11_goes 18 = .ok (.iload_n 3, 1) := by decide +kernel
theorem dX11_goes_19 : decode cX11_goes 19 = .ok (.invokevirtual 368, 3) := by decide +kernel
theorem dX11_goes_22 : decode cX11_goes 22 = .ok (.ireturn, 1) := by decide +kernel
theorem dX11_goes_23 : decode cX11_goes 23 = .ok (.iload_n 1, 1) := by decide +kernel
theorem dX11_goes_24 : decode cX11_goes 24 = .ok (.iconst 3, 1) := by decide +kernel
theorem dX11_goes_25 : decode cX11_goes 25 = .ok (.if_icmp .ne 9, 3) := by decide +kernel
theorem dX11_goes_28 : decode cX11_goes 28 = .ok (.aload_n 0, 1) := by decide +kernel
theorem dX11_goes_29 : decode cX11_goes 29 = .ok (.iload_n 2, 1) := by decide +kernel
theorem dX11_goes_30 : decode cX11_goes 30 = .ok (.invokevirtual 371, 3) := by decide +kernel
theorem dX11_goes_33 : decode cX11_goes 33 = .ok (.ireturn, 1) := by decide +kernel
theorem dX11_goes_34 : decode cX11_goes 34 = .ok (.iload_n 1, 1) := by decide +kernel
theorem dX11_goes_35 : decode cX11_goes 35 = .ok (.iconst 1, 1) := by decide +kernel
theorem dX11_goes_36 : decode cX11_goes 36 = .ok (.if_icmp .ne 28, 3) := by decide +kernel
theorem dX11_goes_39 : decode cX11_goes 39 = .ok (.aload_n 0, 1) := by decide +kernel
theorem dX11_goes_40 : decode cX11_goes 40 = .ok (.getfield 74, 3) := by decide +kernel
theorem dX11_goes_43 : decode cX11_goes 43 = .ok (.iconst 0, 1) := by decide +kernel
theorem dX11_goes_44 : decode cX11_goes 44 = .ok (.iload_n 2, 1) := by decide +kernel
theorem dX11_goes_45 : decode cX11_goes 45 = .ok (.iadd, 1) := by decide +kernel
theorem dX11_goes_46 : decode cX11_goes 46 = .ok (.iaload, 1) := by decide +kernel
theorem dX11_goes_47 : decode cX11_goes 47 = .ok (.iconst (-1), 1) := by decide +kernel
theorem dX11_goes_48 : decode cX11_goes 48 = .ok (.if_icmp .ne 5, 3) := by decide +kernel
theorem dX11_goes_51 : decode cX11_goes 51 = .ok (.iconst 0, 1) := by decide +kernel
theorem dX11_goes_52 : decode cX11_goes 52 = .ok (.ireturn, 1) := by decide +kernel
theorem dX11_goes_53 : decode cX11_goes 53 = .ok (.aload_n 0, 1) := by decide +kernel
theorem dX11_goes_54 : decode cX11_goes 54 = .ok (.getfield 74, 3) := by decide +kernel
theorem dX11_goes_57 : decode cX11_goes 57 = .ok (.iconst 0, 1) := by decide +kernel
theorem dX11_goes_58 : decode cX11_goes 58 = .ok (.iload_n 2, 1) := by decide +kernel
theorem dX11_goes_59 : decode cX11_goes 59 = .ok (.iadd, 1) := by decide +kernel
theorem dX11_goes_60 : decode cX11_goes 60 = .ok (.iconst (-1), 1) := by decide +kernel
theorem dX11_goes_61 : decode cX11_goes 61 = .ok (.iastore, 1) := by decide +kernel
theorem dX11_goes_62 : decode cX11_goes 62 = .ok (.iconst 1, 1) := by decide +kernel
theorem dX11_goes_63 : decode cX11_goes 63 = .ok (.ireturn, 1) := by decide +kernel
theorem dX11_goes_64 : decode cX11_goes 64 = .ok (.iload_n 1, 1) := by decide +kernel
theorem dX11_goes_65 : decode cX11_goes 65 = .ok (.iconst 4, 1) := by decide +kernel
theorem dX11_goes_66 : decode cX11_goes 66 = .ok (.if_icmp .ne 34, 3) := by decide +kernel
theorem dX11_goes_69 : decode cX11_goes 69 = .ok (.aload_n 0, 1) := by decide +kernel
theorem dX11_goes_70 : decode cX11_goes 70 = .ok (.getfield 74, 3) := by decide +kernel
theorem dX11_goes_73 : decode cX11_goes 73 = .ok (.bipush 36, 2) := by decide +kernel
theorem dX11_goes_75 : decode cX11_goes 75 = .ok (.iload_n 2, 1) := by decide +kernel
theorem dX11_goes_76 : decode cX11_goes 76 = .ok (.iadd, 1) := by decide +kernel
theorem dX11_goes_77 : decode cX11_goes 77 = .ok (.iaload, 1) := by decide +kernel
theorem dX11_goes_78 : decode cX11_goes 78 = .ok (.bipush 9, 2) := by decide +kernel
theorem dX11_goes_80 : decode cX11_goes 80 = .ok (.if_icmp .ne 5, 3) := by decide +kernel
theorem dX11_goes_83 : decode cX11_goes 83 = .ok (.iconst 0, 1) := by decide +kernel
theorem dX11_goes_84 : decode cX11_goes 84 = .ok (.ireturn, 1) := by decide +kernel
theorem dX11_goes_85 : decode cX11_goes 85 = .ok (.aload_n 0, 1) := by decide +kernel
theorem dX11_goes_86 : decode cX11_goes 86 = .ok (.getfield 74, 3) := by decide +kernel
theorem dX11_goes_89 : decode cX11_goes 89 = .ok (.bipush 36, 2) := by decide +kernel
theorem dX11_goes_91 : decode cX11_goes 91 = .ok (.iload_n 2, 1) := by decide +kernel
theorem dX11_goes_92 : decode cX11_goes 92 = .ok (.iadd, 1) := by decide +kernel
theorem dX11_goes_93 : decode cX11_goes 93 = .ok (.dup2, 1) := by decide +kernel
theorem dX11_goes_94 : decode cX11_goes 94 = .ok (.iaload, 1) := by decide +kernel
theorem dX11_goes_95 : decode cX11_goes 95 = .ok (.iconst 1, 1) := by decide +kernel
theorem dX11_goes_96 : decode cX11_goes 96 = .ok (.iadd, 1) := by decide +kernel
theorem dX11_goes_97 : decode cX11_goes 97 = .ok (.iastore, 1) := by decide +kernel
theorem dX11_goes_98 : decode cX11_goes 98 = .ok (.iconst 1, 1) := by decide +kernel
theorem dX11_goes_99 : decode cX11_goes 99 = .ok (.ireturn, 1) := by decide +kernel
theorem dX11_goes_100 : decode cX11_goes 100 = .ok (.iload_n 1, 1) := by decide +kernel
theorem dX11_goes_101 : decode cX11_goes 101 = .ok (.iconst 5, 1) := by decide +kernel
theorem dX11_goes_102 : decode cX11_goes 102 = .ok (.if_icmp .ne 24, 3) := by decide +kernel
theorem dX11_goes_105 : decode cX11_goes 105 = .ok (.aload_n 0, 1) := by decide +kernel
theorem dX11_goes_106 : decode cX11_goes 106 = .ok (.getfield 74, 3) := by decide +kernel
theorem dX11_goes_109 : decode cX11_goes 109 = .ok (.bipush 30, 2) := by decide +kernel
theorem dX11_goes_111 : decode cX11_goes 111 = .ok (.iload_n 2, 1) := by decide +kernel
theorem dX11_goes_112 : decode cX11_goes 112 = .ok (.iadd, 1) := by decide +kernel
theorem dX11_goes_113 : decode cX11_goes 113 = .ok (.iaload, 1) := by decide +kernel
theorem dX11_goes_114 : decode cX11_goes 114 = .ok (.ifCond .ne 5, 3) := by decide +kernel
theorem dX11_goes_117 : decode cX11_goes 117 = .ok (.iconst 0, 1) := by decide +kernel
theorem dX11_goes_118 : decode cX11_goes 118 = .ok (.ireturn, 1) := by decide +kernel
theorem dX11_goes_119 : decode cX11_goes 119 = .ok (.aload_n 0, 1) := by decide +kernel
theorem dX11_goes_120 : decode cX11_goes 120 = .ok (.iload_n 2, 1) := by decide +kernel
theorem dX11_goes_121 : decode cX11_goes 121 = .ok (.invokevirtual 374, 3) := by decide +kernel
theorem dX11_goes_124 : decode cX11_goes 124 = .ok (.iconst 1, 1) := by decide +kernel
theorem dX11_goes_125 : decode cX11_goes 125 = .ok (.ireturn, 1) := by decide +kernel
theorem dX11_goes_126 : decode cX11_goes 126 = .ok (.aload_n 0, 1) := by decide +kernel
theorem dX11_goes_127 : decode cX11_goes 127 = .ok (.getfield 74, 3) := by decide +kernel
theorem dX11_goes_130 : decode cX11_goes 130 = .ok (.bipush 50, 2) := by decide +kernel
theorem dX11_goes_132 : decode cX11_goes 132 = .ok (.iaload, 1) := by decide +kernel
theorem dX11_goes_133 : decode cX11_goes 133 = .ok (.sipush 900, 3) := by decide +kernel
theorem dX11_goes_136 : decode cX11_goes 136 = .ok (.if_icmp .ne 5, 3) := by decide +kernel
theorem dX11_goes_139 : decode cX11_goes 139 = .ok (.iconst 0, 1) := by decide +kernel
theorem dX11_goes_140 : decode cX11_goes 140 = .ok (.ireturn, 1) := by decide +kernel
theorem dX11_goes_141 : decode cX11_goes 141 = .ok (.aload_n 0, 1) := by decide +kernel
theorem dX11_goes_142 : decode cX11_goes 142 = .ok (.invokevirtual 377, 3) := by decide +kernel
theorem dX11_goes_145 : decode cX11_goes 145 = .ok (.iconst 1, 1) := by decide +kernel
theorem dX11_goes_146 : decode cX11_goes 146 = .ok (.ireturn, 1) := by decide +kernel
theorem dX11_passes_0 : decode cX11_passes 0 = .ok (.iconst 0, 1) := by decide +kernel
theorem dX11_passes_1 : decode cX11_passes 1 = .ok (.istore_n 1, 1) := by decide +kernel
theorem dX11_passes_2 : decode cX11_passes 2 = .ok (.iload_n 1, 1) := by decide +kernel
theorem dX11_passes_3 : decode cX11_passes 3 = .ok (.aload_n 0, 1) := by decide +kernel
theorem dX11_passes_4 : decode cX11_passes 4 = .ok (.getfield 181, 3) := by decide +kernel
theorem dX11_passes_7 : decode cX11_passes 7 = .ok (.if_icmp .ge 20, 3) := by decide +kernel
theorem dX11_passes_10 : decode cX11_passes 10 = .ok (.aload_n 0, 1) := by decide +kernel
theorem dX11_passes_11 : decode cX11_passes 11 = .ok (.getfield 80, 3) := by decide +kernel
theorem dX11_passes_14 : decode cX11_passes 14 = .ok (.iload_n 1, 1) := by decide +kernel
theorem dX11_passes_15 : decode cX11_passes 15 = .ok (.aload_n 0, 1) := by decide +kernel
theorem dX11_passes_16 : decode cX11_passes 16 = .ok (.iload_n 1, 1) := by decide +kernel
theorem dX11_passes_17 : decode cX11_passes 17 = .ok (.invokevirtual 380, 3) := by decide +kernel
theorem dX11_passes_20 : decode cX11_passes 20 = .ok (.iastore, 1) := by decide +kernel
theorem dX11_passes_21 : decode cX11_passes 21 = .ok (.iinc 1 1, 3) := by decide +kernel
theorem dX11_passes_24 : decode cX11_passes 24 = .ok (.goto (-22), 3) := by decide +kernel
theorem dX11_passes_27 : decode cX11_passes 27 = .ok (.iconst 0, 1) := by decide +kernel
theorem dX11_passes_28 : decode cX11_passes 28 = .ok (.istore_n 1, 1) := by decide +kernel
theorem dX11_passes_29 : decode cX11_passes 29 = .ok (.iload_n 1, 1) := by decide +kernel
theorem dX11_passes_30 : decode cX11_passes 30 = .ok (.aload_n 0, 1) := by decide +kernel
theorem dX11_passes_31 : decode cX11_passes 31 = .ok (.getfield 181, 3) := by decide +kernel
theorem dX11_passes_34 : decode cX11_passes 34 = .ok (.if_icmp .ge 27, 3) := by decide +kernel
theorem dX11_passes_37 : decode cX11_passes 37 = .ok (.aload_n 0, 1) := by decide +kernel
theorem dX11_passes_38 : decode cX11_passes 38 = .ok (.getfield 74, 3) := by decide +kernel
theorem dX11_passes_41 : decode cX11_passes 41 = .ok (.bipush 18, 2) := by decide +kernel
theorem dX11_passes_43 : decode cX11_passes 43 = .ok (.iload_n 1, 1) := by decide +kernel
theorem dX11_passes_44 : decode cX11_passes 44 = .ok (.iadd, 1) := by decide +kernel
theorem dX11_passes_45 : decode cX11_passes 45 = .ok (.dup2, 1) := by decide +kernel
theorem dX11_passes_46 : decode cX11_passes 46 = .ok (.iaload, 1) := by decide +kernel
theorem dX11_passes_47 : decode cX11_passes 47 = .ok (.aload_n 0, 1) := by decide +kernel
theorem dX11_passes_48 : decode cX11_passes 48 = .ok (.getfield 80, 3) := by decide +kernel
theorem dX11_passes_51 : decode cX11_passes 51 = .ok (.iload_n 1, 1) := by decide +kernel
theorem dX11_passes_52 : decode cX11_passes 52 = .ok (.iaload, 1) := by decide +kernel
theorem dX11_passes_53 : decode cX11_passes 53 = .ok (.iadd, 1) := by decide +kernel
theorem dX11_passes_54 : decode cX11_passes 54 = .ok (.iastore, 1) := by decide +kernel
theorem dX11_passes_55 : decode cX11_passes 55 = .ok (.iinc 1 1, 3) := by decide +kernel
theorem dX11_passes_58 : decode cX11_passes 58 = .ok (.goto (-29), 3) := by decide +kernel
theorem dX11_passes_61 : decode cX11_passes 61 = .ok (.iconst 0, 1) := by decide +kernel
theorem dX11_passes_62 : decode cX11_passes 62 = .ok (.istore_n 1, 1) := by decide +kernel
theorem dX11_passes_63 : decode cX11_passes 63 = .ok (.iload_n 1, 1) := by decide +kernel
theorem dX11_passes_64 : decode cX11_passes 64 = .ok (.aload_n 0, 1) := by decide +kernel
theorem dX11_passes_65 : decode cX11_passes 65 = .ok (.getfield 181, 3) := by decide +kernel
theorem dX11_passes_68 : decode cX11_passes 68 = .ok (.if_icmp .ge 58, 3) := by decide +kernel
theorem dX11_passes_71 : decode cX11_passes 71 = .ok (.aload_n 0, 1) := by decide +kernel
theorem dX11_passes_72 : decode cX11_passes 72 = .ok (.getfield 74, 3) := by decide +kernel
theorem dX11_passes_75 : decode cX11_passes 75 = .ok (.bipush 30, 2) := by decide +kernel
theorem dX11_passes_77 : decode cX11_passes 77 = .ok (.iload_n 1, 1) := by decide +kernel
theorem dX11_passes_78 : decode cX11_passes 78 = .ok (.iadd, 1) := by decide +kernel
theorem dX11_passes_79 : decode cX11_passes 79 = .ok (.iaload, 1) := by decide +kernel
theorem dX11_passes_80 : decode cX11_passes 80 = .ok (.iconst 1, 1) := by decide +kernel
theorem dX11_passes_81 : decode cX11_passes 81 = .ok (.if_icmp .ne 39, 3) := by decide +kernel
theorem dX11_passes_84 : decode cX11_passes 84 = .ok (.aload_n 0, 1) := by decide +kernel
theorem dX11_passes_85 : decode cX11_passes 85 = .ok (.getfield 74, 3) := by decide +kernel
theorem dX11_passes_88 : decode cX11_passes 88 = .ok (.bipush 6, 2) := by decide +kernel
theorem dX11_passes_90 : decode cX11_passes 90 = .ok (.iload_n 1, 1) := by decide +kernel
theorem dX11_passes_91 : decode cX11_passes 91 = .ok (.iadd, 1) := by decide +kernel
theorem dX11_passes_92 : decode cX11_passes 92 = .ok (.iaload, 1) := by decide +kernel
theorem dX11_passes_93 : decode cX11_passes 93 = .ok (.iconst (-1), 1) := by decide +kernel
theorem dX11_passes_94 : decode cX11_passes 94 = .ok (.if_icmp .eq 26, 3) := by decide +kernel
theorem dX11_passes_97 : decode cX11_passes 97 = .ok (.aload_n 0, 1) := by decide +kernel
theorem dX11_passes_98 : decode cX11_passes 98 = .ok (.getfield 74, 3) := by decide +kernel
theorem dX11_passes_101 : decode cX11_passes 101 = .ok (.bipush 18, 2) := by decide +kernel
theorem dX11_passes_103 : decode cX11_passes 103 = .ok (.iload_n 1, 1) := by decide +kernel
theorem dX11_passes_104 : decode cX11_passes 104 = .ok (.iadd, 1) := by decide +kernel
theorem dX11_passes_105 : decode cX11_passes 105 = .ok (.iaload, 1) := by decide +kernel
theorem dX11_passes_106 : decode cX11_passes 106 = .ok (.aload_n 0, 1) := by decide +kernel
theorem dX11_passes_107 : decode cX11_passes 107 = .ok (.getfield 41, 3) := by decide +kernel
theorem dX11_passes_110 : decode cX11_passes 110 = .ok (.iload_n 1, 1) := by decide +kernel
theorem dX11_passes_111 : decode cX11_passes 111 = .ok (.iaload, 1) := by decide +kernel
theorem dX11_passes_112 : decode cX11_passes 112 = .ok (.if_icmp .le 8, 3) := by decide +kernel
theorem dX11_passes_115 : decode cX11_passes 115 = .ok (.aload_n 0, 1) := by decide +kernel
theorem dX11_passes_116 : decode cX11_passes 116 = .ok (.iload_n 1, 1) := by decide +kernel
theorem dX11_passes_117 : decode cX11_passes 117 = .ok (.invokevirtual 374, 3) := by decide +kernel
theorem dX11_passes_120 : decode cX11_passes 120 = .ok (.iinc 1 1, 3) := by decide +kernel
theorem dX11_passes_123 : decode cX11_passes 123 = .ok (.goto (-60), 3) := by decide +kernel
theorem dX11_passes_126 : decode cX11_passes 126 = .ok (.iconst 0, 1) := by decide +kernel
theorem dX11_passes_127 : decode cX11_passes 127 = .ok (.istore_n 1, 1) := by decide +kernel
theorem dX11_passes_128 : decode cX11_passes 128 = .ok (.iload_n 1, 1) := by decide +kernel
theorem dX11_passes_129 : decode cX11_passes 129 = .ok (.aload_n 0, 1) := by decide +kernel
theorem dX11_passes_130 : decode cX11_passes 130 = .ok (.getfield 181, 3) := by decide +kernel
theorem dX11_passes_133 : decode cX11_passes 133 = .ok (.if_icmp .ge 106, 3) := by decide +kernel
theorem dX11_passes_136 : decode cX11_passes 136 = .ok (.aload_n 0, 1) := by decide +kernel
theorem dX11_passes_137 : decode cX11_passes 137 = .ok (.getfield 74, 3) := by decide +kernel
theorem dX11_passes_140 : decode cX11_passes 140 = .ok (.bipush 6, 2) := by decide +kernel
theorem dX11_passes_142 : decode cX11_passes 142 = .ok (.iload_n 1, 1) := by decide +kernel
theorem dX11_passes_143 : decode cX11_passes 143 = .ok (.iadd, 1) := by decide +kernel
theorem dX11_passes_144 : decode cX11_passes 144 = .ok (.iaload, 1) := by decide +kernel
theorem dX11_passes_145 : decode cX11_passes 145 = .ok (.istore_n 2, 1) := by decide +kernel
theorem dX11_passes_146 : decode cX11_passes 146 = .ok (.iload_n 2, 1) := by decide +kernel
theorem dX11_passes_147 : decode cX11_passes 147 = .ok (.iconst (-1), 1) := by decide +kernel
theorem dX11_passes_148 : decode cX11_passes 148 = .ok (.if_icmp .ne 6, 3) := by decide +kernel
theorem dX11_passes_151 : decode cX11_passes 151 = .ok (.goto 82, 3) := by decide +kernel
theorem dX11_passes_154 : decode cX11_passes 154 = .ok (.bipush 9, 2) := by decide +kernel
theorem dX11_passes_156 : decode cX11_passes 156 = .ok (.aload_n 0, 1) := by decide +kernel
theorem dX11_passes_157 : decode cX11_passes 157 = .ok (.getfield 80, 3) := by decide +kernel
theorem dX11_passes_160 : decode cX11_passes 160 = .ok (.iload_n 1, 1) := by decide +kernel
theorem dX11_passes_161 : decode cX11_passes 161 = .ok (.iaload, 1) := by decide +kernel
theorem dX11_passes_162 : decode cX11_passes 162 = .ok (.bipush 10, 2) := by decide +kernel
theorem dX11_passes_164 : decode cX11_passes 164 = .ok (.idiv, 1) := by decide +kernel
theorem dX11_passes_165 : decode cX11_passes 165 = .ok (.isub, 1) := by decide +kernel
theorem dX11_passes_166 : decode cX11_passes 166 = .ok (.istore_n 3, 1) := by decide +kernel
theorem dX11_passes_167 : decode cX11_passes 167 = .ok (.iload_n 3, 1) := by decide +kernel
theorem dX11_passes_168 : decode cX11_passes 168 = .ok (.aload_n 0, 1) := by decide +kernel
theorem dX11_passes_169 : decode cX11_passes 169 = .ok (.getfield 74, 3) := by decide +kernel
theorem dX11_passes_172 : decode cX11_passes 172 = .ok (.bipush 44, 2) := by decide +kernel
theorem dX11_passes_174 : decode cX11_passes 174 = .ok (.iload_n 2, 1) := by decide +kernel
theorem dX11_passes_175 : decode cX11_passes 175 = .ok (.iadd, 1) := by decide +kernel
theorem dX11_passes_176 : decode cX11_passes 176 = .ok (.iaload, 1) := by decide +kernel
theorem dX11_passes_177 : decode cX11_passes 177 = .ok (.if_icmp .le 15, 3) := by decide +kernel
theorem dX11_passes_180 : decode cX11_passes 180 = .ok (.aload_n 0, 1) := by decide +kernel
theorem dX11_passes_181 : decode cX11_passes 181 = .ok (.getfield 74, 3) := by decide +kernel
theorem dX11_passes_184 : decode cX11_passes 184 = .ok (.bipush 44, 2) := by decide +kernel
theorem dX11_passes_186 : decode cX11_passes 186 = .ok (.iload_n 2, 1) := by decide +kernel
theorem dX11_passes_187 : decode cX11_passes 187 = .ok (.iadd, 1) := by decide +kernel
theorem dX11_passes_188 : decode cX11_passes 188 = .ok (.iaload, 1) := by decide +kernel
theorem dX11_passes_189 : decode cX11_passes 189 = .ok (.goto 4, 3) := by decide +kernel
theorem dX11_passes_192 : decode cX11_passes 192 = .ok (.iload_n 3, 1) := by decide +kernel
theorem dX11_passes_193 : decode cX11_passes 193 = .ok (.istore_n 3, 1) := by decide +kernel
