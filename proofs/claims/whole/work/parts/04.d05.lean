theorem dX4_keepImage_72 : decode cX4_keepImage 72 = .ok (.putfield 27, 3) := by decide +kernel
theorem dX4_keepImage_75 : decode cX4_keepImage 75 = .ok (.iconst 1, 1) := by decide +kernel
theorem dX4_keepImage_76 : decode cX4_keepImage 76 = .ok (.ireturn, 1) := by decide +kernel
theorem dX4_dropImage_0 : decode cX4_dropImage 0 = .ok (.aload_n 0, 1) := by decide +kernel
theorem dX4_dropImage_1 : decode cX4_dropImage 1 = .ok (.getfield 27, 3) := by decide +kernel
theorem dX4_dropImage_4 : decode cX4_dropImage 4 = .ok (.ifCond .gt 5, 3) := by decide +kernel
theorem dX4_dropImage_7 : decode cX4_dropImage 7 = .ok (.iconst 0, 1) := by decide +kernel
theorem dX4_dropImage_8 : decode cX4_dropImage 8 = .ok (.ireturn, 1) := by decide +kernel
theorem dX4_dropImage_9 : decode cX4_dropImage 9 = .ok (.aload_n 0, 1) := by decide +kernel
theorem dX4_dropImage_10 : decode cX4_dropImage 10 = .ok (.dup, 1) := by decide +kernel
theorem dX4_dropImage_11 : decode cX4_dropImage 11 = .ok (.getfield 27, 3) := by decide +kernel
theorem dX4_dropImage_14 : decode cX4_dropImage 14 = .ok (.iconst 1, 1) := by decide +kernel
theorem dX4_dropImage_15 : decode cX4_dropImage 15 = .ok (.isub, 1) := by decide +kernel
theorem dX4_dropImage_16 : decode cX4_dropImage 16 = .ok (.putfield 27, 3) := by decide +kernel
theorem dX4_dropImage_19 : decode cX4_dropImage 19 = .ok (.aload_n 0, 1) := by decide +kernel
theorem dX4_dropImage_20 : decode cX4_dropImage 20 = .ok (.aload_n 0, 1) := by decide +kernel
theorem dX4_dropImage_21 : decode cX4_dropImage 21 = .ok (.getfield 20, 3) := by decide +kernel
theorem dX4_dropImage_24 : decode cX4_dropImage 24 = .ok (.aload_n 0, 1) := by decide +kernel
theorem dX4_dropImage_25 : decode cX4_dropImage 25 = .ok (.getfield 27, 3) := by decide +kernel
theorem dX4_dropImage_28 : decode cX4_dropImage 28 = .ok (.iaload, 1) := by decide +kernel
theorem dX4_dropImage_29 : decode cX4_dropImage 29 = .ok (.putfield 23, 3) := by decide +kernel
theorem dX4_dropImage_32 : decode cX4_dropImage 32 = .ok (.aload_n 0, 1) := by decide +kernel
theorem dX4_dropImage_33 : decode cX4_dropImage 33 = .ok (.getfield 27, 3) := by decide +kernel
theorem dX4_dropImage_36 : decode cX4_dropImage 36 = .ok (.sipush 782, 3) := by decide +kernel
theorem dX4_dropImage_39 : decode cX4_dropImage 39 = .ok (.imul, 1) := by decide +kernel
theorem dX4_dropImage_40 : decode cX4_dropImage 40 = .ok (.istore_n 2, 1) := by decide +kernel
theorem dX4_dropImage_41 : decode cX4_dropImage 41 = .ok (.aload_n 0, 1) := by decide +kernel
theorem dX4_dropImage_42 : decode cX4_dropImage 42 = .ok (.getfield 17, 3) := by decide +kernel
theorem dX4_dropImage_45 : decode cX4_dropImage 45 = .ok (.iload_n 2, 1) := by decide +kernel
theorem dX4_dropImage_46 : decode cX4_dropImage 46 = .ok (.aload_n 0, 1) := by decide +kernel
theorem dX4_dropImage_47 : decode cX4_dropImage 47 = .ok (.getfield 13, 3) := by decide +kernel
theorem dX4_dropImage_50 : decode cX4_dropImage 50 = .ok (.iconst 0, 1) := by decide +kernel
theorem dX4_dropImage_51 : decode cX4_dropImage 51 = .ok (.aload_n 0, 1) := by decide +kernel
theorem dX4_dropImage_52 : decode cX4_dropImage 52 = .ok (.getfield 23, 3) := by decide +kernel
theorem dX4_dropImage_55 : decode cX4_dropImage 55 = .ok (.bipush 46, 2) := by decide +kernel
theorem dX4_dropImage_57 : decode cX4_dropImage 57 = .ok (.imul, 1) := by decide +kernel
theorem dX4_dropImage_58 : decode cX4_dropImage 58 = .ok (.invokestatic 37, 3) := by decide +kernel
theorem dX4_dropImage_61 : decode cX4_dropImage 61 = .ok (.aload_n 1, 1) := by decide +kernel
theorem dX4_dropImage_62 : decode cX4_dropImage 62 = .ok (.aload_n 0, 1) := by decide +kernel
theorem dX4_dropImage_63 : decode cX4_dropImage 63 = .ok (.getfield 17, 3) := by decide +kernel
theorem dX4_dropImage_66 : decode cX4_dropImage 66 = .ok (.iload_n 2, 1) := by decide +kernel
theorem dX4_dropImage_67 : decode cX4_dropImage 67 = .ok (.sipush 736, 3) := by decide +kernel
theorem dX4_dropImage_70 : decode cX4_dropImage 70 = .ok (.iadd, 1) := by decide +kernel
theorem dX4_dropImage_71 : decode cX4_dropImage 71 = .ok (.invokevirtual 34, 3) := by decide +kernel
theorem dX4_dropImage_74 : decode cX4_dropImage 74 = .ok (.iconst 1, 1) := by decide +kernel
theorem dX4_dropImage_75 : decode cX4_dropImage 75 = .ok (.ireturn, 1) := by decide +kernel
theorem dX5_init_0 : decode cX5_init 0 = .ok (.aload_n 0, 1) := by decide +kernel
theorem dX5_init_1 : decode cX5_init 1 = .ok (.invokespecial 3, 3) := by decide +kernel
theorem dX5_init_4 : decode cX5_init 4 = .ok (.aload_n 0, 1) := by decide +kernel
theorem dX5_init_5 : decode cX5_init 5 = .ok (.sipush 150, 3) := by decide +kernel
theorem dX5_init_8 : decode cX5_init 8 = .ok (.newarray .int, 2) := by decide +kernel
theorem dX5_init_10 : decode cX5_init 10 = .ok (.putfield 9, 3) := by decide +kernel
theorem dX5_init_13 : decode cX5_init 13 = .ok (.aload_n 0, 1) := by decide +kernel
theorem dX5_init_14 : decode cX5_init 14 = .ok (.sipush 150, 3) := by decide +kernel
theorem dX5_init_17 : decode cX5_init 17 = .ok (.newarray .int, 2) := by decide +kernel
theorem dX5_init_19 : decode cX5_init 19 = .ok (.putfield 15, 3) := by decide +kernel
theorem dX5_init_22 : decode cX5_init 22 = .ok (.aload_n 0, 1) := by decide +kernel
theorem dX5_init_23 : decode cX5_init 23 = .ok (.sipush 150, 3) := by decide +kernel
theorem dX5_init_26 : decode cX5_init 26 = .ok (.newarray .int, 2) := by decide +kernel
theorem dX5_init_28 : decode cX5_init 28 = .ok (.putfield 18, 3) := by decide +kernel
theorem dX5_init_31 : decode cX5_init 31 = .ok (.aload_n 0, 1) := by decide +kernel
theorem dX5_init_32 : decode cX5_init 32 = .ok (.sipush 150, 3) := by decide +kernel
theorem dX5_init_35 : decode cX5_init 35 = .ok (.newarray .int, 2) := by decide +kernel
theorem dX5_init_37 : decode cX5_init 37 = .ok (.putfield 21, 3) := by decide +kernel
theorem dX5_init_40 : decode cX5_init 40 = .ok (.aload_n 0, 1) := by decide +kernel
theorem dX5_init_41 : decode cX5_init 41 = .ok (.invokevirtual 24, 3) := by decide +kernel
theorem dX5_init_44 : decode cX5_init 44 = .ok (.return_, 1) := by decide +kernel
theorem dX5_beStandard_0 : decode cX5_beStandard 0 = .ok (.aload_n 0, 1) := by decide +kernel
theorem dX5_beStandard_1 : decode cX5_beStandard 1 = .ok (.iconst 0, 1) := by decide +kernel
theorem dX5_beStandard_2 : decode cX5_beStandard 2 = .ok (.putfield 27, 3) := by decide +kernel
theorem dX5_beStandard_5 : decode cX5_beStandard 5 = .ok (.aload_n 0, 1) := by decide +kernel
theorem dX5_beStandard_6 : decode cX5_beStandard 6 = .ok (.iconst 4, 1) := by decide +kernel
theorem dX5_beStandard_7 : decode cX5_beStandard 7 = .ok (.aload_n 0, 1) := by decide +kernel
theorem dX5_beStandard_8 : decode cX5_beStandard 8 = .ok (.iconst 1, 1) := by decide +kernel
theorem dX5_beStandard_9 : decode cX5_beStandard 9 = .ok (.iconst 0, 1) := by decide +kernel
theorem dX5_beStandard_10 : decode cX5_beStandard 10 = .ok (.iconst 0, 1) := by decide +kernel
theorem dX5_beStandard_11 : decode cX5_beStandard 11 = .ok (.invokevirtual 31, 3) := by decide +kernel
theorem dX5_beStandard_14 : decode cX5_beStandard 14 = .ok (.aload_n 0, 1) := by decide +kernel
theorem dX5_beStandard_15 : decode cX5_beStandard 15 = .ok (.iconst 0, 1) := by decide +kernel
theorem dX5_beStandard_16 : decode cX5_beStandard 16 = .ok (.iconst 3, 1) := by decide +kernel
theorem dX5_beStandard_17 : decode cX5_beStandard 17 = .ok (.iconst 0, 1) := by decide +kernel
theorem dX5_beStandard_18 : decode cX5_beStandard 18 = .ok (.invokevirtual 31, 3) := by decide +kernel
theorem dX5_beStandard_21 : decode cX5_beStandard 21 = .ok (.invokevirtual 31, 3) := by decide +kernel
theorem dX5_beStandard_24 : decode cX5_beStandard 24 = .ok (.istore_n 1, 1) := by decide +kernel
theorem dX5_beStandard_25 : decode cX5_beStandard 25 = .ok (.aload_n 0, 1) := by decide +kernel
theorem dX5_beStandard_26 : decode cX5_beStandard 26 = .ok (.iconst 4, 1) := by decide +kernel
theorem dX5_beStandard_27 : decode cX5_beStandard 27 = .ok (.aload_n 0, 1) := by decide +kernel
theorem dX5_beStandard_28 : decode cX5_beStandard 28 = .ok (.iconst 1, 1) := by decide +kernel
theorem dX5_beStandard_29 : decode cX5_beStandard 29 = .ok (.iconst 1, 1) := by decide +kernel
theorem dX5_beStandard_30 : decode cX5_beStandard 30 = .ok (.iconst 0, 1) := by decide +kernel
theorem dX5_beStandard_31 : decode cX5_beStandard 31 = .ok (.invokevirtual 31, 3) := by decide +kernel
theorem dX5_beStandard_34 : decode cX5_beStandard 34 = .ok (.aload_n 0, 1) := by decide +kernel
theorem dX5_beStandard_35 : decode cX5_beStandard 35 = .ok (.iconst 0, 1) := by decide +kernel
theorem dX5_beStandard_36 : decode cX5_beStandard 36 = .ok (.iconst 4, 1) := by decide +kernel
theorem dX5_beStandard_37 : decode cX5_beStandard 37 = .ok (.iconst 0, 1) := by decide +kernel
theorem dX5_beStandard_38 : decode cX5_beStandard 38 = .ok (.invokevirtual 31, 3) := by decide +kernel
theorem dX5_beStandard_41 : decode cX5_beStandard 41 = .ok (.invokevirtual 31, 3) := by decide +kernel
theorem dX5_beStandard_44 : decode cX5_beStandard 44 = .ok (.istore_n 2, 1) := by decide +kernel
theorem dX5_beStandard_45 : decode cX5_beStandard 45 = .ok (.aload_n 0, 1) := by decide +kernel
theorem dX5_beStandard_46 : decode cX5_beStandard 46 = .ok (.iconst 3, 1) := by decide +kernel
theorem dX5_beStandard_47 : decode cX5_beStandard 47 = .ok (.iload_n 1, 1) := by decide +kernel
theorem dX5_beStandard_48 : decode cX5_beStandard 48 = .ok (.iload_n 2, 1) := by decide +kernel
theorem dX5_beStandard_49 : decode cX5_beStandard 49 = .ok (.invokevirtual 31, 3) := by decide +kernel
theorem dX5_beStandard_52 : decode cX5_beStandard 52 = .ok (.pop, 1) := by decide +kernel
theorem dX5_beStandard_53 : decode cX5_beStandard 53 = .ok (.return_, 1) := by decide +kernel
theorem dX5_join_0 : decode cX5_join 0 = .ok (.aload_n 0, 1) := by decide +kernel
theorem dX5_join_1 : decode cX5_join 1 = .ok (.getfield 27, 3) := by decide +kernel
theorem dX5_join_4 : decode cX5_join 4 = .ok (.sipush 150, 3) := by decide +kernel
theorem dX5_join_7 : decode cX5_join 7 = .ok (.if_icmp .lt 5, 3) := by decide +kernel
theorem dX5_join_10 : decode cX5_join 10 = .ok (.iconst 0, 1) := by decide +kernel
theorem dX5_join_11 : decode cX5_join 11 = .ok (.ireturn, 1) := by decide +kernel
theorem dX5_join_12 : decode cX5_join 12 = .ok (.aload_n 0, 1) := by decide +kernel
theorem dX5_join_13 : decode cX5_join 13 = .ok (.getfield 9, 3) := by decide +kernel
theorem dX5_join_16 : decode cX5_join 16 = .ok (.aload_n 0, 1) := by decide +kernel
theorem dX5_join_17 : decode cX5_join 17 = .ok (.getfield 27, 3) := by decide +kernel
theorem dX5_join_20 : decode cX5_join 20 = .ok (.iload_n 1, 1) := by decide +kernel
theorem dX5_join_21 : decode cX5_join 21 = .ok (.iastore, 1) := by decide +kernel
theorem dX5_join_22 : decode cX5_join 22 = .ok (.aload_n 0, 1) := by decide +kernel
theorem dX5_join_23 : decode cX5_join 23 = .ok (.getfield 15, 3) := by decide +kernel
theorem dX5_join_26 : decode cX5_join 26 = .ok (.aload_n 0, 1) := by decide +kernel
theorem dX5_join_27 : decode cX5_join 27 = .ok (.getfield 27, 3) := by decide +kernel
theorem dX5_join_30 : decode cX5_join 30 = .ok (.iload_n 2, 1) := by decide +kernel
theorem dX5_join_31 : decode cX5_join 31 = .ok (.iastore, 1) := by decide +kernel
theorem dX5_join_32 : decode cX5_join 32 = .ok (.aload_n 0, 1) := by decide +kernel
theorem dX5_join_33 : decode cX5_join 33 = .ok (.getfield 18, 3) := by decide +kernel
theorem dX5_join_36 : decode cX5_join 36 = .ok (.aload_n 0, 1) := by decide +kernel
theorem dX5_join_37 : decode cX5_join 37 = .ok (.getfield 27, 3) := by decide +kernel
theorem dX5_join_40 : decode cX5_join 40 = .ok (.iload_n 3, 1) := by decide +kernel
theorem dX5_join_41 : decode cX5_join 41 = .ok (.iastore, 1) := by decide +kernel
theorem dX5_join_42 : decode cX5_join 42 = .ok (.aload_n 0, 1) := by decide +kernel
theorem dX5_join_43 : decode cX5_join 43 = .ok (.dup, 1) := by decide +kernel
theorem dX5_join_44 : decode cX5_join 44 = .ok (.getfield 27, 3) := by decide +kernel
theorem dX5_join_47 : decode cX5_join 47 = .ok (.iconst 1, 1) := by decide +kernel
theorem dX5_join_48 : decode cX5_join 48 = .ok (.iadd, 1) := by decide +kernel
theorem dX5_join_49 : decode cX5_join 49 = .ok (.putfield 27, 3) := by decide +kernel
theorem dX5_join_52 : decode cX5_join 52 = .ok (.aload_n 0, 1) := by decide +kernel
theorem dX5_join_53 : decode cX5_join 53 = .ok (.getfield 27, 3) := by decide +kernel
theorem dX5_join_56 : decode cX5_join 56 = .ok (.iconst 1, 1) := by decide +kernel
theorem dX5_join_57 : decode cX5_join 57 = .ok (.isub, 1) := by decide +kernel
theorem dX5_join_58 : decode cX5_join 58 = .ok (.ireturn, 1) := by decide +kernel
theorem dX5_readText_0 : decode cX5_readText 0 = .ok (.aload_n 0, 1) := by decide +kernel
theorem dX5_readText_1 : decode cX5_readText 1 = .ok (.iconst 0, 1) := by decide +kernel
theorem dX5_readText_2 : decode cX5_readText 2 = .ok (.putfield 27, 3) := by decide +kernel
theorem dX5_readText_5 : decode cX5_readText 5 = .ok (.aload_n 0, 1) := by decide +kernel
theorem dX5_readText_6 : decode cX5_readText 6 = .ok (.aload_n 1, 1) := by decide +kernel
theorem dX5_readText_7 : decode cX5_readText 7 = .ok (.iconst 0, 1) := by decide +kernel
theorem dX5_readText_8 : decode cX5_readText 8 = .ok (.invokevirtual 35, 3) := by decide +kernel
theorem dX5_readText_11 : decode cX5_readText 11 = .ok (.pop, 1) := by decide +kernel
theorem dX5_readText_12 : decode cX5_readText 12 = .ok (.aload_n 1, 1) := by decide +kernel
theorem dX5_readText_13 : decode cX5_readText 13 = .ok (.invokevirtual 39, 3) := by decide +kernel
theorem dX5_readText_16 : decode cX5_readText 16 = .ok (.ifCond .ne 8, 3) := by decide +kernel
theorem dX5_readText_19 : decode cX5_readText 19 = .ok (.aload_n 1, 1) := by decide +kernel
theorem dX5_readText_20 : decode cX5_readText 20 = .ok (.iconst 1, 1) := by decide +kernel
theorem dX5_readText_21 : decode cX5_readText 21 = .ok (.invokevirtual 45, 3) := by decide +kernel
theorem dX5_readText_24 : decode cX5_readText 24 = .ok (.aload_n 1, 1) := by decide +kernel
theorem dX5_readText_25 : decode cX5_readText 25 = .ok (.invokevirtual 49, 3) := by decide +kernel
theorem dX5_readText_28 : decode cX5_readText 28 = .ok (.ifCond .ne 7, 3) := by decide +kernel
theorem dX5_readText_31 : decode cX5_readText 31 = .ok (.iconst 1, 1) := by decide +kernel
theorem dX5_readText_32 : decode cX5_readText 32 = .ok (.goto 4, 3) := by decide +kernel
theorem dX5_readText_35 : decode cX5_readText 35 = .ok (.iconst 0, 1) := by decide +kernel
theorem dX5_readText_36 : decode cX5_readText 36 = .ok (.ireturn, 1) := by decide +kernel
theorem dX5_readSum_0 : decode cX5_readSum 0 = .ok (.aload_n 0, 1) := by decide +kernel
theorem dX5_readSum_1 : decode cX5_readSum 1 = .ok (.aload_n 1, 1) := by decide +kernel
theorem dX5_readSum_2 : decode cX5_readSum 2 = .ok (.iload_n 2, 1) := by decide +kernel
theorem dX5_readSum_3 : decode cX5_readSum 3 = .ok (.invokevirtual 52, 3) := by decide +kernel
theorem dX5_readSum_6 : decode cX5_readSum 6 = .ok (.istore_n 3, 1) := by decide +kernel
theorem dX5_readSum_7 : decode cX5_readSum 7 = .ok (.iconst 0, 1) := by decide +kernel
theorem dX5_readSum_8 : decode cX5_readSum 8 = .ok (.istore 4, 2) := by decide +kernel
theorem dX5_readSum_10 : decode cX5_readSum 10 = .ok (.iload 4, 2) := by decide +kernel
theorem dX5_readSum_12 : decode cX5_readSum 12 = .ok (.sipush 150, 3) := by decide +kernel
theorem dX5_readSum_15 : decode cX5_readSum 15 = .ok (.if_icmp .ge 61, 3) := by decide +kernel
theorem dX5_readSum_18 : decode cX5_readSum 18 = .ok (.aload_n 1, 1) := by decide +kernel
theorem dX5_readSum_19 : decode cX5_readSum 19 = .ok (.bipush 43, 2) := by decide +kernel
theorem dX5_readSum_21 : decode cX5_readSum 21 = .ok (.invokevirtual 55, 3) := by decide +kernel
theorem dX5_readSum_24 : decode cX5_readSum 24 = .ok (.ifCond .ne 12, 3) := by decide +kernel
theorem dX5_readSum_27 : decode cX5_readSum 27 = .ok (.aload_n 1, 1) := by decide +kernel
theorem dX5_readSum_28 : decode cX5_readSum 28 = .ok (.bipush 45, 2) := by decide +kernel
theorem dX5_readSum_30 : decode cX5_readSum 30 = .ok (.invokevirtual 55, 3) := by decide +kernel
theorem dX5_readSum_33 : decode cX5_readSum 33 = .ok (.ifCond .eq 43, 3) := by decide +kernel
theorem dX5_readSum_36 : decode cX5_readSum 36 = .ok (.aload_n 1, 1) := by decide +kernel
theorem dX5_readSum_37 : decode cX5_readSum 37 = .ok (.bipush 43, 2) := by decide +kernel
theorem dX5_readSum_39 : decode cX5_readSum 39 = .ok (.invokevirtual 55, 3) := by decide +kernel
theorem dX5_readSum_42 : decode cX5_readSum 42 = .ok (.ifCond .eq 7, 3) := by decide +kernel
theorem dX5_readSum_45 : decode cX5_readSum 45 = .ok (.iconst 2, 1) := by decide +kernel
theorem dX5_readSum_46 : decode cX5_readSum 46 = .ok (.goto 4, 3) := by decide +kernel
theorem dX5_readSum_49 : decode cX5_readSum 49 = .ok (.iconst 3, 1) := by decide +kernel
theorem dX5_readSum_50 : decode cX5_readSum 50 = .ok (.istore 5, 2) := by decide +kernel
theorem dX5_readSum_52 : decode cX5_readSum 52 = .ok (.aload_n 1, 1) := by decide +kernel
theorem dX5_readSum_53 : decode cX5_readSum 53 = .ok (.invokevirtual 59, 3) := by decide +kernel
theorem dX5_readSum_56 : decode cX5_readSum 56 = .ok (.aload_n 0, 1) := by decide +kernel
theorem dX5_readSum_57 : decode cX5_readSum 57 = .ok (.iload 5, 2) := by decide +kernel
theorem dX5_readSum_59 : decode cX5_readSum 59 = .ok (.iload_n 3, 1) := by decide +kernel
theorem dX5_readSum_60 : decode cX5_readSum 60 = .ok (.aload_n 0, 1) := by decide +kernel
theorem dX5_readSum_61 : decode cX5_readSum 61 = .ok (.aload_n 1, 1) := by decide +kernel
theorem dX5_readSum_62 : decode cX5_readSum 62 = .ok (.iload_n 2, 1) := by decide +kernel
theorem dX5_readSum_63 : decode cX5_readSum 63 = .ok (.invokevirtual 52, 3) := by decide +kernel
theorem dX5_readSum_66 : decode cX5_readSum 66 = .ok (.invokevirtual 31, 3) := by decide +kernel
theorem dX5_readSum_69 : decode cX5_readSum 69 = .ok (.istore_n 3, 1) := by decide +kernel
theorem dX5_readSum_70 : decode cX5_readSum 70 = .ok (.iinc 4 1, 3) := by decide +kernel
theorem dX5_readSum_73 : decode cX5_readSum 73 = .ok (.goto (-63), 3) := by decide +kernel
theorem dX5_readSum_76 : decode cX5_readSum 76 = .ok (.iload_n 3, 1) := by decide +kernel
theorem dX5_readSum_77 : decode cX5_readSum 77 = .ok (.ireturn, 1) := by decide +kernel
theorem dX5_readProduct_0 : decode cX5_readProduct 0 = .ok (.aload_n 0, 1) := by decide +kernel
theorem dX5_readProduct_1 : decode cX5_readProduct 1 = .ok (.aload_n 1, 1) := by decide +kernel
theorem dX5_readProduct_2 : decode cX5_readProduct 2 = .ok (.iload_n 2, 1) := by decide +kernel
theorem dX5_readProduct_3 : decode cX5_readProduct 3 = .ok (.invokevirtual 62, 3) := by decide +kernel
theorem dX5_readProduct_6 : decode cX5_readProduct 6 = .ok (.istore_n 3, 1) := by decide +kernel
theorem dX5_readProduct_7 : decode cX5_readProduct 7 = .ok (.aload_n 1, 1) := by decide +kernel
theorem dX5_readProduct_8 : decode cX5_readProduct 8 = .ok (.invokestatic 65, 3) := by decide +kernel
theorem dX5_readProduct_11 : decode cX5_readProduct 11 = .ok (.istore 4, 2) := by decide +kernel
theorem dX5_readProduct_13 : decode cX5_readProduct 13 = .ok (.iconst 0, 1) := by decide +kernel
theorem dX5_readProduct_14 : decode cX5_readProduct 14 = .ok (.istore 5, 2) := by decide +kernel
theorem dX5_readProduct_16 : decode cX5_readProduct 16 = .ok (.iload 5, 2) := by decide +kernel
theorem dX5_readProduct_18 : decode cX5_readProduct 18 = .ok (.sipush 150, 3) := by decide +kernel
theorem dX5_readProduct_21 : decode cX5_readProduct 21 = .ok (.if_icmp .ge 39, 3) := by decide +kernel
theorem dX5_readProduct_24 : decode cX5_readProduct 24 = .ok (.iload 4, 2) := by decide +kernel
theorem dX5_readProduct_26 : decode cX5_readProduct 26 = .ok (.iconst (-1), 1) := by decide +kernel
theorem dX5_readProduct_27 : decode cX5_readProduct 27 = .ok (.if_icmp .eq 33, 3) := by decide +kernel
theorem dX5_readProduct_30 : decode cX5_readProduct 30 = .ok (.aload_n 1, 1) := by decide +kernel
theorem dX5_readProduct_31 : decode cX5_readProduct 31 = .ok (.invokevirtual 59, 3) := by decide +kernel
theorem dX5_readProduct_34 : decode cX5_readProduct 34 = .ok (.aload_n 0, 1) := by decide +kernel
theorem dX5_readProduct_35 : decode cX5_readProduct 35 = .ok (.iload 4, 2) := by decide +kernel
theorem dX5_readProduct_37 : decode cX5_readProduct 37 = .ok (.iload_n 3, 1) := by decide +kernel
theorem dX5_readProduct_38 : decode cX5_readProduct 38 = .ok (.aload_n 0, 1) := by decide +kernel
theorem dX5_readProduct_39 : decode cX5_readProduct 39 = .ok (.aload_n 1, 1) := by decide +kernel
theorem dX5_readProduct_40 : decode cX5_readProduct 40 = .ok (.iload_n 2, 1) := by decide +kernel
theorem dX5_readProduct_41 : decode cX5_readProduct 41 = .ok (.invokevirtual 62, 3) := by decide +kernel
theorem dX5_readProduct_44 : decode cX5_readProduct 44 = .ok (.invokevirtual 31, 3) := by decide +kernel
theorem dX5_readProduct_47 : decode cX5_readProduct 47 = .ok (.istore_n 3, 1) := by decide +kernel
theorem dX5_readProduct_48 : decode cX5_readProduct 48 = .ok (.aload_n 1, 1) := by decide +kernel
theorem dX5_readProduct_49 : decode cX5_readProduct 49 = .ok (.invokestatic 65, 3) := by decide +kernel
theorem dX5_readProduct_52 : decode cX5_readProduct 52 = .ok (.istore 4, 2) := by decide +kernel
theorem dX5_readProduct_54 : decode cX5_readProduct 54 = .ok (.iinc 5 1, 3) := by decide +kernel
theorem dX5_readProduct_57 : decode cX5_readProduct 57 = .ok (.goto (-41), 3) := by decide +kernel
theorem dX5_readProduct_60 : decode cX5_readProduct 60 = .ok (.iload_n 3, 1) := by decide +kernel
theorem dX5_readProduct_61 : decode cX5_readProduct 61 = .ok (.ireturn, 1) := by decide +kernel
theorem dX5_productSign_0 : decode cX5_productSign 0 = .ok (.aload_n 0, 1) := by decide +kernel
theorem dX5_productSign_1 : decode cX5_productSign 1 = .ok (.bipush 42, 2) := by decide +kernel
theorem dX5_productSign_3 : decode cX5_productSign 3 = .ok (.invokevirtual 55, 3) := by decide +kernel
theorem dX5_productSign_6 : decode cX5_productSign 6 = .ok (.ifCond .eq 7, 3) := by decide +kernel
theorem dX5_productSign_9 : decode cX5_productSign 9 = .ok (.iconst 4, 1) := by decide +kernel
theorem dX5_productSign_10 : decode cX5_productSign 10 = .ok (.goto 31, 3) := by decide +kernel
theorem dX5_productSign_13 : decode cX5_productSign 13 = .ok (.aload_n 0, 1) := by decide +kernel
theorem dX5_productSign_14 : decode cX5_productSign 14 = .ok (.bipush 47, 2) := by decide +kernel
theorem dX5_productSign_16 : decode cX5_productSign 16 = .ok (.invokevirtual 55, 3) := by decide +kernel
theorem dX5_productSign_19 : decode cX5_productSign 19 = .ok (.ifCond .eq 7, 3) := by decide +kernel
theorem dX5_productSign_22 : decode cX5_productSign 22 = .ok (.iconst 5, 1) := by decide +kernel
theorem dX5_productSign_23 : decode cX5_productSign 23 = .ok (.goto 18, 3) := by decide +kernel
theorem dX5_productSign_26 : decode cX5_productSign 26 = .ok (.aload_n 0, 1) := by decide +kernel
theorem dX5_productSign_27 : decode cX5_productSign 27 = .ok (.bipush 37, 2) := by decide +kernel
theorem dX5_productSign_29 : decode cX5_productSign 29 = .ok (.invokevirtual 55, 3) := by decide +kernel
theorem dX5_productSign_32 : decode cX5_productSign 32 = .ok (.ifCond .eq 8, 3) := by decide +kernel
theorem dX5_productSign_35 : decode cX5_productSign 35 = .ok (.bipush 6, 2) := by decide +kernel
theorem dX5_productSign_37 : decode cX5_productSign 37 = .ok (.goto 4, 3) := by decide +kernel
theorem dX5_productSign_40 : decode cX5_productSign 40 = .ok (.iconst (-1), 1) := by decide +kernel
theorem dX5_productSign_41 : decode cX5_productSign 41 = .ok (.ireturn, 1) := by decide +kernel
theorem dX5_readUnit_0 : decode cX5_readUnit 0 = .ok (.aload_n 1, 1) := by decide +kernel
theorem dX5_readUnit_1 : decode cX5_readUnit 1 = .ok (.invokevirtual 69, 3) := by decide +kernel
theorem dX5_readUnit_4 : decode cX5_readUnit 4 = .ok (.ifCond .eq 18, 3) := by decide +kernel
theorem dX5_readUnit_7 : decode cX5_readUnit 7 = .ok (.aload_n 0, 1) := by decide +kernel
theorem dX5_readUnit_8 : decode cX5_readUnit 8 = .ok (.iconst 0, 1) := by decide +kernel
theorem dX5_readUnit_9 : decode cX5_readUnit 9 = .ok (.aload_n 1, 1) := by decide +kernel
theorem dX5_readUnit_10 : decode cX5_readUnit 10 = .ok (.iconst 0, 1) := by decide +kernel
theorem dX5_readUnit_11 : decode cX5_readUnit 11 = .ok (.sipush 999, 3) := by decide +kernel
theorem dX5_readUnit_14 : decode cX5_readUnit 14 = .ok (.invokevirtual 72, 3) := by decide +kernel
theorem dX5_readUnit_17 : decode cX5_readUnit 17 = .ok (.iconst 0, 1) := by decide +kernel
theorem dX5_readUnit_18 : decode cX5_readUnit 18 = .ok (.invokevirtual 31, 3) := by decide +kernel
theorem dX5_readUnit_21 : decode cX5_readUnit 21 = .ok (.ireturn, 1) := by decide +kernel
theorem dX5_readUnit_22 : decode cX5_readUnit 22 = .ok (.aload_n 1, 1) := by decide +kernel
theorem dX5_readUnit_23 : decode cX5_readUnit 23 = .ok (.ldc 76, 2) := by decide +kernel
theorem dX5_readUnit_25 : decode cX5_readUnit 25 = .ok (.invokevirtual 78, 3) := by decide +kernel
theorem dX5_readUnit_28 : decode cX5_readUnit 28 = .ok (.istore_n 3, 1) := by decide +kernel
theorem dX5_readUnit_29 : decode cX5_readUnit 29 = .ok (.iload_n 3, 1) := by decide +kernel
theorem dX5_readUnit_30 : decode cX5_readUnit 30 = .ok (.ifCond .ne 21, 3) := by decide +kernel
theorem dX5_readUnit_33 : decode cX5_readUnit 33 = .ok (.aload_n 1, 1) := by decide +kernel
theorem dX5_readUnit_34 : decode cX5_readUnit 34 = .ok (.ldc 82, 2) := by decide +kernel
theorem dX5_readUnit_36 : decode cX5_readUnit 36 = .ok (.invokevirtual 78, 3) := by decide +kernel
theorem dX5_readUnit_39 : decode cX5_readUnit 39 = .ok (.ifCond .ne 12, 3) := by decide +kernel
theorem dX5_readUnit_42 : decode cX5_readUnit 42 = .ok (.aload_n 1, 1) := by decide +kernel
theorem dX5_readUnit_43 : decode cX5_readUnit 43 = .ok (.bipush 40, 2) := by decide +kernel
theorem dX5_readUnit_45 : decode cX5_readUnit 45 = .ok (.invokevirtual 55, 3) := by decide +kernel
theorem dX5_readUnit_48 : decode cX5_readUnit 48 = .ok (.ifCond .eq 56, 3) := by decide +kernel
theorem dX5_readUnit_51 : decode cX5_readUnit 51 = .ok (.iload_n 2, 1) := by decide +kernel
theorem dX5_readUnit_52 : decode cX5_readUnit 52 = .ok (.bipush 6, 2) := by decide +kernel
theorem dX5_readUnit_54 : decode cX5_readUnit 54 = .ok (.if_icmp .lt 10, 3) := by decide +kernel
theorem dX5_readUnit_57 : decode cX5_readUnit 57 = .ok (.aload_n 1, 1) := by decide +kernel
theorem dX5_readUnit_58 : decode cX5_readUnit 58 = .ok (.iconst 3, 1) := by decide +kernel
theorem dX5_readUnit_59 : decode cX5_readUnit 59 = .ok (.invokevirtual 45, 3) := by decide +kernel
theorem dX5_readUnit_62 : decode cX5_readUnit 62 = .ok (.iconst 0, 1) := by decide +kernel
theorem dX5_readUnit_63 : decode cX5_readUnit 63 = .ok (.ireturn, 1) := by decide +kernel
theorem dX5_readUnit_64 : decode cX5_readUnit 64 = .ok (.aload_n 1, 1) := by decide +kernel
theorem dX5_readUnit_65 : decode cX5_readUnit 65 = .ok (.bipush 40, 2) := by decide +kernel
theorem dX5_readUnit_67 : decode cX5_readUnit 67 = .ok (.invokevirtual 55, 3) := by decide +kernel
theorem dX5_readUnit_70 : decode cX5_readUnit 70 = .ok (.ifCond .eq 14, 3) := by decide +kernel
theorem dX5_readUnit_73 : decode cX5_readUnit 73 = .ok (.aload_n 0, 1) := by decide +kernel
theorem dX5_readUnit_74 : decode cX5_readUnit 74 = .ok (.aload_n 1, 1) := by decide +kernel
theorem dX5_readUnit_75 : decode cX5_readUnit 75 = .ok (.iload_n 2, 1) := by decide +kernel
theorem dX5_readUnit_76 : decode cX5_readUnit 76 = .ok (.iconst 1, 1) := by decide +kernel
theorem dX5_readUnit_77 : decode cX5_readUnit 77 = .ok (.iadd, 1) := by decide +kernel
theorem dX5_readUnit_78 : decode cX5_readUnit 78 = .ok (.invokevirtual 84, 3) := by decide +kernel
theorem dX5_readUnit_81 : decode cX5_readUnit 81 = .ok (.goto 22, 3) := by decide +kernel
theorem dX5_readUnit_84 : decode cX5_readUnit 84 = .ok (.aload_n 0, 1) := by decide +kernel
theorem dX5_readUnit_85 : decode cX5_readUnit 85 = .ok (.aload_n 1, 1) := by decide +kernel
theorem dX5_readUnit_86 : decode cX5_readUnit 86 = .ok (.iload_n 3, 1) := by decide +kernel
theorem dX5_readUnit_87 : decode cX5_readUnit 87 = .ok (.ifCond .eq 8, 3) := by decide +kernel
theorem dX5_readUnit_90 : decode cX5_readUnit 90 = .ok (.bipush 7, 2) := by decide +kernel
theorem dX5_readUnit_92 : decode cX5_readUnit 92 = .ok (.goto 5, 3) := by decide +kernel
theorem dX5_readUnit_95 : decode cX5_readUnit 95 = .ok (.bipush 8, 2) := by decide +kernel
theorem dX5_readUnit_97 : decode cX5_readUnit 97 = .ok (.iload_n 2, 1) := by decide +kernel
theorem dX5_readUnit_98 : decode cX5_readUnit 98 = .ok (.iconst 1, 1) := by decide +kernel
theorem dX5_readUnit_99 : decode cX5_readUnit 99 = .ok (.iadd, 1) := by decide +kernel
theorem dX5_readUnit_100 : decode cX5_readUnit 100 = .ok (.invokevirtual 87, 3) := by decide +kernel
theorem dX5_readUnit_103 : decode cX5_readUnit 103 = .ok (.ireturn, 1) := by decide +kernel
theorem dX5_readUnit_104 : decode cX5_readUnit 104 = .ok (.aload_n 1, 1) := by decide +kernel
theorem dX5_readUnit_105 : decode cX5_readUnit 105 = .ok (.invokestatic 91, 3) := by decide +kernel
theorem dX5_readUnit_108 : decode cX5_readUnit 108 = .ok (.istore 4, 2) := by decide +kernel
theorem dX5_readUnit_110 : decode cX5_readUnit 110 = .ok (.iload 4, 2) := by decide +kernel
theorem dX5_readUnit_112 : decode cX5_readUnit 112 = .ok (.iconst (-1), 1) := by decide +kernel
theorem dX5_readUnit_113 : decode cX5_readUnit 113 = .ok (.if_icmp .ne 10, 3) := by decide +kernel
theorem dX5_readUnit_116 : decode cX5_readUnit 116 = .ok (.aload_n 1, 1) := by decide +kernel
theorem dX5_readUnit_117 : decode cX5_readUnit 117 = .ok (.iconst 1, 1) := by decide +kernel
theorem dX5_readUnit_118 : decode cX5_readUnit 118 = .ok (.invokevirtual 45, 3) := by decide +kernel
theorem dX5_readUnit_121 : decode cX5_readUnit 121 = .ok (.iconst 0, 1) := by decide +kernel
theorem dX5_readUnit_122 : decode cX5_readUnit 122 = .ok (.ireturn, 1) := by decide +kernel
theorem dX5_readUnit_123 : decode cX5_readUnit 123 = .ok (.aload_n 1, 1) := by decide +kernel
theorem dX5_readUnit_124 : decode cX5_readUnit 124 = .ok (.invokevirtual 59, 3) := by decide +kernel
theorem dX5_readUnit_127 : decode cX5_readUnit 127 = .ok (.aload_n 0, 1) := by decide +kernel
theorem dX5_readUnit_128 : decode cX5_readUnit 128 = .ok (.iconst 1, 1) := by decide +kernel
theorem dX5_readUnit_129 : decode cX5_readUnit 129 = .ok (.iload 4, 2) := by decide +kernel
theorem dX5_readUnit_131 : decode cX5_readUnit 131 = .ok (.iconst 0, 1) := by decide +kernel
theorem dX5_readUnit_132 : decode cX5_readUnit 132 = .ok (.invokevirtual 31, 3) := by decide +kernel
theorem dX5_readUnit_135 : decode cX5_readUnit 135 = .ok (.ireturn, 1) := by decide +kernel
theorem dX5_readInner_0 : decode cX5_readInner 0 = .ok (.aload_n 1, 1) := by decide +kernel
theorem dX5_readInner_1 : decode cX5_readInner 1 = .ok (.invokevirtual 59, 3) := by decide +kernel
theorem dX5_readInner_4 : decode cX5_readInner 4 = .ok (.aload_n 0, 1) := by decide +kernel
theorem dX5_readInner_5 : decode cX5_readInner 5 = .ok (.aload_n 1, 1) := by decide +kernel
theorem dX5_readInner_6 : decode cX5_readInner 6 = .ok (.iload_n 2, 1) := by decide +kernel
theorem dX5_readInner_7 : decode cX5_readInner 7 = .ok (.invokevirtual 35, 3) := by decide +kernel
theorem dX5_readInner_10 : decode cX5_readInner 10 = .ok (.istore_n 3, 1) := by decide +kernel
theorem dX5_readInner_11 : decode cX5_readInner 11 = .ok (.aload_n 1, 1) := by decide +kernel
theorem dX5_readInner_12 : decode cX5_readInner 12 = .ok (.bipush 41, 2) := by decide +kernel
theorem dX5_readInner_14 : decode cX5_readInner 14 = .ok (.invokevirtual 94, 3) := by decide +kernel
theorem dX5_readInner_17 : decode cX5_readInner 17 = .ok (.iload_n 3, 1) := by decide +kernel
theorem dX5_readInner_18 : decode cX5_readInner 18 = .ok (.ireturn, 1) := by decide +kernel
theorem dX5_readPair_0 : decode cX5_readPair 0 = .ok (.aload_n 1, 1) := by decide +kernel
theorem dX5_readPair_1 : decode cX5_readPair 1 = .ok (.invokevirtual 59, 3) := by decide +kernel
theorem dX5_readPair_4 : decode cX5_readPair 4 = .ok (.aload_n 1, 1) := by decide +kernel
theorem dX5_readPair_5 : decode cX5_readPair 5 = .ok (.bipush 91, 2) := by decide +kernel
theorem dX5_readPair_7 : decode cX5_readPair 7 = .ok (.invokevirtual 94, 3) := by decide +kernel
theorem dX5_readPair_10 : decode cX5_readPair 10 = .ok (.aload_n 1, 1) := by decide +kernel
theorem dX5_readPair_11 : decode cX5_readPair 11 = .ok (.invokevirtual 49, 3) := by decide +kernel
theorem dX5_readPair_14 : decode cX5_readPair 14 = .ok (.ifCond .eq 5, 3) := by decide +kernel
theorem dX5_readPair_17 : decode cX5_readPair 17 = .ok (.iconst 0, 1) := by decide +kernel
theorem dX5_readPair_18 : decode cX5_readPair 18 = .ok (.ireturn, 1) := by decide +kernel
theorem dX5_readPair_19 : decode cX5_readPair 19 = .ok (.aload_n 0, 1) := by decide +kernel
theorem dX5_readPair_20 : decode cX5_readPair 20 = .ok (.aload_n 1, 1) := by decide +kernel
theorem dX5_readPair_21 : decode cX5_readPair 21 = .ok (.iload_n 3, 1) := by decide +kernel
theorem dX5_readPair_22 : decode cX5_readPair 22 = .ok (.invokevirtual 35, 3) := by decide +kernel
theorem dX5_readPair_25 : decode cX5_readPair 25 = .ok (.istore 4, 2) := by decide +kernel
theorem dX5_readPair_27 : decode cX5_readPair 27 = .ok (.aload_n 1, 1) := by decide +kernel
theorem dX5_readPair_28 : decode cX5_readPair 28 = .ok (.bipush 44, 2) := by decide +kernel
theorem dX5_readPair_30 : decode cX5_readPair 30 = .ok (.invokevirtual 94, 3) := by decide +kernel
theorem dX5_readPair_33 : decode cX5_readPair 33 = .ok (.aload_n 1, 1) := by decide +kernel
theorem dX5_readPair_34 : decode cX5_readPair 34 = .ok (.invokevirtual 49, 3) := by decide +kernel
theorem dX5_readPair_37 : decode cX5_readPair 37 = .ok (.ifCond .eq 5, 3) := by decide +kernel
theorem dX5_readPair_40 : decode cX5_readPair 40 = .ok (.iconst 0, 1) := by decide +kernel
theorem dX5_readPair_41 : decode cX5_readPair 41 = .ok (.ireturn, 1) := by decide +kernel
theorem dX5_readPair_42 : decode cX5_readPair 42 = .ok (.aload_n 0, 1) := by decide +kernel
theorem dX5_readPair_43 : decode cX5_readPair 43 = .ok (.aload_n 1, 1) := by decide +kernel
theorem dX5_readPair_44 : decode cX5_readPair 44 = .ok (.iload_n 3, 1) := by decide +kernel
theorem dX5_readPair_45 : decode cX5_readPair 45 = .ok (.invokevirtual 35, 3) := by decide +kernel
theorem dX5_readPair_48 : decode cX5_readPair 48 = .ok (.istore 5, 2) := by decide +kernel
theorem dX5_readPair_50 : decode cX5_readPair 50 = .ok (.aload_n 1, 1) := by decide +kernel
theorem dX5_readPair_51 : decode cX5_readPair 51 = .ok (.bipush 93, 2) := by decide +kernel
theorem dX5_readPair_53 : decode cX5_readPair 53 = .ok (.invokevirtual 94, 3) := by decide +kernel
theorem dX5_readPair_56 : decode cX5_readPair 56 = .ok (.aload_n 0, 1) := by decide +kernel
theorem dX5_readPair_57 : decode cX5_readPair 57 = .ok (.iload_n 2, 1) := by decide +kernel
theorem dX5_readPair_58 : decode cX5_readPair 58 = .ok (.iload 4, 2) := by decide +kernel
theorem dX5_readPair_60 : decode cX5_readPair 60 = .ok (.iload 5, 2) := by decide +kernel
theorem dX5_readPair_62 : decode cX5_readPair 62 = .ok (.invokevirtual 31, 3) := by decide +kernel
theorem dX5_readPair_65 : decode cX5_readPair 65 = .ok (.ireturn, 1) := by decide +kernel
theorem dX5_factOf_0 : decode cX5_factOf 0 = .ok (.aload_n 0, 1) := by decide +kernel
theorem dX5_factOf_1 : decode cX5_factOf 1 = .ok (.ldc 98, 2) := by decide +kernel
theorem dX5_factOf_3 : decode cX5_factOf 3 = .ok (.invokevirtual 78, 3) := by decide +kernel
theorem dX5_factOf_6 : decode cX5_factOf 6 = .ok (.ifCond .eq 5, 3) := by decide +kernel
theorem dX5_factOf_9 : decode cX5_factOf 9 = .ok (.iconst 0, 1) := by decide +kernel
theorem dX5_factOf_10 : decode cX5_factOf 10 = .ok (.ireturn, 1) := by decide +kernel
theorem dX5_factOf_11 : decode cX5_factOf 11 = .ok (.aload_n 0, 1) := by decide +kernel
theorem dX5_factOf_12 : decode cX5_factOf 12 = .ok (.ldc 100, 2) := by decide +kernel
theorem dX5_factOf_14 : decode cX5_factOf 14 = .ok (.invokevirtual 78, 3) := by decide +kernel
theorem dX5_factOf_17 : decode cX5_factOf 17 = .ok (.ifCond .eq 5, 3) := by decide +kernel
theorem dX5_factOf_20 : decode cX5_factOf 20 = .ok (.iconst 1, 1) := by decide +kernel
theorem dX5_factOf_21 : decode cX5_factOf 21 = .ok (.ireturn, 1) := by decide +kernel
theorem dX5_factOf_22 : decode cX5_factOf 22 = .ok (.aload_n 0, 1) := by decide +kernel
theorem dX5_factOf_23 : decode cX5_factOf 23 = .ok (.ldc 102, 2) := by decide +kernel
theorem dX5_factOf_25 : decode cX5_factOf 25 = .ok (.invokevirtual 78, 3) := by decide +kernel
theorem dX5_factOf_28 : decode cX5_factOf 28 = .ok (.ifCond .eq 5, 3) := by decide +kernel
theorem dX5_factOf_31 : decode cX5_factOf 31 = .ok (.iconst 2, 1) := by decide +kernel
theorem dX5_factOf_32 : decode cX5_factOf 32 = .ok (.ireturn, 1) := by decide +kernel
theorem dX5_factOf_33 : decode cX5_factOf 33 = .ok (.aload_n 0, 1) := by decide +kernel
