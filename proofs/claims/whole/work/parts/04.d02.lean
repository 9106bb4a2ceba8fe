theorem dX2_readClause_10 : decode cX2_readClause 10 = .ok (.aload_n 1, 1) := by decide +kernel
theorem dX2_readClause_11 : decode cX2_readClause 11 = .ok (.iload_n 2, 1) := by decide +kernel
theorem dX2_readClause_12 : decode cX2_readClause 12 = .ok (.invokevirtual 63, 3) := by decide +kernel
theorem dX2_readClause_15 : decode cX2_readClause 15 = .ok (.goto 62, 3) := by decide +kernel
theorem dX2_readClause_18 : decode cX2_readClause 18 = .ok (.aload_n 1, 1) := by decide +kernel
theorem dX2_readClause_19 : decode cX2_readClause 19 = .ok (.ldc 66, 2) := by decide +kernel
theorem dX2_readClause_21 : decode cX2_readClause 21 = .ok (.invokevirtual 59, 3) := by decide +kernel
theorem dX2_readClause_24 : decode cX2_readClause 24 = .ok (.ifCond .eq 12, 3) := by decide +kernel
theorem dX2_readClause_27 : decode cX2_readClause 27 = .ok (.aload_n 0, 1) := by decide +kernel
theorem dX2_readClause_28 : decode cX2_readClause 28 = .ok (.aload_n 1, 1) := by decide +kernel
theorem dX2_readClause_29 : decode cX2_readClause 29 = .ok (.iload_n 2, 1) := by decide +kernel
theorem dX2_readClause_30 : decode cX2_readClause 30 = .ok (.invokevirtual 68, 3) := by decide +kernel
theorem dX2_readClause_33 : decode cX2_readClause 33 = .ok (.goto 44, 3) := by decide +kernel
theorem dX2_readClause_36 : decode cX2_readClause 36 = .ok (.aload_n 1, 1) := by decide +kernel
theorem dX2_readClause_37 : decode cX2_readClause 37 = .ok (.ldc 71, 2) := by decide +kernel
theorem dX2_readClause_39 : decode cX2_readClause 39 = .ok (.invokevirtual 59, 3) := by decide +kernel
theorem dX2_readClause_42 : decode cX2_readClause 42 = .ok (.ifCond .eq 12, 3) := by decide +kernel
theorem dX2_readClause_45 : decode cX2_readClause 45 = .ok (.aload_n 0, 1) := by decide +kernel
theorem dX2_readClause_46 : decode cX2_readClause 46 = .ok (.aload_n 1, 1) := by decide +kernel
theorem dX2_readClause_47 : decode cX2_readClause 47 = .ok (.iload_n 2, 1) := by decide +kernel
theorem dX2_readClause_48 : decode cX2_readClause 48 = .ok (.invokevirtual 73, 3) := by decide +kernel
theorem dX2_readClause_51 : decode cX2_readClause 51 = .ok (.goto 26, 3) := by decide +kernel
theorem dX2_readClause_54 : decode cX2_readClause 54 = .ok (.aload_n 1, 1) := by decide +kernel
theorem dX2_readClause_55 : decode cX2_readClause 55 = .ok (.ldc 76, 2) := by decide +kernel
theorem dX2_readClause_57 : decode cX2_readClause 57 = .ok (.invokevirtual 59, 3) := by decide +kernel
theorem dX2_readClause_60 : decode cX2_readClause 60 = .ok (.ifCond .eq 12, 3) := by decide +kernel
theorem dX2_readClause_63 : decode cX2_readClause 63 = .ok (.aload_n 0, 1) := by decide +kernel
theorem dX2_readClause_64 : decode cX2_readClause 64 = .ok (.aload_n 1, 1) := by decide +kernel
theorem dX2_readClause_65 : decode cX2_readClause 65 = .ok (.iload_n 2, 1) := by decide +kernel
theorem dX2_readClause_66 : decode cX2_readClause 66 = .ok (.invokevirtual 77, 3) := by decide +kernel
theorem dX2_readClause_69 : decode cX2_readClause 69 = .ok (.goto 8, 3) := by decide +kernel
theorem dX2_readClause_72 : decode cX2_readClause 72 = .ok (.aload_n 1, 1) := by decide +kernel
theorem dX2_readClause_73 : decode cX2_readClause 73 = .ok (.iconst 1, 1) := by decide +kernel
theorem dX2_readClause_74 : decode cX2_readClause 74 = .ok (.invokevirtual 80, 3) := by decide +kernel
theorem dX2_readClause_77 : decode cX2_readClause 77 = .ok (.return_, 1) := by decide +kernel
theorem dX2_readHat_0 : decode cX2_readHat 0 = .ok (.iload_n 2, 1) := by decide +kernel
theorem dX2_readHat_1 : decode cX2_readHat 1 = .ok (.ifCond .ne 12, 3) := by decide +kernel
theorem dX2_readHat_4 : decode cX2_readHat 4 = .ok (.aload_n 0, 1) := by decide +kernel
theorem dX2_readHat_5 : decode cX2_readHat 5 = .ok (.getfield 30, 3) := by decide +kernel
theorem dX2_readHat_8 : decode cX2_readHat 8 = .ok (.bipush 8, 2) := by decide +kernel
theorem dX2_readHat_10 : decode cX2_readHat 10 = .ok (.if_icmp .lt 9, 3) := by decide +kernel
theorem dX2_readHat_13 : decode cX2_readHat 13 = .ok (.aload_n 1, 1) := by decide +kernel
theorem dX2_readHat_14 : decode cX2_readHat 14 = .ok (.iconst 3, 1) := by decide +kernel
theorem dX2_readHat_15 : decode cX2_readHat 15 = .ok (.invokevirtual 80, 3) := by decide +kernel
theorem dX2_readHat_18 : decode cX2_readHat 18 = .ok (.return_, 1) := by decide +kernel
theorem dX2_readHat_19 : decode cX2_readHat 19 = .ok (.aload_n 1, 1) := by decide +kernel
theorem dX2_readHat_20 : decode cX2_readHat 20 = .ok (.invokevirtual 84, 3) := by decide +kernel
theorem dX2_readHat_23 : decode cX2_readHat 23 = .ok (.aload_n 0, 1) := by decide +kernel
theorem dX2_readHat_24 : decode cX2_readHat 24 = .ok (.getfield 9, 3) := by decide +kernel
theorem dX2_readHat_27 : decode cX2_readHat 27 = .ok (.aload_n 0, 1) := by decide +kernel
theorem dX2_readHat_28 : decode cX2_readHat 28 = .ok (.getfield 30, 3) := by decide +kernel
theorem dX2_readHat_31 : decode cX2_readHat 31 = .ok (.aload_n 1, 1) := by decide +kernel
theorem dX2_readHat_32 : decode cX2_readHat 32 = .ok (.iconst 1, 1) := by decide +kernel
theorem dX2_readHat_33 : decode cX2_readHat 33 = .ok (.bipush 12, 2) := by decide +kernel
theorem dX2_readHat_35 : decode cX2_readHat 35 = .ok (.invokevirtual 87, 3) := by decide +kernel
theorem dX2_readHat_38 : decode cX2_readHat 38 = .ok (.iastore, 1) := by decide +kernel
theorem dX2_readHat_39 : decode cX2_readHat 39 = .ok (.aload_n 0, 1) := by decide +kernel
theorem dX2_readHat_40 : decode cX2_readHat 40 = .ok (.getfield 15, 3) := by decide +kernel
theorem dX2_readHat_43 : decode cX2_readHat 43 = .ok (.aload_n 0, 1) := by decide +kernel
theorem dX2_readHat_44 : decode cX2_readHat 44 = .ok (.getfield 30, 3) := by decide +kernel
theorem dX2_readHat_47 : decode cX2_readHat 47 = .ok (.aload_n 1, 1) := by decide +kernel
theorem dX2_readHat_48 : decode cX2_readHat 48 = .ok (.iconst 0, 1) := by decide +kernel
theorem dX2_readHat_49 : decode cX2_readHat 49 = .ok (.bipush 7, 2) := by decide +kernel
theorem dX2_readHat_51 : decode cX2_readHat 51 = .ok (.invokevirtual 87, 3) := by decide +kernel
theorem dX2_readHat_54 : decode cX2_readHat 54 = .ok (.iastore, 1) := by decide +kernel
theorem dX2_readHat_55 : decode cX2_readHat 55 = .ok (.aload_n 0, 1) := by decide +kernel
theorem dX2_readHat_56 : decode cX2_readHat 56 = .ok (.dup, 1) := by decide +kernel
theorem dX2_readHat_57 : decode cX2_readHat 57 = .ok (.getfield 30, 3) := by decide +kernel
theorem dX2_readHat_60 : decode cX2_readHat 60 = .ok (.iconst 1, 1) := by decide +kernel
theorem dX2_readHat_61 : decode cX2_readHat 61 = .ok (.iadd, 1) := by decide +kernel
theorem dX2_readHat_62 : decode cX2_readHat 62 = .ok (.putfield 30, 3) := by decide +kernel
theorem dX2_readHat_65 : decode cX2_readHat 65 = .ok (.return_, 1) := by decide +kernel
theorem dX2_readGround_0 : decode cX2_readGround 0 = .ok (.iload_n 2, 1) := by decide +kernel
theorem dX2_readGround_1 : decode cX2_readGround 1 = .ok (.ifCond .ne 12, 3) := by decide +kernel
theorem dX2_readGround_4 : decode cX2_readGround 4 = .ok (.aload_n 0, 1) := by decide +kernel
theorem dX2_readGround_5 : decode cX2_readGround 5 = .ok (.getfield 34, 3) := by decide +kernel
theorem dX2_readGround_8 : decode cX2_readGround 8 = .ok (.bipush 6, 2) := by decide +kernel
theorem dX2_readGround_10 : decode cX2_readGround 10 = .ok (.if_icmp .lt 9, 3) := by decide +kernel
theorem dX2_readGround_13 : decode cX2_readGround 13 = .ok (.aload_n 1, 1) := by decide +kernel
theorem dX2_readGround_14 : decode cX2_readGround 14 = .ok (.iconst 3, 1) := by decide +kernel
theorem dX2_readGround_15 : decode cX2_readGround 15 = .ok (.invokevirtual 80, 3) := by decide +kernel
theorem dX2_readGround_18 : decode cX2_readGround 18 = .ok (.return_, 1) := by decide +kernel
theorem dX2_readGround_19 : decode cX2_readGround 19 = .ok (.aload_n 1, 1) := by decide +kernel
theorem dX2_readGround_20 : decode cX2_readGround 20 = .ok (.invokevirtual 84, 3) := by decide +kernel
theorem dX2_readGround_23 : decode cX2_readGround 23 = .ok (.aload_n 0, 1) := by decide +kernel
theorem dX2_readGround_24 : decode cX2_readGround 24 = .ok (.getfield 18, 3) := by decide +kernel
theorem dX2_readGround_27 : decode cX2_readGround 27 = .ok (.aload_n 0, 1) := by decide +kernel
theorem dX2_readGround_28 : decode cX2_readGround 28 = .ok (.getfield 34, 3) := by decide +kernel
theorem dX2_readGround_31 : decode cX2_readGround 31 = .ok (.aload_n 1, 1) := by decide +kernel
theorem dX2_readGround_32 : decode cX2_readGround 32 = .ok (.iconst 0, 1) := by decide +kernel
theorem dX2_readGround_33 : decode cX2_readGround 33 = .ok (.sipush 999, 3) := by decide +kernel
theorem dX2_readGround_36 : decode cX2_readGround 36 = .ok (.invokevirtual 87, 3) := by decide +kernel
theorem dX2_readGround_39 : decode cX2_readGround 39 = .ok (.iastore, 1) := by decide +kernel
theorem dX2_readGround_40 : decode cX2_readGround 40 = .ok (.aload_n 0, 1) := by decide +kernel
theorem dX2_readGround_41 : decode cX2_readGround 41 = .ok (.getfield 21, 3) := by decide +kernel
theorem dX2_readGround_44 : decode cX2_readGround 44 = .ok (.aload_n 0, 1) := by decide +kernel
theorem dX2_readGround_45 : decode cX2_readGround 45 = .ok (.getfield 34, 3) := by decide +kernel
theorem dX2_readGround_48 : decode cX2_readGround 48 = .ok (.aload_n 1, 1) := by decide +kernel
theorem dX2_readGround_49 : decode cX2_readGround 49 = .ok (.iconst 0, 1) := by decide +kernel
theorem dX2_readGround_50 : decode cX2_readGround 50 = .ok (.bipush 7, 2) := by decide +kernel
theorem dX2_readGround_52 : decode cX2_readGround 52 = .ok (.invokevirtual 87, 3) := by decide +kernel
theorem dX2_readGround_55 : decode cX2_readGround 55 = .ok (.iastore, 1) := by decide +kernel
theorem dX2_readGround_56 : decode cX2_readGround 56 = .ok (.aload_n 0, 1) := by decide +kernel
theorem dX2_readGround_57 : decode cX2_readGround 57 = .ok (.dup, 1) := by decide +kernel
theorem dX2_readGround_58 : decode cX2_readGround 58 = .ok (.getfield 34, 3) := by decide +kernel
theorem dX2_readGround_61 : decode cX2_readGround 61 = .ok (.iconst 1, 1) := by decide +kernel
theorem dX2_readGround_62 : decode cX2_readGround 62 = .ok (.iadd, 1) := by decide +kernel
theorem dX2_readGround_63 : decode cX2_readGround 63 = .ok (.putfield 34, 3) := by decide +kernel
theorem dX2_readGround_66 : decode cX2_readGround 66 = .ok (.return_, 1) := by decide +kernel
theorem dX2_readMan_0 : decode cX2_readMan 0 = .ok (.iload_n 2, 1) := by decide +kernel
theorem dX2_readMan_1 : decode cX2_readMan 1 = .ok (.ifCond .ne 12, 3) := by decide +kernel
theorem dX2_readMan_4 : decode cX2_readMan 4 = .ok (.aload_n 0, 1) := by decide +kernel
theorem dX2_readMan_5 : decode cX2_readMan 5 = .ok (.getfield 37, 3) := by decide +kernel
theorem dX2_readMan_8 : decode cX2_readMan 8 = .ok (.bipush 6, 2) := by decide +kernel
theorem dX2_readMan_10 : decode cX2_readMan 10 = .ok (.if_icmp .lt 9, 3) := by decide +kernel
theorem dX2_readMan_13 : decode cX2_readMan 13 = .ok (.aload_n 1, 1) := by decide +kernel
theorem dX2_readMan_14 : decode cX2_readMan 14 = .ok (.iconst 3, 1) := by decide +kernel
theorem dX2_readMan_15 : decode cX2_readMan 15 = .ok (.invokevirtual 80, 3) := by decide +kernel
theorem dX2_readMan_18 : decode cX2_readMan 18 = .ok (.return_, 1) := by decide +kernel
theorem dX2_readMan_19 : decode cX2_readMan 19 = .ok (.aload_n 1, 1) := by decide +kernel
theorem dX2_readMan_20 : decode cX2_readMan 20 = .ok (.invokevirtual 84, 3) := by decide +kernel
theorem dX2_readMan_23 : decode cX2_readMan 23 = .ok (.aload_n 0, 1) := by decide +kernel
theorem dX2_readMan_24 : decode cX2_readMan 24 = .ok (.getfield 24, 3) := by decide +kernel
theorem dX2_readMan_27 : decode cX2_readMan 27 = .ok (.aload_n 0, 1) := by decide +kernel
theorem dX2_readMan_28 : decode cX2_readMan 28 = .ok (.getfield 37, 3) := by decide +kernel
theorem dX2_readMan_31 : decode cX2_readMan 31 = .ok (.aload_n 1, 1) := by decide +kernel
theorem dX2_readMan_32 : decode cX2_readMan 32 = .ok (.iconst 1, 1) := by decide +kernel
theorem dX2_readMan_33 : decode cX2_readMan 33 = .ok (.bipush 99, 2) := by decide +kernel
theorem dX2_readMan_35 : decode cX2_readMan 35 = .ok (.invokevirtual 87, 3) := by decide +kernel
theorem dX2_readMan_38 : decode cX2_readMan 38 = .ok (.iastore, 1) := by decide +kernel
theorem dX2_readMan_39 : decode cX2_readMan 39 = .ok (.aload_n 0, 1) := by decide +kernel
theorem dX2_readMan_40 : decode cX2_readMan 40 = .ok (.getfield 27, 3) := by decide +kernel
theorem dX2_readMan_43 : decode cX2_readMan 43 = .ok (.aload_n 0, 1) := by decide +kernel
theorem dX2_readMan_44 : decode cX2_readMan 44 = .ok (.getfield 37, 3) := by decide +kernel
theorem dX2_readMan_47 : decode cX2_readMan 47 = .ok (.iconst (-1), 1) := by decide +kernel
theorem dX2_readMan_48 : decode cX2_readMan 48 = .ok (.iastore, 1) := by decide +kernel
theorem dX2_readMan_49 : decode cX2_readMan 49 = .ok (.aload_n 0, 1) := by decide +kernel
theorem dX2_readMan_50 : decode cX2_readMan 50 = .ok (.dup, 1) := by decide +kernel
theorem dX2_readMan_51 : decode cX2_readMan 51 = .ok (.getfield 37, 3) := by decide +kernel
theorem dX2_readMan_54 : decode cX2_readMan 54 = .ok (.iconst 1, 1) := by decide +kernel
theorem dX2_readMan_55 : decode cX2_readMan 55 = .ok (.iadd, 1) := by decide +kernel
theorem dX2_readMan_56 : decode cX2_readMan 56 = .ok (.putfield 37, 3) := by decide +kernel
theorem dX2_readMan_59 : decode cX2_readMan 59 = .ok (.return_, 1) := by decide +kernel
theorem dX2_readHeir_0 : decode cX2_readHeir 0 = .ok (.iload_n 2, 1) := by decide +kernel
theorem dX2_readHeir_1 : decode cX2_readHeir 1 = .ok (.ifCond .eq 9, 3) := by decide +kernel
theorem dX2_readHeir_4 : decode cX2_readHeir 4 = .ok (.aload_n 1, 1) := by decide +kernel
theorem dX2_readHeir_5 : decode cX2_readHeir 5 = .ok (.iconst 3, 1) := by decide +kernel
theorem dX2_readHeir_6 : decode cX2_readHeir 6 = .ok (.invokevirtual 80, 3) := by decide +kernel
theorem dX2_readHeir_9 : decode cX2_readHeir 9 = .ok (.return_, 1) := by decide +kernel
theorem dX2_readHeir_10 : decode cX2_readHeir 10 = .ok (.aload_n 1, 1) := by decide +kernel
theorem dX2_readHeir_11 : decode cX2_readHeir 11 = .ok (.invokevirtual 84, 3) := by decide +kernel
theorem dX2_readHeir_14 : decode cX2_readHeir 14 = .ok (.aload_n 1, 1) := by decide +kernel
theorem dX2_readHeir_15 : decode cX2_readHeir 15 = .ok (.iconst 0, 1) := by decide +kernel
theorem dX2_readHeir_16 : decode cX2_readHeir 16 = .ok (.aload_n 0, 1) := by decide +kernel
theorem dX2_readHeir_17 : decode cX2_readHeir 17 = .ok (.getfield 37, 3) := by decide +kernel
theorem dX2_readHeir_20 : decode cX2_readHeir 20 = .ok (.iconst 1, 1) := by decide +kernel
theorem dX2_readHeir_21 : decode cX2_readHeir 21 = .ok (.isub, 1) := by decide +kernel
theorem dX2_readHeir_22 : decode cX2_readHeir 22 = .ok (.invokevirtual 87, 3) := by decide +kernel
theorem dX2_readHeir_25 : decode cX2_readHeir 25 = .ok (.istore_n 3, 1) := by decide +kernel
theorem dX2_readHeir_26 : decode cX2_readHeir 26 = .ok (.aload_n 1, 1) := by decide +kernel
theorem dX2_readHeir_27 : decode cX2_readHeir 27 = .ok (.iconst 0, 1) := by decide +kernel
theorem dX2_readHeir_28 : decode cX2_readHeir 28 = .ok (.aload_n 0, 1) := by decide +kernel
theorem dX2_readHeir_29 : decode cX2_readHeir 29 = .ok (.getfield 37, 3) := by decide +kernel
theorem dX2_readHeir_32 : decode cX2_readHeir 32 = .ok (.iconst 1, 1) := by decide +kernel
theorem dX2_readHeir_33 : decode cX2_readHeir 33 = .ok (.isub, 1) := by decide +kernel
theorem dX2_readHeir_34 : decode cX2_readHeir 34 = .ok (.invokevirtual 87, 3) := by decide +kernel
theorem dX2_readHeir_37 : decode cX2_readHeir 37 = .ok (.istore 4, 2) := by decide +kernel
theorem dX2_readHeir_39 : decode cX2_readHeir 39 = .ok (.aload_n 1, 1) := by decide +kernel
theorem dX2_readHeir_40 : decode cX2_readHeir 40 = .ok (.invokevirtual 46, 3) := by decide +kernel
theorem dX2_readHeir_43 : decode cX2_readHeir 43 = .ok (.ifCond .ne 11, 3) := by decide +kernel
theorem dX2_readHeir_46 : decode cX2_readHeir 46 = .ok (.aload_n 0, 1) := by decide +kernel
theorem dX2_readHeir_47 : decode cX2_readHeir 47 = .ok (.getfield 27, 3) := by decide +kernel
theorem dX2_readHeir_50 : decode cX2_readHeir 50 = .ok (.iload_n 3, 1) := by decide +kernel
theorem dX2_readHeir_51 : decode cX2_readHeir 51 = .ok (.iload 4, 2) := by decide +kernel
theorem dX2_readHeir_53 : decode cX2_readHeir 53 = .ok (.iastore, 1) := by decide +kernel
theorem dX2_readHeir_54 : decode cX2_readHeir 54 = .ok (.return_, 1) := by decide +kernel
theorem dX2_hatsFrom_0 : decode cX2_hatsFrom 0 = .ok (.iconst 0, 1) := by decide +kernel
theorem dX2_hatsFrom_1 : decode cX2_hatsFrom 1 = .ok (.istore_n 2, 1) := by decide +kernel
theorem dX2_hatsFrom_2 : decode cX2_hatsFrom 2 = .ok (.iconst 0, 1) := by decide +kernel
theorem dX2_hatsFrom_3 : decode cX2_hatsFrom 3 = .ok (.istore_n 3, 1) := by decide +kernel
theorem dX2_hatsFrom_4 : decode cX2_hatsFrom 4 = .ok (.iload_n 3, 1) := by decide +kernel
theorem dX2_hatsFrom_5 : decode cX2_hatsFrom 5 = .ok (.aload_n 0, 1) := by decide +kernel
theorem dX2_hatsFrom_6 : decode cX2_hatsFrom 6 = .ok (.getfield 30, 3) := by decide +kernel
theorem dX2_hatsFrom_9 : decode cX2_hatsFrom 9 = .ok (.if_icmp .ge 29, 3) := by decide +kernel
theorem dX2_hatsFrom_12 : decode cX2_hatsFrom 12 = .ok (.iload_n 2, 1) := by decide +kernel
theorem dX2_hatsFrom_13 : decode cX2_hatsFrom 13 = .ok (.aload_n 0, 1) := by decide +kernel
theorem dX2_hatsFrom_14 : decode cX2_hatsFrom 14 = .ok (.getfield 15, 3) := by decide +kernel
theorem dX2_hatsFrom_17 : decode cX2_hatsFrom 17 = .ok (.iload_n 3, 1) := by decide +kernel
theorem dX2_hatsFrom_18 : decode cX2_hatsFrom 18 = .ok (.iaload, 1) := by decide +kernel
theorem dX2_hatsFrom_19 : decode cX2_hatsFrom 19 = .ok (.iload_n 1, 1) := by decide +kernel
theorem dX2_hatsFrom_20 : decode cX2_hatsFrom 20 = .ok (.if_icmp .ne 9, 3) := by decide +kernel
theorem dX2_hatsFrom_23 : decode cX2_hatsFrom 23 = .ok (.iconst 1, 1) := by decide +kernel
theorem dX2_hatsFrom_24 : decode cX2_hatsFrom 24 = .ok (.iload_n 3, 1) := by decide +kernel
theorem dX2_hatsFrom_25 : decode cX2_hatsFrom 25 = .ok (.ishl, 1) := by decide +kernel
theorem dX2_hatsFrom_26 : decode cX2_hatsFrom 26 = .ok (.goto 4, 3) := by decide +kernel
theorem dX2_hatsFrom_29 : decode cX2_hatsFrom 29 = .ok (.iconst 0, 1) := by decide +kernel
theorem dX2_hatsFrom_30 : decode cX2_hatsFrom 30 = .ok (.ior, 1) := by decide +kernel
theorem dX2_hatsFrom_31 : decode cX2_hatsFrom 31 = .ok (.istore_n 2, 1) := by decide +kernel
theorem dX2_hatsFrom_32 : decode cX2_hatsFrom 32 = .ok (.iinc 3 1, 3) := by decide +kernel
theorem dX2_hatsFrom_35 : decode cX2_hatsFrom 35 = .ok (.goto (-31), 3) := by decide +kernel
theorem dX2_hatsFrom_38 : decode cX2_hatsFrom 38 = .ok (.iload_n 2, 1) := by decide +kernel
theorem dX2_hatsFrom_39 : decode cX2_hatsFrom 39 = .ok (.ireturn, 1) := by decide +kernel
theorem dX2_angleOf_0 : decode cX2_angleOf 0 = .ok (.aload_n 0, 1) := by decide +kernel
theorem dX2_angleOf_1 : decode cX2_angleOf 1 = .ok (.getfield 15, 3) := by decide +kernel
theorem dX2_angleOf_4 : decode cX2_angleOf 4 = .ok (.iload_n 1, 1) := by decide +kernel
theorem dX2_angleOf_5 : decode cX2_angleOf 5 = .ok (.iaload, 1) := by decide +kernel
theorem dX2_angleOf_6 : decode cX2_angleOf 6 = .ok (.aload_n 0, 1) := by decide +kernel
theorem dX2_angleOf_7 : decode cX2_angleOf 7 = .ok (.getfield 21, 3) := by decide +kernel
theorem dX2_angleOf_10 : decode cX2_angleOf 10 = .ok (.iload_n 2, 1) := by decide +kernel
theorem dX2_angleOf_11 : decode cX2_angleOf 11 = .ok (.iaload, 1) := by decide +kernel
theorem dX2_angleOf_12 : decode cX2_angleOf 12 = .ok (.isub, 1) := by decide +kernel
theorem dX2_angleOf_13 : decode cX2_angleOf 13 = .ok (.bipush 7, 2) := by decide +kernel
theorem dX2_angleOf_15 : decode cX2_angleOf 15 = .ok (.iand, 1) := by decide +kernel
theorem dX2_angleOf_16 : decode cX2_angleOf 16 = .ok (.istore_n 3, 1) := by decide +kernel
theorem dX2_angleOf_17 : decode cX2_angleOf 17 = .ok (.iload_n 3, 1) := by decide +kernel
theorem dX2_angleOf_18 : decode cX2_angleOf 18 = .ok (.iconst 4, 1) := by decide +kernel
theorem dX2_angleOf_19 : decode cX2_angleOf 19 = .ok (.if_icmp .gt 7, 3) := by decide +kernel
theorem dX2_angleOf_22 : decode cX2_angleOf 22 = .ok (.iload_n 3, 1) := by decide +kernel
theorem dX2_angleOf_23 : decode cX2_angleOf 23 = .ok (.goto 7, 3) := by decide +kernel
theorem dX2_angleOf_26 : decode cX2_angleOf 26 = .ok (.bipush 8, 2) := by decide +kernel
theorem dX2_angleOf_28 : decode cX2_angleOf 28 = .ok (.iload_n 3, 1) := by decide +kernel
theorem dX2_angleOf_29 : decode cX2_angleOf 29 = .ok (.isub, 1) := by decide +kernel
theorem dX2_angleOf_30 : decode cX2_angleOf 30 = .ok (.ireturn, 1) := by decide +kernel
theorem dX2_heirAfter_0 : decode cX2_heirAfter 0 = .ok (.iload_n 2, 1) := by decide +kernel
theorem dX2_heirAfter_1 : decode cX2_heirAfter 1 = .ok (.bipush 6, 2) := by decide +kernel
theorem dX2_heirAfter_3 : decode cX2_heirAfter 3 = .ok (.if_icmp .ge 7, 3) := by decide +kernel
theorem dX2_heirAfter_6 : decode cX2_heirAfter 6 = .ok (.iload_n 2, 1) := by decide +kernel
theorem dX2_heirAfter_7 : decode cX2_heirAfter 7 = .ok (.goto 13, 3) := by decide +kernel
theorem dX2_heirAfter_10 : decode cX2_heirAfter 10 = .ok (.bipush 6, 2) := by decide +kernel
theorem dX2_heirAfter_12 : decode cX2_heirAfter 12 = .ok (.iload_n 2, 1) := by decide +kernel
theorem dX2_heirAfter_13 : decode cX2_heirAfter 13 = .ok (.bipush 6, 2) := by decide +kernel
theorem dX2_heirAfter_15 : decode cX2_heirAfter 15 = .ok (.isub, 1) := by decide +kernel
theorem dX2_heirAfter_16 : decode cX2_heirAfter 16 = .ok (.bipush 60, 2) := by decide +kernel
theorem dX2_heirAfter_18 : decode cX2_heirAfter 18 = .ok (.irem, 1) := by decide +kernel
theorem dX2_heirAfter_19 : decode cX2_heirAfter 19 = .ok (.iadd, 1) := by decide +kernel
theorem dX2_heirAfter_20 : decode cX2_heirAfter 20 = .ok (.istore_n 3, 1) := by decide +kernel
theorem dX2_heirAfter_21 : decode cX2_heirAfter 21 = .ok (.iload_n 1, 1) := by decide +kernel
theorem dX2_heirAfter_22 : decode cX2_heirAfter 22 = .ok (.istore 4, 2) := by decide +kernel
theorem dX2_heirAfter_24 : decode cX2_heirAfter 24 = .ok (.iconst 0, 1) := by decide +kernel
theorem dX2_heirAfter_25 : decode cX2_heirAfter 25 = .ok (.istore 5, 2) := by decide +kernel
theorem dX2_heirAfter_27 : decode cX2_heirAfter 27 = .ok (.iload 5, 2) := by decide +kernel
theorem dX2_heirAfter_29 : decode cX2_heirAfter 29 = .ok (.iload_n 3, 1) := by decide +kernel
theorem dX2_heirAfter_30 : decode cX2_heirAfter 30 = .ok (.if_icmp .ge 24, 3) := by decide +kernel
theorem dX2_heirAfter_33 : decode cX2_heirAfter 33 = .ok (.iload 4, 2) := by decide +kernel
theorem dX2_heirAfter_35 : decode cX2_heirAfter 35 = .ok (.iconst (-1), 1) := by decide +kernel
theorem dX2_heirAfter_36 : decode cX2_heirAfter 36 = .ok (.if_icmp .eq 18, 3) := by decide +kernel
theorem dX2_heirAfter_39 : decode cX2_heirAfter 39 = .ok (.aload_n 0, 1) := by decide +kernel
theorem dX2_heirAfter_40 : decode cX2_heirAfter 40 = .ok (.getfield 27, 3) := by decide +kernel
theorem dX2_heirAfter_43 : decode cX2_heirAfter 43 = .ok (.iload 4, 2) := by decide +kernel
theorem dX2_heirAfter_45 : decode cX2_heirAfter 45 = .ok (.iaload, 1) := by decide +kernel
theorem dX2_heirAfter_46 : decode cX2_heirAfter 46 = .ok (.istore 4, 2) := by decide +kernel
theorem dX2_heirAfter_48 : decode cX2_heirAfter 48 = .ok (.iinc 5 1, 3) := by decide +kernel
theorem dX2_heirAfter_51 : decode cX2_heirAfter 51 = .ok (.goto (-24), 3) := by decide +kernel
theorem dX2_heirAfter_54 : decode cX2_heirAfter 54 = .ok (.iload 4, 2) := by decide +kernel
theorem dX2_heirAfter_56 : decode cX2_heirAfter 56 = .ok (.ireturn, 1) := by decide +kernel
theorem dX2_stepsBetween_0 : decode cX2_stepsBetween 0 = .ok (.iload_n 1, 1) := by decide +kernel
theorem dX2_stepsBetween_1 : decode cX2_stepsBetween 1 = .ok (.istore_n 3, 1) := by decide +kernel
theorem dX2_stepsBetween_2 : decode cX2_stepsBetween 2 = .ok (.iconst 0, 1) := by decide +kernel
theorem dX2_stepsBetween_3 : decode cX2_stepsBetween 3 = .ok (.istore 4, 2) := by decide +kernel
theorem dX2_stepsBetween_5 : decode cX2_stepsBetween 5 = .ok (.iload 4, 2) := by decide +kernel
theorem dX2_stepsBetween_7 : decode cX2_stepsBetween 7 = .ok (.bipush 6, 2) := by decide +kernel
theorem dX2_stepsBetween_9 : decode cX2_stepsBetween 9 = .ok (.if_icmp .ge 29, 3) := by decide +kernel
theorem dX2_stepsBetween_12 : decode cX2_stepsBetween 12 = .ok (.iload_n 3, 1) := by decide +kernel
theorem dX2_stepsBetween_13 : decode cX2_stepsBetween 13 = .ok (.iconst (-1), 1) := by decide +kernel
theorem dX2_stepsBetween_14 : decode cX2_stepsBetween 14 = .ok (.if_icmp .eq 24, 3) := by decide +kernel
theorem dX2_stepsBetween_17 : decode cX2_stepsBetween 17 = .ok (.iload_n 3, 1) := by decide +kernel
theorem dX2_stepsBetween_18 : decode cX2_stepsBetween 18 = .ok (.iload_n 2, 1) := by decide +kernel
theorem dX2_stepsBetween_19 : decode cX2_stepsBetween 19 = .ok (.if_icmp .ne 6, 3) := by decide +kernel
theorem dX2_stepsBetween_22 : decode cX2_stepsBetween 22 = .ok (.iload 4, 2) := by decide +kernel
theorem dX2_stepsBetween_24 : decode cX2_stepsBetween 24 = .ok (.ireturn, 1) := by decide +kernel
theorem dX2_stepsBetween_25 : decode cX2_stepsBetween 25 = .ok (.aload_n 0, 1) := by decide +kernel
theorem dX2_stepsBetween_26 : decode cX2_stepsBetween 26 = .ok (.getfield 27, 3) := by decide +kernel
theorem dX2_stepsBetween_29 : decode cX2_stepsBetween 29 = .ok (.iload_n 3, 1) := by decide +kernel
theorem dX2_stepsBetween_30 : decode cX2_stepsBetween 30 = .ok (.iaload, 1) := by decide +kernel
theorem dX2_stepsBetween_31 : decode cX2_stepsBetween 31 = .ok (.istore_n 3, 1) := by decide +kernel
theorem dX2_stepsBetween_32 : decode cX2_stepsBetween 32 = .ok (.iinc 4 1, 3) := by decide +kernel
theorem dX2_stepsBetween_35 : decode cX2_stepsBetween 35 = .ok (.goto (-30), 3) := by decide +kernel
theorem dX2_stepsBetween_38 : decode cX2_stepsBetween 38 = .ok (.iconst (-1), 1) := by decide +kernel
theorem dX2_stepsBetween_39 : decode cX2_stepsBetween 39 = .ok (.ireturn, 1) := by decide +kernel
theorem dX2_meetingOf_0 : decode cX2_meetingOf 0 = .ok (.iconst (-1), 1) := by decide +kernel
theorem dX2_meetingOf_1 : decode cX2_meetingOf 1 = .ok (.istore_n 3, 1) := by decide +kernel
theorem dX2_meetingOf_2 : decode cX2_meetingOf 2 = .ok (.ldc 91, 2) := by decide +kernel
theorem dX2_meetingOf_4 : decode cX2_meetingOf 4 = .ok (.istore 4, 2) := by decide +kernel
theorem dX2_meetingOf_6 : decode cX2_meetingOf 6 = .ok (.iconst 0, 1) := by decide +kernel
theorem dX2_meetingOf_7 : decode cX2_meetingOf 7 = .ok (.istore 5, 2) := by decide +kernel
theorem dX2_meetingOf_9 : decode cX2_meetingOf 9 = .ok (.iload 5, 2) := by decide +kernel
theorem dX2_meetingOf_11 : decode cX2_meetingOf 11 = .ok (.aload_n 0, 1) := by decide +kernel
theorem dX2_meetingOf_12 : decode cX2_meetingOf 12 = .ok (.getfield 37, 3) := by decide +kernel
theorem dX2_meetingOf_15 : decode cX2_meetingOf 15 = .ok (.if_icmp .ge 59, 3) := by decide +kernel
theorem dX2_meetingOf_18 : decode cX2_meetingOf 18 = .ok (.aload_n 0, 1) := by decide +kernel
theorem dX2_meetingOf_19 : decode cX2_meetingOf 19 = .ok (.iload_n 1, 1) := by decide +kernel
theorem dX2_meetingOf_20 : decode cX2_meetingOf 20 = .ok (.iload 5, 2) := by decide +kernel
theorem dX2_meetingOf_22 : decode cX2_meetingOf 22 = .ok (.invokevirtual 92, 3) := by decide +kernel
theorem dX2_meetingOf_25 : decode cX2_meetingOf 25 = .ok (.istore 6, 2) := by decide +kernel
theorem dX2_meetingOf_27 : decode cX2_meetingOf 27 = .ok (.aload_n 0, 1) := by decide +kernel
theorem dX2_meetingOf_28 : decode cX2_meetingOf 28 = .ok (.iload_n 2, 1) := by decide +kernel
theorem dX2_meetingOf_29 : decode cX2_meetingOf 29 = .ok (.iload 5, 2) := by decide +kernel
theorem dX2_meetingOf_31 : decode cX2_meetingOf 31 = .ok (.invokevirtual 92, 3) := by decide +kernel
theorem dX2_meetingOf_34 : decode cX2_meetingOf 34 = .ok (.istore 7, 2) := by decide +kernel
theorem dX2_meetingOf_36 : decode cX2_meetingOf 36 = .ok (.iload 6, 2) := by decide +kernel
theorem dX2_meetingOf_38 : decode cX2_meetingOf 38 = .ok (.iconst (-1), 1) := by decide +kernel
theorem dX2_meetingOf_39 : decode cX2_meetingOf 39 = .ok (.if_icmp .eq 29, 3) := by decide +kernel
theorem dX2_meetingOf_42 : decode cX2_meetingOf 42 = .ok (.iload 7, 2) := by decide +kernel
theorem dX2_meetingOf_44 : decode cX2_meetingOf 44 = .ok (.iconst (-1), 1) := by decide +kernel
theorem dX2_meetingOf_45 : decode cX2_meetingOf 45 = .ok (.if_icmp .eq 23, 3) := by decide +kernel
theorem dX2_meetingOf_48 : decode cX2_meetingOf 48 = .ok (.iload 6, 2) := by decide +kernel
theorem dX2_meetingOf_50 : decode cX2_meetingOf 50 = .ok (.iload 7, 2) := by decide +kernel
theorem dX2_meetingOf_52 : decode cX2_meetingOf 52 = .ok (.iadd, 1) := by decide +kernel
theorem dX2_meetingOf_53 : decode cX2_meetingOf 53 = .ok (.iload 4, 2) := by decide +kernel
theorem dX2_meetingOf_55 : decode cX2_meetingOf 55 = .ok (.if_icmp .ge 13, 3) := by decide +kernel
theorem dX2_meetingOf_58 : decode cX2_meetingOf 58 = .ok (.iload 6, 2) := by decide +kernel
theorem dX2_meetingOf_60 : decode cX2_meetingOf 60 = .ok (.iload 7, 2) := by decide +kernel
theorem dX2_meetingOf_62 : decode cX2_meetingOf 62 = .ok (.iadd, 1) := by decide +kernel
theorem dX2_meetingOf_63 : decode cX2_meetingOf 63 = .ok (.istore 4, 2) := by decide +kernel
theorem dX2_meetingOf_65 : decode cX2_meetingOf 65 = .ok (.iload 5, 2) := by decide +kernel
theorem dX2_meetingOf_67 : decode cX2_meetingOf 67 = .ok (.istore_n 3, 1) := by decide +kernel
theorem dX2_meetingOf_68 : decode cX2_meetingOf 68 = .ok (.iinc 5 1, 3) := by decide +kernel
theorem dX2_meetingOf_71 : decode cX2_meetingOf 71 = .ok (.goto (-62), 3) := by decide +kernel
theorem dX2_meetingOf_74 : decode cX2_meetingOf 74 = .ok (.iload_n 3, 1) := by decide +kernel
theorem dX2_meetingOf_75 : decode cX2_meetingOf 75 = .ok (.ireturn, 1) := by decide +kernel
theorem dX2_longestRow_0 : decode cX2_longestRow 0 = .ok (.iconst 1, 1) := by decide +kernel
theorem dX2_longestRow_1 : decode cX2_longestRow 1 = .ok (.iload_n 1, 1) := by decide +kernel
theorem dX2_longestRow_2 : decode cX2_longestRow 2 = .ok (.ishl, 1) := by decide +kernel
theorem dX2_longestRow_3 : decode cX2_longestRow 3 = .ok (.istore_n 2, 1) := by decide +kernel
theorem dX2_longestRow_4 : decode cX2_longestRow 4 = .ok (.aload_n 0, 1) := by decide +kernel
theorem dX2_longestRow_5 : decode cX2_longestRow 5 = .ok (.getfield 27, 3) := by decide +kernel
theorem dX2_longestRow_8 : decode cX2_longestRow 8 = .ok (.iload_n 1, 1) := by decide +kernel
theorem dX2_longestRow_9 : decode cX2_longestRow 9 = .ok (.iaload, 1) := by decide +kernel
theorem dX2_longestRow_10 : decode cX2_longestRow 10 = .ok (.istore_n 3, 1) := by decide +kernel
theorem dX2_longestRow_11 : decode cX2_longestRow 11 = .ok (.iconst 0, 1) := by decide +kernel
theorem dX2_longestRow_12 : decode cX2_longestRow 12 = .ok (.istore 4, 2) := by decide +kernel
theorem dX2_longestRow_14 : decode cX2_longestRow 14 = .ok (.iload 4, 2) := by decide +kernel
theorem dX2_longestRow_16 : decode cX2_longestRow 16 = .ok (.bipush 6, 2) := by decide +kernel
theorem dX2_longestRow_18 : decode cX2_longestRow 18 = .ok (.if_icmp .ge 35, 3) := by decide +kernel
theorem dX2_longestRow_21 : decode cX2_longestRow 21 = .ok (.iload_n 3, 1) := by decide +kernel
theorem dX2_longestRow_22 : decode cX2_longestRow 22 = .ok (.iconst (-1), 1) := by decide +kernel
theorem dX2_longestRow_23 : decode cX2_longestRow 23 = .ok (.if_icmp .eq 30, 3) := by decide +kernel
theorem dX2_longestRow_26 : decode cX2_longestRow 26 = .ok (.iload_n 2, 1) := by decide +kernel
theorem dX2_longestRow_27 : decode cX2_longestRow 27 = .ok (.iload_n 3, 1) := by decide +kernel
theorem dX2_longestRow_28 : decode cX2_longestRow 28 = .ok (.ishr, 1) := by decide +kernel
theorem dX2_longestRow_29 : decode cX2_longestRow 29 = .ok (.iconst 1, 1) := by decide +kernel
theorem dX2_longestRow_30 : decode cX2_longestRow 30 = .ok (.iand, 1) := by decide +kernel
theorem dX2_longestRow_31 : decode cX2_longestRow 31 = .ok (.ifCond .ne 22, 3) := by decide +kernel
theorem dX2_longestRow_34 : decode cX2_longestRow 34 = .ok (.iload_n 2, 1) := by decide +kernel
theorem dX2_longestRow_35 : decode cX2_longestRow 35 = .ok (.iconst 1, 1) := by decide +kernel
theorem dX2_longestRow_36 : decode cX2_longestRow 36 = .ok (.iload_n 3, 1) := by decide +kernel
theorem dX2_longestRow_37 : decode cX2_longestRow 37 = .ok (.ishl, 1) := by decide +kernel
theorem dX2_longestRow_38 : decode cX2_longestRow 38 = .ok (.ior, 1) := by decide +kernel
theorem dX2_longestRow_39 : decode cX2_longestRow 39 = .ok (.istore_n 2, 1) := by decide +kernel
theorem dX2_longestRow_40 : decode cX2_longestRow 40 = .ok (.aload_n 0, 1) := by decide +kernel
theorem dX2_longestRow_41 : decode cX2_longestRow 41 = .ok (.getfield 27, 3) := by decide +kernel
theorem dX2_longestRow_44 : decode cX2_longestRow 44 = .ok (.iload_n 3, 1) := by decide +kernel
theorem dX2_longestRow_45 : decode cX2_longestRow 45 = .ok (.iaload, 1) := by decide +kernel
theorem dX2_longestRow_46 : decode cX2_longestRow 46 = .ok (.istore_n 3, 1) := by decide +kernel
theorem dX2_longestRow_47 : decode cX2_longestRow 47 = .ok (.iinc 4 1, 3) := by decide +kernel
theorem dX2_longestRow_50 : decode cX2_longestRow 50 = .ok (.goto (-36), 3) := by decide +kernel
theorem dX2_longestRow_53 : decode cX2_longestRow 53 = .ok (.iload 4, 2) := by decide +kernel
theorem dX2_longestRow_55 : decode cX2_longestRow 55 = .ok (.ireturn, 1) := by decide +kernel
theorem dX3_init_0 : decode cX3_init 0 = .ok (.aload_n 0, 1) := by decide +kernel
theorem dX3_init_1 : decode cX3_init 1 = .ok (.invokespecial 3, 3) := by decide +kernel
theorem dX3_init_4 : decode cX3_init 4 = .ok (.aload_n 0, 1) := by decide +kernel
theorem dX3_init_5 : decode cX3_init 5 = .ok (.bipush 6, 2) := by decide +kernel
theorem dX3_init_7 : decode cX3_init 7 = .ok (.newarray .int, 2) := by decide +kernel
theorem dX3_init_9 : decode cX3_init 9 = .ok (.putfield 9, 3) := by decide +kernel
theorem dX3_init_12 : decode cX3_init 12 = .ok (.aload_n 0, 1) := by decide +kernel
theorem dX3_init_13 : decode cX3_init 13 = .ok (.bipush 6, 2) := by decide +kernel
theorem dX3_init_15 : decode cX3_init 15 = .ok (.newarray .int, 2) := by decide +kernel
theorem dX3_init_17 : decode cX3_init 17 = .ok (.putfield 15, 3) := by decide +kernel
theorem dX3_init_20 : decode cX3_init 20 = .ok (.aload_n 0, 1) := by decide +kernel
theorem dX3_init_21 : decode cX3_init 21 = .ok (.bipush 6, 2) := by decide +kernel
theorem dX3_init_23 : decode cX3_init 23 = .ok (.newarray .int, 2) := by decide +kernel
theorem dX3_init_25 : decode cX3_init 25 = .ok (.putfield 18, 3) := by decide +kernel
theorem dX3_init_28 : decode cX3_init 28 = .ok (.aload_n 0, 1) := by decide +kernel
theorem dX3_init_29 : decode cX3_init 29 = .ok (.bipush 6, 2) := by decide +kernel
theorem dX3_init_31 : decode cX3_init 31 = .ok (.newarray .int, 2) := by decide +kernel
theorem dX3_init_33 : decode cX3_init 33 = .ok (.putfield 21, 3) := by decide +kernel
theorem dX3_init_36 : decode cX3_init 36 = .ok (.aload_n 0, 1) := by decide +kernel
theorem dX3_init_37 : decode cX3_init 37 = .ok (.bipush 6, 2) := by decide +kernel
theorem dX3_init_39 : decode cX3_init 39 = .ok (.newarray .int, 2) := by decide +kernel
theorem dX3_init_41 : decode cX3_init 41 = .ok (.putfield 24, 3) := by decide +kernel
theorem dX3_init_44 : decode cX3_init 44 = .ok (.aload_n 0, 1) := by decide +kernel
theorem dX3_init_45 : decode cX3_init 45 = .ok (.bipush 8, 2) := by decide +kernel
theorem dX3_init_47 : decode cX3_init 47 = .ok (.newarray .int, 2) := by decide +kernel
theorem dX3_init_49 : decode cX3_init 49 = .ok (.putfield 27, 3) := by decide +kernel
theorem dX3_init_52 : decode cX3_init 52 = .ok (.aload_n 0, 1) := by decide +kernel
theorem dX3_init_53 : decode cX3_init 53 = .ok (.bipush 6, 2) := by decide +kernel
theorem dX3_init_55 : decode cX3_init 55 = .ok (.newarray .int, 2) := by decide +kernel
theorem dX3_init_57 : decode cX3_init 57 = .ok (.putfield 30, 3) := by decide +kernel
theorem dX3_init_60 : decode cX3_init 60 = .ok (.return_, 1) := by decide +kernel
theorem dX3_begin_0 : decode cX3_begin 0 = .ok (.aload_n 0, 1) := by decide +kernel
theorem dX3_begin_1 : decode cX3_begin 1 = .ok (.getfield 9, 3) := by decide +kernel
theorem dX3_begin_4 : decode cX3_begin 4 = .ok (.iconst 0, 1) := by decide +kernel
theorem dX3_begin_5 : decode cX3_begin 5 = .ok (.invokestatic 33, 3) := by decide +kernel
theorem dX3_begin_8 : decode cX3_begin 8 = .ok (.aload_n 0, 1) := by decide +kernel
theorem dX3_begin_9 : decode cX3_begin 9 = .ok (.getfield 15, 3) := by decide +kernel
theorem dX3_begin_12 : decode cX3_begin 12 = .ok (.iconst (-1), 1) := by decide +kernel
theorem dX3_begin_13 : decode cX3_begin 13 = .ok (.invokestatic 33, 3) := by decide +kernel
theorem dX3_begin_16 : decode cX3_begin 16 = .ok (.aload_n 0, 1) := by decide +kernel
theorem dX3_begin_17 : decode cX3_begin 17 = .ok (.getfield 18, 3) := by decide +kernel
theorem dX3_begin_20 : decode cX3_begin 20 = .ok (.iconst (-1), 1) := by decide +kernel
