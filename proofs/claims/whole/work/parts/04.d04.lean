theorem dX3_fishLanded_17 : decode cX3_fishLanded 17 = .ok (.iadd, 1) := by decide +kernel
theorem dX3_fishLanded_18 : decode cX3_fishLanded 18 = .ok (.istore_n 1, 1) := by decide +kernel
theorem dX3_fishLanded_19 : decode cX3_fishLanded 19 = .ok (.iinc 2 1, 3) := by decide +kernel
theorem dX3_fishLanded_22 : decode cX3_fishLanded 22 = .ok (.goto (-18), 3) := by decide +kernel
theorem dX3_fishLanded_25 : decode cX3_fishLanded 25 = .ok (.iload_n 1, 1) := by decide +kernel
theorem dX3_fishLanded_26 : decode cX3_fishLanded 26 = .ok (.ireturn, 1) := by decide +kernel
theorem dX3_mostLander_0 : decode cX3_mostLander 0 = .ok (.iconst (-1), 1) := by decide +kernel
theorem dX3_mostLander_1 : decode cX3_mostLander 1 = .ok (.istore_n 1, 1) := by decide +kernel
theorem dX3_mostLander_2 : decode cX3_mostLander 2 = .ok (.iconst 0, 1) := by decide +kernel
theorem dX3_mostLander_3 : decode cX3_mostLander 3 = .ok (.istore_n 2, 1) := by decide +kernel
theorem dX3_mostLander_4 : decode cX3_mostLander 4 = .ok (.iconst 0, 1) := by decide +kernel
theorem dX3_mostLander_5 : decode cX3_mostLander 5 = .ok (.istore_n 3, 1) := by decide +kernel
theorem dX3_mostLander_6 : decode cX3_mostLander 6 = .ok (.iload_n 3, 1) := by decide +kernel
theorem dX3_mostLander_7 : decode cX3_mostLander 7 = .ok (.bipush 6, 2) := by decide +kernel
theorem dX3_mostLander_9 : decode cX3_mostLander 9 = .ok (.if_icmp .ge 28, 3) := by decide +kernel
theorem dX3_mostLander_12 : decode cX3_mostLander 12 = .ok (.aload_n 0, 1) := by decide +kernel
theorem dX3_mostLander_13 : decode cX3_mostLander 13 = .ok (.getfield 24, 3) := by decide +kernel
theorem dX3_mostLander_16 : decode cX3_mostLander 16 = .ok (.iload_n 3, 1) := by decide +kernel
theorem dX3_mostLander_17 : decode cX3_mostLander 17 = .ok (.iaload, 1) := by decide +kernel
theorem dX3_mostLander_18 : decode cX3_mostLander 18 = .ok (.iload_n 2, 1) := by decide +kernel
theorem dX3_mostLander_19 : decode cX3_mostLander 19 = .ok (.if_icmp .le 12, 3) := by decide +kernel
theorem dX3_mostLander_22 : decode cX3_mostLander 22 = .ok (.aload_n 0, 1) := by decide +kernel
theorem dX3_mostLander_23 : decode cX3_mostLander 23 = .ok (.getfield 24, 3) := by decide +kernel
theorem dX3_mostLander_26 : decode cX3_mostLander 26 = .ok (.iload_n 3, 1) := by decide +kernel
theorem dX3_mostLander_27 : decode cX3_mostLander 27 = .ok (.iaload, 1) := by decide +kernel
theorem dX3_mostLander_28 : decode cX3_mostLander 28 = .ok (.istore_n 2, 1) := by decide +kernel
theorem dX3_mostLander_29 : decode cX3_mostLander 29 = .ok (.iload_n 3, 1) := by decide +kernel
theorem dX3_mostLander_30 : decode cX3_mostLander 30 = .ok (.istore_n 1, 1) := by decide +kernel
theorem dX3_mostLander_31 : decode cX3_mostLander 31 = .ok (.iinc 3 1, 3) := by decide +kernel
theorem dX3_mostLander_34 : decode cX3_mostLander 34 = .ok (.goto (-28), 3) := by decide +kernel
theorem dX3_mostLander_37 : decode cX3_mostLander 37 = .ok (.iload_n 1, 1) := by decide +kernel
theorem dX3_mostLander_38 : decode cX3_mostLander 38 = .ok (.ireturn, 1) := by decide +kernel
theorem dX3_givenBy_0 : decode cX3_givenBy 0 = .ok (.iconst 0, 1) := by decide +kernel
theorem dX3_givenBy_1 : decode cX3_givenBy 1 = .ok (.istore_n 3, 1) := by decide +kernel
theorem dX3_givenBy_2 : decode cX3_givenBy 2 = .ok (.iconst 0, 1) := by decide +kernel
theorem dX3_givenBy_3 : decode cX3_givenBy 3 = .ok (.istore 4, 2) := by decide +kernel
theorem dX3_givenBy_5 : decode cX3_givenBy 5 = .ok (.iload 4, 2) := by decide +kernel
theorem dX3_givenBy_7 : decode cX3_givenBy 7 = .ok (.bipush 6, 2) := by decide +kernel
theorem dX3_givenBy_9 : decode cX3_givenBy 9 = .ok (.if_icmp .ge 37, 3) := by decide +kernel
theorem dX3_givenBy_12 : decode cX3_givenBy 12 = .ok (.iload_n 3, 1) := by decide +kernel
theorem dX3_givenBy_13 : decode cX3_givenBy 13 = .ok (.iload_n 2, 1) := by decide +kernel
theorem dX3_givenBy_14 : decode cX3_givenBy 14 = .ok (.iload 4, 2) := by decide +kernel
theorem dX3_givenBy_16 : decode cX3_givenBy 16 = .ok (.ishr, 1) := by decide +kernel
theorem dX3_givenBy_17 : decode cX3_givenBy 17 = .ok (.iconst 1, 1) := by decide +kernel
theorem dX3_givenBy_18 : decode cX3_givenBy 18 = .ok (.iand, 1) := by decide +kernel
theorem dX3_givenBy_19 : decode cX3_givenBy 19 = .ok (.iconst 1, 1) := by decide +kernel
theorem dX3_givenBy_20 : decode cX3_givenBy 20 = .ok (.if_icmp .ne 17, 3) := by decide +kernel
theorem dX3_givenBy_23 : decode cX3_givenBy 23 = .ok (.aload_n 0, 1) := by decide +kernel
theorem dX3_givenBy_24 : decode cX3_givenBy 24 = .ok (.getfield 24, 3) := by decide +kernel
theorem dX3_givenBy_27 : decode cX3_givenBy 27 = .ok (.iload 4, 2) := by decide +kernel
theorem dX3_givenBy_29 : decode cX3_givenBy 29 = .ok (.iaload, 1) := by decide +kernel
theorem dX3_givenBy_30 : decode cX3_givenBy 30 = .ok (.iload_n 1, 1) := by decide +kernel
theorem dX3_givenBy_31 : decode cX3_givenBy 31 = .ok (.invokestatic 63, 3) := by decide +kernel
theorem dX3_givenBy_34 : decode cX3_givenBy 34 = .ok (.goto 4, 3) := by decide +kernel
theorem dX3_givenBy_37 : decode cX3_givenBy 37 = .ok (.iconst 0, 1) := by decide +kernel
theorem dX3_givenBy_38 : decode cX3_givenBy 38 = .ok (.iadd, 1) := by decide +kernel
theorem dX3_givenBy_39 : decode cX3_givenBy 39 = .ok (.istore_n 3, 1) := by decide +kernel
theorem dX3_givenBy_40 : decode cX3_givenBy 40 = .ok (.iinc 4 1, 3) := by decide +kernel
theorem dX3_givenBy_43 : decode cX3_givenBy 43 = .ok (.goto (-38), 3) := by decide +kernel
theorem dX3_givenBy_46 : decode cX3_givenBy 46 = .ok (.iload_n 3, 1) := by decide +kernel
theorem dX3_givenBy_47 : decode cX3_givenBy 47 = .ok (.ireturn, 1) := by decide +kernel
theorem dX3_levelFor_0 : decode cX3_levelFor 0 = .ok (.iconst 0, 1) := by decide +kernel
theorem dX3_levelFor_1 : decode cX3_levelFor 1 = .ok (.istore_n 3, 1) := by decide +kernel
theorem dX3_levelFor_2 : decode cX3_levelFor 2 = .ok (.sipush 6000, 3) := by decide +kernel
theorem dX3_levelFor_5 : decode cX3_levelFor 5 = .ok (.istore 4, 2) := by decide +kernel
theorem dX3_levelFor_7 : decode cX3_levelFor 7 = .ok (.iconst 0, 1) := by decide +kernel
theorem dX3_levelFor_8 : decode cX3_levelFor 8 = .ok (.istore 5, 2) := by decide +kernel
theorem dX3_levelFor_10 : decode cX3_levelFor 10 = .ok (.iload 5, 2) := by decide +kernel
theorem dX3_levelFor_12 : decode cX3_levelFor 12 = .ok (.bipush 32, 2) := by decide +kernel
theorem dX3_levelFor_14 : decode cX3_levelFor 14 = .ok (.if_icmp .ge 48, 3) := by decide +kernel
theorem dX3_levelFor_17 : decode cX3_levelFor 17 = .ok (.iload_n 3, 1) := by decide +kernel
theorem dX3_levelFor_18 : decode cX3_levelFor 18 = .ok (.iload 4, 2) := by decide +kernel
theorem dX3_levelFor_20 : decode cX3_levelFor 20 = .ok (.if_icmp .ge 42, 3) := by decide +kernel
theorem dX3_levelFor_23 : decode cX3_levelFor 23 = .ok (.iload_n 3, 1) := by decide +kernel
theorem dX3_levelFor_24 : decode cX3_levelFor 24 = .ok (.iload 4, 2) := by decide +kernel
theorem dX3_levelFor_26 : decode cX3_levelFor 26 = .ok (.iadd, 1) := by decide +kernel
theorem dX3_levelFor_27 : decode cX3_levelFor 27 = .ok (.iconst 1, 1) := by decide +kernel
theorem dX3_levelFor_28 : decode cX3_levelFor 28 = .ok (.iadd, 1) := by decide +kernel
theorem dX3_levelFor_29 : decode cX3_levelFor 29 = .ok (.iconst 2, 1) := by decide +kernel
theorem dX3_levelFor_30 : decode cX3_levelFor 30 = .ok (.idiv, 1) := by decide +kernel
theorem dX3_levelFor_31 : decode cX3_levelFor 31 = .ok (.istore 6, 2) := by decide +kernel
theorem dX3_levelFor_33 : decode cX3_levelFor 33 = .ok (.aload_n 0, 1) := by decide +kernel
theorem dX3_levelFor_34 : decode cX3_levelFor 34 = .ok (.iload 6, 2) := by decide +kernel
theorem dX3_levelFor_36 : decode cX3_levelFor 36 = .ok (.iload_n 1, 1) := by decide +kernel
theorem dX3_levelFor_37 : decode cX3_levelFor 37 = .ok (.invokevirtual 69, 3) := by decide +kernel
theorem dX3_levelFor_40 : decode cX3_levelFor 40 = .ok (.iload_n 2, 1) := by decide +kernel
theorem dX3_levelFor_41 : decode cX3_levelFor 41 = .ok (.if_icmp .gt 9, 3) := by decide +kernel
theorem dX3_levelFor_44 : decode cX3_levelFor 44 = .ok (.iload 6, 2) := by decide +kernel
theorem dX3_levelFor_46 : decode cX3_levelFor 46 = .ok (.istore_n 3, 1) := by decide +kernel
theorem dX3_levelFor_47 : decode cX3_levelFor 47 = .ok (.goto 9, 3) := by decide +kernel
theorem dX3_levelFor_50 : decode cX3_levelFor 50 = .ok (.iload 6, 2) := by decide +kernel
theorem dX3_levelFor_52 : decode cX3_levelFor 52 = .ok (.iconst 1, 1) := by decide +kernel
theorem dX3_levelFor_53 : decode cX3_levelFor 53 = .ok (.isub, 1) := by decide +kernel
theorem dX3_levelFor_54 : decode cX3_levelFor 54 = .ok (.istore 4, 2) := by decide +kernel
theorem dX3_levelFor_56 : decode cX3_levelFor 56 = .ok (.iinc 5 1, 3) := by decide +kernel
theorem dX3_levelFor_59 : decode cX3_levelFor 59 = .ok (.goto (-49), 3) := by decide +kernel
theorem dX3_levelFor_62 : decode cX3_levelFor 62 = .ok (.iload_n 3, 1) := by decide +kernel
theorem dX3_levelFor_63 : decode cX3_levelFor 63 = .ok (.ireturn, 1) := by decide +kernel
theorem dX3_wear_0 : decode cX3_wear 0 = .ok (.aload_n 0, 1) := by decide +kernel
theorem dX3_wear_1 : decode cX3_wear 1 = .ok (.iload_n 1, 1) := by decide +kernel
theorem dX3_wear_2 : decode cX3_wear 2 = .ok (.invokevirtual 72, 3) := by decide +kernel
theorem dX3_wear_5 : decode cX3_wear 5 = .ok (.ifCond .eq 12, 3) := by decide +kernel
theorem dX3_wear_8 : decode cX3_wear 8 = .ok (.aload_n 0, 1) := by decide +kernel
theorem dX3_wear_9 : decode cX3_wear 9 = .ok (.iload_n 2, 1) := by decide +kernel
theorem dX3_wear_10 : decode cX3_wear 10 = .ok (.invokevirtual 76, 3) := by decide +kernel
theorem dX3_wear_13 : decode cX3_wear 13 = .ok (.iconst (-1), 1) := by decide +kernel
theorem dX3_wear_14 : decode cX3_wear 14 = .ok (.if_icmp .eq 5, 3) := by decide +kernel
theorem dX3_wear_17 : decode cX3_wear 17 = .ok (.iconst 0, 1) := by decide +kernel
theorem dX3_wear_18 : decode cX3_wear 18 = .ok (.ireturn, 1) := by decide +kernel
theorem dX3_wear_19 : decode cX3_wear 19 = .ok (.aload_n 0, 1) := by decide +kernel
theorem dX3_wear_20 : decode cX3_wear 20 = .ok (.getfield 15, 3) := by decide +kernel
theorem dX3_wear_23 : decode cX3_wear 23 = .ok (.iload_n 1, 1) := by decide +kernel
theorem dX3_wear_24 : decode cX3_wear 24 = .ok (.iload_n 2, 1) := by decide +kernel
theorem dX3_wear_25 : decode cX3_wear 25 = .ok (.iastore, 1) := by decide +kernel
theorem dX3_wear_26 : decode cX3_wear 26 = .ok (.iconst 1, 1) := by decide +kernel
theorem dX3_wear_27 : decode cX3_wear 27 = .ok (.ireturn, 1) := by decide +kernel
theorem dX3_doff_0 : decode cX3_doff 0 = .ok (.aload_n 0, 1) := by decide +kernel
theorem dX3_doff_1 : decode cX3_doff 1 = .ok (.getfield 15, 3) := by decide +kernel
theorem dX3_doff_4 : decode cX3_doff 4 = .ok (.iload_n 1, 1) := by decide +kernel
theorem dX3_doff_5 : decode cX3_doff 5 = .ok (.iaload, 1) := by decide +kernel
theorem dX3_doff_6 : decode cX3_doff 6 = .ok (.iconst (-1), 1) := by decide +kernel
theorem dX3_doff_7 : decode cX3_doff 7 = .ok (.if_icmp .ne 5, 3) := by decide +kernel
theorem dX3_doff_10 : decode cX3_doff 10 = .ok (.iconst 0, 1) := by decide +kernel
theorem dX3_doff_11 : decode cX3_doff 11 = .ok (.ireturn, 1) := by decide +kernel
theorem dX3_doff_12 : decode cX3_doff 12 = .ok (.aload_n 0, 1) := by decide +kernel
theorem dX3_doff_13 : decode cX3_doff 13 = .ok (.getfield 15, 3) := by decide +kernel
theorem dX3_doff_16 : decode cX3_doff 16 = .ok (.iload_n 1, 1) := by decide +kernel
theorem dX3_doff_17 : decode cX3_doff 17 = .ok (.iconst (-1), 1) := by decide +kernel
theorem dX3_doff_18 : decode cX3_doff 18 = .ok (.iastore, 1) := by decide +kernel
theorem dX3_doff_19 : decode cX3_doff 19 = .ok (.iconst 1, 1) := by decide +kernel
theorem dX3_doff_20 : decode cX3_doff 20 = .ok (.ireturn, 1) := by decide +kernel
theorem dX3_sail_0 : decode cX3_sail 0 = .ok (.aload_n 0, 1) := by decide +kernel
theorem dX3_sail_1 : decode cX3_sail 1 = .ok (.iload_n 1, 1) := by decide +kernel
theorem dX3_sail_2 : decode cX3_sail 2 = .ok (.invokevirtual 72, 3) := by decide +kernel
theorem dX3_sail_5 : decode cX3_sail 5 = .ok (.ifCond .eq 23, 3) := by decide +kernel
theorem dX3_sail_8 : decode cX3_sail 8 = .ok (.aload_n 0, 1) := by decide +kernel
theorem dX3_sail_9 : decode cX3_sail 9 = .ok (.getfield 18, 3) := by decide +kernel
theorem dX3_sail_12 : decode cX3_sail 12 = .ok (.iload_n 1, 1) := by decide +kernel
theorem dX3_sail_13 : decode cX3_sail 13 = .ok (.iaload, 1) := by decide +kernel
theorem dX3_sail_14 : decode cX3_sail 14 = .ok (.iload_n 2, 1) := by decide +kernel
theorem dX3_sail_15 : decode cX3_sail 15 = .ok (.if_icmp .eq 13, 3) := by decide +kernel
theorem dX3_sail_18 : decode cX3_sail 18 = .ok (.aload_n 0, 1) := by decide +kernel
theorem dX3_sail_19 : decode cX3_sail 19 = .ok (.getfield 15, 3) := by decide +kernel
theorem dX3_sail_22 : decode cX3_sail 22 = .ok (.iload_n 1, 1) := by decide +kernel
theorem dX3_sail_23 : decode cX3_sail 23 = .ok (.iaload, 1) := by decide +kernel
theorem dX3_sail_24 : decode cX3_sail 24 = .ok (.iconst (-1), 1) := by decide +kernel
theorem dX3_sail_25 : decode cX3_sail 25 = .ok (.if_icmp .ne 5, 3) := by decide +kernel
theorem dX3_sail_28 : decode cX3_sail 28 = .ok (.iconst 0, 1) := by decide +kernel
theorem dX3_sail_29 : decode cX3_sail 29 = .ok (.ireturn, 1) := by decide +kernel
theorem dX3_sail_30 : decode cX3_sail 30 = .ok (.aload_n 0, 1) := by decide +kernel
theorem dX3_sail_31 : decode cX3_sail 31 = .ok (.getfield 18, 3) := by decide +kernel
theorem dX3_sail_34 : decode cX3_sail 34 = .ok (.iload_n 1, 1) := by decide +kernel
theorem dX3_sail_35 : decode cX3_sail 35 = .ok (.iload_n 2, 1) := by decide +kernel
theorem dX3_sail_36 : decode cX3_sail 36 = .ok (.iastore, 1) := by decide +kernel
theorem dX3_sail_37 : decode cX3_sail 37 = .ok (.aload_n 0, 1) := by decide +kernel
theorem dX3_sail_38 : decode cX3_sail 38 = .ok (.getfield 21, 3) := by decide +kernel
theorem dX3_sail_41 : decode cX3_sail 41 = .ok (.iload_n 1, 1) := by decide +kernel
theorem dX3_sail_42 : decode cX3_sail 42 = .ok (.iconst 0, 1) := by decide +kernel
theorem dX3_sail_43 : decode cX3_sail 43 = .ok (.iastore, 1) := by decide +kernel
theorem dX3_sail_44 : decode cX3_sail 44 = .ok (.iconst 1, 1) := by decide +kernel
theorem dX3_sail_45 : decode cX3_sail 45 = .ok (.ireturn, 1) := by decide +kernel
theorem dX3_goHome_0 : decode cX3_goHome 0 = .ok (.aload_n 0, 1) := by decide +kernel
theorem dX3_goHome_1 : decode cX3_goHome 1 = .ok (.getfield 18, 3) := by decide +kernel
theorem dX3_goHome_4 : decode cX3_goHome 4 = .ok (.iload_n 1, 1) := by decide +kernel
theorem dX3_goHome_5 : decode cX3_goHome 5 = .ok (.iaload, 1) := by decide +kernel
theorem dX3_goHome_6 : decode cX3_goHome 6 = .ok (.iconst (-1), 1) := by decide +kernel
theorem dX3_goHome_7 : decode cX3_goHome 7 = .ok (.if_icmp .ne 5, 3) := by decide +kernel
theorem dX3_goHome_10 : decode cX3_goHome 10 = .ok (.iconst 0, 1) := by decide +kernel
theorem dX3_goHome_11 : decode cX3_goHome 11 = .ok (.ireturn, 1) := by decide +kernel
theorem dX3_goHome_12 : decode cX3_goHome 12 = .ok (.aload_n 0, 1) := by decide +kernel
theorem dX3_goHome_13 : decode cX3_goHome 13 = .ok (.getfield 18, 3) := by decide +kernel
theorem dX3_goHome_16 : decode cX3_goHome 16 = .ok (.iload_n 1, 1) := by decide +kernel
theorem dX3_goHome_17 : decode cX3_goHome 17 = .ok (.iconst (-1), 1) := by decide +kernel
theorem dX3_goHome_18 : decode cX3_goHome 18 = .ok (.iastore, 1) := by decide +kernel
theorem dX3_goHome_19 : decode cX3_goHome 19 = .ok (.aload_n 0, 1) := by decide +kernel
theorem dX3_goHome_20 : decode cX3_goHome 20 = .ok (.getfield 21, 3) := by decide +kernel
theorem dX3_goHome_23 : decode cX3_goHome 23 = .ok (.iload_n 1, 1) := by decide +kernel
theorem dX3_goHome_24 : decode cX3_goHome 24 = .ok (.iconst 0, 1) := by decide +kernel
theorem dX3_goHome_25 : decode cX3_goHome 25 = .ok (.iastore, 1) := by decide +kernel
theorem dX3_goHome_26 : decode cX3_goHome 26 = .ok (.iconst 1, 1) := by decide +kernel
theorem dX3_goHome_27 : decode cX3_goHome 27 = .ok (.ireturn, 1) := by decide +kernel
theorem dX3_oil_0 : decode cX3_oil 0 = .ok (.aload_n 0, 1) := by decide +kernel
theorem dX3_oil_1 : decode cX3_oil 1 = .ok (.getfield 27, 3) := by decide +kernel
theorem dX3_oil_4 : decode cX3_oil 4 = .ok (.iload_n 1, 1) := by decide +kernel
theorem dX3_oil_5 : decode cX3_oil 5 = .ok (.iaload, 1) := by decide +kernel
theorem dX3_oil_6 : decode cX3_oil 6 = .ok (.bipush 9, 2) := by decide +kernel
theorem dX3_oil_8 : decode cX3_oil 8 = .ok (.if_icmp .lt 5, 3) := by decide +kernel
theorem dX3_oil_11 : decode cX3_oil 11 = .ok (.iconst 0, 1) := by decide +kernel
theorem dX3_oil_12 : decode cX3_oil 12 = .ok (.ireturn, 1) := by decide +kernel
theorem dX3_oil_13 : decode cX3_oil 13 = .ok (.aload_n 0, 1) := by decide +kernel
theorem dX3_oil_14 : decode cX3_oil 14 = .ok (.getfield 27, 3) := by decide +kernel
theorem dX3_oil_17 : decode cX3_oil 17 = .ok (.iload_n 1, 1) := by decide +kernel
theorem dX3_oil_18 : decode cX3_oil 18 = .ok (.dup2, 1) := by decide +kernel
theorem dX3_oil_19 : decode cX3_oil 19 = .ok (.iaload, 1) := by decide +kernel
theorem dX3_oil_20 : decode cX3_oil 20 = .ok (.iconst 1, 1) := by decide +kernel
theorem dX3_oil_21 : decode cX3_oil 21 = .ok (.iadd, 1) := by decide +kernel
theorem dX3_oil_22 : decode cX3_oil 22 = .ok (.iastore, 1) := by decide +kernel
theorem dX3_oil_23 : decode cX3_oil 23 = .ok (.iconst 1, 1) := by decide +kernel
theorem dX3_oil_24 : decode cX3_oil 24 = .ok (.ireturn, 1) := by decide +kernel
theorem dX3_die_0 : decode cX3_die 0 = .ok (.aload_n 0, 1) := by decide +kernel
theorem dX3_die_1 : decode cX3_die 1 = .ok (.iload_n 1, 1) := by decide +kernel
theorem dX3_die_2 : decode cX3_die 2 = .ok (.invokevirtual 72, 3) := by decide +kernel
theorem dX3_die_5 : decode cX3_die 5 = .ok (.ifCond .ne 5, 3) := by decide +kernel
theorem dX3_die_8 : decode cX3_die 8 = .ok (.iconst 0, 1) := by decide +kernel
theorem dX3_die_9 : decode cX3_die 9 = .ok (.ireturn, 1) := by decide +kernel
theorem dX3_die_10 : decode cX3_die 10 = .ok (.aload_n 0, 1) := by decide +kernel
theorem dX3_die_11 : decode cX3_die 11 = .ok (.getfield 15, 3) := by decide +kernel
theorem dX3_die_14 : decode cX3_die 14 = .ok (.iload_n 1, 1) := by decide +kernel
theorem dX3_die_15 : decode cX3_die 15 = .ok (.iaload, 1) := by decide +kernel
theorem dX3_die_16 : decode cX3_die 16 = .ok (.istore_n 3, 1) := by decide +kernel
theorem dX3_die_17 : decode cX3_die 17 = .ok (.aload_n 0, 1) := by decide +kernel
theorem dX3_die_18 : decode cX3_die 18 = .ok (.dup, 1) := by decide +kernel
theorem dX3_die_19 : decode cX3_die 19 = .ok (.getfield 60, 3) := by decide +kernel
theorem dX3_die_22 : decode cX3_die 22 = .ok (.iconst 1, 1) := by decide +kernel
theorem dX3_die_23 : decode cX3_die 23 = .ok (.iload_n 1, 1) := by decide +kernel
theorem dX3_die_24 : decode cX3_die 24 = .ok (.ishl, 1) := by decide +kernel
theorem dX3_die_25 : decode cX3_die 25 = .ok (.iconst (-1), 1) := by decide +kernel
theorem dX3_die_26 : decode cX3_die 26 = .ok (.ixor, 1) := by decide +kernel
theorem dX3_die_27 : decode cX3_die 27 = .ok (.iand, 1) := by decide +kernel
theorem dX3_die_28 : decode cX3_die 28 = .ok (.putfield 60, 3) := by decide +kernel
theorem dX3_die_31 : decode cX3_die 31 = .ok (.aload_n 0, 1) := by decide +kernel
theorem dX3_die_32 : decode cX3_die 32 = .ok (.getfield 15, 3) := by decide +kernel
theorem dX3_die_35 : decode cX3_die 35 = .ok (.iload_n 1, 1) := by decide +kernel
theorem dX3_die_36 : decode cX3_die 36 = .ok (.iconst (-1), 1) := by decide +kernel
theorem dX3_die_37 : decode cX3_die 37 = .ok (.iastore, 1) := by decide +kernel
theorem dX3_die_38 : decode cX3_die 38 = .ok (.aload_n 0, 1) := by decide +kernel
theorem dX3_die_39 : decode cX3_die 39 = .ok (.iload_n 1, 1) := by decide +kernel
theorem dX3_die_40 : decode cX3_die 40 = .ok (.invokevirtual 80, 3) := by decide +kernel
theorem dX3_die_43 : decode cX3_die 43 = .ok (.pop, 1) := by decide +kernel
theorem dX3_die_44 : decode cX3_die 44 = .ok (.iload_n 2, 1) := by decide +kernel
theorem dX3_die_45 : decode cX3_die 45 = .ok (.iconst (-1), 1) := by decide +kernel
theorem dX3_die_46 : decode cX3_die 46 = .ok (.if_icmp .eq 28, 3) := by decide +kernel
theorem dX3_die_49 : decode cX3_die 49 = .ok (.aload_n 0, 1) := by decide +kernel
theorem dX3_die_50 : decode cX3_die 50 = .ok (.iload_n 2, 1) := by decide +kernel
theorem dX3_die_51 : decode cX3_die 51 = .ok (.invokevirtual 72, 3) := by decide +kernel
theorem dX3_die_54 : decode cX3_die 54 = .ok (.ifCond .eq 20, 3) := by decide +kernel
theorem dX3_die_57 : decode cX3_die 57 = .ok (.aload_n 0, 1) := by decide +kernel
theorem dX3_die_58 : decode cX3_die 58 = .ok (.getfield 15, 3) := by decide +kernel
theorem dX3_die_61 : decode cX3_die 61 = .ok (.iload_n 2, 1) := by decide +kernel
theorem dX3_die_62 : decode cX3_die 62 = .ok (.iaload, 1) := by decide +kernel
theorem dX3_die_63 : decode cX3_die 63 = .ok (.iconst (-1), 1) := by decide +kernel
theorem dX3_die_64 : decode cX3_die 64 = .ok (.if_icmp .ne 10, 3) := by decide +kernel
theorem dX3_die_67 : decode cX3_die 67 = .ok (.aload_n 0, 1) := by decide +kernel
theorem dX3_die_68 : decode cX3_die 68 = .ok (.getfield 15, 3) := by decide +kernel
theorem dX3_die_71 : decode cX3_die 71 = .ok (.iload_n 2, 1) := by decide +kernel
theorem dX3_die_72 : decode cX3_die 72 = .ok (.iload_n 3, 1) := by decide +kernel
theorem dX3_die_73 : decode cX3_die 73 = .ok (.iastore, 1) := by decide +kernel
theorem dX3_die_74 : decode cX3_die 74 = .ok (.iconst 1, 1) := by decide +kernel
theorem dX3_die_75 : decode cX3_die 75 = .ok (.ireturn, 1) := by decide +kernel
theorem dX3_take_0 : decode cX3_take 0 = .ok (.aload_n 0, 1) := by decide +kernel
theorem dX3_take_1 : decode cX3_take 1 = .ok (.getfield 18, 3) := by decide +kernel
theorem dX3_take_4 : decode cX3_take 4 = .ok (.iload_n 1, 1) := by decide +kernel
theorem dX3_take_5 : decode cX3_take 5 = .ok (.iaload, 1) := by decide +kernel
theorem dX3_take_6 : decode cX3_take 6 = .ok (.istore_n 3, 1) := by decide +kernel
theorem dX3_take_7 : decode cX3_take 7 = .ok (.iload_n 3, 1) := by decide +kernel
theorem dX3_take_8 : decode cX3_take 8 = .ok (.iconst (-1), 1) := by decide +kernel
theorem dX3_take_9 : decode cX3_take 9 = .ok (.if_icmp .ne 4, 3) := by decide +kernel
theorem dX3_take_12 : decode cX3_take 12 = .ok (.return_, 1) := by decide +kernel
theorem dX3_take_13 : decode cX3_take 13 = .ok (.aload_n 0, 1) := by decide +kernel
theorem dX3_take_14 : decode cX3_take 14 = .ok (.getfield 30, 3) := by decide +kernel
theorem dX3_take_17 : decode cX3_take 17 = .ok (.iload_n 3, 1) := by decide +kernel
theorem dX3_take_18 : decode cX3_take 18 = .ok (.iaload, 1) := by decide +kernel
theorem dX3_take_19 : decode cX3_take 19 = .ok (.iload_n 2, 1) := by decide +kernel
theorem dX3_take_20 : decode cX3_take 20 = .ok (.invokestatic 83, 3) := by decide +kernel
theorem dX3_take_23 : decode cX3_take 23 = .ok (.invokestatic 63, 3) := by decide +kernel
theorem dX3_take_26 : decode cX3_take 26 = .ok (.istore 4, 2) := by decide +kernel
theorem dX3_take_28 : decode cX3_take 28 = .ok (.aload_n 0, 1) := by decide +kernel
theorem dX3_take_29 : decode cX3_take 29 = .ok (.getfield 30, 3) := by decide +kernel
theorem dX3_take_32 : decode cX3_take 32 = .ok (.iload_n 3, 1) := by decide +kernel
theorem dX3_take_33 : decode cX3_take 33 = .ok (.dup2, 1) := by decide +kernel
theorem dX3_take_34 : decode cX3_take 34 = .ok (.iaload, 1) := by decide +kernel
theorem dX3_take_35 : decode cX3_take 35 = .ok (.iload 4, 2) := by decide +kernel
theorem dX3_take_37 : decode cX3_take 37 = .ok (.isub, 1) := by decide +kernel
theorem dX3_take_38 : decode cX3_take 38 = .ok (.iastore, 1) := by decide +kernel
theorem dX3_take_39 : decode cX3_take 39 = .ok (.aload_n 0, 1) := by decide +kernel
theorem dX3_take_40 : decode cX3_take 40 = .ok (.getfield 24, 3) := by decide +kernel
theorem dX3_take_43 : decode cX3_take 43 = .ok (.iload_n 1, 1) := by decide +kernel
theorem dX3_take_44 : decode cX3_take 44 = .ok (.dup2, 1) := by decide +kernel
theorem dX3_take_45 : decode cX3_take 45 = .ok (.iaload, 1) := by decide +kernel
theorem dX3_take_46 : decode cX3_take 46 = .ok (.iload 4, 2) := by decide +kernel
theorem dX3_take_48 : decode cX3_take 48 = .ok (.iadd, 1) := by decide +kernel
theorem dX3_take_49 : decode cX3_take 49 = .ok (.iastore, 1) := by decide +kernel
theorem dX3_take_50 : decode cX3_take 50 = .ok (.aload_n 0, 1) := by decide +kernel
theorem dX3_take_51 : decode cX3_take 51 = .ok (.getfield 21, 3) := by decide +kernel
theorem dX3_take_54 : decode cX3_take 54 = .ok (.iload_n 1, 1) := by decide +kernel
theorem dX3_take_55 : decode cX3_take 55 = .ok (.dup2, 1) := by decide +kernel
theorem dX3_take_56 : decode cX3_take 56 = .ok (.iaload, 1) := by decide +kernel
theorem dX3_take_57 : decode cX3_take 57 = .ok (.iconst 1, 1) := by decide +kernel
theorem dX3_take_58 : decode cX3_take 58 = .ok (.iadd, 1) := by decide +kernel
theorem dX3_take_59 : decode cX3_take 59 = .ok (.iastore, 1) := by decide +kernel
theorem dX3_take_60 : decode cX3_take 60 = .ok (.return_, 1) := by decide +kernel
theorem dX3_fishBy_0 : decode cX3_fishBy 0 = .ok (.bipush 9, 2) := by decide +kernel
theorem dX3_fishBy_2 : decode cX3_fishBy 2 = .ok (.iload_n 0, 1) := by decide +kernel
theorem dX3_fishBy_3 : decode cX3_fishBy 3 = .ok (.bipush 10, 2) := by decide +kernel
theorem dX3_fishBy_5 : decode cX3_fishBy 5 = .ok (.idiv, 1) := by decide +kernel
theorem dX3_fishBy_6 : decode cX3_fishBy 6 = .ok (.isub, 1) := by decide +kernel
theorem dX3_fishBy_7 : decode cX3_fishBy 7 = .ok (.ireturn, 1) := by decide +kernel
theorem dX4_init_0 : decode cX4_init 0 = .ok (.aload_n 0, 1) := by decide +kernel
theorem dX4_init_1 : decode cX4_init 1 = .ok (.invokespecial 7, 3) := by decide +kernel
theorem dX4_init_4 : decode cX4_init 4 = .ok (.aload_n 0, 1) := by decide +kernel
theorem dX4_init_5 : decode cX4_init 5 = .ok (.sipush 736, 3) := by decide +kernel
theorem dX4_init_8 : decode cX4_init 8 = .ok (.newarray .int, 2) := by decide +kernel
theorem dX4_init_10 : decode cX4_init 10 = .ok (.putfield 13, 3) := by decide +kernel
theorem dX4_init_13 : decode cX4_init 13 = .ok (.aload_n 0, 1) := by decide +kernel
theorem dX4_init_14 : decode cX4_init 14 = .ok (.sipush 2346, 3) := by decide +kernel
theorem dX4_init_17 : decode cX4_init 17 = .ok (.newarray .int, 2) := by decide +kernel
theorem dX4_init_19 : decode cX4_init 19 = .ok (.putfield 17, 3) := by decide +kernel
theorem dX4_init_22 : decode cX4_init 22 = .ok (.aload_n 0, 1) := by decide +kernel
theorem dX4_init_23 : decode cX4_init 23 = .ok (.iconst 3, 1) := by decide +kernel
theorem dX4_init_24 : decode cX4_init 24 = .ok (.newarray .int, 2) := by decide +kernel
theorem dX4_init_26 : decode cX4_init 26 = .ok (.putfield 20, 3) := by decide +kernel
theorem dX4_init_29 : decode cX4_init 29 = .ok (.return_, 1) := by decide +kernel
theorem dX4_forget_0 : decode cX4_forget 0 = .ok (.aload_n 0, 1) := by decide +kernel
theorem dX4_forget_1 : decode cX4_forget 1 = .ok (.iconst 0, 1) := by decide +kernel
theorem dX4_forget_2 : decode cX4_forget 2 = .ok (.putfield 23, 3) := by decide +kernel
theorem dX4_forget_5 : decode cX4_forget 5 = .ok (.aload_n 0, 1) := by decide +kernel
theorem dX4_forget_6 : decode cX4_forget 6 = .ok (.iconst 0, 1) := by decide +kernel
theorem dX4_forget_7 : decode cX4_forget 7 = .ok (.putfield 27, 3) := by decide +kernel
theorem dX4_forget_10 : decode cX4_forget 10 = .ok (.return_, 1) := by decide +kernel
theorem dX4_keepWork_0 : decode cX4_keepWork 0 = .ok (.aload_n 0, 1) := by decide +kernel
theorem dX4_keepWork_1 : decode cX4_keepWork 1 = .ok (.getfield 23, 3) := by decide +kernel
theorem dX4_keepWork_4 : decode cX4_keepWork 4 = .ok (.bipush 16, 2) := by decide +kernel
theorem dX4_keepWork_6 : decode cX4_keepWork 6 = .ok (.if_icmp .ge 28, 3) := by decide +kernel
theorem dX4_keepWork_9 : decode cX4_keepWork 9 = .ok (.aload_n 1, 1) := by decide +kernel
theorem dX4_keepWork_10 : decode cX4_keepWork 10 = .ok (.aload_n 0, 1) := by decide +kernel
theorem dX4_keepWork_11 : decode cX4_keepWork 11 = .ok (.getfield 13, 3) := by decide +kernel
theorem dX4_keepWork_14 : decode cX4_keepWork 14 = .ok (.aload_n 0, 1) := by decide +kernel
theorem dX4_keepWork_15 : decode cX4_keepWork 15 = .ok (.getfield 23, 3) := by decide +kernel
theorem dX4_keepWork_18 : decode cX4_keepWork 18 = .ok (.bipush 46, 2) := by decide +kernel
theorem dX4_keepWork_20 : decode cX4_keepWork 20 = .ok (.imul, 1) := by decide +kernel
theorem dX4_keepWork_21 : decode cX4_keepWork 21 = .ok (.invokevirtual 30, 3) := by decide +kernel
theorem dX4_keepWork_24 : decode cX4_keepWork 24 = .ok (.aload_n 0, 1) := by decide +kernel
theorem dX4_keepWork_25 : decode cX4_keepWork 25 = .ok (.dup, 1) := by decide +kernel
theorem dX4_keepWork_26 : decode cX4_keepWork 26 = .ok (.getfield 23, 3) := by decide +kernel
theorem dX4_keepWork_29 : decode cX4_keepWork 29 = .ok (.iconst 1, 1) := by decide +kernel
theorem dX4_keepWork_30 : decode cX4_keepWork 30 = .ok (.iadd, 1) := by decide +kernel
theorem dX4_keepWork_31 : decode cX4_keepWork 31 = .ok (.putfield 23, 3) := by decide +kernel
theorem dX4_keepWork_34 : decode cX4_keepWork 34 = .ok (.return_, 1) := by decide +kernel
theorem dX4_dropWork_0 : decode cX4_dropWork 0 = .ok (.aload_n 0, 1) := by decide +kernel
theorem dX4_dropWork_1 : decode cX4_dropWork 1 = .ok (.getfield 23, 3) := by decide +kernel
theorem dX4_dropWork_4 : decode cX4_dropWork 4 = .ok (.ifCond .gt 5, 3) := by decide +kernel
theorem dX4_dropWork_7 : decode cX4_dropWork 7 = .ok (.iconst 0, 1) := by decide +kernel
theorem dX4_dropWork_8 : decode cX4_dropWork 8 = .ok (.ireturn, 1) := by decide +kernel
theorem dX4_dropWork_9 : decode cX4_dropWork 9 = .ok (.aload_n 0, 1) := by decide +kernel
theorem dX4_dropWork_10 : decode cX4_dropWork 10 = .ok (.dup, 1) := by decide +kernel
theorem dX4_dropWork_11 : decode cX4_dropWork 11 = .ok (.getfield 23, 3) := by decide +kernel
theorem dX4_dropWork_14 : decode cX4_dropWork 14 = .ok (.iconst 1, 1) := by decide +kernel
theorem dX4_dropWork_15 : decode cX4_dropWork 15 = .ok (.isub, 1) := by decide +kernel
theorem dX4_dropWork_16 : decode cX4_dropWork 16 = .ok (.putfield 23, 3) := by decide +kernel
theorem dX4_dropWork_19 : decode cX4_dropWork 19 = .ok (.aload_n 1, 1) := by decide +kernel
theorem dX4_dropWork_20 : decode cX4_dropWork 20 = .ok (.aload_n 0, 1) := by decide +kernel
theorem dX4_dropWork_21 : decode cX4_dropWork 21 = .ok (.getfield 13, 3) := by decide +kernel
theorem dX4_dropWork_24 : decode cX4_dropWork 24 = .ok (.aload_n 0, 1) := by decide +kernel
theorem dX4_dropWork_25 : decode cX4_dropWork 25 = .ok (.getfield 23, 3) := by decide +kernel
theorem dX4_dropWork_28 : decode cX4_dropWork 28 = .ok (.bipush 46, 2) := by decide +kernel
theorem dX4_dropWork_30 : decode cX4_dropWork 30 = .ok (.imul, 1) := by decide +kernel
theorem dX4_dropWork_31 : decode cX4_dropWork 31 = .ok (.invokevirtual 34, 3) := by decide +kernel
theorem dX4_dropWork_34 : decode cX4_dropWork 34 = .ok (.iconst 1, 1) := by decide +kernel
theorem dX4_dropWork_35 : decode cX4_dropWork 35 = .ok (.ireturn, 1) := by decide +kernel
theorem dX4_keepImage_0 : decode cX4_keepImage 0 = .ok (.aload_n 0, 1) := by decide +kernel
theorem dX4_keepImage_1 : decode cX4_keepImage 1 = .ok (.getfield 27, 3) := by decide +kernel
theorem dX4_keepImage_4 : decode cX4_keepImage 4 = .ok (.iconst 3, 1) := by decide +kernel
theorem dX4_keepImage_5 : decode cX4_keepImage 5 = .ok (.if_icmp .lt 5, 3) := by decide +kernel
theorem dX4_keepImage_8 : decode cX4_keepImage 8 = .ok (.iconst 0, 1) := by decide +kernel
theorem dX4_keepImage_9 : decode cX4_keepImage 9 = .ok (.ireturn, 1) := by decide +kernel
theorem dX4_keepImage_10 : decode cX4_keepImage 10 = .ok (.aload_n 0, 1) := by decide +kernel
theorem dX4_keepImage_11 : decode cX4_keepImage 11 = .ok (.getfield 27, 3) := by decide +kernel
theorem dX4_keepImage_14 : decode cX4_keepImage 14 = .ok (.sipush 782, 3) := by decide +kernel
theorem dX4_keepImage_17 : decode cX4_keepImage 17 = .ok (.imul, 1) := by decide +kernel
theorem dX4_keepImage_18 : decode cX4_keepImage 18 = .ok (.istore_n 2, 1) := by decide +kernel
theorem dX4_keepImage_19 : decode cX4_keepImage 19 = .ok (.aload_n 0, 1) := by decide +kernel
theorem dX4_keepImage_20 : decode cX4_keepImage 20 = .ok (.getfield 13, 3) := by decide +kernel
theorem dX4_keepImage_23 : decode cX4_keepImage 23 = .ok (.iconst 0, 1) := by decide +kernel
theorem dX4_keepImage_24 : decode cX4_keepImage 24 = .ok (.aload_n 0, 1) := by decide +kernel
theorem dX4_keepImage_25 : decode cX4_keepImage 25 = .ok (.getfield 17, 3) := by decide +kernel
theorem dX4_keepImage_28 : decode cX4_keepImage 28 = .ok (.iload_n 2, 1) := by decide +kernel
theorem dX4_keepImage_29 : decode cX4_keepImage 29 = .ok (.aload_n 0, 1) := by decide +kernel
theorem dX4_keepImage_30 : decode cX4_keepImage 30 = .ok (.getfield 23, 3) := by decide +kernel
theorem dX4_keepImage_33 : decode cX4_keepImage 33 = .ok (.bipush 46, 2) := by decide +kernel
theorem dX4_keepImage_35 : decode cX4_keepImage 35 = .ok (.imul, 1) := by decide +kernel
theorem dX4_keepImage_36 : decode cX4_keepImage 36 = .ok (.invokestatic 37, 3) := by decide +kernel
theorem dX4_keepImage_39 : decode cX4_keepImage 39 = .ok (.aload_n 1, 1) := by decide +kernel
theorem dX4_keepImage_40 : decode cX4_keepImage 40 = .ok (.aload_n 0, 1) := by decide +kernel
theorem dX4_keepImage_41 : decode cX4_keepImage 41 = .ok (.getfield 17, 3) := by decide +kernel
theorem dX4_keepImage_44 : decode cX4_keepImage 44 = .ok (.iload_n 2, 1) := by decide +kernel
theorem dX4_keepImage_45 : decode cX4_keepImage 45 = .ok (.sipush 736, 3) := by decide +kernel
theorem dX4_keepImage_48 : decode cX4_keepImage 48 = .ok (.iadd, 1) := by decide +kernel
theorem dX4_keepImage_49 : decode cX4_keepImage 49 = .ok (.invokevirtual 30, 3) := by decide +kernel
theorem dX4_keepImage_52 : decode cX4_keepImage 52 = .ok (.aload_n 0, 1) := by decide +kernel
theorem dX4_keepImage_53 : decode cX4_keepImage 53 = .ok (.getfield 20, 3) := by decide +kernel
theorem dX4_keepImage_56 : decode cX4_keepImage 56 = .ok (.aload_n 0, 1) := by decide +kernel
theorem dX4_keepImage_57 : decode cX4_keepImage 57 = .ok (.getfield 27, 3) := by decide +kernel
theorem dX4_keepImage_60 : decode cX4_keepImage 60 = .ok (.aload_n 0, 1) := by decide +kernel
theorem dX4_keepImage_61 : decode cX4_keepImage 61 = .ok (.getfield 23, 3) := by decide +kernel
theorem dX4_keepImage_64 : decode cX4_keepImage 64 = .ok (.iastore, 1) := by decide +kernel
theorem dX4_keepImage_65 : decode cX4_keepImage 65 = .ok (.aload_n 0, 1) := by decide +kernel
theorem dX4_keepImage_66 : decode cX4_keepImage 66 = .ok (.dup, 1) := by decide +kernel
theorem dX4_keepImage_67 : decode cX4_keepImage 67 = .ok (.getfield 27, 3) := by decide +kernel
theorem dX4_keepImage_70 : decode cX4_keepImage 70 = .ok (.iconst 1, 1) := by decide +kernel
theorem dX4_keepImage_71 : decode cX4_keepImage 71 = .ok (.iadd, 1) := by decide +kernel
