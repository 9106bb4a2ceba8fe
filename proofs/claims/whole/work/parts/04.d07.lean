theorem dX7_passHour_1 : decode cX7_passHour 1 = .ok (.istore_n 2, 1) := by decide +kernel
theorem dX7_passHour_2 : decode cX7_passHour 2 = .ok (.iload_n 2, 1) := by decide +kernel
theorem dX7_passHour_3 : decode cX7_passHour 3 = .ok (.aload_n 0, 1) := by decide +kernel
theorem dX7_passHour_4 : decode cX7_passHour 4 = .ok (.getfield 12, 3) := by decide +kernel
theorem dX7_passHour_7 : decode cX7_passHour 7 = .ok (.getfield 83, 3) := by decide +kernel
theorem dX7_passHour_10 : decode cX7_passHour 10 = .ok (.if_icmp .ge 21, 3) := by decide +kernel
theorem dX7_passHour_13 : decode cX7_passHour 13 = .ok (.aload_n 0, 1) := by decide +kernel
theorem dX7_passHour_14 : decode cX7_passHour 14 = .ok (.getfield 29, 3) := by decide +kernel
theorem dX7_passHour_17 : decode cX7_passHour 17 = .ok (.iload_n 2, 1) := by decide +kernel
theorem dX7_passHour_18 : decode cX7_passHour 18 = .ok (.aload_n 0, 1) := by decide +kernel
theorem dX7_passHour_19 : decode cX7_passHour 19 = .ok (.aload_n 1, 1) := by decide +kernel
theorem dX7_passHour_20 : decode cX7_passHour 20 = .ok (.iload_n 2, 1) := by decide +kernel
theorem dX7_passHour_21 : decode cX7_passHour 21 = .ok (.invokevirtual 86, 3) := by decide +kernel
theorem dX7_passHour_24 : decode cX7_passHour 24 = .ok (.iastore, 1) := by decide +kernel
theorem dX7_passHour_25 : decode cX7_passHour 25 = .ok (.iinc 2 1, 3) := by decide +kernel
theorem dX7_passHour_28 : decode cX7_passHour 28 = .ok (.goto (-26), 3) := by decide +kernel
theorem dX7_passHour_31 : decode cX7_passHour 31 = .ok (.iconst 0, 1) := by decide +kernel
theorem dX7_passHour_32 : decode cX7_passHour 32 = .ok (.istore_n 2, 1) := by decide +kernel
theorem dX7_passHour_33 : decode cX7_passHour 33 = .ok (.iload_n 2, 1) := by decide +kernel
theorem dX7_passHour_34 : decode cX7_passHour 34 = .ok (.aload_n 0, 1) := by decide +kernel
theorem dX7_passHour_35 : decode cX7_passHour 35 = .ok (.getfield 12, 3) := by decide +kernel
theorem dX7_passHour_38 : decode cX7_passHour 38 = .ok (.getfield 83, 3) := by decide +kernel
theorem dX7_passHour_41 : decode cX7_passHour 41 = .ok (.if_icmp .ge 57, 3) := by decide +kernel
theorem dX7_passHour_44 : decode cX7_passHour 44 = .ok (.aload_n 1, 1) := by decide +kernel
theorem dX7_passHour_45 : decode cX7_passHour 45 = .ok (.getfield 73, 3) := by decide +kernel
theorem dX7_passHour_48 : decode cX7_passHour 48 = .ok (.iload_n 2, 1) := by decide +kernel
theorem dX7_passHour_49 : decode cX7_passHour 49 = .ok (.dup2, 1) := by decide +kernel
theorem dX7_passHour_50 : decode cX7_passHour 50 = .ok (.iaload, 1) := by decide +kernel
theorem dX7_passHour_51 : decode cX7_passHour 51 = .ok (.aload_n 0, 1) := by decide +kernel
theorem dX7_passHour_52 : decode cX7_passHour 52 = .ok (.getfield 29, 3) := by decide +kernel
theorem dX7_passHour_55 : decode cX7_passHour 55 = .ok (.iload_n 2, 1) := by decide +kernel
theorem dX7_passHour_56 : decode cX7_passHour 56 = .ok (.iaload, 1) := by decide +kernel
theorem dX7_passHour_57 : decode cX7_passHour 57 = .ok (.iadd, 1) := by decide +kernel
theorem dX7_passHour_58 : decode cX7_passHour 58 = .ok (.iastore, 1) := by decide +kernel
theorem dX7_passHour_59 : decode cX7_passHour 59 = .ok (.aload_n 1, 1) := by decide +kernel
theorem dX7_passHour_60 : decode cX7_passHour 60 = .ok (.getfield 73, 3) := by decide +kernel
theorem dX7_passHour_63 : decode cX7_passHour 63 = .ok (.iload_n 2, 1) := by decide +kernel
theorem dX7_passHour_64 : decode cX7_passHour 64 = .ok (.iaload, 1) := by decide +kernel
theorem dX7_passHour_65 : decode cX7_passHour 65 = .ok (.aload_n 0, 1) := by decide +kernel
theorem dX7_passHour_66 : decode cX7_passHour 66 = .ok (.getfield 12, 3) := by decide +kernel
theorem dX7_passHour_69 : decode cX7_passHour 69 = .ok (.getfield 70, 3) := by decide +kernel
theorem dX7_passHour_72 : decode cX7_passHour 72 = .ok (.iload_n 2, 1) := by decide +kernel
theorem dX7_passHour_73 : decode cX7_passHour 73 = .ok (.iaload, 1) := by decide +kernel
theorem dX7_passHour_74 : decode cX7_passHour 74 = .ok (.if_icmp .le 18, 3) := by decide +kernel
theorem dX7_passHour_77 : decode cX7_passHour 77 = .ok (.aload_n 1, 1) := by decide +kernel
theorem dX7_passHour_78 : decode cX7_passHour 78 = .ok (.iload_n 2, 1) := by decide +kernel
theorem dX7_passHour_79 : decode cX7_passHour 79 = .ok (.aload_n 0, 1) := by decide +kernel
theorem dX7_passHour_80 : decode cX7_passHour 80 = .ok (.getfield 12, 3) := by decide +kernel
theorem dX7_passHour_83 : decode cX7_passHour 83 = .ok (.getfield 90, 3) := by decide +kernel
theorem dX7_passHour_86 : decode cX7_passHour 86 = .ok (.iload_n 2, 1) := by decide +kernel
theorem dX7_passHour_87 : decode cX7_passHour 87 = .ok (.iaload, 1) := by decide +kernel
theorem dX7_passHour_88 : decode cX7_passHour 88 = .ok (.invokevirtual 93, 3) := by decide +kernel
theorem dX7_passHour_91 : decode cX7_passHour 91 = .ok (.pop, 1) := by decide +kernel
theorem dX7_passHour_92 : decode cX7_passHour 92 = .ok (.iinc 2 1, 3) := by decide +kernel
theorem dX7_passHour_95 : decode cX7_passHour 95 = .ok (.goto (-62), 3) := by decide +kernel
theorem dX7_passHour_98 : decode cX7_passHour 98 = .ok (.iconst 0, 1) := by decide +kernel
theorem dX7_passHour_99 : decode cX7_passHour 99 = .ok (.istore_n 2, 1) := by decide +kernel
theorem dX7_passHour_100 : decode cX7_passHour 100 = .ok (.iload_n 2, 1) := by decide +kernel
theorem dX7_passHour_101 : decode cX7_passHour 101 = .ok (.aload_n 0, 1) := by decide +kernel
theorem dX7_passHour_102 : decode cX7_passHour 102 = .ok (.getfield 12, 3) := by decide +kernel
theorem dX7_passHour_105 : decode cX7_passHour 105 = .ok (.getfield 83, 3) := by decide +kernel
theorem dX7_passHour_108 : decode cX7_passHour 108 = .ok (.if_icmp .ge 20, 3) := by decide +kernel
theorem dX7_passHour_111 : decode cX7_passHour 111 = .ok (.aload_n 1, 1) := by decide +kernel
theorem dX7_passHour_112 : decode cX7_passHour 112 = .ok (.iload_n 2, 1) := by decide +kernel
theorem dX7_passHour_113 : decode cX7_passHour 113 = .ok (.aload_n 0, 1) := by decide +kernel
theorem dX7_passHour_114 : decode cX7_passHour 114 = .ok (.getfield 29, 3) := by decide +kernel
theorem dX7_passHour_117 : decode cX7_passHour 117 = .ok (.iload_n 2, 1) := by decide +kernel
theorem dX7_passHour_118 : decode cX7_passHour 118 = .ok (.iaload, 1) := by decide +kernel
theorem dX7_passHour_119 : decode cX7_passHour 119 = .ok (.invokevirtual 97, 3) := by decide +kernel
theorem dX7_passHour_122 : decode cX7_passHour 122 = .ok (.iinc 2 1, 3) := by decide +kernel
theorem dX7_passHour_125 : decode cX7_passHour 125 = .ok (.goto (-25), 3) := by decide +kernel
theorem dX7_passHour_128 : decode cX7_passHour 128 = .ok (.aload_n 1, 1) := by decide +kernel
theorem dX7_passHour_129 : decode cX7_passHour 129 = .ok (.dup, 1) := by decide +kernel
theorem dX7_passHour_130 : decode cX7_passHour 130 = .ok (.getfield 79, 3) := by decide +kernel
theorem dX7_passHour_133 : decode cX7_passHour 133 = .ok (.iconst 1, 1) := by decide +kernel
theorem dX7_passHour_134 : decode cX7_passHour 134 = .ok (.iadd, 1) := by decide +kernel
theorem dX7_passHour_135 : decode cX7_passHour 135 = .ok (.putfield 79, 3) := by decide +kernel
theorem dX7_passHour_138 : decode cX7_passHour 138 = .ok (.return_, 1) := by decide +kernel
theorem dX8_init_0 : decode cX8_init 0 = .ok (.aload_n 0, 1) := by decide +kernel
theorem dX8_init_1 : decode cX8_init 1 = .ok (.invokespecial 3, 3) := by decide +kernel
theorem dX8_init_4 : decode cX8_init 4 = .ok (.aload_n 0, 1) := by decide +kernel
theorem dX8_init_5 : decode cX8_init 5 = .ok (.sipush 600, 3) := by decide +kernel
theorem dX8_init_8 : decode cX8_init 8 = .ok (.newarray .byte, 2) := by decide +kernel
theorem dX8_init_10 : decode cX8_init 10 = .ok (.putfield 9, 3) := by decide +kernel
theorem dX8_init_13 : decode cX8_init 13 = .ok (.aload_n 0, 1) := by decide +kernel
theorem dX8_init_14 : decode cX8_init 14 = .ok (.iconst (-1), 1) := by decide +kernel
theorem dX8_init_15 : decode cX8_init 15 = .ok (.putfield 15, 3) := by decide +kernel
theorem dX8_init_18 : decode cX8_init 18 = .ok (.return_, 1) := by decide +kernel
theorem dX8_append_0 : decode cX8_append 0 = .ok (.bipush 24, 2) := by decide +kernel
theorem dX8_append_2 : decode cX8_append 2 = .ok (.istore_n 2, 1) := by decide +kernel
theorem dX8_append_3 : decode cX8_append 3 = .ok (.iload_n 2, 1) := by decide +kernel
theorem dX8_append_4 : decode cX8_append 4 = .ok (.ifCond .lt 42, 3) := by decide +kernel
theorem dX8_append_7 : decode cX8_append 7 = .ok (.aload_n 0, 1) := by decide +kernel
theorem dX8_append_8 : decode cX8_append 8 = .ok (.getfield 19, 3) := by decide +kernel
theorem dX8_append_11 : decode cX8_append 11 = .ok (.sipush 600, 3) := by decide +kernel
theorem dX8_append_14 : decode cX8_append 14 = .ok (.if_icmp .ge 32, 3) := by decide +kernel
theorem dX8_append_17 : decode cX8_append 17 = .ok (.aload_n 0, 1) := by decide +kernel
theorem dX8_append_18 : decode cX8_append 18 = .ok (.getfield 9, 3) := by decide +kernel
theorem dX8_append_21 : decode cX8_append 21 = .ok (.aload_n 0, 1) := by decide +kernel
theorem dX8_append_22 : decode cX8_append 22 = .ok (.getfield 19, 3) := by decide +kernel
theorem dX8_append_25 : decode cX8_append 25 = .ok (.iload_n 1, 1) := by decide +kernel
theorem dX8_append_26 : decode cX8_append 26 = .ok (.iload_n 2, 1) := by decide +kernel
theorem dX8_append_27 : decode cX8_append 27 = .ok (.iushr, 1) := by decide +kernel
theorem dX8_append_28 : decode cX8_append 28 = .ok (.i2b, 1) := by decide +kernel
theorem dX8_append_29 : decode cX8_append 29 = .ok (.bastore, 1) := by decide +kernel
theorem dX8_append_30 : decode cX8_append 30 = .ok (.aload_n 0, 1) := by decide +kernel
theorem dX8_append_31 : decode cX8_append 31 = .ok (.dup, 1) := by decide +kernel
theorem dX8_append_32 : decode cX8_append 32 = .ok (.getfield 19, 3) := by decide +kernel
theorem dX8_append_35 : decode cX8_append 35 = .ok (.iconst 1, 1) := by decide +kernel
theorem dX8_append_36 : decode cX8_append 36 = .ok (.iadd, 1) := by decide +kernel
theorem dX8_append_37 : decode cX8_append 37 = .ok (.putfield 19, 3) := by decide +kernel
theorem dX8_append_40 : decode cX8_append 40 = .ok (.iinc 2 (-8), 3) := by decide +kernel
theorem dX8_append_43 : decode cX8_append 43 = .ok (.goto (-40), 3) := by decide +kernel
theorem dX8_append_46 : decode cX8_append 46 = .ok (.return_, 1) := by decide +kernel
theorem dX8_open_0 : decode cX8_open 0 = .ok (.aload_n 0, 1) := by decide +kernel
theorem dX8_open_1 : decode cX8_open 1 = .ok (.iconst 0, 1) := by decide +kernel
theorem dX8_open_2 : decode cX8_open 2 = .ok (.iload_n 1, 1) := by decide +kernel
theorem dX8_open_3 : decode cX8_open 3 = .ok (.aload_n 0, 1) := by decide +kernel
theorem dX8_open_4 : decode cX8_open 4 = .ok (.getfield 19, 3) := by decide +kernel
theorem dX8_open_7 : decode cX8_open 7 = .ok (.invokestatic 22, 3) := by decide +kernel
theorem dX8_open_10 : decode cX8_open 10 = .ok (.invokestatic 28, 3) := by decide +kernel
theorem dX8_open_13 : decode cX8_open 13 = .ok (.putfield 31, 3) := by decide +kernel
theorem dX8_open_16 : decode cX8_open 16 = .ok (.aload_n 0, 1) := by decide +kernel
theorem dX8_open_17 : decode cX8_open 17 = .ok (.iconst 0, 1) := by decide +kernel
theorem dX8_open_18 : decode cX8_open 18 = .ok (.putfield 19, 3) := by decide +kernel
theorem dX8_open_21 : decode cX8_open 21 = .ok (.aload_n 0, 1) := by decide +kernel
theorem dX8_open_22 : decode cX8_open 22 = .ok (.iconst 0, 1) := by decide +kernel
theorem dX8_open_23 : decode cX8_open 23 = .ok (.putfield 34, 3) := by decide +kernel
theorem dX8_open_26 : decode cX8_open 26 = .ok (.aload_n 0, 1) := by decide +kernel
theorem dX8_open_27 : decode cX8_open 27 = .ok (.iconst 0, 1) := by decide +kernel
theorem dX8_open_28 : decode cX8_open 28 = .ok (.putfield 37, 3) := by decide +kernel
theorem dX8_open_31 : decode cX8_open 31 = .ok (.aload_n 0, 1) := by decide +kernel
theorem dX8_open_32 : decode cX8_open 32 = .ok (.iconst (-1), 1) := by decide +kernel
theorem dX8_open_33 : decode cX8_open 33 = .ok (.putfield 15, 3) := by decide +kernel
theorem dX8_open_36 : decode cX8_open 36 = .ok (.aload_n 0, 1) := by decide +kernel
theorem dX8_open_37 : decode cX8_open 37 = .ok (.invokevirtual 40, 3) := by decide +kernel
theorem dX8_open_40 : decode cX8_open 40 = .ok (.return_, 1) := by decide +kernel
theorem dX8_next_0 : decode cX8_next 0 = .ok (.aload_n 0, 1) := by decide +kernel
theorem dX8_next_1 : decode cX8_next 1 = .ok (.aload_n 0, 1) := by decide +kernel
theorem dX8_next_2 : decode cX8_next 2 = .ok (.getfield 34, 3) := by decide +kernel
theorem dX8_next_5 : decode cX8_next 5 = .ok (.putfield 43, 3) := by decide +kernel
theorem dX8_next_8 : decode cX8_next 8 = .ok (.aload_n 0, 1) := by decide +kernel
theorem dX8_next_9 : decode cX8_next 9 = .ok (.getfield 43, 3) := by decide +kernel
theorem dX8_next_12 : decode cX8_next 12 = .ok (.aload_n 0, 1) := by decide +kernel
theorem dX8_next_13 : decode cX8_next 13 = .ok (.getfield 31, 3) := by decide +kernel
theorem dX8_next_16 : decode cX8_next 16 = .ok (.if_icmp .ge 30, 3) := by decide +kernel
theorem dX8_next_19 : decode cX8_next 19 = .ok (.aload_n 0, 1) := by decide +kernel
theorem dX8_next_20 : decode cX8_next 20 = .ok (.getfield 9, 3) := by decide +kernel
theorem dX8_next_23 : decode cX8_next 23 = .ok (.aload_n 0, 1) := by decide +kernel
theorem dX8_next_24 : decode cX8_next 24 = .ok (.getfield 43, 3) := by decide +kernel
theorem dX8_next_27 : decode cX8_next 27 = .ok (.baload, 1) := by decide +kernel
theorem dX8_next_28 : decode cX8_next 28 = .ok (.bipush 32, 2) := by decide +kernel
theorem dX8_next_30 : decode cX8_next 30 = .ok (.if_icmp .ne 16, 3) := by decide +kernel
theorem dX8_next_33 : decode cX8_next 33 = .ok (.aload_n 0, 1) := by decide +kernel
theorem dX8_next_34 : decode cX8_next 34 = .ok (.dup, 1) := by decide +kernel
theorem dX8_next_35 : decode cX8_next 35 = .ok (.getfield 43, 3) := by decide +kernel
theorem dX8_next_38 : decode cX8_next 38 = .ok (.iconst 1, 1) := by decide +kernel
theorem dX8_next_39 : decode cX8_next 39 = .ok (.iadd, 1) := by decide +kernel
theorem dX8_next_40 : decode cX8_next 40 = .ok (.putfield 43, 3) := by decide +kernel
theorem dX8_next_43 : decode cX8_next 43 = .ok (.goto (-35), 3) := by decide +kernel
theorem dX8_next_46 : decode cX8_next 46 = .ok (.aload_n 0, 1) := by decide +kernel
theorem dX8_next_47 : decode cX8_next 47 = .ok (.aload_n 0, 1) := by decide +kernel
theorem dX8_next_48 : decode cX8_next 48 = .ok (.getfield 43, 3) := by decide +kernel
theorem dX8_next_51 : decode cX8_next 51 = .ok (.putfield 34, 3) := by decide +kernel
theorem dX8_next_54 : decode cX8_next 54 = .ok (.aload_n 0, 1) := by decide +kernel
theorem dX8_next_55 : decode cX8_next 55 = .ok (.iconst 0, 1) := by decide +kernel
theorem dX8_next_56 : decode cX8_next 56 = .ok (.putfield 46, 3) := by decide +kernel
theorem dX8_next_59 : decode cX8_next 59 = .ok (.aload_n 0, 1) := by decide +kernel
theorem dX8_next_60 : decode cX8_next 60 = .ok (.aload_n 0, 1) := by decide +kernel
theorem dX8_next_61 : decode cX8_next 61 = .ok (.getfield 43, 3) := by decide +kernel
theorem dX8_next_64 : decode cX8_next 64 = .ok (.aload_n 0, 1) := by decide +kernel
theorem dX8_next_65 : decode cX8_next 65 = .ok (.getfield 31, 3) := by decide +kernel
theorem dX8_next_68 : decode cX8_next 68 = .ok (.if_icmp .ge 7, 3) := by decide +kernel
theorem dX8_next_71 : decode cX8_next 71 = .ok (.iconst 3, 1) := by decide +kernel
theorem dX8_next_72 : decode cX8_next 72 = .ok (.goto 4, 3) := by decide +kernel
theorem dX8_next_75 : decode cX8_next 75 = .ok (.iconst 0, 1) := by decide +kernel
theorem dX8_next_76 : decode cX8_next 76 = .ok (.putfield 49, 3) := by decide +kernel
theorem dX8_next_79 : decode cX8_next 79 = .ok (.aload_n 0, 1) := by decide +kernel
theorem dX8_next_80 : decode cX8_next 80 = .ok (.getfield 34, 3) := by decide +kernel
theorem dX8_next_83 : decode cX8_next 83 = .ok (.aload_n 0, 1) := by decide +kernel
theorem dX8_next_84 : decode cX8_next 84 = .ok (.getfield 31, 3) := by decide +kernel
theorem dX8_next_87 : decode cX8_next 87 = .ok (.if_icmp .ge 87, 3) := by decide +kernel
theorem dX8_next_90 : decode cX8_next 90 = .ok (.aload_n 0, 1) := by decide +kernel
theorem dX8_next_91 : decode cX8_next 91 = .ok (.getfield 9, 3) := by decide +kernel
theorem dX8_next_94 : decode cX8_next 94 = .ok (.aload_n 0, 1) := by decide +kernel
theorem dX8_next_95 : decode cX8_next 95 = .ok (.getfield 34, 3) := by decide +kernel
theorem dX8_next_98 : decode cX8_next 98 = .ok (.baload, 1) := by decide +kernel
theorem dX8_next_99 : decode cX8_next 99 = .ok (.bipush 48, 2) := by decide +kernel
theorem dX8_next_101 : decode cX8_next 101 = .ok (.if_icmp .lt 73, 3) := by decide +kernel
theorem dX8_next_104 : decode cX8_next 104 = .ok (.aload_n 0, 1) := by decide +kernel
theorem dX8_next_105 : decode cX8_next 105 = .ok (.getfield 9, 3) := by decide +kernel
theorem dX8_next_108 : decode cX8_next 108 = .ok (.aload_n 0, 1) := by decide +kernel
theorem dX8_next_109 : decode cX8_next 109 = .ok (.getfield 34, 3) := by decide +kernel
theorem dX8_next_112 : decode cX8_next 112 = .ok (.baload, 1) := by decide +kernel
theorem dX8_next_113 : decode cX8_next 113 = .ok (.bipush 57, 2) := by decide +kernel
theorem dX8_next_115 : decode cX8_next 115 = .ok (.if_icmp .gt 59, 3) := by decide +kernel
theorem dX8_next_118 : decode cX8_next 118 = .ok (.aload_n 0, 1) := by decide +kernel
theorem dX8_next_119 : decode cX8_next 119 = .ok (.iconst 1, 1) := by decide +kernel
theorem dX8_next_120 : decode cX8_next 120 = .ok (.putfield 49, 3) := by decide +kernel
theorem dX8_next_123 : decode cX8_next 123 = .ok (.aload_n 0, 1) := by decide +kernel
theorem dX8_next_124 : decode cX8_next 124 = .ok (.aload_n 0, 1) := by decide +kernel
theorem dX8_next_125 : decode cX8_next 125 = .ok (.getfield 46, 3) := by decide +kernel
theorem dX8_next_128 : decode cX8_next 128 = .ok (.ldc 52, 2) := by decide +kernel
theorem dX8_next_130 : decode cX8_next 130 = .ok (.if_icmp .ge 26, 3) := by decide +kernel
theorem dX8_next_133 : decode cX8_next 133 = .ok (.aload_n 0, 1) := by decide +kernel
theorem dX8_next_134 : decode cX8_next 134 = .ok (.getfield 46, 3) := by decide +kernel
theorem dX8_next_137 : decode cX8_next 137 = .ok (.bipush 10, 2) := by decide +kernel
theorem dX8_next_139 : decode cX8_next 139 = .ok (.imul, 1) := by decide +kernel
theorem dX8_next_140 : decode cX8_next 140 = .ok (.aload_n 0, 1) := by decide +kernel
theorem dX8_next_141 : decode cX8_next 141 = .ok (.getfield 9, 3) := by decide +kernel
theorem dX8_next_144 : decode cX8_next 144 = .ok (.aload_n 0, 1) := by decide +kernel
theorem dX8_next_145 : decode cX8_next 145 = .ok (.getfield 34, 3) := by decide +kernel
theorem dX8_next_148 : decode cX8_next 148 = .ok (.baload, 1) := by decide +kernel
theorem dX8_next_149 : decode cX8_next 149 = .ok (.iadd, 1) := by decide +kernel
theorem dX8_next_150 : decode cX8_next 150 = .ok (.bipush 48, 2) := by decide +kernel
theorem dX8_next_152 : decode cX8_next 152 = .ok (.isub, 1) := by decide +kernel
theorem dX8_next_153 : decode cX8_next 153 = .ok (.goto 5, 3) := by decide +kernel
theorem dX8_next_156 : decode cX8_next 156 = .ok (.ldc 52, 2) := by decide +kernel
theorem dX8_next_158 : decode cX8_next 158 = .ok (.putfield 46, 3) := by decide +kernel
theorem dX8_next_161 : decode cX8_next 161 = .ok (.aload_n 0, 1) := by decide +kernel
theorem dX8_next_162 : decode cX8_next 162 = .ok (.dup, 1) := by decide +kernel
theorem dX8_next_163 : decode cX8_next 163 = .ok (.getfield 34, 3) := by decide +kernel
theorem dX8_next_166 : decode cX8_next 166 = .ok (.iconst 1, 1) := by decide +kernel
theorem dX8_next_167 : decode cX8_next 167 = .ok (.iadd, 1) := by decide +kernel
theorem dX8_next_168 : decode cX8_next 168 = .ok (.putfield 34, 3) := by decide +kernel
theorem dX8_next_171 : decode cX8_next 171 = .ok (.goto (-92), 3) := by decide +kernel
theorem dX8_next_174 : decode cX8_next 174 = .ok (.aload_n 0, 1) := by decide +kernel
theorem dX8_next_175 : decode cX8_next 175 = .ok (.getfield 49, 3) := by decide +kernel
theorem dX8_next_178 : decode cX8_next 178 = .ok (.iconst 1, 1) := by decide +kernel
theorem dX8_next_179 : decode cX8_next 179 = .ok (.if_icmp .eq 60, 3) := by decide +kernel
theorem dX8_next_182 : decode cX8_next 182 = .ok (.aload_n 0, 1) := by decide +kernel
theorem dX8_next_183 : decode cX8_next 183 = .ok (.getfield 34, 3) := by decide +kernel
theorem dX8_next_186 : decode cX8_next 186 = .ok (.aload_n 0, 1) := by decide +kernel
theorem dX8_next_187 : decode cX8_next 187 = .ok (.getfield 31, 3) := by decide +kernel
theorem dX8_next_190 : decode cX8_next 190 = .ok (.if_icmp .ge 49, 3) := by decide +kernel
theorem dX8_next_193 : decode cX8_next 193 = .ok (.aload_n 0, 1) := by decide +kernel
theorem dX8_next_194 : decode cX8_next 194 = .ok (.getfield 9, 3) := by decide +kernel
theorem dX8_next_197 : decode cX8_next 197 = .ok (.aload_n 0, 1) := by decide +kernel
theorem dX8_next_198 : decode cX8_next 198 = .ok (.getfield 34, 3) := by decide +kernel
theorem dX8_next_201 : decode cX8_next 201 = .ok (.baload, 1) := by decide +kernel
theorem dX8_next_202 : decode cX8_next 202 = .ok (.bipush 97, 2) := by decide +kernel
theorem dX8_next_204 : decode cX8_next 204 = .ok (.if_icmp .lt 35, 3) := by decide +kernel
theorem dX8_next_207 : decode cX8_next 207 = .ok (.aload_n 0, 1) := by decide +kernel
theorem dX8_next_208 : decode cX8_next 208 = .ok (.getfield 9, 3) := by decide +kernel
theorem dX8_next_211 : decode cX8_next 211 = .ok (.aload_n 0, 1) := by decide +kernel
theorem dX8_next_212 : decode cX8_next 212 = .ok (.getfield 34, 3) := by decide +kernel
theorem dX8_next_215 : decode cX8_next 215 = .ok (.baload, 1) := by decide +kernel
theorem dX8_next_216 : decode cX8_next 216 = .ok (.bipush 122, 2) := by decide +kernel
theorem dX8_next_218 : decode cX8_next 218 = .ok (.if_icmp .gt 21, 3) := by decide +kernel
theorem dX8_next_221 : decode cX8_next 221 = .ok (.aload_n 0, 1) := by decide +kernel
theorem dX8_next_222 : decode cX8_next 222 = .ok (.iconst 2, 1) := by decide +kernel
theorem dX8_next_223 : decode cX8_next 223 = .ok (.putfield 49, 3) := by decide +kernel
theorem dX8_next_226 : decode cX8_next 226 = .ok (.aload_n 0, 1) := by decide +kernel
theorem dX8_next_227 : decode cX8_next 227 = .ok (.dup, 1) := by decide +kernel
theorem dX8_next_228 : decode cX8_next 228 = .ok (.getfield 34, 3) := by decide +kernel
theorem dX8_next_231 : decode cX8_next 231 = .ok (.iconst 1, 1) := by decide +kernel
theorem dX8_next_232 : decode cX8_next 232 = .ok (.iadd, 1) := by decide +kernel
theorem dX8_next_233 : decode cX8_next 233 = .ok (.putfield 34, 3) := by decide +kernel
theorem dX8_next_236 : decode cX8_next 236 = .ok (.goto (-62), 3) := by decide +kernel
theorem dX8_next_239 : decode cX8_next 239 = .ok (.aload_n 0, 1) := by decide +kernel
theorem dX8_next_240 : decode cX8_next 240 = .ok (.dup, 1) := by decide +kernel
theorem dX8_next_241 : decode cX8_next 241 = .ok (.getfield 34, 3) := by decide +kernel
theorem dX8_next_244 : decode cX8_next 244 = .ok (.aload_n 0, 1) := by decide +kernel
theorem dX8_next_245 : decode cX8_next 245 = .ok (.getfield 49, 3) := by decide +kernel
theorem dX8_next_248 : decode cX8_next 248 = .ok (.iconst 3, 1) := by decide +kernel
theorem dX8_next_249 : decode cX8_next 249 = .ok (.if_icmp .ne 7, 3) := by decide +kernel
theorem dX8_next_252 : decode cX8_next 252 = .ok (.iconst 1, 1) := by decide +kernel
theorem dX8_next_253 : decode cX8_next 253 = .ok (.goto 4, 3) := by decide +kernel
theorem dX8_next_256 : decode cX8_next 256 = .ok (.iconst 0, 1) := by decide +kernel
theorem dX8_next_257 : decode cX8_next 257 = .ok (.iadd, 1) := by decide +kernel
theorem dX8_next_258 : decode cX8_next 258 = .ok (.putfield 34, 3) := by decide +kernel
theorem dX8_next_261 : decode cX8_next 261 = .ok (.return_, 1) := by decide +kernel
theorem dX8_isFaulty_0 : decode cX8_isFaulty 0 = .ok (.aload_n 0, 1) := by decide +kernel
theorem dX8_isFaulty_1 : decode cX8_isFaulty 1 = .ok (.getfield 37, 3) := by decide +kernel
theorem dX8_isFaulty_4 : decode cX8_isFaulty 4 = .ok (.ifCond .eq 7, 3) := by decide +kernel
theorem dX8_isFaulty_7 : decode cX8_isFaulty 7 = .ok (.iconst 1, 1) := by decide +kernel
theorem dX8_isFaulty_8 : decode cX8_isFaulty 8 = .ok (.goto 4, 3) := by decide +kernel
theorem dX8_isFaulty_11 : decode cX8_isFaulty 11 = .ok (.iconst 0, 1) := by decide +kernel
theorem dX8_isFaulty_12 : decode cX8_isFaulty 12 = .ok (.ireturn, 1) := by decide +kernel
theorem dX8_isAtEnd_0 : decode cX8_isAtEnd 0 = .ok (.aload_n 0, 1) := by decide +kernel
theorem dX8_isAtEnd_1 : decode cX8_isAtEnd 1 = .ok (.getfield 49, 3) := by decide +kernel
theorem dX8_isAtEnd_4 : decode cX8_isAtEnd 4 = .ok (.ifCond .ne 7, 3) := by decide +kernel
theorem dX8_isAtEnd_7 : decode cX8_isAtEnd 7 = .ok (.iconst 1, 1) := by decide +kernel
theorem dX8_isAtEnd_8 : decode cX8_isAtEnd 8 = .ok (.goto 4, 3) := by decide +kernel
theorem dX8_isAtEnd_11 : decode cX8_isAtEnd 11 = .ok (.iconst 0, 1) := by decide +kernel
theorem dX8_isAtEnd_12 : decode cX8_isAtEnd 12 = .ok (.ireturn, 1) := by decide +kernel
theorem dX8_isNumber_0 : decode cX8_isNumber 0 = .ok (.aload_n 0, 1) := by decide +kernel
theorem dX8_isNumber_1 : decode cX8_isNumber 1 = .ok (.getfield 49, 3) := by decide +kernel
theorem dX8_isNumber_4 : decode cX8_isNumber 4 = .ok (.iconst 1, 1) := by decide +kernel
theorem dX8_isNumber_5 : decode cX8_isNumber 5 = .ok (.if_icmp .ne 7, 3) := by decide +kernel
theorem dX8_isNumber_8 : decode cX8_isNumber 8 = .ok (.iconst 1, 1) := by decide +kernel
theorem dX8_isNumber_9 : decode cX8_isNumber 9 = .ok (.goto 4, 3) := by decide +kernel
theorem dX8_isNumber_12 : decode cX8_isNumber 12 = .ok (.iconst 0, 1) := by decide +kernel
theorem dX8_isNumber_13 : decode cX8_isNumber 13 = .ok (.ireturn, 1) := by decide +kernel
theorem dX8_isSign_0 : decode cX8_isSign 0 = .ok (.aload_n 0, 1) := by decide +kernel
theorem dX8_isSign_1 : decode cX8_isSign 1 = .ok (.getfield 37, 3) := by decide +kernel
theorem dX8_isSign_4 : decode cX8_isSign 4 = .ok (.ifCond .ne 39, 3) := by decide +kernel
theorem dX8_isSign_7 : decode cX8_isSign 7 = .ok (.aload_n 0, 1) := by decide +kernel
theorem dX8_isSign_8 : decode cX8_isSign 8 = .ok (.getfield 49, 3) := by decide +kernel
theorem dX8_isSign_11 : decode cX8_isSign 11 = .ok (.iconst 3, 1) := by decide +kernel
theorem dX8_isSign_12 : decode cX8_isSign 12 = .ok (.if_icmp .ne 31, 3) := by decide +kernel
theorem dX8_isSign_15 : decode cX8_isSign 15 = .ok (.aload_n 0, 1) := by decide +kernel
theorem dX8_isSign_16 : decode cX8_isSign 16 = .ok (.getfield 43, 3) := by decide +kernel
theorem dX8_isSign_19 : decode cX8_isSign 19 = .ok (.aload_n 0, 1) := by decide +kernel
theorem dX8_isSign_20 : decode cX8_isSign 20 = .ok (.getfield 31, 3) := by decide +kernel
theorem dX8_isSign_23 : decode cX8_isSign 23 = .ok (.if_icmp .ge 20, 3) := by decide +kernel
theorem dX8_isSign_26 : decode cX8_isSign 26 = .ok (.aload_n 0, 1) := by decide +kernel
theorem dX8_isSign_27 : decode cX8_isSign 27 = .ok (.getfield 9, 3) := by decide +kernel
theorem dX8_isSign_30 : decode cX8_isSign 30 = .ok (.aload_n 0, 1) := by decide +kernel
theorem dX8_isSign_31 : decode cX8_isSign 31 = .ok (.getfield 43, 3) := by decide +kernel
theorem dX8_isSign_34 : decode cX8_isSign 34 = .ok (.baload, 1) := by decide +kernel
theorem dX8_isSign_35 : decode cX8_isSign 35 = .ok (.iload_n 1, 1) := by decide +kernel
theorem dX8_isSign_36 : decode cX8_isSign 36 = .ok (.if_icmp .ne 7, 3) := by decide +kernel
theorem dX8_isSign_39 : decode cX8_isSign 39 = .ok (.iconst 1, 1) := by decide +kernel
theorem dX8_isSign_40 : decode cX8_isSign 40 = .ok (.goto 4, 3) := by decide +kernel
theorem dX8_isSign_43 : decode cX8_isSign 43 = .ok (.iconst 0, 1) := by decide +kernel
theorem dX8_isSign_44 : decode cX8_isSign 44 = .ok (.ireturn, 1) := by decide +kernel
theorem dX8_isWord_0 : decode cX8_isWord 0 = .ok (.aload_n 0, 1) := by decide +kernel
theorem dX8_isWord_1 : decode cX8_isWord 1 = .ok (.getfield 49, 3) := by decide +kernel
theorem dX8_isWord_4 : decode cX8_isWord 4 = .ok (.iconst 2, 1) := by decide +kernel
theorem dX8_isWord_5 : decode cX8_isWord 5 = .ok (.if_icmp .ne 19, 3) := by decide +kernel
theorem dX8_isWord_8 : decode cX8_isWord 8 = .ok (.aload_n 0, 1) := by decide +kernel
theorem dX8_isWord_9 : decode cX8_isWord 9 = .ok (.getfield 34, 3) := by decide +kernel
theorem dX8_isWord_12 : decode cX8_isWord 12 = .ok (.aload_n 0, 1) := by decide +kernel
theorem dX8_isWord_13 : decode cX8_isWord 13 = .ok (.getfield 43, 3) := by decide +kernel
theorem dX8_isWord_16 : decode cX8_isWord 16 = .ok (.isub, 1) := by decide +kernel
theorem dX8_isWord_17 : decode cX8_isWord 17 = .ok (.aload_n 1, 1) := by decide +kernel
theorem dX8_isWord_18 : decode cX8_isWord 18 = .ok (.invokevirtual 53, 3) := by decide +kernel
theorem dX8_isWord_21 : decode cX8_isWord 21 = .ok (.if_icmp .eq 5, 3) := by decide +kernel
theorem dX8_isWord_24 : decode cX8_isWord 24 = .ok (.iconst 0, 1) := by decide +kernel
theorem dX8_isWord_25 : decode cX8_isWord 25 = .ok (.ireturn, 1) := by decide +kernel
theorem dX8_isWord_26 : decode cX8_isWord 26 = .ok (.iconst 0, 1) := by decide +kernel
theorem dX8_isWord_27 : decode cX8_isWord 27 = .ok (.istore_n 2, 1) := by decide +kernel
theorem dX8_isWord_28 : decode cX8_isWord 28 = .ok (.iload_n 2, 1) := by decide +kernel
theorem dX8_isWord_29 : decode cX8_isWord 29 = .ok (.aload_n 1, 1) := by decide +kernel
theorem dX8_isWord_30 : decode cX8_isWord 30 = .ok (.invokevirtual 53, 3) := by decide +kernel
theorem dX8_isWord_33 : decode cX8_isWord 33 = .ok (.if_icmp .ge 43, 3) := by decide +kernel
theorem dX8_isWord_36 : decode cX8_isWord 36 = .ok (.aload_n 0, 1) := by decide +kernel
theorem dX8_isWord_37 : decode cX8_isWord 37 = .ok (.getfield 43, 3) := by decide +kernel
theorem dX8_isWord_40 : decode cX8_isWord 40 = .ok (.iload_n 2, 1) := by decide +kernel
theorem dX8_isWord_41 : decode cX8_isWord 41 = .ok (.iadd, 1) := by decide +kernel
theorem dX8_isWord_42 : decode cX8_isWord 42 = .ok (.aload_n 0, 1) := by decide +kernel
theorem dX8_isWord_43 : decode cX8_isWord 43 = .ok (.getfield 31, 3) := by decide +kernel
theorem dX8_isWord_46 : decode cX8_isWord 46 = .ok (.if_icmp .ge 30, 3) := by decide +kernel
theorem dX8_isWord_49 : decode cX8_isWord 49 = .ok (.aload_n 0, 1) := by decide +kernel
theorem dX8_isWord_50 : decode cX8_isWord 50 = .ok (.getfield 9, 3) := by decide +kernel
theorem dX8_isWord_53 : decode cX8_isWord 53 = .ok (.aload_n 0, 1) := by decide +kernel
theorem dX8_isWord_54 : decode cX8_isWord 54 = .ok (.getfield 43, 3) := by decide +kernel
theorem dX8_isWord_57 : decode cX8_isWord 57 = .ok (.iload_n 2, 1) := by decide +kernel
theorem dX8_isWord_58 : decode cX8_isWord 58 = .ok (.iadd, 1) := by decide +kernel
theorem dX8_isWord_59 : decode cX8_isWord 59 = .ok (.baload, 1) := by decide +kernel
theorem dX8_isWord_60 : decode cX8_isWord 60 = .ok (.aload_n 1, 1) := by decide +kernel
theorem dX8_isWord_61 : decode cX8_isWord 61 = .ok (.iload_n 2, 1) := by decide +kernel
theorem dX8_isWord_62 : decode cX8_isWord 62 = .ok (.invokevirtual 58, 3) := by decide +kernel
theorem dX8_isWord_65 : decode cX8_isWord 65 = .ok (.if_icmp .eq 5, 3) := by decide +kernel
theorem dX8_isWord_68 : decode cX8_isWord 68 = .ok (.iconst 0, 1) := by decide +kernel
theorem dX8_isWord_69 : decode cX8_isWord 69 = .ok (.ireturn, 1) := by decide +kernel
theorem dX8_isWord_70 : decode cX8_isWord 70 = .ok (.iinc 2 1, 3) := by decide +kernel
theorem dX8_isWord_73 : decode cX8_isWord 73 = .ok (.goto (-45), 3) := by decide +kernel
theorem dX8_isWord_76 : decode cX8_isWord 76 = .ok (.iconst 1, 1) := by decide +kernel
theorem dX8_isWord_77 : decode cX8_isWord 77 = .ok (.ireturn, 1) := by decide +kernel
theorem dX8_fail_0 : decode cX8_fail 0 = .ok (.aload_n 0, 1) := by decide +kernel
theorem dX8_fail_1 : decode cX8_fail 1 = .ok (.getfield 37, 3) := by decide +kernel
theorem dX8_fail_4 : decode cX8_fail 4 = .ok (.ifCond .ne 16, 3) := by decide +kernel
theorem dX8_fail_7 : decode cX8_fail 7 = .ok (.aload_n 0, 1) := by decide +kernel
theorem dX8_fail_8 : decode cX8_fail 8 = .ok (.iload_n 1, 1) := by decide +kernel
theorem dX8_fail_9 : decode cX8_fail 9 = .ok (.putfield 37, 3) := by decide +kernel
theorem dX8_fail_12 : decode cX8_fail 12 = .ok (.aload_n 0, 1) := by decide +kernel
theorem dX8_fail_13 : decode cX8_fail 13 = .ok (.aload_n 0, 1) := by decide +kernel
theorem dX8_fail_14 : decode cX8_fail 14 = .ok (.getfield 43, 3) := by decide +kernel
theorem dX8_fail_17 : decode cX8_fail 17 = .ok (.putfield 15, 3) := by decide +kernel
theorem dX8_fail_20 : decode cX8_fail 20 = .ok (.return_, 1) := by decide +kernel
theorem dX8_takeSign_0 : decode cX8_takeSign 0 = .ok (.aload_n 0, 1) := by decide +kernel
theorem dX8_takeSign_1 : decode cX8_takeSign 1 = .ok (.iload_n 1, 1) := by decide +kernel
theorem dX8_takeSign_2 : decode cX8_takeSign 2 = .ok (.invokevirtual 62, 3) := by decide +kernel
theorem dX8_takeSign_5 : decode cX8_takeSign 5 = .ok (.ifCond .eq 10, 3) := by decide +kernel
theorem dX8_takeSign_8 : decode cX8_takeSign 8 = .ok (.aload_n 0, 1) := by decide +kernel
theorem dX8_takeSign_9 : decode cX8_takeSign 9 = .ok (.invokevirtual 40, 3) := by decide +kernel
theorem dX8_takeSign_12 : decode cX8_takeSign 12 = .ok (.goto 8, 3) := by decide +kernel
theorem dX8_takeSign_15 : decode cX8_takeSign 15 = .ok (.aload_n 0, 1) := by decide +kernel
theorem dX8_takeSign_16 : decode cX8_takeSign 16 = .ok (.iconst 1, 1) := by decide +kernel
theorem dX8_takeSign_17 : decode cX8_takeSign 17 = .ok (.invokevirtual 66, 3) := by decide +kernel
theorem dX8_takeSign_20 : decode cX8_takeSign 20 = .ok (.return_, 1) := by decide +kernel
theorem dX8_takeNumber_0 : decode cX8_takeNumber 0 = .ok (.aload_n 0, 1) := by decide +kernel
theorem dX8_takeNumber_1 : decode cX8_takeNumber 1 = .ok (.invokevirtual 70, 3) := by decide +kernel
theorem dX8_takeNumber_4 : decode cX8_takeNumber 4 = .ok (.ifCond .eq 5, 3) := by decide +kernel
theorem dX8_takeNumber_7 : decode cX8_takeNumber 7 = .ok (.iconst 0, 1) := by decide +kernel
theorem dX8_takeNumber_8 : decode cX8_takeNumber 8 = .ok (.ireturn, 1) := by decide +kernel
theorem dX8_takeNumber_9 : decode cX8_takeNumber 9 = .ok (.aload_n 0, 1) := by decide +kernel
theorem dX8_takeNumber_10 : decode cX8_takeNumber 10 = .ok (.getfield 49, 3) := by decide +kernel
theorem dX8_takeNumber_13 : decode cX8_takeNumber 13 = .ok (.iconst 1, 1) := by decide +kernel
theorem dX8_takeNumber_14 : decode cX8_takeNumber 14 = .ok (.if_icmp .eq 10, 3) := by decide +kernel
theorem dX8_takeNumber_17 : decode cX8_takeNumber 17 = .ok (.aload_n 0, 1) := by decide +kernel
theorem dX8_takeNumber_18 : decode cX8_takeNumber 18 = .ok (.iconst 1, 1) := by decide +kernel
theorem dX8_takeNumber_19 : decode cX8_takeNumber 19 = .ok (.invokevirtual 66, 3) := by decide +kernel
theorem dX8_takeNumber_22 : decode cX8_takeNumber 22 = .ok (.iconst 0, 1) := by decide +kernel
theorem dX8_takeNumber_23 : decode cX8_takeNumber 23 = .ok (.ireturn, 1) := by decide +kernel
theorem dX8_takeNumber_24 : decode cX8_takeNumber 24 = .ok (.aload_n 0, 1) := by decide +kernel
theorem dX8_takeNumber_25 : decode cX8_takeNumber 25 = .ok (.getfield 46, 3) := by decide +kernel
theorem dX8_takeNumber_28 : decode cX8_takeNumber 28 = .ok (.iload_n 1, 1) := by decide +kernel
