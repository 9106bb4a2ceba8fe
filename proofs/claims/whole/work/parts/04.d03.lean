theorem dX3_begin_21 : decode cX3_begin 21 = .ok (.invokestatic 33, 3) := by decide +kernel
theorem dX3_begin_24 : decode cX3_begin 24 = .ok (.aload_n 0, 1) := by decide +kernel
theorem dX3_begin_25 : decode cX3_begin 25 = .ok (.getfield 21, 3) := by decide +kernel
theorem dX3_begin_28 : decode cX3_begin 28 = .ok (.iconst 0, 1) := by decide +kernel
theorem dX3_begin_29 : decode cX3_begin 29 = .ok (.invokestatic 33, 3) := by decide +kernel
theorem dX3_begin_32 : decode cX3_begin 32 = .ok (.aload_n 0, 1) := by decide +kernel
theorem dX3_begin_33 : decode cX3_begin 33 = .ok (.getfield 24, 3) := by decide +kernel
theorem dX3_begin_36 : decode cX3_begin 36 = .ok (.iconst 0, 1) := by decide +kernel
theorem dX3_begin_37 : decode cX3_begin 37 = .ok (.invokestatic 33, 3) := by decide +kernel
theorem dX3_begin_40 : decode cX3_begin 40 = .ok (.aload_n 0, 1) := by decide +kernel
theorem dX3_begin_41 : decode cX3_begin 41 = .ok (.getfield 27, 3) := by decide +kernel
theorem dX3_begin_44 : decode cX3_begin 44 = .ok (.iconst 0, 1) := by decide +kernel
theorem dX3_begin_45 : decode cX3_begin 45 = .ok (.invokestatic 33, 3) := by decide +kernel
theorem dX3_begin_48 : decode cX3_begin 48 = .ok (.aload_n 0, 1) := by decide +kernel
theorem dX3_begin_49 : decode cX3_begin 49 = .ok (.getfield 30, 3) := by decide +kernel
theorem dX3_begin_52 : decode cX3_begin 52 = .ok (.iconst 0, 1) := by decide +kernel
theorem dX3_begin_53 : decode cX3_begin 53 = .ok (.invokestatic 33, 3) := by decide +kernel
theorem dX3_begin_56 : decode cX3_begin 56 = .ok (.aload_n 1, 1) := by decide +kernel
theorem dX3_begin_57 : decode cX3_begin 57 = .ok (.getfield 39, 3) := by decide +kernel
theorem dX3_begin_60 : decode cX3_begin 60 = .ok (.iconst 0, 1) := by decide +kernel
theorem dX3_begin_61 : decode cX3_begin 61 = .ok (.aload_n 0, 1) := by decide +kernel
theorem dX3_begin_62 : decode cX3_begin 62 = .ok (.getfield 30, 3) := by decide +kernel
theorem dX3_begin_65 : decode cX3_begin 65 = .ok (.iconst 0, 1) := by decide +kernel
theorem dX3_begin_66 : decode cX3_begin 66 = .ok (.aload_n 1, 1) := by decide +kernel
theorem dX3_begin_67 : decode cX3_begin 67 = .ok (.getfield 44, 3) := by decide +kernel
theorem dX3_begin_70 : decode cX3_begin 70 = .ok (.invokestatic 48, 3) := by decide +kernel
theorem dX3_begin_73 : decode cX3_begin 73 = .ok (.aload_n 0, 1) := by decide +kernel
theorem dX3_begin_74 : decode cX3_begin 74 = .ok (.iconst 0, 1) := by decide +kernel
theorem dX3_begin_75 : decode cX3_begin 75 = .ok (.putfield 54, 3) := by decide +kernel
theorem dX3_begin_78 : decode cX3_begin 78 = .ok (.aload_n 0, 1) := by decide +kernel
theorem dX3_begin_79 : decode cX3_begin 79 = .ok (.iconst 1, 1) := by decide +kernel
theorem dX3_begin_80 : decode cX3_begin 80 = .ok (.aload_n 1, 1) := by decide +kernel
theorem dX3_begin_81 : decode cX3_begin 81 = .ok (.getfield 57, 3) := by decide +kernel
theorem dX3_begin_84 : decode cX3_begin 84 = .ok (.ishl, 1) := by decide +kernel
theorem dX3_begin_85 : decode cX3_begin 85 = .ok (.iconst 1, 1) := by decide +kernel
theorem dX3_begin_86 : decode cX3_begin 86 = .ok (.isub, 1) := by decide +kernel
theorem dX3_begin_87 : decode cX3_begin 87 = .ok (.putfield 60, 3) := by decide +kernel
theorem dX3_begin_90 : decode cX3_begin 90 = .ok (.return_, 1) := by decide +kernel
theorem dX3_become_0 : decode cX3_become 0 = .ok (.aload_n 1, 1) := by decide +kernel
theorem dX3_become_1 : decode cX3_become 1 = .ok (.getfield 9, 3) := by decide +kernel
theorem dX3_become_4 : decode cX3_become 4 = .ok (.iconst 0, 1) := by decide +kernel
theorem dX3_become_5 : decode cX3_become 5 = .ok (.aload_n 0, 1) := by decide +kernel
theorem dX3_become_6 : decode cX3_become 6 = .ok (.getfield 9, 3) := by decide +kernel
theorem dX3_become_9 : decode cX3_become 9 = .ok (.iconst 0, 1) := by decide +kernel
theorem dX3_become_10 : decode cX3_become 10 = .ok (.bipush 6, 2) := by decide +kernel
theorem dX3_become_12 : decode cX3_become 12 = .ok (.invokestatic 48, 3) := by decide +kernel
theorem dX3_become_15 : decode cX3_become 15 = .ok (.aload_n 1, 1) := by decide +kernel
theorem dX3_become_16 : decode cX3_become 16 = .ok (.getfield 15, 3) := by decide +kernel
theorem dX3_become_19 : decode cX3_become 19 = .ok (.iconst 0, 1) := by decide +kernel
theorem dX3_become_20 : decode cX3_become 20 = .ok (.aload_n 0, 1) := by decide +kernel
theorem dX3_become_21 : decode cX3_become 21 = .ok (.getfield 15, 3) := by decide +kernel
theorem dX3_become_24 : decode cX3_become 24 = .ok (.iconst 0, 1) := by decide +kernel
theorem dX3_become_25 : decode cX3_become 25 = .ok (.bipush 6, 2) := by decide +kernel
theorem dX3_become_27 : decode cX3_become 27 = .ok (.invokestatic 48, 3) := by decide +kernel
theorem dX3_become_30 : decode cX3_become 30 = .ok (.aload_n 1, 1) := by decide +kernel
theorem dX3_become_31 : decode cX3_become 31 = .ok (.getfield 18, 3) := by decide +kernel
theorem dX3_become_34 : decode cX3_become 34 = .ok (.iconst 0, 1) := by decide +kernel
theorem dX3_become_35 : decode cX3_become 35 = .ok (.aload_n 0, 1) := by decide +kernel
theorem dX3_become_36 : decode cX3_become 36 = .ok (.getfield 18, 3) := by decide +kernel
theorem dX3_become_39 : decode cX3_become 39 = .ok (.iconst 0, 1) := by decide +kernel
theorem dX3_become_40 : decode cX3_become 40 = .ok (.bipush 6, 2) := by decide +kernel
theorem dX3_become_42 : decode cX3_become 42 = .ok (.invokestatic 48, 3) := by decide +kernel
theorem dX3_become_45 : decode cX3_become 45 = .ok (.aload_n 1, 1) := by decide +kernel
theorem dX3_become_46 : decode cX3_become 46 = .ok (.getfield 21, 3) := by decide +kernel
theorem dX3_become_49 : decode cX3_become 49 = .ok (.iconst 0, 1) := by decide +kernel
theorem dX3_become_50 : decode cX3_become 50 = .ok (.aload_n 0, 1) := by decide +kernel
theorem dX3_become_51 : decode cX3_become 51 = .ok (.getfield 21, 3) := by decide +kernel
theorem dX3_become_54 : decode cX3_become 54 = .ok (.iconst 0, 1) := by decide +kernel
theorem dX3_become_55 : decode cX3_become 55 = .ok (.bipush 6, 2) := by decide +kernel
theorem dX3_become_57 : decode cX3_become 57 = .ok (.invokestatic 48, 3) := by decide +kernel
theorem dX3_become_60 : decode cX3_become 60 = .ok (.aload_n 1, 1) := by decide +kernel
theorem dX3_become_61 : decode cX3_become 61 = .ok (.getfield 24, 3) := by decide +kernel
theorem dX3_become_64 : decode cX3_become 64 = .ok (.iconst 0, 1) := by decide +kernel
theorem dX3_become_65 : decode cX3_become 65 = .ok (.aload_n 0, 1) := by decide +kernel
theorem dX3_become_66 : decode cX3_become 66 = .ok (.getfield 24, 3) := by decide +kernel
theorem dX3_become_69 : decode cX3_become 69 = .ok (.iconst 0, 1) := by decide +kernel
theorem dX3_become_70 : decode cX3_become 70 = .ok (.bipush 6, 2) := by decide +kernel
theorem dX3_become_72 : decode cX3_become 72 = .ok (.invokestatic 48, 3) := by decide +kernel
theorem dX3_become_75 : decode cX3_become 75 = .ok (.aload_n 1, 1) := by decide +kernel
theorem dX3_become_76 : decode cX3_become 76 = .ok (.getfield 27, 3) := by decide +kernel
theorem dX3_become_79 : decode cX3_become 79 = .ok (.iconst 0, 1) := by decide +kernel
theorem dX3_become_80 : decode cX3_become 80 = .ok (.aload_n 0, 1) := by decide +kernel
theorem dX3_become_81 : decode cX3_become 81 = .ok (.getfield 27, 3) := by decide +kernel
theorem dX3_become_84 : decode cX3_become 84 = .ok (.iconst 0, 1) := by decide +kernel
theorem dX3_become_85 : decode cX3_become 85 = .ok (.bipush 8, 2) := by decide +kernel
theorem dX3_become_87 : decode cX3_become 87 = .ok (.invokestatic 48, 3) := by decide +kernel
theorem dX3_become_90 : decode cX3_become 90 = .ok (.aload_n 1, 1) := by decide +kernel
theorem dX3_become_91 : decode cX3_become 91 = .ok (.getfield 30, 3) := by decide +kernel
theorem dX3_become_94 : decode cX3_become 94 = .ok (.iconst 0, 1) := by decide +kernel
theorem dX3_become_95 : decode cX3_become 95 = .ok (.aload_n 0, 1) := by decide +kernel
theorem dX3_become_96 : decode cX3_become 96 = .ok (.getfield 30, 3) := by decide +kernel
theorem dX3_become_99 : decode cX3_become 99 = .ok (.iconst 0, 1) := by decide +kernel
theorem dX3_become_100 : decode cX3_become 100 = .ok (.bipush 6, 2) := by decide +kernel
theorem dX3_become_102 : decode cX3_become 102 = .ok (.invokestatic 48, 3) := by decide +kernel
theorem dX3_become_105 : decode cX3_become 105 = .ok (.aload_n 0, 1) := by decide +kernel
theorem dX3_become_106 : decode cX3_become 106 = .ok (.aload_n 1, 1) := by decide +kernel
theorem dX3_become_107 : decode cX3_become 107 = .ok (.getfield 54, 3) := by decide +kernel
theorem dX3_become_110 : decode cX3_become 110 = .ok (.putfield 54, 3) := by decide +kernel
theorem dX3_become_113 : decode cX3_become 113 = .ok (.aload_n 0, 1) := by decide +kernel
theorem dX3_become_114 : decode cX3_become 114 = .ok (.aload_n 1, 1) := by decide +kernel
theorem dX3_become_115 : decode cX3_become 115 = .ok (.getfield 60, 3) := by decide +kernel
theorem dX3_become_118 : decode cX3_become 118 = .ok (.putfield 60, 3) := by decide +kernel
theorem dX3_become_121 : decode cX3_become 121 = .ok (.return_, 1) := by decide +kernel
theorem dX3_writeTo_0 : decode cX3_writeTo 0 = .ok (.aload_n 1, 1) := by decide +kernel
theorem dX3_writeTo_1 : decode cX3_writeTo 1 = .ok (.iload_n 2, 1) := by decide +kernel
theorem dX3_writeTo_2 : decode cX3_writeTo 2 = .ok (.aload_n 0, 1) := by decide +kernel
theorem dX3_writeTo_3 : decode cX3_writeTo 3 = .ok (.getfield 54, 3) := by decide +kernel
theorem dX3_writeTo_6 : decode cX3_writeTo 6 = .ok (.iastore, 1) := by decide +kernel
theorem dX3_writeTo_7 : decode cX3_writeTo 7 = .ok (.aload_n 1, 1) := by decide +kernel
theorem dX3_writeTo_8 : decode cX3_writeTo 8 = .ok (.iload_n 2, 1) := by decide +kernel
theorem dX3_writeTo_9 : decode cX3_writeTo 9 = .ok (.iconst 1, 1) := by decide +kernel
theorem dX3_writeTo_10 : decode cX3_writeTo 10 = .ok (.iadd, 1) := by decide +kernel
theorem dX3_writeTo_11 : decode cX3_writeTo 11 = .ok (.aload_n 0, 1) := by decide +kernel
theorem dX3_writeTo_12 : decode cX3_writeTo 12 = .ok (.getfield 60, 3) := by decide +kernel
theorem dX3_writeTo_15 : decode cX3_writeTo 15 = .ok (.iastore, 1) := by decide +kernel
theorem dX3_writeTo_16 : decode cX3_writeTo 16 = .ok (.iload_n 2, 1) := by decide +kernel
theorem dX3_writeTo_17 : decode cX3_writeTo 17 = .ok (.iconst 2, 1) := by decide +kernel
theorem dX3_writeTo_18 : decode cX3_writeTo 18 = .ok (.iadd, 1) := by decide +kernel
theorem dX3_writeTo_19 : decode cX3_writeTo 19 = .ok (.istore_n 3, 1) := by decide +kernel
theorem dX3_writeTo_20 : decode cX3_writeTo 20 = .ok (.aload_n 0, 1) := by decide +kernel
theorem dX3_writeTo_21 : decode cX3_writeTo 21 = .ok (.getfield 9, 3) := by decide +kernel
theorem dX3_writeTo_24 : decode cX3_writeTo 24 = .ok (.iconst 0, 1) := by decide +kernel
theorem dX3_writeTo_25 : decode cX3_writeTo 25 = .ok (.aload_n 1, 1) := by decide +kernel
theorem dX3_writeTo_26 : decode cX3_writeTo 26 = .ok (.iload_n 3, 1) := by decide +kernel
theorem dX3_writeTo_27 : decode cX3_writeTo 27 = .ok (.bipush 6, 2) := by decide +kernel
theorem dX3_writeTo_29 : decode cX3_writeTo 29 = .ok (.invokestatic 48, 3) := by decide +kernel
theorem dX3_writeTo_32 : decode cX3_writeTo 32 = .ok (.aload_n 0, 1) := by decide +kernel
theorem dX3_writeTo_33 : decode cX3_writeTo 33 = .ok (.getfield 15, 3) := by decide +kernel
theorem dX3_writeTo_36 : decode cX3_writeTo 36 = .ok (.iconst 0, 1) := by decide +kernel
theorem dX3_writeTo_37 : decode cX3_writeTo 37 = .ok (.aload_n 1, 1) := by decide +kernel
theorem dX3_writeTo_38 : decode cX3_writeTo 38 = .ok (.iload_n 3, 1) := by decide +kernel
theorem dX3_writeTo_39 : decode cX3_writeTo 39 = .ok (.bipush 6, 2) := by decide +kernel
theorem dX3_writeTo_41 : decode cX3_writeTo 41 = .ok (.iadd, 1) := by decide +kernel
theorem dX3_writeTo_42 : decode cX3_writeTo 42 = .ok (.bipush 6, 2) := by decide +kernel
theorem dX3_writeTo_44 : decode cX3_writeTo 44 = .ok (.invokestatic 48, 3) := by decide +kernel
theorem dX3_writeTo_47 : decode cX3_writeTo 47 = .ok (.aload_n 0, 1) := by decide +kernel
theorem dX3_writeTo_48 : decode cX3_writeTo 48 = .ok (.getfield 18, 3) := by decide +kernel
theorem dX3_writeTo_51 : decode cX3_writeTo 51 = .ok (.iconst 0, 1) := by decide +kernel
theorem dX3_writeTo_52 : decode cX3_writeTo 52 = .ok (.aload_n 1, 1) := by decide +kernel
theorem dX3_writeTo_53 : decode cX3_writeTo 53 = .ok (.iload_n 3, 1) := by decide +kernel
theorem dX3_writeTo_54 : decode cX3_writeTo 54 = .ok (.bipush 12, 2) := by decide +kernel
theorem dX3_writeTo_56 : decode cX3_writeTo 56 = .ok (.iadd, 1) := by decide +kernel
theorem dX3_writeTo_57 : decode cX3_writeTo 57 = .ok (.bipush 6, 2) := by decide +kernel
theorem dX3_writeTo_59 : decode cX3_writeTo 59 = .ok (.invokestatic 48, 3) := by decide +kernel
theorem dX3_writeTo_62 : decode cX3_writeTo 62 = .ok (.aload_n 0, 1) := by decide +kernel
theorem dX3_writeTo_63 : decode cX3_writeTo 63 = .ok (.getfield 21, 3) := by decide +kernel
theorem dX3_writeTo_66 : decode cX3_writeTo 66 = .ok (.iconst 0, 1) := by decide +kernel
theorem dX3_writeTo_67 : decode cX3_writeTo 67 = .ok (.aload_n 1, 1) := by decide +kernel
theorem dX3_writeTo_68 : decode cX3_writeTo 68 = .ok (.iload_n 3, 1) := by decide +kernel
theorem dX3_writeTo_69 : decode cX3_writeTo 69 = .ok (.bipush 18, 2) := by decide +kernel
theorem dX3_writeTo_71 : decode cX3_writeTo 71 = .ok (.iadd, 1) := by decide +kernel
theorem dX3_writeTo_72 : decode cX3_writeTo 72 = .ok (.bipush 6, 2) := by decide +kernel
theorem dX3_writeTo_74 : decode cX3_writeTo 74 = .ok (.invokestatic 48, 3) := by decide +kernel
theorem dX3_writeTo_77 : decode cX3_writeTo 77 = .ok (.aload_n 0, 1) := by decide +kernel
theorem dX3_writeTo_78 : decode cX3_writeTo 78 = .ok (.getfield 24, 3) := by decide +kernel
theorem dX3_writeTo_81 : decode cX3_writeTo 81 = .ok (.iconst 0, 1) := by decide +kernel
theorem dX3_writeTo_82 : decode cX3_writeTo 82 = .ok (.aload_n 1, 1) := by decide +kernel
theorem dX3_writeTo_83 : decode cX3_writeTo 83 = .ok (.iload_n 3, 1) := by decide +kernel
theorem dX3_writeTo_84 : decode cX3_writeTo 84 = .ok (.bipush 24, 2) := by decide +kernel
theorem dX3_writeTo_86 : decode cX3_writeTo 86 = .ok (.iadd, 1) := by decide +kernel
theorem dX3_writeTo_87 : decode cX3_writeTo 87 = .ok (.bipush 6, 2) := by decide +kernel
theorem dX3_writeTo_89 : decode cX3_writeTo 89 = .ok (.invokestatic 48, 3) := by decide +kernel
theorem dX3_writeTo_92 : decode cX3_writeTo 92 = .ok (.aload_n 0, 1) := by decide +kernel
theorem dX3_writeTo_93 : decode cX3_writeTo 93 = .ok (.getfield 27, 3) := by decide +kernel
theorem dX3_writeTo_96 : decode cX3_writeTo 96 = .ok (.iconst 0, 1) := by decide +kernel
theorem dX3_writeTo_97 : decode cX3_writeTo 97 = .ok (.aload_n 1, 1) := by decide +kernel
theorem dX3_writeTo_98 : decode cX3_writeTo 98 = .ok (.iload_n 3, 1) := by decide +kernel
theorem dX3_writeTo_99 : decode cX3_writeTo 99 = .ok (.bipush 30, 2) := by decide +kernel
theorem dX3_writeTo_101 : decode cX3_writeTo 101 = .ok (.iadd, 1) := by decide +kernel
theorem dX3_writeTo_102 : decode cX3_writeTo 102 = .ok (.bipush 8, 2) := by decide +kernel
theorem dX3_writeTo_104 : decode cX3_writeTo 104 = .ok (.invokestatic 48, 3) := by decide +kernel
theorem dX3_writeTo_107 : decode cX3_writeTo 107 = .ok (.aload_n 0, 1) := by decide +kernel
theorem dX3_writeTo_108 : decode cX3_writeTo 108 = .ok (.getfield 30, 3) := by decide +kernel
theorem dX3_writeTo_111 : decode cX3_writeTo 111 = .ok (.iconst 0, 1) := by decide +kernel
theorem dX3_writeTo_112 : decode cX3_writeTo 112 = .ok (.aload_n 1, 1) := by decide +kernel
theorem dX3_writeTo_113 : decode cX3_writeTo 113 = .ok (.iload_n 3, 1) := by decide +kernel
theorem dX3_writeTo_114 : decode cX3_writeTo 114 = .ok (.bipush 30, 2) := by decide +kernel
theorem dX3_writeTo_116 : decode cX3_writeTo 116 = .ok (.iadd, 1) := by decide +kernel
theorem dX3_writeTo_117 : decode cX3_writeTo 117 = .ok (.bipush 8, 2) := by decide +kernel
theorem dX3_writeTo_119 : decode cX3_writeTo 119 = .ok (.iadd, 1) := by decide +kernel
theorem dX3_writeTo_120 : decode cX3_writeTo 120 = .ok (.bipush 6, 2) := by decide +kernel
theorem dX3_writeTo_122 : decode cX3_writeTo 122 = .ok (.invokestatic 48, 3) := by decide +kernel
theorem dX3_writeTo_125 : decode cX3_writeTo 125 = .ok (.return_, 1) := by decide +kernel
theorem dX3_readFrom_0 : decode cX3_readFrom 0 = .ok (.aload_n 0, 1) := by decide +kernel
theorem dX3_readFrom_1 : decode cX3_readFrom 1 = .ok (.aload_n 1, 1) := by decide +kernel
theorem dX3_readFrom_2 : decode cX3_readFrom 2 = .ok (.iload_n 2, 1) := by decide +kernel
theorem dX3_readFrom_3 : decode cX3_readFrom 3 = .ok (.iaload, 1) := by decide +kernel
theorem dX3_readFrom_4 : decode cX3_readFrom 4 = .ok (.putfield 54, 3) := by decide +kernel
theorem dX3_readFrom_7 : decode cX3_readFrom 7 = .ok (.aload_n 0, 1) := by decide +kernel
theorem dX3_readFrom_8 : decode cX3_readFrom 8 = .ok (.aload_n 1, 1) := by decide +kernel
theorem dX3_readFrom_9 : decode cX3_readFrom 9 = .ok (.iload_n 2, 1) := by decide +kernel
theorem dX3_readFrom_10 : decode cX3_readFrom 10 = .ok (.iconst 1, 1) := by decide +kernel
theorem dX3_readFrom_11 : decode cX3_readFrom 11 = .ok (.iadd, 1) := by decide +kernel
theorem dX3_readFrom_12 : decode cX3_readFrom 12 = .ok (.iaload, 1) := by decide +kernel
theorem dX3_readFrom_13 : decode cX3_readFrom 13 = .ok (.putfield 60, 3) := by decide +kernel
theorem dX3_readFrom_16 : decode cX3_readFrom 16 = .ok (.iload_n 2, 1) := by decide +kernel
theorem dX3_readFrom_17 : decode cX3_readFrom 17 = .ok (.iconst 2, 1) := by decide +kernel
theorem dX3_readFrom_18 : decode cX3_readFrom 18 = .ok (.iadd, 1) := by decide +kernel
theorem dX3_readFrom_19 : decode cX3_readFrom 19 = .ok (.istore_n 3, 1) := by decide +kernel
theorem dX3_readFrom_20 : decode cX3_readFrom 20 = .ok (.aload_n 1, 1) := by decide +kernel
theorem dX3_readFrom_21 : decode cX3_readFrom 21 = .ok (.iload_n 3, 1) := by decide +kernel
theorem dX3_readFrom_22 : decode cX3_readFrom 22 = .ok (.aload_n 0, 1) := by decide +kernel
theorem dX3_readFrom_23 : decode cX3_readFrom 23 = .ok (.getfield 9, 3) := by decide +kernel
theorem dX3_readFrom_26 : decode cX3_readFrom 26 = .ok (.iconst 0, 1) := by decide +kernel
theorem dX3_readFrom_27 : decode cX3_readFrom 27 = .ok (.bipush 6, 2) := by decide +kernel
theorem dX3_readFrom_29 : decode cX3_readFrom 29 = .ok (.invokestatic 48, 3) := by decide +kernel
theorem dX3_readFrom_32 : decode cX3_readFrom 32 = .ok (.aload_n 1, 1) := by decide +kernel
theorem dX3_readFrom_33 : decode cX3_readFrom 33 = .ok (.iload_n 3, 1) := by decide +kernel
theorem dX3_readFrom_34 : decode cX3_readFrom 34 = .ok (.bipush 6, 2) := by decide +kernel
theorem dX3_readFrom_36 : decode cX3_readFrom 36 = .ok (.iadd, 1) := by decide +kernel
theorem dX3_readFrom_37 : decode cX3_readFrom 37 = .ok (.aload_n 0, 1) := by decide +kernel
theorem dX3_readFrom_38 : decode cX3_readFrom 38 = .ok (.getfield 15, 3) := by decide +kernel
theorem dX3_readFrom_41 : decode cX3_readFrom 41 = .ok (.iconst 0, 1) := by decide +kernel
theorem dX3_readFrom_42 : decode cX3_readFrom 42 = .ok (.bipush 6, 2) := by decide +kernel
theorem dX3_readFrom_44 : decode cX3_readFrom 44 = .ok (.invokestatic 48, 3) := by decide +kernel
theorem dX3_readFrom_47 : decode cX3_readFrom 47 = .ok (.aload_n 1, 1) := by decide +kernel
theorem dX3_readFrom_48 : decode cX3_readFrom 48 = .ok (.iload_n 3, 1) := by decide +kernel
theorem dX3_readFrom_49 : decode cX3_readFrom 49 = .ok (.bipush 12, 2) := by decide +kernel
theorem dX3_readFrom_51 : decode cX3_readFrom 51 = .ok (.iadd, 1) := by decide +kernel
theorem dX3_readFrom_52 : decode cX3_readFrom 52 = .ok (.aload_n 0, 1) := by decide +kernel
theorem dX3_readFrom_53 : decode cX3_readFrom 53 = .ok (.getfield 18, 3) := by decide +kernel
theorem dX3_readFrom_56 : decode cX3_readFrom 56 = .ok (.iconst 0, 1) := by decide +kernel
theorem dX3_readFrom_57 : decode cX3_readFrom 57 = .ok (.bipush 6, 2) := by decide +kernel
theorem dX3_readFrom_59 : decode cX3_readFrom 59 = .ok (.invokestatic 48, 3) := by decide +kernel
theorem dX3_readFrom_62 : decode cX3_readFrom 62 = .ok (.aload_n 1, 1) := by decide +kernel
theorem dX3_readFrom_63 : decode cX3_readFrom 63 = .ok (.iload_n 3, 1) := by decide +kernel
theorem dX3_readFrom_64 : decode cX3_readFrom 64 = .ok (.bipush 18, 2) := by decide +kernel
theorem dX3_readFrom_66 : decode cX3_readFrom 66 = .ok (.iadd, 1) := by decide +kernel
theorem dX3_readFrom_67 : decode cX3_readFrom 67 = .ok (.aload_n 0, 1) := by decide +kernel
theorem dX3_readFrom_68 : decode cX3_readFrom 68 = .ok (.getfield 21, 3) := by decide +kernel
theorem dX3_readFrom_71 : decode cX3_readFrom 71 = .ok (.iconst 0, 1) := by decide +kernel
theorem dX3_readFrom_72 : decode cX3_readFrom 72 = .ok (.bipush 6, 2) := by decide +kernel
theorem dX3_readFrom_74 : decode cX3_readFrom 74 = .ok (.invokestatic 48, 3) := by decide +kernel
theorem dX3_readFrom_77 : decode cX3_readFrom 77 = .ok (.aload_n 1, 1) := by decide +kernel
theorem dX3_readFrom_78 : decode cX3_readFrom 78 = .ok (.iload_n 3, 1) := by decide +kernel
theorem dX3_readFrom_79 : decode cX3_readFrom 79 = .ok (.bipush 24, 2) := by decide +kernel
theorem dX3_readFrom_81 : decode cX3_readFrom 81 = .ok (.iadd, 1) := by decide +kernel
theorem dX3_readFrom_82 : decode cX3_readFrom 82 = .ok (.aload_n 0, 1) := by decide +kernel
theorem dX3_readFrom_83 : decode cX3_readFrom 83 = .ok (.getfield 24, 3) := by decide +kernel
theorem dX3_readFrom_86 : decode cX3_readFrom 86 = .ok (.iconst 0, 1) := by decide +kernel
theorem dX3_readFrom_87 : decode cX3_readFrom 87 = .ok (.bipush 6, 2) := by decide +kernel
theorem dX3_readFrom_89 : decode cX3_readFrom 89 = .ok (.invokestatic 48, 3) := by decide +kernel
theorem dX3_readFrom_92 : decode cX3_readFrom 92 = .ok (.aload_n 1, 1) := by decide +kernel
theorem dX3_readFrom_93 : decode cX3_readFrom 93 = .ok (.iload_n 3, 1) := by decide +kernel
theorem dX3_readFrom_94 : decode cX3_readFrom 94 = .ok (.bipush 30, 2) := by decide +kernel
theorem dX3_readFrom_96 : decode cX3_readFrom 96 = .ok (.iadd, 1) := by decide +kernel
theorem dX3_readFrom_97 : decode cX3_readFrom 97 = .ok (.aload_n 0, 1) := by decide +kernel
theorem dX3_readFrom_98 : decode cX3_readFrom 98 = .ok (.getfield 27, 3) := by decide +kernel
theorem dX3_readFrom_101 : decode cX3_readFrom 101 = .ok (.iconst 0, 1) := by decide +kernel
theorem dX3_readFrom_102 : decode cX3_readFrom 102 = .ok (.bipush 8, 2) := by decide +kernel
theorem dX3_readFrom_104 : decode cX3_readFrom 104 = .ok (.invokestatic 48, 3) := by decide +kernel
theorem dX3_readFrom_107 : decode cX3_readFrom 107 = .ok (.aload_n 1, 1) := by decide +kernel
theorem dX3_readFrom_108 : decode cX3_readFrom 108 = .ok (.iload_n 3, 1) := by decide +kernel
theorem dX3_readFrom_109 : decode cX3_readFrom 109 = .ok (.bipush 30, 2) := by decide +kernel
theorem dX3_readFrom_111 : decode cX3_readFrom 111 = .ok (.iadd, 1) := by decide +kernel
theorem dX3_readFrom_112 : decode cX3_readFrom 112 = .ok (.bipush 8, 2) := by decide +kernel
theorem dX3_readFrom_114 : decode cX3_readFrom 114 = .ok (.iadd, 1) := by decide +kernel
theorem dX3_readFrom_115 : decode cX3_readFrom 115 = .ok (.aload_n 0, 1) := by decide +kernel
theorem dX3_readFrom_116 : decode cX3_readFrom 116 = .ok (.getfield 30, 3) := by decide +kernel
theorem dX3_readFrom_119 : decode cX3_readFrom 119 = .ok (.iconst 0, 1) := by decide +kernel
theorem dX3_readFrom_120 : decode cX3_readFrom 120 = .ok (.bipush 6, 2) := by decide +kernel
theorem dX3_readFrom_122 : decode cX3_readFrom 122 = .ok (.invokestatic 48, 3) := by decide +kernel
theorem dX3_readFrom_125 : decode cX3_readFrom 125 = .ok (.return_, 1) := by decide +kernel
theorem dX3_lives_0 : decode cX3_lives 0 = .ok (.aload_n 0, 1) := by decide +kernel
theorem dX3_lives_1 : decode cX3_lives 1 = .ok (.getfield 60, 3) := by decide +kernel
theorem dX3_lives_4 : decode cX3_lives 4 = .ok (.iload_n 1, 1) := by decide +kernel
theorem dX3_lives_5 : decode cX3_lives 5 = .ok (.ishr, 1) := by decide +kernel
theorem dX3_lives_6 : decode cX3_lives 6 = .ok (.iconst 1, 1) := by decide +kernel
theorem dX3_lives_7 : decode cX3_lives 7 = .ok (.iand, 1) := by decide +kernel
theorem dX3_lives_8 : decode cX3_lives 8 = .ok (.iconst 1, 1) := by decide +kernel
theorem dX3_lives_9 : decode cX3_lives 9 = .ok (.if_icmp .ne 7, 3) := by decide +kernel
theorem dX3_lives_12 : decode cX3_lives 12 = .ok (.iconst 1, 1) := by decide +kernel
theorem dX3_lives_13 : decode cX3_lives 13 = .ok (.goto 4, 3) := by decide +kernel
theorem dX3_lives_16 : decode cX3_lives 16 = .ok (.iconst 0, 1) := by decide +kernel
theorem dX3_lives_17 : decode cX3_lives 17 = .ok (.ireturn, 1) := by decide +kernel
theorem dX3_wearerOf_0 : decode cX3_wearerOf 0 = .ok (.iconst 0, 1) := by decide +kernel
theorem dX3_wearerOf_1 : decode cX3_wearerOf 1 = .ok (.istore_n 2, 1) := by decide +kernel
theorem dX3_wearerOf_2 : decode cX3_wearerOf 2 = .ok (.iload_n 2, 1) := by decide +kernel
theorem dX3_wearerOf_3 : decode cX3_wearerOf 3 = .ok (.bipush 6, 2) := by decide +kernel
theorem dX3_wearerOf_5 : decode cX3_wearerOf 5 = .ok (.if_icmp .ge 21, 3) := by decide +kernel
theorem dX3_wearerOf_8 : decode cX3_wearerOf 8 = .ok (.aload_n 0, 1) := by decide +kernel
theorem dX3_wearerOf_9 : decode cX3_wearerOf 9 = .ok (.getfield 15, 3) := by decide +kernel
theorem dX3_wearerOf_12 : decode cX3_wearerOf 12 = .ok (.iload_n 2, 1) := by decide +kernel
theorem dX3_wearerOf_13 : decode cX3_wearerOf 13 = .ok (.iaload, 1) := by decide +kernel
theorem dX3_wearerOf_14 : decode cX3_wearerOf 14 = .ok (.iload_n 1, 1) := by decide +kernel
theorem dX3_wearerOf_15 : decode cX3_wearerOf 15 = .ok (.if_icmp .ne 5, 3) := by decide +kernel
theorem dX3_wearerOf_18 : decode cX3_wearerOf 18 = .ok (.iload_n 2, 1) := by decide +kernel
theorem dX3_wearerOf_19 : decode cX3_wearerOf 19 = .ok (.ireturn, 1) := by decide +kernel
theorem dX3_wearerOf_20 : decode cX3_wearerOf 20 = .ok (.iinc 2 1, 3) := by decide +kernel
theorem dX3_wearerOf_23 : decode cX3_wearerOf 23 = .ok (.goto (-21), 3) := by decide +kernel
theorem dX3_wearerOf_26 : decode cX3_wearerOf 26 = .ok (.iconst (-1), 1) := by decide +kernel
theorem dX3_wearerOf_27 : decode cX3_wearerOf 27 = .ok (.ireturn, 1) := by decide +kernel
theorem dX3_menAt_0 : decode cX3_menAt 0 = .ok (.iconst 0, 1) := by decide +kernel
theorem dX3_menAt_1 : decode cX3_menAt 1 = .ok (.istore_n 2, 1) := by decide +kernel
theorem dX3_menAt_2 : decode cX3_menAt 2 = .ok (.iconst 0, 1) := by decide +kernel
theorem dX3_menAt_3 : decode cX3_menAt 3 = .ok (.istore_n 3, 1) := by decide +kernel
theorem dX3_menAt_4 : decode cX3_menAt 4 = .ok (.iload_n 3, 1) := by decide +kernel
theorem dX3_menAt_5 : decode cX3_menAt 5 = .ok (.bipush 6, 2) := by decide +kernel
theorem dX3_menAt_7 : decode cX3_menAt 7 = .ok (.if_icmp .ge 29, 3) := by decide +kernel
theorem dX3_menAt_10 : decode cX3_menAt 10 = .ok (.iload_n 2, 1) := by decide +kernel
theorem dX3_menAt_11 : decode cX3_menAt 11 = .ok (.aload_n 0, 1) := by decide +kernel
theorem dX3_menAt_12 : decode cX3_menAt 12 = .ok (.getfield 18, 3) := by decide +kernel
theorem dX3_menAt_15 : decode cX3_menAt 15 = .ok (.iload_n 3, 1) := by decide +kernel
theorem dX3_menAt_16 : decode cX3_menAt 16 = .ok (.iaload, 1) := by decide +kernel
theorem dX3_menAt_17 : decode cX3_menAt 17 = .ok (.iload_n 1, 1) := by decide +kernel
theorem dX3_menAt_18 : decode cX3_menAt 18 = .ok (.if_icmp .ne 9, 3) := by decide +kernel
theorem dX3_menAt_21 : decode cX3_menAt 21 = .ok (.iconst 1, 1) := by decide +kernel
theorem dX3_menAt_22 : decode cX3_menAt 22 = .ok (.iload_n 3, 1) := by decide +kernel
theorem dX3_menAt_23 : decode cX3_menAt 23 = .ok (.ishl, 1) := by decide +kernel
theorem dX3_menAt_24 : decode cX3_menAt 24 = .ok (.goto 4, 3) := by decide +kernel
theorem dX3_menAt_27 : decode cX3_menAt 27 = .ok (.iconst 0, 1) := by decide +kernel
theorem dX3_menAt_28 : decode cX3_menAt 28 = .ok (.ior, 1) := by decide +kernel
theorem dX3_menAt_29 : decode cX3_menAt 29 = .ok (.istore_n 2, 1) := by decide +kernel
theorem dX3_menAt_30 : decode cX3_menAt 30 = .ok (.iinc 3 1, 3) := by decide +kernel
theorem dX3_menAt_33 : decode cX3_menAt 33 = .ok (.goto (-29), 3) := by decide +kernel
theorem dX3_menAt_36 : decode cX3_menAt 36 = .ok (.iload_n 2, 1) := by decide +kernel
theorem dX3_menAt_37 : decode cX3_menAt 37 = .ok (.ireturn, 1) := by decide +kernel
theorem dX3_menAtSea_0 : decode cX3_menAtSea 0 = .ok (.iconst 0, 1) := by decide +kernel
theorem dX3_menAtSea_1 : decode cX3_menAtSea 1 = .ok (.istore_n 1, 1) := by decide +kernel
theorem dX3_menAtSea_2 : decode cX3_menAtSea 2 = .ok (.iconst 0, 1) := by decide +kernel
theorem dX3_menAtSea_3 : decode cX3_menAtSea 3 = .ok (.istore_n 2, 1) := by decide +kernel
theorem dX3_menAtSea_4 : decode cX3_menAtSea 4 = .ok (.iload_n 2, 1) := by decide +kernel
theorem dX3_menAtSea_5 : decode cX3_menAtSea 5 = .ok (.bipush 6, 2) := by decide +kernel
theorem dX3_menAtSea_7 : decode cX3_menAtSea 7 = .ok (.if_icmp .ge 29, 3) := by decide +kernel
theorem dX3_menAtSea_10 : decode cX3_menAtSea 10 = .ok (.iload_n 1, 1) := by decide +kernel
theorem dX3_menAtSea_11 : decode cX3_menAtSea 11 = .ok (.aload_n 0, 1) := by decide +kernel
theorem dX3_menAtSea_12 : decode cX3_menAtSea 12 = .ok (.getfield 18, 3) := by decide +kernel
theorem dX3_menAtSea_15 : decode cX3_menAtSea 15 = .ok (.iload_n 2, 1) := by decide +kernel
theorem dX3_menAtSea_16 : decode cX3_menAtSea 16 = .ok (.iaload, 1) := by decide +kernel
theorem dX3_menAtSea_17 : decode cX3_menAtSea 17 = .ok (.iconst (-1), 1) := by decide +kernel
theorem dX3_menAtSea_18 : decode cX3_menAtSea 18 = .ok (.if_icmp .eq 9, 3) := by decide +kernel
theorem dX3_menAtSea_21 : decode cX3_menAtSea 21 = .ok (.iconst 1, 1) := by decide +kernel
theorem dX3_menAtSea_22 : decode cX3_menAtSea 22 = .ok (.iload_n 2, 1) := by decide +kernel
theorem dX3_menAtSea_23 : decode cX3_menAtSea 23 = .ok (.ishl, 1) := by decide +kernel
theorem dX3_menAtSea_24 : decode cX3_menAtSea 24 = .ok (.goto 4, 3) := by decide +kernel
theorem dX3_menAtSea_27 : decode cX3_menAtSea 27 = .ok (.iconst 0, 1) := by decide +kernel
theorem dX3_menAtSea_28 : decode cX3_menAtSea 28 = .ok (.ior, 1) := by decide +kernel
theorem dX3_menAtSea_29 : decode cX3_menAtSea 29 = .ok (.istore_n 1, 1) := by decide +kernel
theorem dX3_menAtSea_30 : decode cX3_menAtSea 30 = .ok (.iinc 2 1, 3) := by decide +kernel
theorem dX3_menAtSea_33 : decode cX3_menAtSea 33 = .ok (.goto (-29), 3) := by decide +kernel
theorem dX3_menAtSea_36 : decode cX3_menAtSea 36 = .ok (.iload_n 1, 1) := by decide +kernel
theorem dX3_menAtSea_37 : decode cX3_menAtSea 37 = .ok (.ireturn, 1) := by decide +kernel
theorem dX3_hatsWorn_0 : decode cX3_hatsWorn 0 = .ok (.iconst 0, 1) := by decide +kernel
theorem dX3_hatsWorn_1 : decode cX3_hatsWorn 1 = .ok (.istore_n 1, 1) := by decide +kernel
theorem dX3_hatsWorn_2 : decode cX3_hatsWorn 2 = .ok (.iconst 0, 1) := by decide +kernel
theorem dX3_hatsWorn_3 : decode cX3_hatsWorn 3 = .ok (.istore_n 2, 1) := by decide +kernel
theorem dX3_hatsWorn_4 : decode cX3_hatsWorn 4 = .ok (.iload_n 2, 1) := by decide +kernel
theorem dX3_hatsWorn_5 : decode cX3_hatsWorn 5 = .ok (.bipush 6, 2) := by decide +kernel
theorem dX3_hatsWorn_7 : decode cX3_hatsWorn 7 = .ok (.if_icmp .ge 34, 3) := by decide +kernel
theorem dX3_hatsWorn_10 : decode cX3_hatsWorn 10 = .ok (.iload_n 1, 1) := by decide +kernel
theorem dX3_hatsWorn_11 : decode cX3_hatsWorn 11 = .ok (.aload_n 0, 1) := by decide +kernel
theorem dX3_hatsWorn_12 : decode cX3_hatsWorn 12 = .ok (.getfield 15, 3) := by decide +kernel
theorem dX3_hatsWorn_15 : decode cX3_hatsWorn 15 = .ok (.iload_n 2, 1) := by decide +kernel
theorem dX3_hatsWorn_16 : decode cX3_hatsWorn 16 = .ok (.iaload, 1) := by decide +kernel
theorem dX3_hatsWorn_17 : decode cX3_hatsWorn 17 = .ok (.iconst (-1), 1) := by decide +kernel
theorem dX3_hatsWorn_18 : decode cX3_hatsWorn 18 = .ok (.if_icmp .eq 14, 3) := by decide +kernel
theorem dX3_hatsWorn_21 : decode cX3_hatsWorn 21 = .ok (.iconst 1, 1) := by decide +kernel
theorem dX3_hatsWorn_22 : decode cX3_hatsWorn 22 = .ok (.aload_n 0, 1) := by decide +kernel
theorem dX3_hatsWorn_23 : decode cX3_hatsWorn 23 = .ok (.getfield 15, 3) := by decide +kernel
theorem dX3_hatsWorn_26 : decode cX3_hatsWorn 26 = .ok (.iload_n 2, 1) := by decide +kernel
theorem dX3_hatsWorn_27 : decode cX3_hatsWorn 27 = .ok (.iaload, 1) := by decide +kernel
theorem dX3_hatsWorn_28 : decode cX3_hatsWorn 28 = .ok (.ishl, 1) := by decide +kernel
theorem dX3_hatsWorn_29 : decode cX3_hatsWorn 29 = .ok (.goto 4, 3) := by decide +kernel
theorem dX3_hatsWorn_32 : decode cX3_hatsWorn 32 = .ok (.iconst 0, 1) := by decide +kernel
theorem dX3_hatsWorn_33 : decode cX3_hatsWorn 33 = .ok (.ior, 1) := by decide +kernel
theorem dX3_hatsWorn_34 : decode cX3_hatsWorn 34 = .ok (.istore_n 1, 1) := by decide +kernel
theorem dX3_hatsWorn_35 : decode cX3_hatsWorn 35 = .ok (.iinc 2 1, 3) := by decide +kernel
theorem dX3_hatsWorn_38 : decode cX3_hatsWorn 38 = .ok (.goto (-34), 3) := by decide +kernel
theorem dX3_hatsWorn_41 : decode cX3_hatsWorn 41 = .ok (.iload_n 1, 1) := by decide +kernel
theorem dX3_hatsWorn_42 : decode cX3_hatsWorn 42 = .ok (.ireturn, 1) := by decide +kernel
theorem dX3_fishLeft_0 : decode cX3_fishLeft 0 = .ok (.iconst 0, 1) := by decide +kernel
theorem dX3_fishLeft_1 : decode cX3_fishLeft 1 = .ok (.istore_n 1, 1) := by decide +kernel
theorem dX3_fishLeft_2 : decode cX3_fishLeft 2 = .ok (.iconst 0, 1) := by decide +kernel
theorem dX3_fishLeft_3 : decode cX3_fishLeft 3 = .ok (.istore_n 2, 1) := by decide +kernel
theorem dX3_fishLeft_4 : decode cX3_fishLeft 4 = .ok (.iload_n 2, 1) := by decide +kernel
theorem dX3_fishLeft_5 : decode cX3_fishLeft 5 = .ok (.bipush 6, 2) := by decide +kernel
theorem dX3_fishLeft_7 : decode cX3_fishLeft 7 = .ok (.if_icmp .ge 18, 3) := by decide +kernel
theorem dX3_fishLeft_10 : decode cX3_fishLeft 10 = .ok (.iload_n 1, 1) := by decide +kernel
theorem dX3_fishLeft_11 : decode cX3_fishLeft 11 = .ok (.aload_n 0, 1) := by decide +kernel
theorem dX3_fishLeft_12 : decode cX3_fishLeft 12 = .ok (.getfield 30, 3) := by decide +kernel
theorem dX3_fishLeft_15 : decode cX3_fishLeft 15 = .ok (.iload_n 2, 1) := by decide +kernel
theorem dX3_fishLeft_16 : decode cX3_fishLeft 16 = .ok (.iaload, 1) := by decide +kernel
theorem dX3_fishLeft_17 : decode cX3_fishLeft 17 = .ok (.iadd, 1) := by decide +kernel
theorem dX3_fishLeft_18 : decode cX3_fishLeft 18 = .ok (.istore_n 1, 1) := by decide +kernel
theorem dX3_fishLeft_19 : decode cX3_fishLeft 19 = .ok (.iinc 2 1, 3) := by decide +kernel
theorem dX3_fishLeft_22 : decode cX3_fishLeft 22 = .ok (.goto (-18), 3) := by decide +kernel
theorem dX3_fishLeft_25 : decode cX3_fishLeft 25 = .ok (.iload_n 1, 1) := by decide +kernel
theorem dX3_fishLeft_26 : decode cX3_fishLeft 26 = .ok (.ireturn, 1) := by decide +kernel
theorem dX3_fishLanded_0 : decode cX3_fishLanded 0 = .ok (.iconst 0, 1) := by decide +kernel
theorem dX3_fishLanded_1 : decode cX3_fishLanded 1 = .ok (.istore_n 1, 1) := by decide +kernel
theorem dX3_fishLanded_2 : decode cX3_fishLanded 2 = .ok (.iconst 0, 1) := by decide +kernel
theorem dX3_fishLanded_3 : decode cX3_fishLanded 3 = .ok (.istore_n 2, 1) := by decide +kernel
theorem dX3_fishLanded_4 : decode cX3_fishLanded 4 = .ok (.iload_n 2, 1) := by decide +kernel
theorem dX3_fishLanded_5 : decode cX3_fishLanded 5 = .ok (.bipush 6, 2) := by decide +kernel
theorem dX3_fishLanded_7 : decode cX3_fishLanded 7 = .ok (.if_icmp .ge 18, 3) := by decide +kernel
theorem dX3_fishLanded_10 : decode cX3_fishLanded 10 = .ok (.iload_n 1, 1) := by decide +kernel
theorem dX3_fishLanded_11 : decode cX3_fishLanded 11 = .ok (.aload_n 0, 1) := by decide +kernel
theorem dX3_fishLanded_12 : decode cX3_fishLanded 12 = .ok (.getfield 24, 3) := by decide +kernel
theorem dX3_fishLanded_15 : decode cX3_fishLanded 15 = .ok (.iload_n 2, 1) := by decide +kernel
theorem dX3_fishLanded_16 : decode cX3_fishLanded 16 = .ok (.iaload, 1) := by decide +kernel
