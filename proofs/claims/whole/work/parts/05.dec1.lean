theorem dX1_init_0 : decode cX1_init 0 = .ok (.aload_n 0, 1) := by decide +kernel
theorem dX1_init_1 : decode cX1_init 1 = .ok (.invokespecial 3, 3) := by decide +kernel
theorem dX1_init_4 : decode cX1_init 4 = .ok (.aload_n 0, 1) := by decide +kernel
theorem dX1_init_5 : decode cX1_init 5 = .ok (.new 9, 3) := by decide +kernel
theorem dX1_init_8 : decode cX1_init 8 = .ok (.dup, 1) := by decide +kernel
theorem dX1_init_9 : decode cX1_init 9 = .ok (.bipush 18, 2) := by decide +kernel
theorem dX1_init_11 : decode cX1_init 11 = .ok (.newarray .int, 2) := by decide +kernel
theorem dX1_init_13 : decode cX1_init 13 = .ok (.iconst 3, 1) := by decide +kernel
theorem dX1_init_14 : decode cX1_init 14 = .ok (.iconst 0, 1) := by decide +kernel
theorem dX1_init_15 : decode cX1_init 15 = .ok (.invokespecial 11, 3) := by decide +kernel
theorem dX1_init_18 : decode cX1_init 18 = .ok (.putfield 14, 3) := by decide +kernel
theorem dX1_init_21 : decode cX1_init 21 = .ok (.aload_n 0, 1) := by decide +kernel
theorem dX1_init_22 : decode cX1_init 22 = .ok (.new 9, 3) := by decide +kernel
theorem dX1_init_25 : decode cX1_init 25 = .ok (.dup, 1) := by decide +kernel
theorem dX1_init_26 : decode cX1_init 26 = .ok (.bipush 10, 2) := by decide +kernel
theorem dX1_init_28 : decode cX1_init 28 = .ok (.newarray .int, 2) := by decide +kernel
theorem dX1_init_30 : decode cX1_init 30 = .ok (.iconst 2, 1) := by decide +kernel
theorem dX1_init_31 : decode cX1_init 31 = .ok (.iconst 0, 1) := by decide +kernel
theorem dX1_init_32 : decode cX1_init 32 = .ok (.invokespecial 11, 3) := by decide +kernel
theorem dX1_init_35 : decode cX1_init 35 = .ok (.putfield 20, 3) := by decide +kernel
theorem dX1_init_38 : decode cX1_init 38 = .ok (.aload_n 0, 1) := by decide +kernel
theorem dX1_init_39 : decode cX1_init 39 = .ok (.new 9, 3) := by decide +kernel
theorem dX1_init_42 : decode cX1_init 42 = .ok (.dup, 1) := by decide +kernel
theorem dX1_init_43 : decode cX1_init 43 = .ok (.bipush 40, 2) := by decide +kernel
theorem dX1_init_45 : decode cX1_init 45 = .ok (.newarray .int, 2) := by decide +kernel
theorem dX1_init_47 : decode cX1_init 47 = .ok (.iconst 4, 1) := by decide +kernel
theorem dX1_init_48 : decode cX1_init 48 = .ok (.iconst 0, 1) := by decide +kernel
theorem dX1_init_49 : decode cX1_init 49 = .ok (.invokespecial 11, 3) := by decide +kernel
theorem dX1_init_52 : decode cX1_init 52 = .ok (.putfield 23, 3) := by decide +kernel
theorem dX1_init_55 : decode cX1_init 55 = .ok (.aload_n 0, 1) := by decide +kernel
theorem dX1_init_56 : decode cX1_init 56 = .ok (.new 9, 3) := by decide +kernel
theorem dX1_init_59 : decode cX1_init 59 = .ok (.dup, 1) := by decide +kernel
theorem dX1_init_60 : decode cX1_init 60 = .ok (.bipush 24, 2) := by decide +kernel
theorem dX1_init_62 : decode cX1_init 62 = .ok (.newarray .int, 2) := by decide +kernel
theorem dX1_init_64 : decode cX1_init 64 = .ok (.iconst 4, 1) := by decide +kernel
theorem dX1_init_65 : decode cX1_init 65 = .ok (.bipush 6, 2) := by decide +kernel
theorem dX1_init_67 : decode cX1_init 67 = .ok (.invokespecial 11, 3) := by decide +kernel
theorem dX1_init_70 : decode cX1_init 70 = .ok (.putfield 26, 3) := by decide +kernel
theorem dX1_init_73 : decode cX1_init 73 = .ok (.aload_n 0, 1) := by decide +kernel
theorem dX1_init_74 : decode cX1_init 74 = .ok (.new 9, 3) := by decide +kernel
theorem dX1_init_77 : decode cX1_init 77 = .ok (.dup, 1) := by decide +kernel
theorem dX1_init_78 : decode cX1_init 78 = .ok (.bipush 32, 2) := by decide +kernel
theorem dX1_init_80 : decode cX1_init 80 = .ok (.newarray .int, 2) := by decide +kernel
theorem dX1_init_82 : decode cX1_init 82 = .ok (.iconst 4, 1) := by decide +kernel
theorem dX1_init_83 : decode cX1_init 83 = .ok (.iconst 0, 1) := by decide +kernel
theorem dX1_init_84 : decode cX1_init 84 = .ok (.invokespecial 11, 3) := by decide +kernel
theorem dX1_init_87 : decode cX1_init 87 = .ok (.putfield 29, 3) := by decide +kernel
theorem dX1_init_90 : decode cX1_init 90 = .ok (.aload_n 0, 1) := by decide +kernel
theorem dX1_init_91 : decode cX1_init 91 = .ok (.bipush 7, 2) := by decide +kernel
theorem dX1_init_93 : decode cX1_init 93 = .ok (.newarray .int, 2) := by decide +kernel
theorem dX1_init_95 : decode cX1_init 95 = .ok (.putfield 32, 3) := by decide +kernel
theorem dX1_init_98 : decode cX1_init 98 = .ok (.aload_n 0, 1) := by decide +kernel
theorem dX1_init_99 : decode cX1_init 99 = .ok (.bipush 25, 2) := by decide +kernel
theorem dX1_init_101 : decode cX1_init 101 = .ok (.newarray .int, 2) := by decide +kernel
theorem dX1_init_103 : decode cX1_init 103 = .ok (.putfield 36, 3) := by decide +kernel
theorem dX1_init_106 : decode cX1_init 106 = .ok (.iconst 0, 1) := by decide +kernel
theorem dX1_init_107 : decode cX1_init 107 = .ok (.istore_n 1, 1) := by decide +kernel
theorem dX1_init_108 : decode cX1_init 108 = .ok (.iload_n 1, 1) := by decide +kernel
theorem dX1_init_109 : decode cX1_init 109 = .ok (.aload_n 0, 1) := by decide +kernel
theorem dX1_init_110 : decode cX1_init 110 = .ok (.getfield 32, 3) := by decide +kernel
theorem dX1_init_113 : decode cX1_init 113 = .ok (.arraylength, 1) := by decide +kernel
theorem dX1_init_114 : decode cX1_init 114 = .ok (.if_icmp .ge 16, 3) := by decide +kernel
theorem dX1_init_117 : decode cX1_init 117 = .ok (.aload_n 0, 1) := by decide +kernel
theorem dX1_init_118 : decode cX1_init 118 = .ok (.getfield 32, 3) := by decide +kernel
theorem dX1_init_121 : decode cX1_init 121 = .ok (.iload_n 1, 1) := by decide +kernel
theorem dX1_init_122 : decode cX1_init 122 = .ok (.iconst 1, 1) := by decide +kernel
theorem dX1_init_123 : decode cX1_init 123 = .ok (.iastore, 1) := by decide +kernel
theorem dX1_init_124 : decode cX1_init 124 = .ok (.iinc 1 1, 3) := by decide +kernel
theorem dX1_init_127 : decode cX1_init 127 = .ok (.goto (-19), 3) := by decide +kernel
theorem dX1_init_130 : decode cX1_init 130 = .ok (.aload_n 0, 1) := by decide +kernel
theorem dX1_init_131 : decode cX1_init 131 = .ok (.sipush 200, 3) := by decide +kernel
theorem dX1_init_134 : decode cX1_init 134 = .ok (.putfield 39, 3) := by decide +kernel
theorem dX1_init_137 : decode cX1_init 137 = .ok (.aload_n 0, 1) := by decide +kernel
theorem dX1_init_138 : decode cX1_init 138 = .ok (.bipush 20, 2) := by decide +kernel
theorem dX1_init_140 : decode cX1_init 140 = .ok (.putfield 43, 3) := by decide +kernel
theorem dX1_init_143 : decode cX1_init 143 = .ok (.aload_n 0, 1) := by decide +kernel
theorem dX1_init_144 : decode cX1_init 144 = .ok (.bipush 30, 2) := by decide +kernel
theorem dX1_init_146 : decode cX1_init 146 = .ok (.putfield 46, 3) := by decide +kernel
theorem dX1_init_149 : decode cX1_init 149 = .ok (.aload_n 0, 1) := by decide +kernel
theorem dX1_init_150 : decode cX1_init 150 = .ok (.iconst (-1), 1) := by decide +kernel
theorem dX1_init_151 : decode cX1_init 151 = .ok (.putfield 49, 3) := by decide +kernel
theorem dX1_init_154 : decode cX1_init 154 = .ok (.return_, 1) := by decide +kernel
theorem dX1_copyFrom_0 : decode cX1_copyFrom 0 = .ok (.aload_n 0, 1) := by decide +kernel
theorem dX1_copyFrom_1 : decode cX1_copyFrom 1 = .ok (.getfield 14, 3) := by decide +kernel
theorem dX1_copyFrom_4 : decode cX1_copyFrom 4 = .ok (.aload_n 1, 1) := by decide +kernel
theorem dX1_copyFrom_5 : decode cX1_copyFrom 5 = .ok (.getfield 14, 3) := by decide +kernel
theorem dX1_copyFrom_8 : decode cX1_copyFrom 8 = .ok (.invokevirtual 52, 3) := by decide +kernel
theorem dX1_copyFrom_11 : decode cX1_copyFrom 11 = .ok (.aload_n 0, 1) := by decide +kernel
theorem dX1_copyFrom_12 : decode cX1_copyFrom 12 = .ok (.getfield 20, 3) := by decide +kernel
theorem dX1_copyFrom_15 : decode cX1_copyFrom 15 = .ok (.aload_n 1, 1) := by decide +kernel
theorem dX1_copyFrom_16 : decode cX1_copyFrom 16 = .ok (.getfield 20, 3) := by decide +kernel
theorem dX1_copyFrom_19 : decode cX1_copyFrom 19 = .ok (.invokevirtual 52, 3) := by decide +kernel
theorem dX1_copyFrom_22 : decode cX1_copyFrom 22 = .ok (.aload_n 0, 1) := by decide +kernel
theorem dX1_copyFrom_23 : decode cX1_copyFrom 23 = .ok (.getfield 23, 3) := by decide +kernel
theorem dX1_copyFrom_26 : decode cX1_copyFrom 26 = .ok (.aload_n 1, 1) := by decide +kernel
theorem dX1_copyFrom_27 : decode cX1_copyFrom 27 = .ok (.getfield 23, 3) := by decide +kernel
theorem dX1_copyFrom_30 : decode cX1_copyFrom 30 = .ok (.invokevirtual 52, 3) := by decide +kernel
theorem dX1_copyFrom_33 : decode cX1_copyFrom 33 = .ok (.aload_n 0, 1) := by decide +kernel
theorem dX1_copyFrom_34 : decode cX1_copyFrom 34 = .ok (.getfield 26, 3) := by decide +kernel
theorem dX1_copyFrom_37 : decode cX1_copyFrom 37 = .ok (.aload_n 1, 1) := by decide +kernel
theorem dX1_copyFrom_38 : decode cX1_copyFrom 38 = .ok (.getfield 26, 3) := by decide +kernel
theorem dX1_copyFrom_41 : decode cX1_copyFrom 41 = .ok (.invokevirtual 52, 3) := by decide +kernel
theorem dX1_copyFrom_44 : decode cX1_copyFrom 44 = .ok (.aload_n 0, 1) := by decide +kernel
theorem dX1_copyFrom_45 : decode cX1_copyFrom 45 = .ok (.getfield 29, 3) := by decide +kernel
theorem dX1_copyFrom_48 : decode cX1_copyFrom 48 = .ok (.aload_n 1, 1) := by decide +kernel
theorem dX1_copyFrom_49 : decode cX1_copyFrom 49 = .ok (.getfield 29, 3) := by decide +kernel
theorem dX1_copyFrom_52 : decode cX1_copyFrom 52 = .ok (.invokevirtual 52, 3) := by decide +kernel
theorem dX1_copyFrom_55 : decode cX1_copyFrom 55 = .ok (.aload_n 1, 1) := by decide +kernel
theorem dX1_copyFrom_56 : decode cX1_copyFrom 56 = .ok (.getfield 32, 3) := by decide +kernel
theorem dX1_copyFrom_59 : decode cX1_copyFrom 59 = .ok (.iconst 0, 1) := by decide +kernel
theorem dX1_copyFrom_60 : decode cX1_copyFrom 60 = .ok (.aload_n 0, 1) := by decide +kernel
theorem dX1_copyFrom_61 : decode cX1_copyFrom 61 = .ok (.getfield 32, 3) := by decide +kernel
theorem dX1_copyFrom_64 : decode cX1_copyFrom 64 = .ok (.iconst 0, 1) := by decide +kernel
theorem dX1_copyFrom_65 : decode cX1_copyFrom 65 = .ok (.bipush 7, 2) := by decide +kernel
theorem dX1_copyFrom_67 : decode cX1_copyFrom 67 = .ok (.invokestatic 56, 3) := by decide +kernel
theorem dX1_copyFrom_70 : decode cX1_copyFrom 70 = .ok (.aload_n 1, 1) := by decide +kernel
theorem dX1_copyFrom_71 : decode cX1_copyFrom 71 = .ok (.getfield 36, 3) := by decide +kernel
theorem dX1_copyFrom_74 : decode cX1_copyFrom 74 = .ok (.iconst 0, 1) := by decide +kernel
theorem dX1_copyFrom_75 : decode cX1_copyFrom 75 = .ok (.aload_n 0, 1) := by decide +kernel
theorem dX1_copyFrom_76 : decode cX1_copyFrom 76 = .ok (.getfield 36, 3) := by decide +kernel
theorem dX1_copyFrom_79 : decode cX1_copyFrom 79 = .ok (.iconst 0, 1) := by decide +kernel
theorem dX1_copyFrom_80 : decode cX1_copyFrom 80 = .ok (.bipush 25, 2) := by decide +kernel
theorem dX1_copyFrom_82 : decode cX1_copyFrom 82 = .ok (.invokestatic 56, 3) := by decide +kernel
theorem dX1_copyFrom_85 : decode cX1_copyFrom 85 = .ok (.aload_n 0, 1) := by decide +kernel
theorem dX1_copyFrom_86 : decode cX1_copyFrom 86 = .ok (.aload_n 1, 1) := by decide +kernel
theorem dX1_copyFrom_87 : decode cX1_copyFrom 87 = .ok (.getfield 62, 3) := by decide +kernel
theorem dX1_copyFrom_90 : decode cX1_copyFrom 90 = .ok (.putfield 62, 3) := by decide +kernel
theorem dX1_copyFrom_93 : decode cX1_copyFrom 93 = .ok (.aload_n 0, 1) := by decide +kernel
theorem dX1_copyFrom_94 : decode cX1_copyFrom 94 = .ok (.aload_n 1, 1) := by decide +kernel
theorem dX1_copyFrom_95 : decode cX1_copyFrom 95 = .ok (.getfield 39, 3) := by decide +kernel
theorem dX1_copyFrom_98 : decode cX1_copyFrom 98 = .ok (.putfield 39, 3) := by decide +kernel
theorem dX1_copyFrom_101 : decode cX1_copyFrom 101 = .ok (.aload_n 0, 1) := by decide +kernel
theorem dX1_copyFrom_102 : decode cX1_copyFrom 102 = .ok (.aload_n 1, 1) := by decide +kernel
theorem dX1_copyFrom_103 : decode cX1_copyFrom 103 = .ok (.getfield 43, 3) := by decide +kernel
theorem dX1_copyFrom_106 : decode cX1_copyFrom 106 = .ok (.putfield 43, 3) := by decide +kernel
theorem dX1_copyFrom_109 : decode cX1_copyFrom 109 = .ok (.aload_n 0, 1) := by decide +kernel
theorem dX1_copyFrom_110 : decode cX1_copyFrom 110 = .ok (.aload_n 1, 1) := by decide +kernel
theorem dX1_copyFrom_111 : decode cX1_copyFrom 111 = .ok (.getfield 46, 3) := by decide +kernel
theorem dX1_copyFrom_114 : decode cX1_copyFrom 114 = .ok (.putfield 46, 3) := by decide +kernel
theorem dX1_copyFrom_117 : decode cX1_copyFrom 117 = .ok (.aload_n 0, 1) := by decide +kernel
theorem dX1_copyFrom_118 : decode cX1_copyFrom 118 = .ok (.aload_n 1, 1) := by decide +kernel
theorem dX1_copyFrom_119 : decode cX1_copyFrom 119 = .ok (.getfield 65, 3) := by decide +kernel
theorem dX1_copyFrom_122 : decode cX1_copyFrom 122 = .ok (.putfield 65, 3) := by decide +kernel
theorem dX1_copyFrom_125 : decode cX1_copyFrom 125 = .ok (.aload_n 0, 1) := by decide +kernel
theorem dX1_copyFrom_126 : decode cX1_copyFrom 126 = .ok (.aload_n 1, 1) := by decide +kernel
theorem dX1_copyFrom_127 : decode cX1_copyFrom 127 = .ok (.getfield 68, 3) := by decide +kernel
theorem dX1_copyFrom_130 : decode cX1_copyFrom 130 = .ok (.putfield 68, 3) := by decide +kernel
theorem dX1_copyFrom_133 : decode cX1_copyFrom 133 = .ok (.aload_n 0, 1) := by decide +kernel
theorem dX1_copyFrom_134 : decode cX1_copyFrom 134 = .ok (.aload_n 1, 1) := by decide +kernel
theorem dX1_copyFrom_135 : decode cX1_copyFrom 135 = .ok (.getfield 71, 3) := by decide +kernel
theorem dX1_copyFrom_138 : decode cX1_copyFrom 138 = .ok (.putfield 71, 3) := by decide +kernel
theorem dX1_copyFrom_141 : decode cX1_copyFrom 141 = .ok (.aload_n 0, 1) := by decide +kernel
theorem dX1_copyFrom_142 : decode cX1_copyFrom 142 = .ok (.aload_n 1, 1) := by decide +kernel
theorem dX1_copyFrom_143 : decode cX1_copyFrom 143 = .ok (.getfield 74, 3) := by decide +kernel
theorem dX1_copyFrom_146 : decode cX1_copyFrom 146 = .ok (.putfield 74, 3) := by decide +kernel
theorem dX1_copyFrom_149 : decode cX1_copyFrom 149 = .ok (.aload_n 0, 1) := by decide +kernel
theorem dX1_copyFrom_150 : decode cX1_copyFrom 150 = .ok (.iconst (-1), 1) := by decide +kernel
theorem dX1_copyFrom_151 : decode cX1_copyFrom 151 = .ok (.putfield 49, 3) := by decide +kernel
theorem dX1_copyFrom_154 : decode cX1_copyFrom 154 = .ok (.aload_n 0, 1) := by decide +kernel
theorem dX1_copyFrom_155 : decode cX1_copyFrom 155 = .ok (.iconst 0, 1) := by decide +kernel
theorem dX1_copyFrom_156 : decode cX1_copyFrom 156 = .ok (.putfield 77, 3) := by decide +kernel
theorem dX1_copyFrom_159 : decode cX1_copyFrom 159 = .ok (.return_, 1) := by decide +kernel
theorem dX1_addMould_0 : decode cX1_addMould 0 = .ok (.aload_n 0, 1) := by decide +kernel
theorem dX1_addMould_1 : decode cX1_addMould 1 = .ok (.getfield 14, 3) := by decide +kernel
theorem dX1_addMould_4 : decode cX1_addMould 4 = .ok (.invokevirtual 81, 3) := by decide +kernel
theorem dX1_addMould_7 : decode cX1_addMould 7 = .ok (.istore_n 3, 1) := by decide +kernel
theorem dX1_addMould_8 : decode cX1_addMould 8 = .ok (.aload_n 0, 1) := by decide +kernel
theorem dX1_addMould_9 : decode cX1_addMould 9 = .ok (.getfield 14, 3) := by decide +kernel
theorem dX1_addMould_12 : decode cX1_addMould 12 = .ok (.iload_n 3, 1) := by decide +kernel
theorem dX1_addMould_13 : decode cX1_addMould 13 = .ok (.iconst 0, 1) := by decide +kernel
theorem dX1_addMould_14 : decode cX1_addMould 14 = .ok (.iload_n 1, 1) := by decide +kernel
theorem dX1_addMould_15 : decode cX1_addMould 15 = .ok (.invokevirtual 85, 3) := by decide +kernel
theorem dX1_addMould_18 : decode cX1_addMould 18 = .ok (.aload_n 0, 1) := by decide +kernel
theorem dX1_addMould_19 : decode cX1_addMould 19 = .ok (.getfield 14, 3) := by decide +kernel
theorem dX1_addMould_22 : decode cX1_addMould 22 = .ok (.iload_n 3, 1) := by decide +kernel
theorem dX1_addMould_23 : decode cX1_addMould 23 = .ok (.iconst 1, 1) := by decide +kernel
theorem dX1_addMould_24 : decode cX1_addMould 24 = .ok (.iload_n 2, 1) := by decide +kernel
theorem dX1_addMould_25 : decode cX1_addMould 25 = .ok (.invokevirtual 85, 3) := by decide +kernel
theorem dX1_addMould_28 : decode cX1_addMould 28 = .ok (.aload_n 0, 1) := by decide +kernel
theorem dX1_addMould_29 : decode cX1_addMould 29 = .ok (.getfield 14, 3) := by decide +kernel
theorem dX1_addMould_32 : decode cX1_addMould 32 = .ok (.iload_n 3, 1) := by decide +kernel
theorem dX1_addMould_33 : decode cX1_addMould 33 = .ok (.iconst 2, 1) := by decide +kernel
theorem dX1_addMould_34 : decode cX1_addMould 34 = .ok (.iconst 0, 1) := by decide +kernel
theorem dX1_addMould_35 : decode cX1_addMould 35 = .ok (.invokevirtual 85, 3) := by decide +kernel
theorem dX1_addMould_38 : decode cX1_addMould 38 = .ok (.iload_n 3, 1) := by decide +kernel
theorem dX1_addMould_39 : decode cX1_addMould 39 = .ok (.ireturn, 1) := by decide +kernel
theorem dX1_addMaker_0 : decode cX1_addMaker 0 = .ok (.aload_n 0, 1) := by decide +kernel
theorem dX1_addMaker_1 : decode cX1_addMaker 1 = .ok (.getfield 20, 3) := by decide +kernel
theorem dX1_addMaker_4 : decode cX1_addMaker 4 = .ok (.invokevirtual 81, 3) := by decide +kernel
theorem dX1_addMaker_7 : decode cX1_addMaker 7 = .ok (.istore_n 2, 1) := by decide +kernel
theorem dX1_addMaker_8 : decode cX1_addMaker 8 = .ok (.aload_n 0, 1) := by decide +kernel
theorem dX1_addMaker_9 : decode cX1_addMaker 9 = .ok (.getfield 20, 3) := by decide +kernel
theorem dX1_addMaker_12 : decode cX1_addMaker 12 = .ok (.iload_n 2, 1) := by decide +kernel
theorem dX1_addMaker_13 : decode cX1_addMaker 13 = .ok (.iconst 0, 1) := by decide +kernel
theorem dX1_addMaker_14 : decode cX1_addMaker 14 = .ok (.iload_n 1, 1) := by decide +kernel
theorem dX1_addMaker_15 : decode cX1_addMaker 15 = .ok (.invokevirtual 85, 3) := by decide +kernel
theorem dX1_addMaker_18 : decode cX1_addMaker 18 = .ok (.aload_n 0, 1) := by decide +kernel
theorem dX1_addMaker_19 : decode cX1_addMaker 19 = .ok (.getfield 20, 3) := by decide +kernel
theorem dX1_addMaker_22 : decode cX1_addMaker 22 = .ok (.iload_n 2, 1) := by decide +kernel
theorem dX1_addMaker_23 : decode cX1_addMaker 23 = .ok (.iconst 1, 1) := by decide +kernel
theorem dX1_addMaker_24 : decode cX1_addMaker 24 = .ok (.iconst (-1), 1) := by decide +kernel
theorem dX1_addMaker_25 : decode cX1_addMaker 25 = .ok (.invokevirtual 85, 3) := by decide +kernel
theorem dX1_addMaker_28 : decode cX1_addMaker 28 = .ok (.iload_n 2, 1) := by decide +kernel
theorem dX1_addMaker_29 : decode cX1_addMaker 29 = .ok (.ireturn, 1) := by decide +kernel
theorem dX1_addOrder_0 : decode cX1_addOrder 0 = .ok (.aload_n 0, 1) := by decide +kernel
theorem dX1_addOrder_1 : decode cX1_addOrder 1 = .ok (.getfield 29, 3) := by decide +kernel
theorem dX1_addOrder_4 : decode cX1_addOrder 4 = .ok (.invokevirtual 81, 3) := by decide +kernel
theorem dX1_addOrder_7 : decode cX1_addOrder 7 = .ok (.istore 5, 2) := by decide +kernel
theorem dX1_addOrder_9 : decode cX1_addOrder 9 = .ok (.aload_n 0, 1) := by decide +kernel
theorem dX1_addOrder_10 : decode cX1_addOrder 10 = .ok (.getfield 29, 3) := by decide +kernel
theorem dX1_addOrder_13 : decode cX1_addOrder 13 = .ok (.iload 5, 2) := by decide +kernel
theorem dX1_addOrder_15 : decode cX1_addOrder 15 = .ok (.iconst 0, 1) := by decide +kernel
theorem dX1_addOrder_16 : decode cX1_addOrder 16 = .ok (.iload_n 1, 1) := by decide +kernel
theorem dX1_addOrder_17 : decode cX1_addOrder 17 = .ok (.invokevirtual 85, 3) := by decide +kernel
theorem dX1_addOrder_20 : decode cX1_addOrder 20 = .ok (.aload_n 0, 1) := by decide +kernel
theorem dX1_addOrder_21 : decode cX1_addOrder 21 = .ok (.getfield 29, 3) := by decide +kernel
theorem dX1_addOrder_24 : decode cX1_addOrder 24 = .ok (.iload 5, 2) := by decide +kernel
theorem dX1_addOrder_26 : decode cX1_addOrder 26 = .ok (.iconst 1, 1) := by decide +kernel
theorem dX1_addOrder_27 : decode cX1_addOrder 27 = .ok (.iload_n 2, 1) := by decide +kernel
theorem dX1_addOrder_28 : decode cX1_addOrder 28 = .ok (.invokevirtual 85, 3) := by decide +kernel
theorem dX1_addOrder_31 : decode cX1_addOrder 31 = .ok (.aload_n 0, 1) := by decide +kernel
theorem dX1_addOrder_32 : decode cX1_addOrder 32 = .ok (.getfield 29, 3) := by decide +kernel
theorem dX1_addOrder_35 : decode cX1_addOrder 35 = .ok (.iload 5, 2) := by decide +kernel
theorem dX1_addOrder_37 : decode cX1_addOrder 37 = .ok (.iconst 2, 1) := by decide +kernel
theorem dX1_addOrder_38 : decode cX1_addOrder 38 = .ok (.iload_n 3, 1) := by decide +kernel
theorem dX1_addOrder_39 : decode cX1_addOrder 39 = .ok (.invokevirtual 85, 3) := by decide +kernel
theorem dX1_addOrder_42 : decode cX1_addOrder 42 = .ok (.aload_n 0, 1) := by decide +kernel
theorem dX1_addOrder_43 : decode cX1_addOrder 43 = .ok (.getfield 29, 3) := by decide +kernel
theorem dX1_addOrder_46 : decode cX1_addOrder 46 = .ok (.iload 5, 2) := by decide +kernel
theorem dX1_addOrder_48 : decode cX1_addOrder 48 = .ok (.iconst 3, 1) := by decide +kernel
theorem dX1_addOrder_49 : decode cX1_addOrder 49 = .ok (.iload 4, 2) := by decide +kernel
theorem dX1_addOrder_51 : decode cX1_addOrder 51 = .ok (.invokevirtual 85, 3) := by decide +kernel
theorem dX1_addOrder_54 : decode cX1_addOrder 54 = .ok (.aload_n 0, 1) := by decide +kernel
theorem dX1_addOrder_55 : decode cX1_addOrder 55 = .ok (.getfield 29, 3) := by decide +kernel
theorem dX1_addOrder_58 : decode cX1_addOrder 58 = .ok (.invokevirtual 89, 3) := by decide +kernel
theorem dX1_addOrder_61 : decode cX1_addOrder 61 = .ok (.ireturn, 1) := by decide +kernel
theorem dX1_pay_0 : decode cX1_pay 0 = .ok (.aload_n 0, 1) := by decide +kernel
theorem dX1_pay_1 : decode cX1_pay 1 = .ok (.dup, 1) := by decide +kernel
theorem dX1_pay_2 : decode cX1_pay 2 = .ok (.getfield 46, 3) := by decide +kernel
theorem dX1_pay_5 : decode cX1_pay 5 = .ok (.iload_n 1, 1) := by decide +kernel
theorem dX1_pay_6 : decode cX1_pay 6 = .ok (.isub, 1) := by decide +kernel
theorem dX1_pay_7 : decode cX1_pay 7 = .ok (.putfield 46, 3) := by decide +kernel
theorem dX1_pay_10 : decode cX1_pay 10 = .ok (.return_, 1) := by decide +kernel
theorem dX1_addClay_0 : decode cX1_addClay 0 = .ok (.aload_n 0, 1) := by decide +kernel
theorem dX1_addClay_1 : decode cX1_addClay 1 = .ok (.dup, 1) := by decide +kernel
theorem dX1_addClay_2 : decode cX1_addClay 2 = .ok (.getfield 39, 3) := by decide +kernel
theorem dX1_addClay_5 : decode cX1_addClay 5 = .ok (.iload_n 1, 1) := by decide +kernel
theorem dX1_addClay_6 : decode cX1_addClay 6 = .ok (.iadd, 1) := by decide +kernel
theorem dX1_addClay_7 : decode cX1_addClay 7 = .ok (.putfield 39, 3) := by decide +kernel
theorem dX1_addClay_10 : decode cX1_addClay 10 = .ok (.aload_n 0, 1) := by decide +kernel
theorem dX1_addClay_11 : decode cX1_addClay 11 = .ok (.getfield 39, 3) := by decide +kernel
theorem dX1_addClay_14 : decode cX1_addClay 14 = .ok (.ireturn, 1) := by decide +kernel
theorem dX1_addCoals_0 : decode cX1_addCoals 0 = .ok (.aload_n 0, 1) := by decide +kernel
theorem dX1_addCoals_1 : decode cX1_addCoals 1 = .ok (.dup, 1) := by decide +kernel
theorem dX1_addCoals_2 : decode cX1_addCoals 2 = .ok (.getfield 43, 3) := by decide +kernel
theorem dX1_addCoals_5 : decode cX1_addCoals 5 = .ok (.iload_n 1, 1) := by decide +kernel
theorem dX1_addCoals_6 : decode cX1_addCoals 6 = .ok (.iadd, 1) := by decide +kernel
theorem dX1_addCoals_7 : decode cX1_addCoals 7 = .ok (.putfield 43, 3) := by decide +kernel
theorem dX1_addCoals_10 : decode cX1_addCoals 10 = .ok (.aload_n 0, 1) := by decide +kernel
theorem dX1_addCoals_11 : decode cX1_addCoals 11 = .ok (.getfield 43, 3) := by decide +kernel
theorem dX1_addCoals_14 : decode cX1_addCoals 14 = .ok (.ireturn, 1) := by decide +kernel
theorem dX1_driesBy_0 : decode cX1_driesBy 0 = .ok (.iload_n 1, 1) := by decide +kernel
theorem dX1_driesBy_1 : decode cX1_driesBy 1 = .ok (.ifCond .lt 21, 3) := by decide +kernel
theorem dX1_driesBy_4 : decode cX1_driesBy 4 = .ok (.iload_n 1, 1) := by decide +kernel
theorem dX1_driesBy_5 : decode cX1_driesBy 5 = .ok (.aload_n 0, 1) := by decide +kernel
theorem dX1_driesBy_6 : decode cX1_driesBy 6 = .ok (.getfield 32, 3) := by decide +kernel
theorem dX1_driesBy_9 : decode cX1_driesBy 9 = .ok (.arraylength, 1) := by decide +kernel
theorem dX1_driesBy_10 : decode cX1_driesBy 10 = .ok (.if_icmp .ge 12, 3) := by decide +kernel
theorem dX1_driesBy_13 : decode cX1_driesBy 13 = .ok (.aload_n 0, 1) := by decide +kernel
theorem dX1_driesBy_14 : decode cX1_driesBy 14 = .ok (.getfield 32, 3) := by decide +kernel
theorem dX1_driesBy_17 : decode cX1_driesBy 17 = .ok (.iload_n 1, 1) := by decide +kernel
theorem dX1_driesBy_18 : decode cX1_driesBy 18 = .ok (.iaload, 1) := by decide +kernel
theorem dX1_driesBy_19 : decode cX1_driesBy 19 = .ok (.goto 4, 3) := by decide +kernel
theorem dX1_driesBy_22 : decode cX1_driesBy 22 = .ok (.iconst 0, 1) := by decide +kernel
theorem dX1_driesBy_23 : decode cX1_driesBy 23 = .ok (.ireturn, 1) := by decide +kernel
theorem dX1_setDrying_0 : decode cX1_setDrying 0 = .ok (.iload_n 1, 1) := by decide +kernel
theorem dX1_setDrying_1 : decode cX1_setDrying 1 = .ok (.ifCond .lt 19, 3) := by decide +kernel
theorem dX1_setDrying_4 : decode cX1_setDrying 4 = .ok (.iload_n 1, 1) := by decide +kernel
theorem dX1_setDrying_5 : decode cX1_setDrying 5 = .ok (.aload_n 0, 1) := by decide +kernel
theorem dX1_setDrying_6 : decode cX1_setDrying 6 = .ok (.getfield 32, 3) := by decide +kernel
theorem dX1_setDrying_9 : decode cX1_setDrying 9 = .ok (.arraylength, 1) := by decide +kernel
theorem dX1_setDrying_10 : decode cX1_setDrying 10 = .ok (.if_icmp .ge 10, 3) := by decide +kernel
theorem dX1_setDrying_13 : decode cX1_setDrying 13 = .ok (.aload_n 0, 1) := by decide +kernel
theorem dX1_setDrying_14 : decode cX1_setDrying 14 = .ok (.getfield 32, 3) := by decide +kernel
theorem dX1_setDrying_17 : decode cX1_setDrying 17 = .ok (.iload_n 1, 1) := by decide +kernel
theorem dX1_setDrying_18 : decode cX1_setDrying 18 = .ok (.iload_n 2, 1) := by decide +kernel
theorem dX1_setDrying_19 : decode cX1_setDrying 19 = .ok (.iastore, 1) := by decide +kernel
theorem dX1_setDrying_20 : decode cX1_setDrying 20 = .ok (.return_, 1) := by decide +kernel
theorem dX1_wholeOf_0 : decode cX1_wholeOf 0 = .ok (.iload_n 1, 1) := by decide +kernel
theorem dX1_wholeOf_1 : decode cX1_wholeOf 1 = .ok (.ifCond .lt 21, 3) := by decide +kernel
theorem dX1_wholeOf_4 : decode cX1_wholeOf 4 = .ok (.iload_n 1, 1) := by decide +kernel
theorem dX1_wholeOf_5 : decode cX1_wholeOf 5 = .ok (.aload_n 0, 1) := by decide +kernel
theorem dX1_wholeOf_6 : decode cX1_wholeOf 6 = .ok (.getfield 36, 3) := by decide +kernel
theorem dX1_wholeOf_9 : decode cX1_wholeOf 9 = .ok (.arraylength, 1) := by decide +kernel
theorem dX1_wholeOf_10 : decode cX1_wholeOf 10 = .ok (.if_icmp .ge 12, 3) := by decide +kernel
theorem dX1_wholeOf_13 : decode cX1_wholeOf 13 = .ok (.aload_n 0, 1) := by decide +kernel
theorem dX1_wholeOf_14 : decode cX1_wholeOf 14 = .ok (.getfield 36, 3) := by decide +kernel
theorem dX1_wholeOf_17 : decode cX1_wholeOf 17 = .ok (.iload_n 1, 1) := by decide +kernel
theorem dX1_wholeOf_18 : decode cX1_wholeOf 18 = .ok (.iaload, 1) := by decide +kernel
theorem dX1_wholeOf_19 : decode cX1_wholeOf 19 = .ok (.goto 4, 3) := by decide +kernel
theorem dX1_wholeOf_22 : decode cX1_wholeOf 22 = .ok (.iconst 0, 1) := by decide +kernel
theorem dX1_wholeOf_23 : decode cX1_wholeOf 23 = .ok (.ireturn, 1) := by decide +kernel
theorem dX1_addWhole_0 : decode cX1_addWhole 0 = .ok (.iload_n 1, 1) := by decide +kernel
theorem dX1_addWhole_1 : decode cX1_addWhole 1 = .ok (.ifCond .lt 22, 3) := by decide +kernel
theorem dX1_addWhole_4 : decode cX1_addWhole 4 = .ok (.iload_n 1, 1) := by decide +kernel
theorem dX1_addWhole_5 : decode cX1_addWhole 5 = .ok (.aload_n 0, 1) := by decide +kernel
theorem dX1_addWhole_6 : decode cX1_addWhole 6 = .ok (.getfield 36, 3) := by decide +kernel
theorem dX1_addWhole_9 : decode cX1_addWhole 9 = .ok (.arraylength, 1) := by decide +kernel
theorem dX1_addWhole_10 : decode cX1_addWhole 10 = .ok (.if_icmp .ge 13, 3) := by decide +kernel
theorem dX1_addWhole_13 : decode cX1_addWhole 13 = .ok (.aload_n 0, 1) := by decide +kernel
theorem dX1_addWhole_14 : decode cX1_addWhole 14 = .ok (.getfield 36, 3) := by decide +kernel
theorem dX1_addWhole_17 : decode cX1_addWhole 17 = .ok (.iload_n 1, 1) := by decide +kernel
theorem dX1_addWhole_18 : decode cX1_addWhole 18 = .ok (.dup2, 1) := by decide +kernel
theorem dX1_addWhole_19 : decode cX1_addWhole 19 = .ok (.iaload, 1) := by decide +kernel
theorem dX1_addWhole_20 : decode cX1_addWhole 20 = .ok (.iload_n 2, 1) := by decide +kernel
theorem dX1_addWhole_21 : decode cX1_addWhole 21 = .ok (.iadd, 1) := by decide +kernel
theorem dX1_addWhole_22 : decode cX1_addWhole 22 = .ok (.iastore, 1) := by decide +kernel
theorem dX1_addWhole_23 : decode cX1_addWhole 23 = .ok (.return_, 1) := by decide +kernel
theorem dX1_wholeInAll_0 : decode cX1_wholeInAll 0 = .ok (.iconst 0, 1) := by decide +kernel
theorem dX1_wholeInAll_1 : decode cX1_wholeInAll 1 = .ok (.istore_n 1, 1) := by decide +kernel
theorem dX1_wholeInAll_2 : decode cX1_wholeInAll 2 = .ok (.iconst 4, 1) := by decide +kernel
theorem dX1_wholeInAll_3 : decode cX1_wholeInAll 3 = .ok (.istore_n 2, 1) := by decide +kernel
theorem dX1_wholeInAll_4 : decode cX1_wholeInAll 4 = .ok (.iload_n 2, 1) := by decide +kernel
theorem dX1_wholeInAll_5 : decode cX1_wholeInAll 5 = .ok (.bipush 24, 2) := by decide +kernel
theorem dX1_wholeInAll_7 : decode cX1_wholeInAll 7 = .ok (.if_icmp .gt 17, 3) := by decide +kernel
theorem dX1_wholeInAll_10 : decode cX1_wholeInAll 10 = .ok (.iload_n 1, 1) := by decide +kernel
theorem dX1_wholeInAll_11 : decode cX1_wholeInAll 11 = .ok (.aload_n 0, 1) := by decide +kernel
theorem dX1_wholeInAll_12 : decode cX1_wholeInAll 12 = .ok (.iload_n 2, 1) := by decide +kernel
theorem dX1_wholeInAll_13 : decode cX1_wholeInAll 13 = .ok (.invokevirtual 92, 3) := by decide +kernel
theorem dX1_wholeInAll_16 : decode cX1_wholeInAll 16 = .ok (.iadd, 1) := by decide +kernel
theorem dX1_wholeInAll_17 : decode cX1_wholeInAll 17 = .ok (.istore_n 1, 1) := by decide +kernel
theorem dX1_wholeInAll_18 : decode cX1_wholeInAll 18 = .ok (.iinc 2 1, 3) := by decide +kernel
theorem dX1_wholeInAll_21 : decode cX1_wholeInAll 21 = .ok (.goto (-17), 3) := by decide +kernel
theorem dX1_wholeInAll_24 : decode cX1_wholeInAll 24 = .ok (.iload_n 1, 1) := by decide +kernel
theorem dX1_wholeInAll_25 : decode cX1_wholeInAll 25 = .ok (.ireturn, 1) := by decide +kernel
theorem dX1_flawOf_0 : decode cX1_flawOf 0 = .ok (.aload_n 0, 1) := by decide +kernel
theorem dX1_flawOf_1 : decode cX1_flawOf 1 = .ok (.getfield 14, 3) := by decide +kernel
theorem dX1_flawOf_4 : decode cX1_flawOf 4 = .ok (.iload_n 1, 1) := by decide +kernel
theorem dX1_flawOf_5 : decode cX1_flawOf 5 = .ok (.iconst 2, 1) := by decide +kernel
theorem dX1_flawOf_6 : decode cX1_flawOf 6 = .ok (.invokevirtual 96, 3) := by decide +kernel
theorem dX1_flawOf_9 : decode cX1_flawOf 9 = .ok (.bipush 10, 2) := by decide +kernel
theorem dX1_flawOf_11 : decode cX1_flawOf 11 = .ok (.idiv, 1) := by decide +kernel
theorem dX1_flawOf_12 : decode cX1_flawOf 12 = .ok (.bipush 9, 2) := by decide +kernel
theorem dX1_flawOf_14 : decode cX1_flawOf 14 = .ok (.iadd, 1) := by decide +kernel
theorem dX1_flawOf_15 : decode cX1_flawOf 15 = .ok (.aload_n 0, 1) := by decide +kernel
theorem dX1_flawOf_16 : decode cX1_flawOf 16 = .ok (.getfield 14, 3) := by decide +kernel
theorem dX1_flawOf_19 : decode cX1_flawOf 19 = .ok (.iload_n 1, 1) := by decide +kernel
theorem dX1_flawOf_20 : decode cX1_flawOf 20 = .ok (.iconst 1, 1) := by decide +kernel
theorem dX1_flawOf_21 : decode cX1_flawOf 21 = .ok (.invokevirtual 96, 3) := by decide +kernel
theorem dX1_flawOf_24 : decode cX1_flawOf 24 = .ok (.isub, 1) := by decide +kernel
theorem dX1_flawOf_25 : decode cX1_flawOf 25 = .ok (.ireturn, 1) := by decide +kernel
theorem dX1_clayOf_0 : decode cX1_clayOf 0 = .ok (.aload_n 0, 1) := by decide +kernel
theorem dX1_clayOf_1 : decode cX1_clayOf 1 = .ok (.getfield 14, 3) := by decide +kernel
theorem dX1_clayOf_4 : decode cX1_clayOf 4 = .ok (.iload_n 1, 1) := by decide +kernel
theorem dX1_clayOf_5 : decode cX1_clayOf 5 = .ok (.iconst 0, 1) := by decide +kernel
theorem dX1_clayOf_6 : decode cX1_clayOf 6 = .ok (.invokevirtual 96, 3) := by decide +kernel
theorem dX1_clayOf_9 : decode cX1_clayOf 9 = .ok (.bipush 7, 2) := by decide +kernel
theorem dX1_clayOf_11 : decode cX1_clayOf 11 = .ok (.iadd, 1) := by decide +kernel
theorem dX1_clayOf_12 : decode cX1_clayOf 12 = .ok (.bipush 8, 2) := by decide +kernel
theorem dX1_clayOf_14 : decode cX1_clayOf 14 = .ok (.idiv, 1) := by decide +kernel
theorem dX1_clayOf_15 : decode cX1_clayOf 15 = .ok (.ireturn, 1) := by decide +kernel
theorem dX1_makerAt_0 : decode cX1_makerAt 0 = .ok (.iconst 0, 1) := by decide +kernel
theorem dX1_makerAt_1 : decode cX1_makerAt 1 = .ok (.istore_n 2, 1) := by decide +kernel
theorem dX1_makerAt_2 : decode cX1_makerAt 2 = .ok (.iload_n 2, 1) := by decide +kernel
theorem dX1_makerAt_3 : decode cX1_makerAt 3 = .ok (.aload_n 0, 1) := by decide +kernel
theorem dX1_makerAt_4 : decode cX1_makerAt 4 = .ok (.getfield 20, 3) := by decide +kernel
theorem dX1_makerAt_7 : decode cX1_makerAt 7 = .ok (.invokevirtual 89, 3) := by decide +kernel
theorem dX1_makerAt_10 : decode cX1_makerAt 10 = .ok (.if_icmp .ge 24, 3) := by decide +kernel
theorem dX1_makerAt_13 : decode cX1_makerAt 13 = .ok (.aload_n 0, 1) := by decide +kernel
theorem dX1_makerAt_14 : decode cX1_makerAt 14 = .ok (.getfield 20, 3) := by decide +kernel
theorem dX1_makerAt_17 : decode cX1_makerAt 17 = .ok (.iload_n 2, 1) := by decide +kernel
theorem dX1_makerAt_18 : decode cX1_makerAt 18 = .ok (.iconst 1, 1) := by decide +kernel
theorem dX1_makerAt_19 : decode cX1_makerAt 19 = .ok (.invokevirtual 96, 3) := by decide +kernel
theorem dX1_makerAt_22 : decode cX1_makerAt 22 = .ok (.iload_n 1, 1) := by decide +kernel
theorem dX1_makerAt_23 : decode cX1_makerAt 23 = .ok (.if_icmp .ne 5, 3) := by decide +kernel
theorem dX1_makerAt_26 : decode cX1_makerAt 26 = .ok (.iload_n 2, 1) := by decide +kernel
theorem dX1_makerAt_27 : decode cX1_makerAt 27 = .ok (.ireturn, 1) := by decide +kernel
theorem dX1_makerAt_28 : decode cX1_makerAt 28 = .ok (.iinc 2 1, 3) := by decide +kernel
theorem dX1_makerAt_31 : decode cX1_makerAt 31 = .ok (.goto (-29), 3) := by decide +kernel
theorem dX1_makerAt_34 : decode cX1_makerAt 34 = .ok (.iconst (-1), 1) := by decide +kernel
theorem dX1_makerAt_35 : decode cX1_makerAt 35 = .ok (.ireturn, 1) := by decide +kernel
theorem dX1_isAnotherAt_0 : decode cX1_isAnotherAt 0 = .ok (.iload_n 1, 1) := by decide +kernel
theorem dX1_isAnotherAt_1 : decode cX1_isAnotherAt 1 = .ok (.iconst (-1), 1) := by decide +kernel
theorem dX1_isAnotherAt_2 : decode cX1_isAnotherAt 2 = .ok (.if_icmp .ne 5, 3) := by decide +kernel
theorem dX1_isAnotherAt_5 : decode cX1_isAnotherAt 5 = .ok (.iconst 0, 1) := by decide +kernel
theorem dX1_isAnotherAt_6 : decode cX1_isAnotherAt 6 = .ok (.ireturn, 1) := by decide +kernel
theorem dX1_isAnotherAt_7 : decode cX1_isAnotherAt 7 = .ok (.aload_n 0, 1) := by decide +kernel
theorem dX1_isAnotherAt_8 : decode cX1_isAnotherAt 8 = .ok (.iload_n 1, 1) := by decide +kernel
theorem dX1_isAnotherAt_9 : decode cX1_isAnotherAt 9 = .ok (.invokevirtual 100, 3) := by decide +kernel
theorem dX1_isAnotherAt_12 : decode cX1_isAnotherAt 12 = .ok (.istore_n 3, 1) := by decide +kernel
theorem dX1_isAnotherAt_13 : decode cX1_isAnotherAt 13 = .ok (.iload_n 3, 1) := by decide +kernel
theorem dX1_isAnotherAt_14 : decode cX1_isAnotherAt 14 = .ok (.iconst (-1), 1) := by decide +kernel
theorem dX1_isAnotherAt_15 : decode cX1_isAnotherAt 15 = .ok (.if_icmp .eq 12, 3) := by decide +kernel
theorem dX1_isAnotherAt_18 : decode cX1_isAnotherAt 18 = .ok (.iload_n 3, 1) := by decide +kernel
theorem dX1_isAnotherAt_19 : decode cX1_isAnotherAt 19 = .ok (.iload_n 2, 1) := by decide +kernel
theorem dX1_isAnotherAt_20 : decode cX1_isAnotherAt 20 = .ok (.if_icmp .eq 7, 3) := by decide +kernel
theorem dX1_isAnotherAt_23 : decode cX1_isAnotherAt 23 = .ok (.iconst 1, 1) := by decide +kernel
theorem dX1_isAnotherAt_24 : decode cX1_isAnotherAt 24 = .ok (.goto 4, 3) := by decide +kernel
theorem dX1_isAnotherAt_27 : decode cX1_isAnotherAt 27 = .ok (.iconst 0, 1) := by decide +kernel
theorem dX1_isAnotherAt_28 : decode cX1_isAnotherAt 28 = .ok (.ireturn, 1) := by decide +kernel
theorem dX1_aboutMould_0 : decode cX1_aboutMould 0 = .ok (.iload_n 2, 1) := by decide +kernel
theorem dX1_aboutMould_1 : decode cX1_aboutMould 1 = .ok (.tableswitch 45 3 5 #[27, 33, 39], 27) := by decide +kernel
theorem dX1_aboutMould_28 : decode cX1_aboutMould 28 = .ok (.aload_n 0, 1) := by decide +kernel
theorem dX1_aboutMould_29 : decode cX1_aboutMould 29 = .ok (.iload_n 1, 1) := by decide +kernel
theorem dX1_aboutMould_30 : decode cX1_aboutMould 30 = .ok (.invokevirtual 103, 3) := by decide +kernel
theorem dX1_aboutMould_33 : decode cX1_aboutMould 33 = .ok (.ireturn, 1) := by decide +kernel
theorem dX1_aboutMould_34 : decode cX1_aboutMould 34 = .ok (.aload_n 0, 1) := by decide +kernel
theorem dX1_aboutMould_35 : decode cX1_aboutMould 35 = .ok (.iload_n 1, 1) := by decide +kernel
theorem dX1_aboutMould_36 : decode cX1_aboutMould 36 = .ok (.invokevirtual 106, 3) := by decide +kernel
theorem dX1_aboutMould_39 : decode cX1_aboutMould 39 = .ok (.ireturn, 1) := by decide +kernel
theorem dX1_aboutMould_40 : decode cX1_aboutMould 40 = .ok (.aload_n 0, 1) := by decide +kernel
theorem dX1_aboutMould_41 : decode cX1_aboutMould 41 = .ok (.iload_n 1, 1) := by decide +kernel
theorem dX1_aboutMould_42 : decode cX1_aboutMould 42 = .ok (.invokevirtual 100, 3) := by decide +kernel
theorem dX1_aboutMould_45 : decode cX1_aboutMould 45 = .ok (.ireturn, 1) := by decide +kernel
theorem dX1_aboutMould_46 : decode cX1_aboutMould 46 = .ok (.aload_n 0, 1) := by decide +kernel
theorem dX1_aboutMould_47 : decode cX1_aboutMould 47 = .ok (.getfield 14, 3) := by decide +kernel
theorem dX1_aboutMould_50 : decode cX1_aboutMould 50 = .ok (.iload_n 1, 1) := by decide +kernel
theorem dX1_aboutMould_51 : decode cX1_aboutMould 51 = .ok (.iload_n 2, 1) := by decide +kernel
theorem dX1_aboutMould_52 : decode cX1_aboutMould 52 = .ok (.invokevirtual 96, 3) := by decide +kernel
theorem dX1_aboutMould_55 : decode cX1_aboutMould 55 = .ok (.ireturn, 1) := by decide +kernel
theorem dX1_counted_0 : decode cX1_counted 0 = .ok (.iload_n 1, 1) := by decide +kernel
theorem dX1_counted_1 : decode cX1_counted 1 = .ok (.tableswitch 125 0 10 #[59, 64, 69, 74, 79, 84, 89, 98, 107, 112, 120], 59) := by decide +kernel
theorem dX1_counted_60 : decode cX1_counted 60 = .ok (.aload_n 0, 1) := by decide +kernel
theorem dX1_counted_61 : decode cX1_counted 61 = .ok (.getfield 62, 3) := by decide +kernel
theorem dX1_counted_64 : decode cX1_counted 64 = .ok (.ireturn, 1) := by decide +kernel
theorem dX1_counted_65 : decode cX1_counted 65 = .ok (.aload_n 0, 1) := by decide +kernel
theorem dX1_counted_66 : decode cX1_counted 66 = .ok (.getfield 39, 3) := by decide +kernel
theorem dX1_counted_69 : decode cX1_counted 69 = .ok (.ireturn, 1) := by decide +kernel
theorem dX1_counted_70 : decode cX1_counted 70 = .ok (.aload_n 0, 1) := by decide +kernel
theorem dX1_counted_71 : decode cX1_counted 71 = .ok (.getfield 43, 3) := by decide +kernel
theorem dX1_counted_74 : decode cX1_counted 74 = .ok (.ireturn, 1) := by decide +kernel
theorem dX1_counted_75 : decode cX1_counted 75 = .ok (.aload_n 0, 1) := by decide +kernel
theorem dX1_counted_76 : decode cX1_counted 76 = .ok (.getfield 46, 3) := by decide +kernel
theorem dX1_counted_79 : decode cX1_counted 79 = .ok (.ireturn, 1) := by decide +kernel
theorem dX1_counted_80 : decode cX1_counted 80 = .ok (.aload_n 0, 1) := by decide +kernel
theorem dX1_counted_81 : decode cX1_counted 81 = .ok (.getfield 65, 3) := by decide +kernel
theorem dX1_counted_84 : decode cX1_counted 84 = .ok (.ireturn, 1) := by decide +kernel
theorem dX1_counted_85 : decode cX1_counted 85 = .ok (.aload_n 0, 1) := by decide +kernel
theorem dX1_counted_86 : decode cX1_counted 86 = .ok (.getfield 68, 3) := by decide +kernel
theorem dX1_counted_89 : decode cX1_counted 89 = .ok (.ireturn, 1) := by decide +kernel
theorem dX1_counted_90 : decode cX1_counted 90 = .ok (.aload_n 0, 1) := by decide +kernel
theorem dX1_counted_91 : decode cX1_counted 91 = .ok (.getfield 23, 3) := by decide +kernel
theorem dX1_counted_94 : decode cX1_counted 94 = .ok (.iconst 1, 1) := by decide +kernel
theorem dX1_counted_95 : decode cX1_counted 95 = .ok (.invokevirtual 109, 3) := by decide +kernel
theorem dX1_counted_98 : decode cX1_counted 98 = .ok (.ireturn, 1) := by decide +kernel
theorem dX1_counted_99 : decode cX1_counted 99 = .ok (.aload_n 0, 1) := by decide +kernel
theorem dX1_counted_100 : decode cX1_counted 100 = .ok (.getfield 26, 3) := by decide +kernel
theorem dX1_counted_103 : decode cX1_counted 103 = .ok (.iconst 1, 1) := by decide +kernel
theorem dX1_counted_104 : decode cX1_counted 104 = .ok (.invokevirtual 109, 3) := by decide +kernel
theorem dX1_counted_107 : decode cX1_counted 107 = .ok (.ireturn, 1) := by decide +kernel
theorem dX1_counted_108 : decode cX1_counted 108 = .ok (.aload_n 0, 1) := by decide +kernel
theorem dX1_counted_109 : decode cX1_counted 109 = .ok (.invokevirtual 112, 3) := by decide +kernel
theorem dX1_counted_112 : decode cX1_counted 112 = .ok (.ireturn, 1) := by decide +kernel
theorem dX1_counted_113 : decode cX1_counted 113 = .ok (.aload_n 0, 1) := by decide +kernel
theorem dX1_counted_114 : decode cX1_counted 114 = .ok (.getfield 29, 3) := by decide +kernel
theorem dX1_counted_117 : decode cX1_counted 117 = .ok (.invokevirtual 89, 3) := by decide +kernel
theorem dX1_counted_120 : decode cX1_counted 120 = .ok (.ireturn, 1) := by decide +kernel
theorem dX1_counted_121 : decode cX1_counted 121 = .ok (.aload_n 0, 1) := by decide +kernel
theorem dX1_counted_122 : decode cX1_counted 122 = .ok (.getfield 71, 3) := by decide +kernel
theorem dX1_counted_125 : decode cX1_counted 125 = .ok (.ireturn, 1) := by decide +kernel
theorem dX1_counted_126 : decode cX1_counted 126 = .ok (.aload_n 0, 1) := by decide +kernel
theorem dX1_counted_127 : decode cX1_counted 127 = .ok (.getfield 74, 3) := by decide +kernel
theorem dX1_counted_130 : decode cX1_counted 130 = .ok (.ireturn, 1) := by decide +kernel
theorem dX1_packPipes_0 : decode cX1_packPipes 0 = .ok (.aload_n 0, 1) := by decide +kernel
theorem dX1_packPipes_1 : decode cX1_packPipes 1 = .ok (.getfield 23, 3) := by decide +kernel
theorem dX1_packPipes_4 : decode cX1_packPipes 4 = .ok (.iload_n 1, 1) := by decide +kernel
theorem dX1_packPipes_5 : decode cX1_packPipes 5 = .ok (.iconst 1, 1) := by decide +kernel
theorem dX1_packPipes_6 : decode cX1_packPipes 6 = .ok (.invokevirtual 96, 3) := by decide +kernel
theorem dX1_packPipes_9 : decode cX1_packPipes 9 = .ok (.iload_n 3, 1) := by decide +kernel
theorem dX1_packPipes_10 : decode cX1_packPipes 10 = .ok (.isub, 1) := by decide +kernel
theorem dX1_packPipes_11 : decode cX1_packPipes 11 = .ok (.istore 4, 2) := by decide +kernel
theorem dX1_packPipes_13 : decode cX1_packPipes 13 = .ok (.iconst 0, 1) := by decide +kernel
theorem dX1_packPipes_14 : decode cX1_packPipes 14 = .ok (.istore 5, 2) := by decide +kernel
theorem dX1_packPipes_16 : decode cX1_packPipes 16 = .ok (.iload 5, 2) := by decide +kernel
theorem dX1_packPipes_18 : decode cX1_packPipes 18 = .ok (.iconst 4, 1) := by decide +kernel
theorem dX1_packPipes_19 : decode cX1_packPipes 19 = .ok (.if_icmp .ge 29, 3) := by decide +kernel
theorem dX1_packPipes_22 : decode cX1_packPipes 22 = .ok (.aload_n 0, 1) := by decide +kernel
theorem dX1_packPipes_23 : decode cX1_packPipes 23 = .ok (.getfield 26, 3) := by decide +kernel
theorem dX1_packPipes_26 : decode cX1_packPipes 26 = .ok (.iload_n 2, 1) := by decide +kernel
theorem dX1_packPipes_27 : decode cX1_packPipes 27 = .ok (.iload 5, 2) := by decide +kernel
theorem dX1_packPipes_29 : decode cX1_packPipes 29 = .ok (.aload_n 0, 1) := by decide +kernel
theorem dX1_packPipes_30 : decode cX1_packPipes 30 = .ok (.getfield 23, 3) := by decide +kernel
theorem dX1_packPipes_33 : decode cX1_packPipes 33 = .ok (.iload_n 1, 1) := by decide +kernel
theorem dX1_packPipes_34 : decode cX1_packPipes 34 = .ok (.iload 5, 2) := by decide +kernel
theorem dX1_packPipes_36 : decode cX1_packPipes 36 = .ok (.invokevirtual 96, 3) := by decide +kernel
theorem dX1_packPipes_39 : decode cX1_packPipes 39 = .ok (.invokevirtual 85, 3) := by decide +kernel
theorem dX1_packPipes_42 : decode cX1_packPipes 42 = .ok (.iinc 5 1, 3) := by decide +kernel
theorem dX1_packPipes_45 : decode cX1_packPipes 45 = .ok (.goto (-29), 3) := by decide +kernel
theorem dX1_packPipes_48 : decode cX1_packPipes 48 = .ok (.aload_n 0, 1) := by decide +kernel
theorem dX1_packPipes_49 : decode cX1_packPipes 49 = .ok (.getfield 26, 3) := by decide +kernel
theorem dX1_packPipes_52 : decode cX1_packPipes 52 = .ok (.iload_n 2, 1) := by decide +kernel
theorem dX1_packPipes_53 : decode cX1_packPipes 53 = .ok (.iconst 1, 1) := by decide +kernel
theorem dX1_packPipes_54 : decode cX1_packPipes 54 = .ok (.iload_n 3, 1) := by decide +kernel
theorem dX1_packPipes_55 : decode cX1_packPipes 55 = .ok (.invokevirtual 85, 3) := by decide +kernel
theorem dX1_packPipes_58 : decode cX1_packPipes 58 = .ok (.aload_n 0, 1) := by decide +kernel
theorem dX1_packPipes_59 : decode cX1_packPipes 59 = .ok (.getfield 23, 3) := by decide +kernel
theorem dX1_packPipes_62 : decode cX1_packPipes 62 = .ok (.iload_n 1, 1) := by decide +kernel
theorem dX1_packPipes_63 : decode cX1_packPipes 63 = .ok (.iconst 1, 1) := by decide +kernel
theorem dX1_packPipes_64 : decode cX1_packPipes 64 = .ok (.iload 4, 2) := by decide +kernel
theorem dX1_packPipes_66 : decode cX1_packPipes 66 = .ok (.invokevirtual 85, 3) := by decide +kernel
theorem dX1_packPipes_69 : decode cX1_packPipes 69 = .ok (.iload 4, 2) := by decide +kernel
theorem dX1_packPipes_71 : decode cX1_packPipes 71 = .ok (.ifCond .ne 11, 3) := by decide +kernel
theorem dX1_packPipes_74 : decode cX1_packPipes 74 = .ok (.aload_n 0, 1) := by decide +kernel
theorem dX1_packPipes_75 : decode cX1_packPipes 75 = .ok (.getfield 23, 3) := by decide +kernel
theorem dX1_packPipes_78 : decode cX1_packPipes 78 = .ok (.iload_n 1, 1) := by decide +kernel
theorem dX1_packPipes_79 : decode cX1_packPipes 79 = .ok (.invokevirtual 115, 3) := by decide +kernel
theorem dX1_packPipes_82 : decode cX1_packPipes 82 = .ok (.iload 4, 2) := by decide +kernel
theorem dX1_packPipes_84 : decode cX1_packPipes 84 = .ok (.ireturn, 1) := by decide +kernel
theorem dX1_areSaggarsEmpty_0 : decode cX1_areSaggarsEmpty 0 = .ok (.aload_n 0, 1) := by decide +kernel
theorem dX1_areSaggarsEmpty_1 : decode cX1_areSaggarsEmpty 1 = .ok (.getfield 26, 3) := by decide +kernel
theorem dX1_areSaggarsEmpty_4 : decode cX1_areSaggarsEmpty 4 = .ok (.iconst 1, 1) := by decide +kernel
theorem dX1_areSaggarsEmpty_5 : decode cX1_areSaggarsEmpty 5 = .ok (.invokevirtual 109, 3) := by decide +kernel
theorem dX1_areSaggarsEmpty_8 : decode cX1_areSaggarsEmpty 8 = .ok (.ifCond .ne 7, 3) := by decide +kernel
theorem dX1_areSaggarsEmpty_11 : decode cX1_areSaggarsEmpty 11 = .ok (.iconst 1, 1) := by decide +kernel
theorem dX1_areSaggarsEmpty_12 : decode cX1_areSaggarsEmpty 12 = .ok (.goto 4, 3) := by decide +kernel
theorem dX1_areSaggarsEmpty_15 : decode cX1_areSaggarsEmpty 15 = .ok (.iconst 0, 1) := by decide +kernel
theorem dX1_areSaggarsEmpty_16 : decode cX1_areSaggarsEmpty 16 = .ok (.ireturn, 1) := by decide +kernel
theorem dX1_stemsThatBreak_0 : decode cX1_stemsThatBreak 0 = .ok (.aload_n 0, 1) := by decide +kernel
theorem dX1_stemsThatBreak_1 : decode cX1_stemsThatBreak 1 = .ok (.getfield 26, 3) := by decide +kernel
theorem dX1_stemsThatBreak_4 : decode cX1_stemsThatBreak 4 = .ok (.iload_n 1, 1) := by decide +kernel
theorem dX1_stemsThatBreak_5 : decode cX1_stemsThatBreak 5 = .ok (.iconst 0, 1) := by decide +kernel
theorem dX1_stemsThatBreak_6 : decode cX1_stemsThatBreak 6 = .ok (.invokevirtual 96, 3) := by decide +kernel
theorem dX1_stemsThatBreak_9 : decode cX1_stemsThatBreak 9 = .ok (.istore_n 3, 1) := by decide +kernel
theorem dX1_stemsThatBreak_10 : decode cX1_stemsThatBreak 10 = .ok (.iconst 4, 1) := by decide +kernel
theorem dX1_stemsThatBreak_11 : decode cX1_stemsThatBreak 11 = .ok (.iload_n 2, 1) := by decide +kernel
theorem dX1_stemsThatBreak_12 : decode cX1_stemsThatBreak 12 = .ok (.imul, 1) := by decide +kernel
theorem dX1_stemsThatBreak_13 : decode cX1_stemsThatBreak 13 = .ok (.bipush 20, 2) := by decide +kernel
theorem dX1_stemsThatBreak_15 : decode cX1_stemsThatBreak 15 = .ok (.iconst 2, 1) := by decide +kernel
theorem dX1_stemsThatBreak_16 : decode cX1_stemsThatBreak 16 = .ok (.iload_n 3, 1) := by decide +kernel
theorem dX1_stemsThatBreak_17 : decode cX1_stemsThatBreak 17 = .ok (.imul, 1) := by decide +kernel
theorem dX1_stemsThatBreak_18 : decode cX1_stemsThatBreak 18 = .ok (.iadd, 1) := by decide +kernel
theorem dX1_stemsThatBreak_19 : decode cX1_stemsThatBreak 19 = .ok (.isub, 1) := by decide +kernel
theorem dX1_stemsThatBreak_20 : decode cX1_stemsThatBreak 20 = .ok (.invokestatic 119, 3) := by decide +kernel
theorem dX1_stemsThatBreak_23 : decode cX1_stemsThatBreak 23 = .ok (.iconst 2, 1) := by decide +kernel
theorem dX1_stemsThatBreak_24 : decode cX1_stemsThatBreak 24 = .ok (.idiv, 1) := by decide +kernel
theorem dX1_stemsThatBreak_25 : decode cX1_stemsThatBreak 25 = .ok (.istore 4, 2) := by decide +kernel
theorem dX1_stemsThatBreak_27 : decode cX1_stemsThatBreak 27 = .ok (.iload_n 1, 1) := by decide +kernel
theorem dX1_stemsThatBreak_28 : decode cX1_stemsThatBreak 28 = .ok (.ifCond .eq 8, 3) := by decide +kernel
theorem dX1_stemsThatBreak_31 : decode cX1_stemsThatBreak 31 = .ok (.iload_n 1, 1) := by decide +kernel
theorem dX1_stemsThatBreak_32 : decode cX1_stemsThatBreak 32 = .ok (.iconst 5, 1) := by decide +kernel
theorem dX1_stemsThatBreak_33 : decode cX1_stemsThatBreak 33 = .ok (.if_icmp .ne 7, 3) := by decide +kernel
theorem dX1_stemsThatBreak_36 : decode cX1_stemsThatBreak 36 = .ok (.iconst 5, 1) := by decide +kernel
theorem dX1_stemsThatBreak_37 : decode cX1_stemsThatBreak 37 = .ok (.goto 4, 3) := by decide +kernel
theorem dX1_stemsThatBreak_40 : decode cX1_stemsThatBreak 40 = .ok (.iconst 0, 1) := by decide +kernel
theorem dX1_stemsThatBreak_41 : decode cX1_stemsThatBreak 41 = .ok (.istore 5, 2) := by decide +kernel
theorem dX1_stemsThatBreak_43 : decode cX1_stemsThatBreak 43 = .ok (.bipush 8, 2) := by decide +kernel
theorem dX1_stemsThatBreak_45 : decode cX1_stemsThatBreak 45 = .ok (.aload_n 0, 1) := by decide +kernel
theorem dX1_stemsThatBreak_46 : decode cX1_stemsThatBreak 46 = .ok (.getfield 26, 3) := by decide +kernel
theorem dX1_stemsThatBreak_49 : decode cX1_stemsThatBreak 49 = .ok (.iload_n 1, 1) := by decide +kernel
theorem dX1_stemsThatBreak_50 : decode cX1_stemsThatBreak 50 = .ok (.iconst 2, 1) := by decide +kernel
theorem dX1_stemsThatBreak_51 : decode cX1_stemsThatBreak 51 = .ok (.invokevirtual 96, 3) := by decide +kernel
theorem dX1_stemsThatBreak_54 : decode cX1_stemsThatBreak 54 = .ok (.imul, 1) := by decide +kernel
theorem dX1_stemsThatBreak_55 : decode cX1_stemsThatBreak 55 = .ok (.iconst 2, 1) := by decide +kernel
theorem dX1_stemsThatBreak_56 : decode cX1_stemsThatBreak 56 = .ok (.aload_n 0, 1) := by decide +kernel
theorem dX1_stemsThatBreak_57 : decode cX1_stemsThatBreak 57 = .ok (.getfield 26, 3) := by decide +kernel
theorem dX1_stemsThatBreak_60 : decode cX1_stemsThatBreak 60 = .ok (.iload_n 1, 1) := by decide +kernel
theorem dX1_stemsThatBreak_61 : decode cX1_stemsThatBreak 61 = .ok (.iconst 3, 1) := by decide +kernel
theorem dX1_stemsThatBreak_62 : decode cX1_stemsThatBreak 62 = .ok (.invokevirtual 96, 3) := by decide +kernel
theorem dX1_stemsThatBreak_65 : decode cX1_stemsThatBreak 65 = .ok (.imul, 1) := by decide +kernel
theorem dX1_stemsThatBreak_66 : decode cX1_stemsThatBreak 66 = .ok (.iadd, 1) := by decide +kernel
theorem dX1_stemsThatBreak_67 : decode cX1_stemsThatBreak 67 = .ok (.iload 4, 2) := by decide +kernel
theorem dX1_stemsThatBreak_69 : decode cX1_stemsThatBreak 69 = .ok (.iadd, 1) := by decide +kernel
theorem dX1_stemsThatBreak_70 : decode cX1_stemsThatBreak 70 = .ok (.iload 5, 2) := by decide +kernel
theorem dX1_stemsThatBreak_72 : decode cX1_stemsThatBreak 72 = .ok (.iadd, 1) := by decide +kernel
theorem dX1_stemsThatBreak_73 : decode cX1_stemsThatBreak 73 = .ok (.istore 6, 2) := by decide +kernel
theorem dX1_stemsThatBreak_75 : decode cX1_stemsThatBreak 75 = .ok (.iload 6, 2) := by decide +kernel
theorem dX1_stemsThatBreak_77 : decode cX1_stemsThatBreak 77 = .ok (.bipush 100, 2) := by decide +kernel
theorem dX1_stemsThatBreak_79 : decode cX1_stemsThatBreak 79 = .ok (.invokestatic 124, 3) := by decide +kernel
theorem dX1_stemsThatBreak_82 : decode cX1_stemsThatBreak 82 = .ok (.aload_n 0, 1) := by decide +kernel
theorem dX1_stemsThatBreak_83 : decode cX1_stemsThatBreak 83 = .ok (.getfield 26, 3) := by decide +kernel
theorem dX1_stemsThatBreak_86 : decode cX1_stemsThatBreak 86 = .ok (.iload_n 1, 1) := by decide +kernel
theorem dX1_stemsThatBreak_87 : decode cX1_stemsThatBreak 87 = .ok (.iconst 1, 1) := by decide +kernel
theorem dX1_stemsThatBreak_88 : decode cX1_stemsThatBreak 88 = .ok (.invokevirtual 96, 3) := by decide +kernel
theorem dX1_stemsThatBreak_91 : decode cX1_stemsThatBreak 91 = .ok (.imul, 1) := by decide +kernel
theorem dX1_stemsThatBreak_92 : decode cX1_stemsThatBreak 92 = .ok (.bipush 99, 2) := by decide +kernel
theorem dX1_stemsThatBreak_94 : decode cX1_stemsThatBreak 94 = .ok (.iadd, 1) := by decide +kernel
theorem dX1_stemsThatBreak_95 : decode cX1_stemsThatBreak 95 = .ok (.bipush 100, 2) := by decide +kernel
theorem dX1_stemsThatBreak_97 : decode cX1_stemsThatBreak 97 = .ok (.idiv, 1) := by decide +kernel
theorem dX1_stemsThatBreak_98 : decode cX1_stemsThatBreak 98 = .ok (.ireturn, 1) := by decide +kernel
theorem dX1_stemsThatBreakInAll_0 : decode cX1_stemsThatBreakInAll 0 = .ok (.iconst 0, 1) := by decide +kernel
theorem dX1_stemsThatBreakInAll_1 : decode cX1_stemsThatBreakInAll 1 = .ok (.istore_n 2, 1) := by decide +kernel
theorem dX1_stemsThatBreakInAll_2 : decode cX1_stemsThatBreakInAll 2 = .ok (.iconst 0, 1) := by decide +kernel
theorem dX1_stemsThatBreakInAll_3 : decode cX1_stemsThatBreakInAll 3 = .ok (.istore_n 3, 1) := by decide +kernel
theorem dX1_stemsThatBreakInAll_4 : decode cX1_stemsThatBreakInAll 4 = .ok (.iload_n 3, 1) := by decide +kernel
theorem dX1_stemsThatBreakInAll_5 : decode cX1_stemsThatBreakInAll 5 = .ok (.bipush 6, 2) := by decide +kernel
theorem dX1_stemsThatBreakInAll_7 : decode cX1_stemsThatBreakInAll 7 = .ok (.if_icmp .ge 18, 3) := by decide +kernel
theorem dX1_stemsThatBreakInAll_10 : decode cX1_stemsThatBreakInAll 10 = .ok (.iload_n 2, 1) := by decide +kernel
theorem dX1_stemsThatBreakInAll_11 : decode cX1_stemsThatBreakInAll 11 = .ok (.aload_n 0, 1) := by decide +kernel
theorem dX1_stemsThatBreakInAll_12 : decode cX1_stemsThatBreakInAll 12 = .ok (.iload_n 3, 1) := by decide +kernel
theorem dX1_stemsThatBreakInAll_13 : decode cX1_stemsThatBreakInAll 13 = .ok (.iload_n 1, 1) := by decide +kernel
theorem dX1_stemsThatBreakInAll_14 : decode cX1_stemsThatBreakInAll 14 = .ok (.invokevirtual 127, 3) := by decide +kernel
theorem dX1_stemsThatBreakInAll_17 : decode cX1_stemsThatBreakInAll 17 = .ok (.iadd, 1) := by decide +kernel
theorem dX1_stemsThatBreakInAll_18 : decode cX1_stemsThatBreakInAll 18 = .ok (.istore_n 2, 1) := by decide +kernel
theorem dX1_stemsThatBreakInAll_19 : decode cX1_stemsThatBreakInAll 19 = .ok (.iinc 3 1, 3) := by decide +kernel
theorem dX1_stemsThatBreakInAll_22 : decode cX1_stemsThatBreakInAll 22 = .ok (.goto (-18), 3) := by decide +kernel
theorem dX1_stemsThatBreakInAll_25 : decode cX1_stemsThatBreakInAll 25 = .ok (.iload_n 2, 1) := by decide +kernel
theorem dX1_stemsThatBreakInAll_26 : decode cX1_stemsThatBreakInAll 26 = .ok (.ireturn, 1) := by decide +kernel
theorem dX1_bestCoals_0 : decode cX1_bestCoals 0 = .ok (.iconst 1, 1) := by decide +kernel
theorem dX1_bestCoals_1 : decode cX1_bestCoals 1 = .ok (.istore_n 1, 1) := by decide +kernel
theorem dX1_bestCoals_2 : decode cX1_bestCoals 2 = .ok (.aload_n 0, 1) := by decide +kernel
theorem dX1_bestCoals_3 : decode cX1_bestCoals 3 = .ok (.iconst 1, 1) := by decide +kernel
theorem dX1_bestCoals_4 : decode cX1_bestCoals 4 = .ok (.invokevirtual 130, 3) := by decide +kernel
theorem dX1_bestCoals_7 : decode cX1_bestCoals 7 = .ok (.istore_n 2, 1) := by decide +kernel
theorem dX1_bestCoals_8 : decode cX1_bestCoals 8 = .ok (.iconst 2, 1) := by decide +kernel
theorem dX1_bestCoals_9 : decode cX1_bestCoals 9 = .ok (.istore_n 3, 1) := by decide +kernel
theorem dX1_bestCoals_10 : decode cX1_bestCoals 10 = .ok (.iload_n 3, 1) := by decide +kernel
theorem dX1_bestCoals_11 : decode cX1_bestCoals 11 = .ok (.bipush 30, 2) := by decide +kernel
theorem dX1_bestCoals_13 : decode cX1_bestCoals 13 = .ok (.if_icmp .gt 27, 3) := by decide +kernel
theorem dX1_bestCoals_16 : decode cX1_bestCoals 16 = .ok (.aload_n 0, 1) := by decide +kernel
theorem dX1_bestCoals_17 : decode cX1_bestCoals 17 = .ok (.iload_n 3, 1) := by decide +kernel
theorem dX1_bestCoals_18 : decode cX1_bestCoals 18 = .ok (.invokevirtual 130, 3) := by decide +kernel
theorem dX1_bestCoals_21 : decode cX1_bestCoals 21 = .ok (.istore 4, 2) := by decide +kernel
theorem dX1_bestCoals_23 : decode cX1_bestCoals 23 = .ok (.iload 4, 2) := by decide +kernel
theorem dX1_bestCoals_25 : decode cX1_bestCoals 25 = .ok (.iload_n 2, 1) := by decide +kernel
theorem dX1_bestCoals_26 : decode cX1_bestCoals 26 = .ok (.if_icmp .ge 8, 3) := by decide +kernel
theorem dX1_bestCoals_29 : decode cX1_bestCoals 29 = .ok (.iload_n 3, 1) := by decide +kernel
theorem dX1_bestCoals_30 : decode cX1_bestCoals 30 = .ok (.istore_n 1, 1) := by decide +kernel
theorem dX1_bestCoals_31 : decode cX1_bestCoals 31 = .ok (.iload 4, 2) := by decide +kernel
theorem dX1_bestCoals_33 : decode cX1_bestCoals 33 = .ok (.istore_n 2, 1) := by decide +kernel
theorem dX1_bestCoals_34 : decode cX1_bestCoals 34 = .ok (.iinc 3 1, 3) := by decide +kernel
theorem dX1_bestCoals_37 : decode cX1_bestCoals 37 = .ok (.goto (-27), 3) := by decide +kernel
theorem dX1_bestCoals_40 : decode cX1_bestCoals 40 = .ok (.iload_n 1, 1) := by decide +kernel
theorem dX1_bestCoals_41 : decode cX1_bestCoals 41 = .ok (.ireturn, 1) := by decide +kernel
theorem dX1_fireKiln_0 : decode cX1_fireKiln 0 = .ok (.iconst 0, 1) := by decide +kernel
theorem dX1_fireKiln_1 : decode cX1_fireKiln 1 = .ok (.istore_n 2, 1) := by decide +kernel
theorem dX1_fireKiln_2 : decode cX1_fireKiln 2 = .ok (.iconst 0, 1) := by decide +kernel
theorem dX1_fireKiln_3 : decode cX1_fireKiln 3 = .ok (.istore_n 3, 1) := by decide +kernel
theorem dX1_fireKiln_4 : decode cX1_fireKiln 4 = .ok (.iload_n 3, 1) := by decide +kernel
theorem dX1_fireKiln_5 : decode cX1_fireKiln 5 = .ok (.bipush 6, 2) := by decide +kernel
theorem dX1_fireKiln_7 : decode cX1_fireKiln 7 = .ok (.if_icmp .ge 18, 3) := by decide +kernel
theorem dX1_fireKiln_10 : decode cX1_fireKiln 10 = .ok (.iload_n 2, 1) := by decide +kernel
theorem dX1_fireKiln_11 : decode cX1_fireKiln 11 = .ok (.aload_n 0, 1) := by decide +kernel
theorem dX1_fireKiln_12 : decode cX1_fireKiln 12 = .ok (.iload_n 3, 1) := by decide +kernel
theorem dX1_fireKiln_13 : decode cX1_fireKiln 13 = .ok (.iload_n 1, 1) := by decide +kernel
theorem dX1_fireKiln_14 : decode cX1_fireKiln 14 = .ok (.invokevirtual 133, 3) := by decide +kernel
theorem dX1_fireKiln_17 : decode cX1_fireKiln 17 = .ok (.iadd, 1) := by decide +kernel
theorem dX1_fireKiln_18 : decode cX1_fireKiln 18 = .ok (.istore_n 2, 1) := by decide +kernel
theorem dX1_fireKiln_19 : decode cX1_fireKiln 19 = .ok (.iinc 3 1, 3) := by decide +kernel
theorem dX1_fireKiln_22 : decode cX1_fireKiln 22 = .ok (.goto (-18), 3) := by decide +kernel
theorem dX1_fireKiln_25 : decode cX1_fireKiln 25 = .ok (.aload_n 0, 1) := by decide +kernel
theorem dX1_fireKiln_26 : decode cX1_fireKiln 26 = .ok (.dup, 1) := by decide +kernel
theorem dX1_fireKiln_27 : decode cX1_fireKiln 27 = .ok (.getfield 43, 3) := by decide +kernel
theorem dX1_fireKiln_30 : decode cX1_fireKiln 30 = .ok (.iload_n 1, 1) := by decide +kernel
theorem dX1_fireKiln_31 : decode cX1_fireKiln 31 = .ok (.isub, 1) := by decide +kernel
theorem dX1_fireKiln_32 : decode cX1_fireKiln 32 = .ok (.putfield 43, 3) := by decide +kernel
theorem dX1_fireKiln_35 : decode cX1_fireKiln 35 = .ok (.iload_n 2, 1) := by decide +kernel
theorem dX1_fireKiln_36 : decode cX1_fireKiln 36 = .ok (.ireturn, 1) := by decide +kernel
theorem dX1_unloadFired_0 : decode cX1_unloadFired 0 = .ok (.aload_n 0, 1) := by decide +kernel
theorem dX1_unloadFired_1 : decode cX1_unloadFired 1 = .ok (.iload_n 1, 1) := by decide +kernel
theorem dX1_unloadFired_2 : decode cX1_unloadFired 2 = .ok (.iload_n 2, 1) := by decide +kernel
theorem dX1_unloadFired_3 : decode cX1_unloadFired 3 = .ok (.invokevirtual 127, 3) := by decide +kernel
theorem dX1_unloadFired_6 : decode cX1_unloadFired 6 = .ok (.istore_n 3, 1) := by decide +kernel
theorem dX1_unloadFired_7 : decode cX1_unloadFired 7 = .ok (.aload_n 0, 1) := by decide +kernel
theorem dX1_unloadFired_8 : decode cX1_unloadFired 8 = .ok (.getfield 26, 3) := by decide +kernel
theorem dX1_unloadFired_11 : decode cX1_unloadFired 11 = .ok (.iload_n 1, 1) := by decide +kernel
theorem dX1_unloadFired_12 : decode cX1_unloadFired 12 = .ok (.iconst 1, 1) := by decide +kernel
theorem dX1_unloadFired_13 : decode cX1_unloadFired 13 = .ok (.invokevirtual 96, 3) := by decide +kernel
theorem dX1_unloadFired_16 : decode cX1_unloadFired 16 = .ok (.iload_n 3, 1) := by decide +kernel
theorem dX1_unloadFired_17 : decode cX1_unloadFired 17 = .ok (.isub, 1) := by decide +kernel
theorem dX1_unloadFired_18 : decode cX1_unloadFired 18 = .ok (.istore 4, 2) := by decide +kernel
theorem dX1_unloadFired_20 : decode cX1_unloadFired 20 = .ok (.aload_n 0, 1) := by decide +kernel
theorem dX1_unloadFired_21 : decode cX1_unloadFired 21 = .ok (.dup, 1) := by decide +kernel
theorem dX1_unloadFired_22 : decode cX1_unloadFired 22 = .ok (.getfield 68, 3) := by decide +kernel
theorem dX1_unloadFired_25 : decode cX1_unloadFired 25 = .ok (.iload_n 3, 1) := by decide +kernel
theorem dX1_unloadFired_26 : decode cX1_unloadFired 26 = .ok (.iadd, 1) := by decide +kernel
theorem dX1_unloadFired_27 : decode cX1_unloadFired 27 = .ok (.putfield 68, 3) := by decide +kernel
theorem dX1_unloadFired_30 : decode cX1_unloadFired 30 = .ok (.aload_n 0, 1) := by decide +kernel
theorem dX1_unloadFired_31 : decode cX1_unloadFired 31 = .ok (.aload_n 0, 1) := by decide +kernel
theorem dX1_unloadFired_32 : decode cX1_unloadFired 32 = .ok (.getfield 26, 3) := by decide +kernel
theorem dX1_unloadFired_35 : decode cX1_unloadFired 35 = .ok (.iload_n 1, 1) := by decide +kernel
theorem dX1_unloadFired_36 : decode cX1_unloadFired 36 = .ok (.iconst 0, 1) := by decide +kernel
theorem dX1_unloadFired_37 : decode cX1_unloadFired 37 = .ok (.invokevirtual 96, 3) := by decide +kernel
theorem dX1_unloadFired_40 : decode cX1_unloadFired 40 = .ok (.iload 4, 2) := by decide +kernel
theorem dX1_unloadFired_42 : decode cX1_unloadFired 42 = .ok (.invokevirtual 136, 3) := by decide +kernel
theorem dX1_unloadFired_45 : decode cX1_unloadFired 45 = .ok (.iconst 0, 1) := by decide +kernel
theorem dX1_unloadFired_46 : decode cX1_unloadFired 46 = .ok (.istore 5, 2) := by decide +kernel
theorem dX1_unloadFired_48 : decode cX1_unloadFired 48 = .ok (.iload 5, 2) := by decide +kernel
theorem dX1_unloadFired_50 : decode cX1_unloadFired 50 = .ok (.iconst 4, 1) := by decide +kernel
theorem dX1_unloadFired_51 : decode cX1_unloadFired 51 = .ok (.if_icmp .ge 20, 3) := by decide +kernel
theorem dX1_unloadFired_54 : decode cX1_unloadFired 54 = .ok (.aload_n 0, 1) := by decide +kernel
theorem dX1_unloadFired_55 : decode cX1_unloadFired 55 = .ok (.getfield 26, 3) := by decide +kernel
theorem dX1_unloadFired_58 : decode cX1_unloadFired 58 = .ok (.iload_n 1, 1) := by decide +kernel
theorem dX1_unloadFired_59 : decode cX1_unloadFired 59 = .ok (.iload 5, 2) := by decide +kernel
theorem dX1_unloadFired_61 : decode cX1_unloadFired 61 = .ok (.iconst 0, 1) := by decide +kernel
theorem dX1_unloadFired_62 : decode cX1_unloadFired 62 = .ok (.invokevirtual 85, 3) := by decide +kernel
theorem dX1_unloadFired_65 : decode cX1_unloadFired 65 = .ok (.iinc 5 1, 3) := by decide +kernel
theorem dX1_unloadFired_68 : decode cX1_unloadFired 68 = .ok (.goto (-20), 3) := by decide +kernel
theorem dX1_unloadFired_71 : decode cX1_unloadFired 71 = .ok (.iload 4, 2) := by decide +kernel
theorem dX1_unloadFired_73 : decode cX1_unloadFired 73 = .ok (.ireturn, 1) := by decide +kernel
theorem dX1_passDays_0 : decode cX1_passDays 0 = .ok (.iconst 0, 1) := by decide +kernel
theorem dX1_passDays_1 : decode cX1_passDays 1 = .ok (.istore_n 2, 1) := by decide +kernel
theorem dX1_passDays_2 : decode cX1_passDays 2 = .ok (.iload_n 2, 1) := by decide +kernel
theorem dX1_passDays_3 : decode cX1_passDays 3 = .ok (.iload_n 1, 1) := by decide +kernel
theorem dX1_passDays_4 : decode cX1_passDays 4 = .ok (.if_icmp .ge 13, 3) := by decide +kernel
theorem dX1_passDays_7 : decode cX1_passDays 7 = .ok (.aload_n 0, 1) := by decide +kernel
theorem dX1_passDays_8 : decode cX1_passDays 8 = .ok (.invokevirtual 140, 3) := by decide +kernel
theorem dX1_passDays_11 : decode cX1_passDays 11 = .ok (.iinc 2 1, 3) := by decide +kernel
theorem dX1_passDays_14 : decode cX1_passDays 14 = .ok (.goto (-12), 3) := by decide +kernel
theorem dX1_passDays_17 : decode cX1_passDays 17 = .ok (.return_, 1) := by decide +kernel
theorem dX1_passDay_0 : decode cX1_passDay 0 = .ok (.iconst 0, 1) := by decide +kernel
theorem dX1_passDay_1 : decode cX1_passDay 1 = .ok (.istore_n 1, 1) := by decide +kernel
theorem dX1_passDay_2 : decode cX1_passDay 2 = .ok (.iload_n 1, 1) := by decide +kernel
theorem dX1_passDay_3 : decode cX1_passDay 3 = .ok (.aload_n 0, 1) := by decide +kernel
theorem dX1_passDay_4 : decode cX1_passDay 4 = .ok (.getfield 20, 3) := by decide +kernel
theorem dX1_passDay_7 : decode cX1_passDay 7 = .ok (.invokevirtual 89, 3) := by decide +kernel
theorem dX1_passDay_10 : decode cX1_passDay 10 = .ok (.if_icmp .ge 14, 3) := by decide +kernel
theorem dX1_passDay_13 : decode cX1_passDay 13 = .ok (.aload_n 0, 1) := by decide +kernel
theorem dX1_passDay_14 : decode cX1_passDay 14 = .ok (.iload_n 1, 1) := by decide +kernel
theorem dX1_passDay_15 : decode cX1_passDay 15 = .ok (.invokevirtual 143, 3) := by decide +kernel
theorem dX1_passDay_18 : decode cX1_passDay 18 = .ok (.iinc 1 1, 3) := by decide +kernel
theorem dX1_passDay_21 : decode cX1_passDay 21 = .ok (.goto (-19), 3) := by decide +kernel
theorem dX1_passDay_24 : decode cX1_passDay 24 = .ok (.aload_n 0, 1) := by decide +kernel
theorem dX1_passDay_25 : decode cX1_passDay 25 = .ok (.aload_n 0, 1) := by decide +kernel
theorem dX1_passDay_26 : decode cX1_passDay 26 = .ok (.getfield 62, 3) := by decide +kernel
theorem dX1_passDay_29 : decode cX1_passDay 29 = .ok (.bipush 7, 2) := by decide +kernel
theorem dX1_passDay_31 : decode cX1_passDay 31 = .ok (.invokestatic 146, 3) := by decide +kernel
theorem dX1_passDay_34 : decode cX1_passDay 34 = .ok (.invokevirtual 149, 3) := by decide +kernel
theorem dX1_passDay_37 : decode cX1_passDay 37 = .ok (.istore_n 1, 1) := by decide +kernel
theorem dX1_passDay_38 : decode cX1_passDay 38 = .ok (.aload_n 0, 1) := by decide +kernel
theorem dX1_passDay_39 : decode cX1_passDay 39 = .ok (.getfield 23, 3) := by decide +kernel
theorem dX1_passDay_42 : decode cX1_passDay 42 = .ok (.iload_n 1, 1) := by decide +kernel
theorem dX1_passDay_43 : decode cX1_passDay 43 = .ok (.invokestatic 152, 3) := by decide +kernel
theorem dX1_passDay_46 : decode cX1_passDay 46 = .ok (.aload_n 0, 1) := by decide +kernel
theorem dX1_passDay_47 : decode cX1_passDay 47 = .ok (.getfield 26, 3) := by decide +kernel
theorem dX1_passDay_50 : decode cX1_passDay 50 = .ok (.iload_n 1, 1) := by decide +kernel
theorem dX1_passDay_51 : decode cX1_passDay 51 = .ok (.invokestatic 152, 3) := by decide +kernel
theorem dX1_passDay_54 : decode cX1_passDay 54 = .ok (.aload_n 0, 1) := by decide +kernel
theorem dX1_passDay_55 : decode cX1_passDay 55 = .ok (.invokevirtual 156, 3) := by decide +kernel
theorem dX1_passDay_58 : decode cX1_passDay 58 = .ok (.aload_n 0, 1) := by decide +kernel
theorem dX1_passDay_59 : decode cX1_passDay 59 = .ok (.dup, 1) := by decide +kernel
theorem dX1_passDay_60 : decode cX1_passDay 60 = .ok (.getfield 62, 3) := by decide +kernel
theorem dX1_passDay_63 : decode cX1_passDay 63 = .ok (.iconst 1, 1) := by decide +kernel
theorem dX1_passDay_64 : decode cX1_passDay 64 = .ok (.iadd, 1) := by decide +kernel
theorem dX1_passDay_65 : decode cX1_passDay 65 = .ok (.putfield 62, 3) := by decide +kernel
theorem dX1_passDay_68 : decode cX1_passDay 68 = .ok (.return_, 1) := by decide +kernel
theorem dX1_letWork_0 : decode cX1_letWork 0 = .ok (.aload_n 0, 1) := by decide +kernel
theorem dX1_letWork_1 : decode cX1_letWork 1 = .ok (.getfield 20, 3) := by decide +kernel
theorem dX1_letWork_4 : decode cX1_letWork 4 = .ok (.iload_n 1, 1) := by decide +kernel
theorem dX1_letWork_5 : decode cX1_letWork 5 = .ok (.iconst 1, 1) := by decide +kernel
theorem dX1_letWork_6 : decode cX1_letWork 6 = .ok (.invokevirtual 96, 3) := by decide +kernel
theorem dX1_letWork_9 : decode cX1_letWork 9 = .ok (.istore_n 2, 1) := by decide +kernel
theorem dX1_letWork_10 : decode cX1_letWork 10 = .ok (.aload_n 0, 1) := by decide +kernel
theorem dX1_letWork_11 : decode cX1_letWork 11 = .ok (.getfield 14, 3) := by decide +kernel
theorem dX1_letWork_14 : decode cX1_letWork 14 = .ok (.iload_n 2, 1) := by decide +kernel
theorem dX1_letWork_15 : decode cX1_letWork 15 = .ok (.invokevirtual 159, 3) := by decide +kernel
theorem dX1_letWork_18 : decode cX1_letWork 18 = .ok (.ifCond .eq 13, 3) := by decide +kernel
theorem dX1_letWork_21 : decode cX1_letWork 21 = .ok (.aload_n 0, 1) := by decide +kernel
theorem dX1_letWork_22 : decode cX1_letWork 22 = .ok (.getfield 23, 3) := by decide +kernel
theorem dX1_letWork_25 : decode cX1_letWork 25 = .ok (.invokevirtual 163, 3) := by decide +kernel
theorem dX1_letWork_28 : decode cX1_letWork 28 = .ok (.ifCond .eq 4, 3) := by decide +kernel
theorem dX1_letWork_31 : decode cX1_letWork 31 = .ok (.return_, 1) := by decide +kernel
theorem dX1_letWork_32 : decode cX1_letWork 32 = .ok (.iconst 1, 1) := by decide +kernel
theorem dX1_letWork_33 : decode cX1_letWork 33 = .ok (.aload_n 0, 1) := by decide +kernel
theorem dX1_letWork_34 : decode cX1_letWork 34 = .ok (.iload_n 2, 1) := by decide +kernel
theorem dX1_letWork_35 : decode cX1_letWork 35 = .ok (.invokevirtual 106, 3) := by decide +kernel
theorem dX1_letWork_38 : decode cX1_letWork 38 = .ok (.invokestatic 167, 3) := by decide +kernel
theorem dX1_letWork_41 : decode cX1_letWork 41 = .ok (.istore_n 3, 1) := by decide +kernel
theorem dX1_letWork_42 : decode cX1_letWork 42 = .ok (.aload_n 0, 1) := by decide +kernel
theorem dX1_letWork_43 : decode cX1_letWork 43 = .ok (.getfield 20, 3) := by decide +kernel
theorem dX1_letWork_46 : decode cX1_letWork 46 = .ok (.iload_n 1, 1) := by decide +kernel
theorem dX1_letWork_47 : decode cX1_letWork 47 = .ok (.iconst 0, 1) := by decide +kernel
theorem dX1_letWork_48 : decode cX1_letWork 48 = .ok (.invokevirtual 96, 3) := by decide +kernel
theorem dX1_letWork_51 : decode cX1_letWork 51 = .ok (.aload_n 0, 1) := by decide +kernel
theorem dX1_letWork_52 : decode cX1_letWork 52 = .ok (.getfield 39, 3) := by decide +kernel
theorem dX1_letWork_55 : decode cX1_letWork 55 = .ok (.iload_n 3, 1) := by decide +kernel
theorem dX1_letWork_56 : decode cX1_letWork 56 = .ok (.idiv, 1) := by decide +kernel
theorem dX1_letWork_57 : decode cX1_letWork 57 = .ok (.invokestatic 124, 3) := by decide +kernel
theorem dX1_letWork_60 : decode cX1_letWork 60 = .ok (.istore 4, 2) := by decide +kernel
theorem dX1_letWork_62 : decode cX1_letWork 62 = .ok (.iload 4, 2) := by decide +kernel
theorem dX1_letWork_64 : decode cX1_letWork 64 = .ok (.iconst 1, 1) := by decide +kernel
theorem dX1_letWork_65 : decode cX1_letWork 65 = .ok (.if_icmp .ge 4, 3) := by decide +kernel
theorem dX1_letWork_68 : decode cX1_letWork 68 = .ok (.return_, 1) := by decide +kernel
theorem dX1_letWork_69 : decode cX1_letWork 69 = .ok (.aload_n 0, 1) := by decide +kernel
theorem dX1_letWork_70 : decode cX1_letWork 70 = .ok (.dup, 1) := by decide +kernel
theorem dX1_letWork_71 : decode cX1_letWork 71 = .ok (.getfield 39, 3) := by decide +kernel
theorem dX1_letWork_74 : decode cX1_letWork 74 = .ok (.iload 4, 2) := by decide +kernel
theorem dX1_letWork_76 : decode cX1_letWork 76 = .ok (.iload_n 3, 1) := by decide +kernel
theorem dX1_letWork_77 : decode cX1_letWork 77 = .ok (.imul, 1) := by decide +kernel
theorem dX1_letWork_78 : decode cX1_letWork 78 = .ok (.isub, 1) := by decide +kernel
theorem dX1_letWork_79 : decode cX1_letWork 79 = .ok (.putfield 39, 3) := by decide +kernel
theorem dX1_letWork_82 : decode cX1_letWork 82 = .ok (.aload_n 0, 1) := by decide +kernel
theorem dX1_letWork_83 : decode cX1_letWork 83 = .ok (.dup, 1) := by decide +kernel
theorem dX1_letWork_84 : decode cX1_letWork 84 = .ok (.getfield 65, 3) := by decide +kernel
theorem dX1_letWork_87 : decode cX1_letWork 87 = .ok (.iload 4, 2) := by decide +kernel
theorem dX1_letWork_89 : decode cX1_letWork 89 = .ok (.iadd, 1) := by decide +kernel
theorem dX1_letWork_90 : decode cX1_letWork 90 = .ok (.putfield 65, 3) := by decide +kernel
theorem dX1_letWork_93 : decode cX1_letWork 93 = .ok (.aload_n 0, 1) := by decide +kernel
theorem dX1_letWork_94 : decode cX1_letWork 94 = .ok (.iload_n 2, 1) := by decide +kernel
theorem dX1_letWork_95 : decode cX1_letWork 95 = .ok (.iload 4, 2) := by decide +kernel
theorem dX1_letWork_97 : decode cX1_letWork 97 = .ok (.invokevirtual 170, 3) := by decide +kernel
theorem dX1_letWork_100 : decode cX1_letWork 100 = .ok (.aload_n 0, 1) := by decide +kernel
theorem dX1_letWork_101 : decode cX1_letWork 101 = .ok (.iload_n 2, 1) := by decide +kernel
theorem dX1_letWork_102 : decode cX1_letWork 102 = .ok (.iload 4, 2) := by decide +kernel
theorem dX1_letWork_104 : decode cX1_letWork 104 = .ok (.iconst 3, 1) := by decide +kernel
theorem dX1_letWork_105 : decode cX1_letWork 105 = .ok (.iadd, 1) := by decide +kernel
theorem dX1_letWork_106 : decode cX1_letWork 106 = .ok (.iconst 4, 1) := by decide +kernel
theorem dX1_letWork_107 : decode cX1_letWork 107 = .ok (.idiv, 1) := by decide +kernel
theorem dX1_letWork_108 : decode cX1_letWork 108 = .ok (.invokevirtual 173, 3) := by decide +kernel
theorem dX1_letWork_111 : decode cX1_letWork 111 = .ok (.return_, 1) := by decide +kernel
theorem dX1_layOnBoards_0 : decode cX1_layOnBoards 0 = .ok (.aload_n 0, 1) := by decide +kernel
theorem dX1_layOnBoards_1 : decode cX1_layOnBoards 1 = .ok (.getfield 23, 3) := by decide +kernel
theorem dX1_layOnBoards_4 : decode cX1_layOnBoards 4 = .ok (.invokevirtual 81, 3) := by decide +kernel
theorem dX1_layOnBoards_7 : decode cX1_layOnBoards 7 = .ok (.istore_n 3, 1) := by decide +kernel
theorem dX1_layOnBoards_8 : decode cX1_layOnBoards 8 = .ok (.aload_n 0, 1) := by decide +kernel
theorem dX1_layOnBoards_9 : decode cX1_layOnBoards 9 = .ok (.getfield 23, 3) := by decide +kernel
theorem dX1_layOnBoards_12 : decode cX1_layOnBoards 12 = .ok (.iload_n 3, 1) := by decide +kernel
theorem dX1_layOnBoards_13 : decode cX1_layOnBoards 13 = .ok (.iconst 0, 1) := by decide +kernel
theorem dX1_layOnBoards_14 : decode cX1_layOnBoards 14 = .ok (.aload_n 0, 1) := by decide +kernel
theorem dX1_layOnBoards_15 : decode cX1_layOnBoards 15 = .ok (.getfield 14, 3) := by decide +kernel
theorem dX1_layOnBoards_18 : decode cX1_layOnBoards 18 = .ok (.iload_n 1, 1) := by decide +kernel
theorem dX1_layOnBoards_19 : decode cX1_layOnBoards 19 = .ok (.iconst 0, 1) := by decide +kernel
theorem dX1_layOnBoards_20 : decode cX1_layOnBoards 20 = .ok (.invokevirtual 96, 3) := by decide +kernel
theorem dX1_layOnBoards_23 : decode cX1_layOnBoards 23 = .ok (.invokevirtual 85, 3) := by decide +kernel
theorem dX1_layOnBoards_26 : decode cX1_layOnBoards 26 = .ok (.aload_n 0, 1) := by decide +kernel
theorem dX1_layOnBoards_27 : decode cX1_layOnBoards 27 = .ok (.getfield 23, 3) := by decide +kernel
theorem dX1_layOnBoards_30 : decode cX1_layOnBoards 30 = .ok (.iload_n 3, 1) := by decide +kernel
theorem dX1_layOnBoards_31 : decode cX1_layOnBoards 31 = .ok (.iconst 1, 1) := by decide +kernel
theorem dX1_layOnBoards_32 : decode cX1_layOnBoards 32 = .ok (.iload_n 2, 1) := by decide +kernel
theorem dX1_layOnBoards_33 : decode cX1_layOnBoards 33 = .ok (.invokevirtual 85, 3) := by decide +kernel
theorem dX1_layOnBoards_36 : decode cX1_layOnBoards 36 = .ok (.aload_n 0, 1) := by decide +kernel
theorem dX1_layOnBoards_37 : decode cX1_layOnBoards 37 = .ok (.getfield 23, 3) := by decide +kernel
theorem dX1_layOnBoards_40 : decode cX1_layOnBoards 40 = .ok (.iload_n 3, 1) := by decide +kernel
theorem dX1_layOnBoards_41 : decode cX1_layOnBoards 41 = .ok (.iconst 2, 1) := by decide +kernel
theorem dX1_layOnBoards_42 : decode cX1_layOnBoards 42 = .ok (.bipush 6, 2) := by decide +kernel
theorem dX1_layOnBoards_44 : decode cX1_layOnBoards 44 = .ok (.invokevirtual 85, 3) := by decide +kernel
theorem dX1_layOnBoards_47 : decode cX1_layOnBoards 47 = .ok (.aload_n 0, 1) := by decide +kernel
theorem dX1_layOnBoards_48 : decode cX1_layOnBoards 48 = .ok (.getfield 23, 3) := by decide +kernel
theorem dX1_layOnBoards_51 : decode cX1_layOnBoards 51 = .ok (.iload_n 3, 1) := by decide +kernel
theorem dX1_layOnBoards_52 : decode cX1_layOnBoards 52 = .ok (.iconst 3, 1) := by decide +kernel
theorem dX1_layOnBoards_53 : decode cX1_layOnBoards 53 = .ok (.aload_n 0, 1) := by decide +kernel
theorem dX1_layOnBoards_54 : decode cX1_layOnBoards 54 = .ok (.iload_n 1, 1) := by decide +kernel
theorem dX1_layOnBoards_55 : decode cX1_layOnBoards 55 = .ok (.invokevirtual 103, 3) := by decide +kernel
theorem dX1_layOnBoards_58 : decode cX1_layOnBoards 58 = .ok (.invokevirtual 85, 3) := by decide +kernel
theorem dX1_layOnBoards_61 : decode cX1_layOnBoards 61 = .ok (.return_, 1) := by decide +kernel
theorem dX1_wearMould_0 : decode cX1_wearMould 0 = .ok (.aload_n 0, 1) := by decide +kernel
theorem dX1_wearMould_1 : decode cX1_wearMould 1 = .ok (.getfield 14, 3) := by decide +kernel
theorem dX1_wearMould_4 : decode cX1_wearMould 4 = .ok (.iload_n 1, 1) := by decide +kernel
theorem dX1_wearMould_5 : decode cX1_wearMould 5 = .ok (.iconst 2, 1) := by decide +kernel
theorem dX1_wearMould_6 : decode cX1_wearMould 6 = .ok (.invokevirtual 96, 3) := by decide +kernel
theorem dX1_wearMould_9 : decode cX1_wearMould 9 = .ok (.istore_n 3, 1) := by decide +kernel
theorem dX1_wearMould_10 : decode cX1_wearMould 10 = .ok (.bipush 100, 2) := by decide +kernel
theorem dX1_wearMould_12 : decode cX1_wearMould 12 = .ok (.iload_n 3, 1) := by decide +kernel
theorem dX1_wearMould_13 : decode cX1_wearMould 13 = .ok (.iload_n 2, 1) := by decide +kernel
theorem dX1_wearMould_14 : decode cX1_wearMould 14 = .ok (.iadd, 1) := by decide +kernel
theorem dX1_wearMould_15 : decode cX1_wearMould 15 = .ok (.invokestatic 124, 3) := by decide +kernel
theorem dX1_wearMould_18 : decode cX1_wearMould 18 = .ok (.istore 4, 2) := by decide +kernel
theorem dX1_wearMould_20 : decode cX1_wearMould 20 = .ok (.aload_n 0, 1) := by decide +kernel
theorem dX1_wearMould_21 : decode cX1_wearMould 21 = .ok (.getfield 14, 3) := by decide +kernel
theorem dX1_wearMould_24 : decode cX1_wearMould 24 = .ok (.iload_n 1, 1) := by decide +kernel
theorem dX1_wearMould_25 : decode cX1_wearMould 25 = .ok (.iconst 2, 1) := by decide +kernel
theorem dX1_wearMould_26 : decode cX1_wearMould 26 = .ok (.iload 4, 2) := by decide +kernel
theorem dX1_wearMould_28 : decode cX1_wearMould 28 = .ok (.invokevirtual 85, 3) := by decide +kernel
theorem dX1_wearMould_31 : decode cX1_wearMould 31 = .ok (.iload 4, 2) := by decide +kernel
theorem dX1_wearMould_33 : decode cX1_wearMould 33 = .ok (.bipush 10, 2) := by decide +kernel
theorem dX1_wearMould_35 : decode cX1_wearMould 35 = .ok (.idiv, 1) := by decide +kernel
theorem dX1_wearMould_36 : decode cX1_wearMould 36 = .ok (.iload_n 3, 1) := by decide +kernel
theorem dX1_wearMould_37 : decode cX1_wearMould 37 = .ok (.bipush 10, 2) := by decide +kernel
theorem dX1_wearMould_39 : decode cX1_wearMould 39 = .ok (.idiv, 1) := by decide +kernel
theorem dX1_wearMould_40 : decode cX1_wearMould 40 = .ok (.if_icmp .le 27, 3) := by decide +kernel
theorem dX1_wearMould_43 : decode cX1_wearMould 43 = .ok (.aload_n 0, 1) := by decide +kernel
theorem dX1_wearMould_44 : decode cX1_wearMould 44 = .ok (.getfield 14, 3) := by decide +kernel
theorem dX1_wearMould_47 : decode cX1_wearMould 47 = .ok (.iload_n 1, 1) := by decide +kernel
theorem dX1_wearMould_48 : decode cX1_wearMould 48 = .ok (.iconst 1, 1) := by decide +kernel
theorem dX1_wearMould_49 : decode cX1_wearMould 49 = .ok (.iconst 0, 1) := by decide +kernel
theorem dX1_wearMould_50 : decode cX1_wearMould 50 = .ok (.aload_n 0, 1) := by decide +kernel
theorem dX1_wearMould_51 : decode cX1_wearMould 51 = .ok (.getfield 14, 3) := by decide +kernel
theorem dX1_wearMould_54 : decode cX1_wearMould 54 = .ok (.iload_n 1, 1) := by decide +kernel
theorem dX1_wearMould_55 : decode cX1_wearMould 55 = .ok (.iconst 1, 1) := by decide +kernel
theorem dX1_wearMould_56 : decode cX1_wearMould 56 = .ok (.invokevirtual 96, 3) := by decide +kernel
theorem dX1_wearMould_59 : decode cX1_wearMould 59 = .ok (.iconst 1, 1) := by decide +kernel
theorem dX1_wearMould_60 : decode cX1_wearMould 60 = .ok (.isub, 1) := by decide +kernel
theorem dX1_wearMould_61 : decode cX1_wearMould 61 = .ok (.invokestatic 167, 3) := by decide +kernel
theorem dX1_wearMould_64 : decode cX1_wearMould 64 = .ok (.invokevirtual 85, 3) := by decide +kernel
theorem dX1_wearMould_67 : decode cX1_wearMould 67 = .ok (.return_, 1) := by decide +kernel
theorem dX1_dry_0 : decode cX1_dry 0 = .ok (.iconst 0, 1) := by decide +kernel
theorem dX1_dry_1 : decode cX1_dry 1 = .ok (.istore_n 2, 1) := by decide +kernel
theorem dX1_dry_2 : decode cX1_dry 2 = .ok (.iload_n 2, 1) := by decide +kernel
theorem dX1_dry_3 : decode cX1_dry 3 = .ok (.aload_n 0, 1) := by decide +kernel
theorem dX1_dry_4 : decode cX1_dry 4 = .ok (.invokevirtual 89, 3) := by decide +kernel
theorem dX1_dry_7 : decode cX1_dry 7 = .ok (.if_icmp .ge 27, 3) := by decide +kernel
theorem dX1_dry_10 : decode cX1_dry 10 = .ok (.aload_n 0, 1) := by decide +kernel
theorem dX1_dry_11 : decode cX1_dry 11 = .ok (.iload_n 2, 1) := by decide +kernel
theorem dX1_dry_12 : decode cX1_dry 12 = .ok (.iconst 2, 1) := by decide +kernel
theorem dX1_dry_13 : decode cX1_dry 13 = .ok (.iconst 0, 1) := by decide +kernel
theorem dX1_dry_14 : decode cX1_dry 14 = .ok (.aload_n 0, 1) := by decide +kernel
theorem dX1_dry_15 : decode cX1_dry 15 = .ok (.iload_n 2, 1) := by decide +kernel
theorem dX1_dry_16 : decode cX1_dry 16 = .ok (.iconst 2, 1) := by decide +kernel
theorem dX1_dry_17 : decode cX1_dry 17 = .ok (.invokevirtual 96, 3) := by decide +kernel
theorem dX1_dry_20 : decode cX1_dry 20 = .ok (.iload_n 1, 1) := by decide +kernel
theorem dX1_dry_21 : decode cX1_dry 21 = .ok (.isub, 1) := by decide +kernel
theorem dX1_dry_22 : decode cX1_dry 22 = .ok (.invokestatic 167, 3) := by decide +kernel
theorem dX1_dry_25 : decode cX1_dry 25 = .ok (.invokevirtual 85, 3) := by decide +kernel
theorem dX1_dry_28 : decode cX1_dry 28 = .ok (.iinc 2 1, 3) := by decide +kernel
theorem dX1_dry_31 : decode cX1_dry 31 = .ok (.goto (-29), 3) := by decide +kernel
theorem dX1_dry_34 : decode cX1_dry 34 = .ok (.return_, 1) := by decide +kernel
theorem dX1_lookAtOrders_0 : decode cX1_lookAtOrders 0 = .ok (.aload_n 0, 1) := by decide +kernel
theorem dX1_lookAtOrders_1 : decode cX1_lookAtOrders 1 = .ok (.getfield 29, 3) := by decide +kernel
theorem dX1_lookAtOrders_4 : decode cX1_lookAtOrders 4 = .ok (.invokevirtual 89, 3) := by decide +kernel
theorem dX1_lookAtOrders_7 : decode cX1_lookAtOrders 7 = .ok (.istore_n 1, 1) := by decide +kernel
theorem dX1_lookAtOrders_8 : decode cX1_lookAtOrders 8 = .ok (.iconst 0, 1) := by decide +kernel
theorem dX1_lookAtOrders_9 : decode cX1_lookAtOrders 9 = .ok (.istore_n 2, 1) := by decide +kernel
theorem dX1_lookAtOrders_10 : decode cX1_lookAtOrders 10 = .ok (.iconst 0, 1) := by decide +kernel
theorem dX1_lookAtOrders_11 : decode cX1_lookAtOrders 11 = .ok (.istore_n 3, 1) := by decide +kernel
theorem dX1_lookAtOrders_12 : decode cX1_lookAtOrders 12 = .ok (.iload_n 3, 1) := by decide +kernel
theorem dX1_lookAtOrders_13 : decode cX1_lookAtOrders 13 = .ok (.iload_n 1, 1) := by decide +kernel
theorem dX1_lookAtOrders_14 : decode cX1_lookAtOrders 14 = .ok (.if_icmp .ge 20, 3) := by decide +kernel
theorem dX1_lookAtOrders_17 : decode cX1_lookAtOrders 17 = .ok (.aload_n 0, 1) := by decide +kernel
theorem dX1_lookAtOrders_18 : decode cX1_lookAtOrders 18 = .ok (.iload_n 2, 1) := by decide +kernel
theorem dX1_lookAtOrders_19 : decode cX1_lookAtOrders 19 = .ok (.invokevirtual 176, 3) := by decide +kernel
theorem dX1_lookAtOrders_22 : decode cX1_lookAtOrders 22 = .ok (.ifCond .eq 6, 3) := by decide +kernel
theorem dX1_lookAtOrders_25 : decode cX1_lookAtOrders 25 = .ok (.iinc 2 1, 3) := by decide +kernel
theorem dX1_lookAtOrders_28 : decode cX1_lookAtOrders 28 = .ok (.iinc 3 1, 3) := by decide +kernel
theorem dX1_lookAtOrders_31 : decode cX1_lookAtOrders 31 = .ok (.goto (-19), 3) := by decide +kernel
theorem dX1_lookAtOrders_34 : decode cX1_lookAtOrders 34 = .ok (.return_, 1) := by decide +kernel
theorem dX1_lookAtOrder_0 : decode cX1_lookAtOrder 0 = .ok (.aload_n 0, 1) := by decide +kernel
theorem dX1_lookAtOrder_1 : decode cX1_lookAtOrder 1 = .ok (.getfield 29, 3) := by decide +kernel
theorem dX1_lookAtOrder_4 : decode cX1_lookAtOrder 4 = .ok (.iload_n 1, 1) := by decide +kernel
theorem dX1_lookAtOrder_5 : decode cX1_lookAtOrder 5 = .ok (.iconst 0, 1) := by decide +kernel
theorem dX1_lookAtOrder_6 : decode cX1_lookAtOrder 6 = .ok (.invokevirtual 96, 3) := by decide +kernel
theorem dX1_lookAtOrder_9 : decode cX1_lookAtOrder 9 = .ok (.istore_n 2, 1) := by decide +kernel
theorem dX1_lookAtOrder_10 : decode cX1_lookAtOrder 10 = .ok (.aload_n 0, 1) := by decide +kernel
theorem dX1_lookAtOrder_11 : decode cX1_lookAtOrder 11 = .ok (.getfield 29, 3) := by decide +kernel
theorem dX1_lookAtOrder_14 : decode cX1_lookAtOrder 14 = .ok (.iload_n 1, 1) := by decide +kernel
theorem dX1_lookAtOrder_15 : decode cX1_lookAtOrder 15 = .ok (.iconst 1, 1) := by decide +kernel
theorem dX1_lookAtOrder_16 : decode cX1_lookAtOrder 16 = .ok (.invokevirtual 96, 3) := by decide +kernel
theorem dX1_lookAtOrder_19 : decode cX1_lookAtOrder 19 = .ok (.istore_n 3, 1) := by decide +kernel
theorem dX1_lookAtOrder_20 : decode cX1_lookAtOrder 20 = .ok (.aload_n 0, 1) := by decide +kernel
theorem dX1_lookAtOrder_21 : decode cX1_lookAtOrder 21 = .ok (.getfield 29, 3) := by decide +kernel
theorem dX1_lookAtOrder_24 : decode cX1_lookAtOrder 24 = .ok (.iload_n 1, 1) := by decide +kernel
theorem dX1_lookAtOrder_25 : decode cX1_lookAtOrder 25 = .ok (.iconst 2, 1) := by decide +kernel
theorem dX1_lookAtOrder_26 : decode cX1_lookAtOrder 26 = .ok (.invokevirtual 96, 3) := by decide +kernel
theorem dX1_lookAtOrder_29 : decode cX1_lookAtOrder 29 = .ok (.iconst 1, 1) := by decide +kernel
theorem dX1_lookAtOrder_30 : decode cX1_lookAtOrder 30 = .ok (.isub, 1) := by decide +kernel
theorem dX1_lookAtOrder_31 : decode cX1_lookAtOrder 31 = .ok (.istore 4, 2) := by decide +kernel
theorem dX1_lookAtOrder_33 : decode cX1_lookAtOrder 33 = .ok (.aload_n 0, 1) := by decide +kernel
theorem dX1_lookAtOrder_34 : decode cX1_lookAtOrder 34 = .ok (.iload_n 2, 1) := by decide +kernel
theorem dX1_lookAtOrder_35 : decode cX1_lookAtOrder 35 = .ok (.invokevirtual 92, 3) := by decide +kernel
theorem dX1_lookAtOrder_38 : decode cX1_lookAtOrder 38 = .ok (.iload_n 3, 1) := by decide +kernel
theorem dX1_lookAtOrder_39 : decode cX1_lookAtOrder 39 = .ok (.if_icmp .lt 46, 3) := by decide +kernel
theorem dX1_lookAtOrder_42 : decode cX1_lookAtOrder 42 = .ok (.aload_n 0, 1) := by decide +kernel
theorem dX1_lookAtOrder_43 : decode cX1_lookAtOrder 43 = .ok (.iload_n 2, 1) := by decide +kernel
theorem dX1_lookAtOrder_44 : decode cX1_lookAtOrder 44 = .ok (.iload_n 3, 1) := by decide +kernel
theorem dX1_lookAtOrder_45 : decode cX1_lookAtOrder 45 = .ok (.ineg, 1) := by decide +kernel
theorem dX1_lookAtOrder_46 : decode cX1_lookAtOrder 46 = .ok (.invokevirtual 136, 3) := by decide +kernel
theorem dX1_lookAtOrder_49 : decode cX1_lookAtOrder 49 = .ok (.aload_n 0, 1) := by decide +kernel
theorem dX1_lookAtOrder_50 : decode cX1_lookAtOrder 50 = .ok (.dup, 1) := by decide +kernel
theorem dX1_lookAtOrder_51 : decode cX1_lookAtOrder 51 = .ok (.getfield 46, 3) := by decide +kernel
theorem dX1_lookAtOrder_54 : decode cX1_lookAtOrder 54 = .ok (.aload_n 0, 1) := by decide +kernel
theorem dX1_lookAtOrder_55 : decode cX1_lookAtOrder 55 = .ok (.getfield 29, 3) := by decide +kernel
theorem dX1_lookAtOrder_58 : decode cX1_lookAtOrder 58 = .ok (.iload_n 1, 1) := by decide +kernel
theorem dX1_lookAtOrder_59 : decode cX1_lookAtOrder 59 = .ok (.iconst 3, 1) := by decide +kernel
theorem dX1_lookAtOrder_60 : decode cX1_lookAtOrder 60 = .ok (.invokevirtual 96, 3) := by decide +kernel
theorem dX1_lookAtOrder_63 : decode cX1_lookAtOrder 63 = .ok (.iadd, 1) := by decide +kernel
theorem dX1_lookAtOrder_64 : decode cX1_lookAtOrder 64 = .ok (.putfield 46, 3) := by decide +kernel
theorem dX1_lookAtOrder_67 : decode cX1_lookAtOrder 67 = .ok (.aload_n 0, 1) := by decide +kernel
theorem dX1_lookAtOrder_68 : decode cX1_lookAtOrder 68 = .ok (.dup, 1) := by decide +kernel
theorem dX1_lookAtOrder_69 : decode cX1_lookAtOrder 69 = .ok (.getfield 71, 3) := by decide +kernel
theorem dX1_lookAtOrder_72 : decode cX1_lookAtOrder 72 = .ok (.iconst 1, 1) := by decide +kernel
theorem dX1_lookAtOrder_73 : decode cX1_lookAtOrder 73 = .ok (.iadd, 1) := by decide +kernel
theorem dX1_lookAtOrder_74 : decode cX1_lookAtOrder 74 = .ok (.putfield 71, 3) := by decide +kernel
theorem dX1_lookAtOrder_77 : decode cX1_lookAtOrder 77 = .ok (.aload_n 0, 1) := by decide +kernel
theorem dX1_lookAtOrder_78 : decode cX1_lookAtOrder 78 = .ok (.iload_n 1, 1) := by decide +kernel
theorem dX1_lookAtOrder_79 : decode cX1_lookAtOrder 79 = .ok (.iconst 1, 1) := by decide +kernel
theorem dX1_lookAtOrder_80 : decode cX1_lookAtOrder 80 = .ok (.invokevirtual 179, 3) := by decide +kernel
theorem dX1_lookAtOrder_83 : decode cX1_lookAtOrder 83 = .ok (.iconst 0, 1) := by decide +kernel
theorem dX1_lookAtOrder_84 : decode cX1_lookAtOrder 84 = .ok (.ireturn, 1) := by decide +kernel
theorem dX1_lookAtOrder_85 : decode cX1_lookAtOrder 85 = .ok (.iload 4, 2) := by decide +kernel
theorem dX1_lookAtOrder_87 : decode cX1_lookAtOrder 87 = .ok (.ifCond .ge 21, 3) := by decide +kernel
theorem dX1_lookAtOrder_90 : decode cX1_lookAtOrder 90 = .ok (.aload_n 0, 1) := by decide +kernel
theorem dX1_lookAtOrder_91 : decode cX1_lookAtOrder 91 = .ok (.dup, 1) := by decide +kernel
theorem dX1_lookAtOrder_92 : decode cX1_lookAtOrder 92 = .ok (.getfield 74, 3) := by decide +kernel
theorem dX1_lookAtOrder_95 : decode cX1_lookAtOrder 95 = .ok (.iconst 1, 1) := by decide +kernel
theorem dX1_lookAtOrder_96 : decode cX1_lookAtOrder 96 = .ok (.iadd, 1) := by decide +kernel
theorem dX1_lookAtOrder_97 : decode cX1_lookAtOrder 97 = .ok (.putfield 74, 3) := by decide +kernel
theorem dX1_lookAtOrder_100 : decode cX1_lookAtOrder 100 = .ok (.aload_n 0, 1) := by decide +kernel
theorem dX1_lookAtOrder_101 : decode cX1_lookAtOrder 101 = .ok (.iload_n 1, 1) := by decide +kernel
theorem dX1_lookAtOrder_102 : decode cX1_lookAtOrder 102 = .ok (.iconst 0, 1) := by decide +kernel
theorem dX1_lookAtOrder_103 : decode cX1_lookAtOrder 103 = .ok (.invokevirtual 179, 3) := by decide +kernel
theorem dX1_lookAtOrder_106 : decode cX1_lookAtOrder 106 = .ok (.iconst 0, 1) := by decide +kernel
theorem dX1_lookAtOrder_107 : decode cX1_lookAtOrder 107 = .ok (.ireturn, 1) := by decide +kernel
theorem dX1_lookAtOrder_108 : decode cX1_lookAtOrder 108 = .ok (.aload_n 0, 1) := by decide +kernel
theorem dX1_lookAtOrder_109 : decode cX1_lookAtOrder 109 = .ok (.getfield 29, 3) := by decide +kernel
theorem dX1_lookAtOrder_112 : decode cX1_lookAtOrder 112 = .ok (.iload_n 1, 1) := by decide +kernel
theorem dX1_lookAtOrder_113 : decode cX1_lookAtOrder 113 = .ok (.iconst 2, 1) := by decide +kernel
theorem dX1_lookAtOrder_114 : decode cX1_lookAtOrder 114 = .ok (.iload 4, 2) := by decide +kernel
theorem dX1_lookAtOrder_116 : decode cX1_lookAtOrder 116 = .ok (.invokevirtual 85, 3) := by decide +kernel
theorem dX1_lookAtOrder_119 : decode cX1_lookAtOrder 119 = .ok (.iconst 1, 1) := by decide +kernel
theorem dX1_lookAtOrder_120 : decode cX1_lookAtOrder 120 = .ok (.ireturn, 1) := by decide +kernel
theorem dX1_dismiss_0 : decode cX1_dismiss 0 = .ok (.aload_n 0, 1) := by decide +kernel
theorem dX1_dismiss_1 : decode cX1_dismiss 1 = .ok (.getfield 29, 3) := by decide +kernel
theorem dX1_dismiss_4 : decode cX1_dismiss 4 = .ok (.iload_n 1, 1) := by decide +kernel
theorem dX1_dismiss_5 : decode cX1_dismiss 5 = .ok (.invokevirtual 115, 3) := by decide +kernel
theorem dX1_dismiss_8 : decode cX1_dismiss 8 = .ok (.iload_n 1, 1) := by decide +kernel
theorem dX1_dismiss_9 : decode cX1_dismiss 9 = .ok (.aload_n 0, 1) := by decide +kernel
theorem dX1_dismiss_10 : decode cX1_dismiss 10 = .ok (.getfield 49, 3) := by decide +kernel
theorem dX1_dismiss_13 : decode cX1_dismiss 13 = .ok (.if_icmp .ne 16, 3) := by decide +kernel
theorem dX1_dismiss_16 : decode cX1_dismiss 16 = .ok (.aload_n 0, 1) := by decide +kernel
theorem dX1_dismiss_17 : decode cX1_dismiss 17 = .ok (.iconst (-1), 1) := by decide +kernel
theorem dX1_dismiss_18 : decode cX1_dismiss 18 = .ok (.putfield 49, 3) := by decide +kernel
theorem dX1_dismiss_21 : decode cX1_dismiss 21 = .ok (.aload_n 0, 1) := by decide +kernel
theorem dX1_dismiss_22 : decode cX1_dismiss 22 = .ok (.iload_n 2, 1) := by decide +kernel
theorem dX1_dismiss_23 : decode cX1_dismiss 23 = .ok (.putfield 77, 3) := by decide +kernel
theorem dX1_dismiss_26 : decode cX1_dismiss 26 = .ok (.goto 21, 3) := by decide +kernel
theorem dX1_dismiss_29 : decode cX1_dismiss 29 = .ok (.iload_n 1, 1) := by decide +kernel
theorem dX1_dismiss_30 : decode cX1_dismiss 30 = .ok (.aload_n 0, 1) := by decide +kernel
theorem dX1_dismiss_31 : decode cX1_dismiss 31 = .ok (.getfield 49, 3) := by decide +kernel
theorem dX1_dismiss_34 : decode cX1_dismiss 34 = .ok (.if_icmp .ge 13, 3) := by decide +kernel
theorem dX1_dismiss_37 : decode cX1_dismiss 37 = .ok (.aload_n 0, 1) := by decide +kernel
theorem dX1_dismiss_38 : decode cX1_dismiss 38 = .ok (.dup, 1) := by decide +kernel
theorem dX1_dismiss_39 : decode cX1_dismiss 39 = .ok (.getfield 49, 3) := by decide +kernel
theorem dX1_dismiss_42 : decode cX1_dismiss 42 = .ok (.iconst 1, 1) := by decide +kernel
theorem dX1_dismiss_43 : decode cX1_dismiss 43 = .ok (.isub, 1) := by decide +kernel
theorem dX1_dismiss_44 : decode cX1_dismiss 44 = .ok (.putfield 49, 3) := by decide +kernel
theorem dX1_dismiss_47 : decode cX1_dismiss 47 = .ok (.return_, 1) := by decide +kernel
theorem dX1_daysTillServed_0 : decode cX1_daysTillServed 0 = .ok (.aload_n 0, 1) := by decide +kernel
theorem dX1_daysTillServed_1 : decode cX1_daysTillServed 1 = .ok (.iload_n 1, 1) := by decide +kernel
theorem dX1_daysTillServed_2 : decode cX1_daysTillServed 2 = .ok (.putfield 49, 3) := by decide +kernel
theorem dX1_daysTillServed_5 : decode cX1_daysTillServed 5 = .ok (.iconst 0, 1) := by decide +kernel
theorem dX1_daysTillServed_6 : decode cX1_daysTillServed 6 = .ok (.istore_n 2, 1) := by decide +kernel
theorem dX1_daysTillServed_7 : decode cX1_daysTillServed 7 = .ok (.aload_n 0, 1) := by decide +kernel
theorem dX1_daysTillServed_8 : decode cX1_daysTillServed 8 = .ok (.getfield 49, 3) := by decide +kernel
theorem dX1_daysTillServed_11 : decode cX1_daysTillServed 11 = .ok (.iconst (-1), 1) := by decide +kernel
theorem dX1_daysTillServed_12 : decode cX1_daysTillServed 12 = .ok (.if_icmp .eq 19, 3) := by decide +kernel
theorem dX1_daysTillServed_15 : decode cX1_daysTillServed 15 = .ok (.iload_n 2, 1) := by decide +kernel
theorem dX1_daysTillServed_16 : decode cX1_daysTillServed 16 = .ok (.bipush 30, 2) := by decide +kernel
theorem dX1_daysTillServed_18 : decode cX1_daysTillServed 18 = .ok (.if_icmp .gt 13, 3) := by decide +kernel
theorem dX1_daysTillServed_21 : decode cX1_daysTillServed 21 = .ok (.aload_n 0, 1) := by decide +kernel
theorem dX1_daysTillServed_22 : decode cX1_daysTillServed 22 = .ok (.invokevirtual 140, 3) := by decide +kernel
theorem dX1_daysTillServed_25 : decode cX1_daysTillServed 25 = .ok (.iinc 2 1, 3) := by decide +kernel
theorem dX1_daysTillServed_28 : decode cX1_daysTillServed 28 = .ok (.goto (-21), 3) := by decide +kernel
theorem dX1_daysTillServed_31 : decode cX1_daysTillServed 31 = .ok (.aload_n 0, 1) := by decide +kernel
theorem dX1_daysTillServed_32 : decode cX1_daysTillServed 32 = .ok (.getfield 77, 3) := by decide +kernel
theorem dX1_daysTillServed_35 : decode cX1_daysTillServed 35 = .ok (.ifCond .eq 7, 3) := by decide +kernel
theorem dX1_daysTillServed_38 : decode cX1_daysTillServed 38 = .ok (.iload_n 2, 1) := by decide +kernel
theorem dX1_daysTillServed_39 : decode cX1_daysTillServed 39 = .ok (.goto 4, 3) := by decide +kernel
theorem dX1_daysTillServed_42 : decode cX1_daysTillServed 42 = .ok (.iconst (-1), 1) := by decide +kernel
theorem dX1_daysTillServed_43 : decode cX1_daysTillServed 43 = .ok (.ireturn, 1) := by decide +kernel
theorem dX1_meanFlaw_0 : decode cX1_meanFlaw 0 = .ok (.aload_n 0, 1) := by decide +kernel
theorem dX1_meanFlaw_1 : decode cX1_meanFlaw 1 = .ok (.getfield 23, 3) := by decide +kernel
theorem dX1_meanFlaw_4 : decode cX1_meanFlaw 4 = .ok (.iconst 1, 1) := by decide +kernel
theorem dX1_meanFlaw_5 : decode cX1_meanFlaw 5 = .ok (.invokevirtual 109, 3) := by decide +kernel
theorem dX1_meanFlaw_8 : decode cX1_meanFlaw 8 = .ok (.istore_n 1, 1) := by decide +kernel
theorem dX1_meanFlaw_9 : decode cX1_meanFlaw 9 = .ok (.iload_n 1, 1) := by decide +kernel
theorem dX1_meanFlaw_10 : decode cX1_meanFlaw 10 = .ok (.ifCond .ne 5, 3) := by decide +kernel
theorem dX1_meanFlaw_13 : decode cX1_meanFlaw 13 = .ok (.dconst 0, 1) := by decide +kernel
theorem dX1_meanFlaw_14 : decode cX1_meanFlaw 14 = .ok (.dreturn, 1) := by decide +kernel
theorem dX1_meanFlaw_15 : decode cX1_meanFlaw 15 = .ok (.iconst 0, 1) := by decide +kernel
theorem dX1_meanFlaw_16 : decode cX1_meanFlaw 16 = .ok (.istore_n 2, 1) := by decide +kernel
theorem dX1_meanFlaw_17 : decode cX1_meanFlaw 17 = .ok (.iconst 0, 1) := by decide +kernel
theorem dX1_meanFlaw_18 : decode cX1_meanFlaw 18 = .ok (.istore_n 3, 1) := by decide +kernel
theorem dX1_meanFlaw_19 : decode cX1_meanFlaw 19 = .ok (.iload_n 3, 1) := by decide +kernel
theorem dX1_meanFlaw_20 : decode cX1_meanFlaw 20 = .ok (.aload_n 0, 1) := by decide +kernel
theorem dX1_meanFlaw_21 : decode cX1_meanFlaw 21 = .ok (.getfield 23, 3) := by decide +kernel
theorem dX1_meanFlaw_24 : decode cX1_meanFlaw 24 = .ok (.invokevirtual 89, 3) := by decide +kernel
theorem dX1_meanFlaw_27 : decode cX1_meanFlaw 27 = .ok (.if_icmp .ge 31, 3) := by decide +kernel
theorem dX1_meanFlaw_30 : decode cX1_meanFlaw 30 = .ok (.iload_n 2, 1) := by decide +kernel
theorem dX1_meanFlaw_31 : decode cX1_meanFlaw 31 = .ok (.aload_n 0, 1) := by decide +kernel
theorem dX1_meanFlaw_32 : decode cX1_meanFlaw 32 = .ok (.getfield 23, 3) := by decide +kernel
theorem dX1_meanFlaw_35 : decode cX1_meanFlaw 35 = .ok (.iload_n 3, 1) := by decide +kernel
theorem dX1_meanFlaw_36 : decode cX1_meanFlaw 36 = .ok (.iconst 1, 1) := by decide +kernel
theorem dX1_meanFlaw_37 : decode cX1_meanFlaw 37 = .ok (.invokevirtual 96, 3) := by decide +kernel
theorem dX1_meanFlaw_40 : decode cX1_meanFlaw 40 = .ok (.aload_n 0, 1) := by decide +kernel
theorem dX1_meanFlaw_41 : decode cX1_meanFlaw 41 = .ok (.getfield 23, 3) := by decide +kernel
theorem dX1_meanFlaw_44 : decode cX1_meanFlaw 44 = .ok (.iload_n 3, 1) := by decide +kernel
theorem dX1_meanFlaw_45 : decode cX1_meanFlaw 45 = .ok (.iconst 3, 1) := by decide +kernel
theorem dX1_meanFlaw_46 : decode cX1_meanFlaw 46 = .ok (.invokevirtual 96, 3) := by decide +kernel
theorem dX1_meanFlaw_49 : decode cX1_meanFlaw 49 = .ok (.imul, 1) := by decide +kernel
theorem dX1_meanFlaw_50 : decode cX1_meanFlaw 50 = .ok (.iadd, 1) := by decide +kernel
theorem dX1_meanFlaw_51 : decode cX1_meanFlaw 51 = .ok (.istore_n 2, 1) := by decide +kernel
theorem dX1_meanFlaw_52 : decode cX1_meanFlaw 52 = .ok (.iinc 3 1, 3) := by decide +kernel
theorem dX1_meanFlaw_55 : decode cX1_meanFlaw 55 = .ok (.goto (-36), 3) := by decide +kernel
theorem dX1_meanFlaw_58 : decode cX1_meanFlaw 58 = .ok (.iload_n 2, 1) := by decide +kernel
theorem dX1_meanFlaw_59 : decode cX1_meanFlaw 59 = .ok (.i2d, 1) := by decide +kernel
theorem dX1_meanFlaw_60 : decode cX1_meanFlaw 60 = .ok (.iload_n 1, 1) := by decide +kernel
theorem dX1_meanFlaw_61 : decode cX1_meanFlaw 61 = .ok (.i2d, 1) := by decide +kernel
theorem dX1_meanFlaw_62 : decode cX1_meanFlaw 62 = .ok (.ddiv, 1) := by decide +kernel
theorem dX1_meanFlaw_63 : decode cX1_meanFlaw 63 = .ok (.dreturn, 1) := by decide +kernel
theorem dX1_checksum_0 : decode cX1_checksum 0 = .ok (.ldc2_w 183, 3) := by decide +kernel
theorem dX1_checksum_3 : decode cX1_checksum 3 = .ok (.lstore_n 1, 1) := by decide +kernel
theorem dX1_checksum_4 : decode cX1_checksum 4 = .ok (.iconst 0, 1) := by decide +kernel
theorem dX1_checksum_5 : decode cX1_checksum 5 = .ok (.istore_n 3, 1) := by decide +kernel
theorem dX1_checksum_6 : decode cX1_checksum 6 = .ok (.iload_n 3, 1) := by decide +kernel
theorem dX1_checksum_7 : decode cX1_checksum 7 = .ok (.bipush 11, 2) := by decide +kernel
theorem dX1_checksum_9 : decode cX1_checksum 9 = .ok (.if_icmp .gt 22, 3) := by decide +kernel
theorem dX1_checksum_12 : decode cX1_checksum 12 = .ok (.lload_n 1, 1) := by decide +kernel
theorem dX1_checksum_13 : decode cX1_checksum 13 = .ok (.ldc2_w 185, 3) := by decide +kernel
theorem dX1_checksum_16 : decode cX1_checksum 16 = .ok (.lmul, 1) := by decide +kernel
theorem dX1_checksum_17 : decode cX1_checksum 17 = .ok (.aload_n 0, 1) := by decide +kernel
theorem dX1_checksum_18 : decode cX1_checksum 18 = .ok (.iload_n 3, 1) := by decide +kernel
theorem dX1_checksum_19 : decode cX1_checksum 19 = .ok (.invokevirtual 187, 3) := by decide +kernel
theorem dX1_checksum_22 : decode cX1_checksum 22 = .ok (.i2l, 1) := by decide +kernel
theorem dX1_checksum_23 : decode cX1_checksum 23 = .ok (.ladd, 1) := by decide +kernel
theorem dX1_checksum_24 : decode cX1_checksum 24 = .ok (.lstore_n 1, 1) := by decide +kernel
theorem dX1_checksum_25 : decode cX1_checksum 25 = .ok (.iinc 3 1, 3) := by decide +kernel
theorem dX1_checksum_28 : decode cX1_checksum 28 = .ok (.goto (-22), 3) := by decide +kernel
theorem dX1_checksum_31 : decode cX1_checksum 31 = .ok (.iconst 0, 1) := by decide +kernel
theorem dX1_checksum_32 : decode cX1_checksum 32 = .ok (.istore_n 3, 1) := by decide +kernel
theorem dX1_checksum_33 : decode cX1_checksum 33 = .ok (.iload_n 3, 1) := by decide +kernel
theorem dX1_checksum_34 : decode cX1_checksum 34 = .ok (.bipush 7, 2) := by decide +kernel
theorem dX1_checksum_36 : decode cX1_checksum 36 = .ok (.if_icmp .ge 22, 3) := by decide +kernel
theorem dX1_checksum_39 : decode cX1_checksum 39 = .ok (.lload_n 1, 1) := by decide +kernel
theorem dX1_checksum_40 : decode cX1_checksum 40 = .ok (.ldc2_w 185, 3) := by decide +kernel
theorem dX1_checksum_43 : decode cX1_checksum 43 = .ok (.lmul, 1) := by decide +kernel
theorem dX1_checksum_44 : decode cX1_checksum 44 = .ok (.aload_n 0, 1) := by decide +kernel
theorem dX1_checksum_45 : decode cX1_checksum 45 = .ok (.iload_n 3, 1) := by decide +kernel
theorem dX1_checksum_46 : decode cX1_checksum 46 = .ok (.invokevirtual 149, 3) := by decide +kernel
theorem dX1_checksum_49 : decode cX1_checksum 49 = .ok (.i2l, 1) := by decide +kernel
theorem dX1_checksum_50 : decode cX1_checksum 50 = .ok (.ladd, 1) := by decide +kernel
theorem dX1_checksum_51 : decode cX1_checksum 51 = .ok (.lstore_n 1, 1) := by decide +kernel
theorem dX1_checksum_52 : decode cX1_checksum 52 = .ok (.iinc 3 1, 3) := by decide +kernel
theorem dX1_checksum_55 : decode cX1_checksum 55 = .ok (.goto (-22), 3) := by decide +kernel
theorem dX1_checksum_58 : decode cX1_checksum 58 = .ok (.aload_n 0, 1) := by decide +kernel
theorem dX1_checksum_59 : decode cX1_checksum 59 = .ok (.lload_n 1, 1) := by decide +kernel
theorem dX1_checksum_60 : decode cX1_checksum 60 = .ok (.invokevirtual 190, 3) := by decide +kernel
theorem dX1_checksum_63 : decode cX1_checksum 63 = .ok (.lstore_n 1, 1) := by decide +kernel
theorem dX1_checksum_64 : decode cX1_checksum 64 = .ok (.lload_n 1, 1) := by decide +kernel
theorem dX1_checksum_65 : decode cX1_checksum 65 = .ok (.aload_n 0, 1) := by decide +kernel
theorem dX1_checksum_66 : decode cX1_checksum 66 = .ok (.getfield 20, 3) := by decide +kernel
theorem dX1_checksum_69 : decode cX1_checksum 69 = .ok (.invokestatic 194, 3) := by decide +kernel
theorem dX1_checksum_72 : decode cX1_checksum 72 = .ok (.lstore_n 1, 1) := by decide +kernel
theorem dX1_checksum_73 : decode cX1_checksum 73 = .ok (.lload_n 1, 1) := by decide +kernel
theorem dX1_checksum_74 : decode cX1_checksum 74 = .ok (.aload_n 0, 1) := by decide +kernel
theorem dX1_checksum_75 : decode cX1_checksum 75 = .ok (.getfield 23, 3) := by decide +kernel
theorem dX1_checksum_78 : decode cX1_checksum 78 = .ok (.invokestatic 194, 3) := by decide +kernel
theorem dX1_checksum_81 : decode cX1_checksum 81 = .ok (.lstore_n 1, 1) := by decide +kernel
theorem dX1_checksum_82 : decode cX1_checksum 82 = .ok (.lload_n 1, 1) := by decide +kernel
theorem dX1_checksum_83 : decode cX1_checksum 83 = .ok (.aload_n 0, 1) := by decide +kernel
theorem dX1_checksum_84 : decode cX1_checksum 84 = .ok (.getfield 26, 3) := by decide +kernel
theorem dX1_checksum_87 : decode cX1_checksum 87 = .ok (.invokestatic 194, 3) := by decide +kernel
theorem dX1_checksum_90 : decode cX1_checksum 90 = .ok (.lstore_n 1, 1) := by decide +kernel
theorem dX1_checksum_91 : decode cX1_checksum 91 = .ok (.iconst 4, 1) := by decide +kernel
theorem dX1_checksum_92 : decode cX1_checksum 92 = .ok (.istore_n 3, 1) := by decide +kernel
theorem dX1_checksum_93 : decode cX1_checksum 93 = .ok (.iload_n 3, 1) := by decide +kernel
theorem dX1_checksum_94 : decode cX1_checksum 94 = .ok (.bipush 24, 2) := by decide +kernel
theorem dX1_checksum_96 : decode cX1_checksum 96 = .ok (.if_icmp .gt 22, 3) := by decide +kernel
theorem dX1_checksum_99 : decode cX1_checksum 99 = .ok (.lload_n 1, 1) := by decide +kernel
theorem dX1_checksum_100 : decode cX1_checksum 100 = .ok (.ldc2_w 185, 3) := by decide +kernel
theorem dX1_checksum_103 : decode cX1_checksum 103 = .ok (.lmul, 1) := by decide +kernel
theorem dX1_checksum_104 : decode cX1_checksum 104 = .ok (.aload_n 0, 1) := by decide +kernel
theorem dX1_checksum_105 : decode cX1_checksum 105 = .ok (.iload_n 3, 1) := by decide +kernel
theorem dX1_checksum_106 : decode cX1_checksum 106 = .ok (.invokevirtual 92, 3) := by decide +kernel
theorem dX1_checksum_109 : decode cX1_checksum 109 = .ok (.i2l, 1) := by decide +kernel
theorem dX1_checksum_110 : decode cX1_checksum 110 = .ok (.ladd, 1) := by decide +kernel
theorem dX1_checksum_111 : decode cX1_checksum 111 = .ok (.lstore_n 1, 1) := by decide +kernel
theorem dX1_checksum_112 : decode cX1_checksum 112 = .ok (.iinc 3 1, 3) := by decide +kernel
theorem dX1_checksum_115 : decode cX1_checksum 115 = .ok (.goto (-22), 3) := by decide +kernel
theorem dX1_checksum_118 : decode cX1_checksum 118 = .ok (.lload_n 1, 1) := by decide +kernel
theorem dX1_checksum_119 : decode cX1_checksum 119 = .ok (.aload_n 0, 1) := by decide +kernel
theorem dX1_checksum_120 : decode cX1_checksum 120 = .ok (.getfield 29, 3) := by decide +kernel
theorem dX1_checksum_123 : decode cX1_checksum 123 = .ok (.invokestatic 194, 3) := by decide +kernel
theorem dX1_checksum_126 : decode cX1_checksum 126 = .ok (.lreturn, 1) := by decide +kernel
theorem dX1_withMoulds_0 : decode cX1_withMoulds 0 = .ok (.lload_n 1, 1) := by decide +kernel
theorem dX1_withMoulds_1 : decode cX1_withMoulds 1 = .ok (.lstore_n 3, 1) := by decide +kernel
theorem dX1_withMoulds_2 : decode cX1_withMoulds 2 = .ok (.iconst 0, 1) := by decide +kernel
theorem dX1_withMoulds_3 : decode cX1_withMoulds 3 = .ok (.istore 5, 2) := by decide +kernel
theorem dX1_withMoulds_5 : decode cX1_withMoulds 5 = .ok (.iload 5, 2) := by decide +kernel
theorem dX1_withMoulds_7 : decode cX1_withMoulds 7 = .ok (.aload_n 0, 1) := by decide +kernel
theorem dX1_withMoulds_8 : decode cX1_withMoulds 8 = .ok (.getfield 14, 3) := by decide +kernel
theorem dX1_withMoulds_11 : decode cX1_withMoulds 11 = .ok (.invokevirtual 89, 3) := by decide +kernel
theorem dX1_withMoulds_14 : decode cX1_withMoulds 14 = .ok (.if_icmp .ge 40, 3) := by decide +kernel
theorem dX1_withMoulds_17 : decode cX1_withMoulds 17 = .ok (.iconst 0, 1) := by decide +kernel
theorem dX1_withMoulds_18 : decode cX1_withMoulds 18 = .ok (.istore 6, 2) := by decide +kernel
theorem dX1_withMoulds_20 : decode cX1_withMoulds 20 = .ok (.iload 6, 2) := by decide +kernel
theorem dX1_withMoulds_22 : decode cX1_withMoulds 22 = .ok (.iconst 5, 1) := by decide +kernel
theorem dX1_withMoulds_23 : decode cX1_withMoulds 23 = .ok (.if_icmp .gt 25, 3) := by decide +kernel
theorem dX1_withMoulds_26 : decode cX1_withMoulds 26 = .ok (.lload_n 3, 1) := by decide +kernel
theorem dX1_withMoulds_27 : decode cX1_withMoulds 27 = .ok (.ldc2_w 185, 3) := by decide +kernel
theorem dX1_withMoulds_30 : decode cX1_withMoulds 30 = .ok (.lmul, 1) := by decide +kernel
theorem dX1_withMoulds_31 : decode cX1_withMoulds 31 = .ok (.aload_n 0, 1) := by decide +kernel
theorem dX1_withMoulds_32 : decode cX1_withMoulds 32 = .ok (.iload 5, 2) := by decide +kernel
theorem dX1_withMoulds_34 : decode cX1_withMoulds 34 = .ok (.iload 6, 2) := by decide +kernel
theorem dX1_withMoulds_36 : decode cX1_withMoulds 36 = .ok (.invokevirtual 198, 3) := by decide +kernel
theorem dX1_withMoulds_39 : decode cX1_withMoulds 39 = .ok (.i2l, 1) := by decide +kernel
theorem dX1_withMoulds_40 : decode cX1_withMoulds 40 = .ok (.ladd, 1) := by decide +kernel
theorem dX1_withMoulds_41 : decode cX1_withMoulds 41 = .ok (.lstore_n 3, 1) := by decide +kernel
theorem dX1_withMoulds_42 : decode cX1_withMoulds 42 = .ok (.iinc 6 1, 3) := by decide +kernel
theorem dX1_withMoulds_45 : decode cX1_withMoulds 45 = .ok (.goto (-25), 3) := by decide +kernel
theorem dX1_withMoulds_48 : decode cX1_withMoulds 48 = .ok (.iinc 5 1, 3) := by decide +kernel
theorem dX1_withMoulds_51 : decode cX1_withMoulds 51 = .ok (.goto (-46), 3) := by decide +kernel
theorem dX1_withMoulds_54 : decode cX1_withMoulds 54 = .ok (.lload_n 3, 1) := by decide +kernel
theorem dX1_withMoulds_55 : decode cX1_withMoulds 55 = .ok (.lreturn, 1) := by decide +kernel
theorem dX1_withTable_0 : decode cX1_withTable 0 = .ok (.lload_n 0, 1) := by decide +kernel
theorem dX1_withTable_1 : decode cX1_withTable 1 = .ok (.lstore_n 3, 1) := by decide +kernel
theorem dX1_withTable_2 : decode cX1_withTable 2 = .ok (.iconst 0, 1) := by decide +kernel
theorem dX1_withTable_3 : decode cX1_withTable 3 = .ok (.istore 5, 2) := by decide +kernel
theorem dX1_withTable_5 : decode cX1_withTable 5 = .ok (.iload 5, 2) := by decide +kernel
theorem dX1_withTable_7 : decode cX1_withTable 7 = .ok (.aload_n 2, 1) := by decide +kernel
theorem dX1_withTable_8 : decode cX1_withTable 8 = .ok (.invokevirtual 89, 3) := by decide +kernel
theorem dX1_withTable_11 : decode cX1_withTable 11 = .ok (.if_icmp .ge 43, 3) := by decide +kernel
theorem dX1_withTable_14 : decode cX1_withTable 14 = .ok (.iconst 0, 1) := by decide +kernel
theorem dX1_withTable_15 : decode cX1_withTable 15 = .ok (.istore 6, 2) := by decide +kernel
theorem dX1_withTable_17 : decode cX1_withTable 17 = .ok (.iload 6, 2) := by decide +kernel
theorem dX1_withTable_19 : decode cX1_withTable 19 = .ok (.aload_n 2, 1) := by decide +kernel
theorem dX1_withTable_20 : decode cX1_withTable 20 = .ok (.invokevirtual 201, 3) := by decide +kernel
theorem dX1_withTable_23 : decode cX1_withTable 23 = .ok (.if_icmp .ge 25, 3) := by decide +kernel
theorem dX1_withTable_26 : decode cX1_withTable 26 = .ok (.lload_n 3, 1) := by decide +kernel
theorem dX1_withTable_27 : decode cX1_withTable 27 = .ok (.ldc2_w 185, 3) := by decide +kernel
theorem dX1_withTable_30 : decode cX1_withTable 30 = .ok (.lmul, 1) := by decide +kernel
theorem dX1_withTable_31 : decode cX1_withTable 31 = .ok (.aload_n 2, 1) := by decide +kernel
theorem dX1_withTable_32 : decode cX1_withTable 32 = .ok (.iload 5, 2) := by decide +kernel
theorem dX1_withTable_34 : decode cX1_withTable 34 = .ok (.iload 6, 2) := by decide +kernel
theorem dX1_withTable_36 : decode cX1_withTable 36 = .ok (.invokevirtual 96, 3) := by decide +kernel
theorem dX1_withTable_39 : decode cX1_withTable 39 = .ok (.i2l, 1) := by decide +kernel
theorem dX1_withTable_40 : decode cX1_withTable 40 = .ok (.ladd, 1) := by decide +kernel
theorem dX1_withTable_41 : decode cX1_withTable 41 = .ok (.lstore_n 3, 1) := by decide +kernel
theorem dX1_withTable_42 : decode cX1_withTable 42 = .ok (.iinc 6 1, 3) := by decide +kernel
theorem dX1_withTable_45 : decode cX1_withTable 45 = .ok (.goto (-28), 3) := by decide +kernel
theorem dX1_withTable_48 : decode cX1_withTable 48 = .ok (.iinc 5 1, 3) := by decide +kernel
theorem dX1_withTable_51 : decode cX1_withTable 51 = .ok (.goto (-46), 3) := by decide +kernel
theorem dX1_withTable_54 : decode cX1_withTable 54 = .ok (.lload_n 3, 1) := by decide +kernel
theorem dX1_withTable_55 : decode cX1_withTable 55 = .ok (.lreturn, 1) := by decide +kernel
