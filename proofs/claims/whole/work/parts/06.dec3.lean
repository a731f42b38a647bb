theorem dX3_init_0 : decode cX3_init 0 = .ok (.aload_n 0, 1) := by decide +kernel
theorem dX3_init_1 : decode cX3_init 1 = .ok (.aload_n 1, 1) := by decide +kernel
theorem dX3_init_2 : decode cX3_init 2 = .ok (.putfield 3, 3) := by decide +kernel
theorem dX3_init_5 : decode cX3_init 5 = .ok (.aload_n 0, 1) := by decide +kernel
theorem dX3_init_6 : decode cX3_init 6 = .ok (.invokespecial 9, 3) := by decide +kernel
theorem dX3_init_9 : decode cX3_init 9 = .ok (.aload_n 0, 1) := by decide +kernel
theorem dX3_init_10 : decode cX3_init 10 = .ok (.sipush 200, 3) := by decide +kernel
theorem dX3_init_13 : decode cX3_init 13 = .ok (.putfield 15, 3) := by decide +kernel
theorem dX3_init_16 : decode cX3_init 16 = .ok (.aload_n 0, 1) := by decide +kernel
theorem dX3_init_17 : decode cX3_init 17 = .ok (.bipush 20, 2) := by decide +kernel
theorem dX3_init_19 : decode cX3_init 19 = .ok (.putfield 19, 3) := by decide +kernel
theorem dX3_init_22 : decode cX3_init 22 = .ok (.aload_n 0, 1) := by decide +kernel
theorem dX3_init_23 : decode cX3_init 23 = .ok (.bipush 30, 2) := by decide +kernel
theorem dX3_init_25 : decode cX3_init 25 = .ok (.putfield 22, 3) := by decide +kernel
theorem dX3_init_28 : decode cX3_init 28 = .ok (.aload_n 0, 1) := by decide +kernel
theorem dX3_init_29 : decode cX3_init 29 = .ok (.bipush 6, 2) := by decide +kernel
theorem dX3_init_31 : decode cX3_init 31 = .ok (.newarray .int, 2) := by decide +kernel
theorem dX3_init_33 : decode cX3_init 33 = .ok (.putfield 25, 3) := by decide +kernel
theorem dX3_init_36 : decode cX3_init 36 = .ok (.aload_n 0, 1) := by decide +kernel
theorem dX3_init_37 : decode cX3_init 37 = .ok (.bipush 6, 2) := by decide +kernel
theorem dX3_init_39 : decode cX3_init 39 = .ok (.newarray .int, 2) := by decide +kernel
theorem dX3_init_41 : decode cX3_init 41 = .ok (.putfield 29, 3) := by decide +kernel
theorem dX3_init_44 : decode cX3_init 44 = .ok (.aload_n 0, 1) := by decide +kernel
theorem dX3_init_45 : decode cX3_init 45 = .ok (.bipush 16, 2) := by decide +kernel
theorem dX3_init_47 : decode cX3_init 47 = .ok (.iconst 4, 1) := by decide +kernel
theorem dX3_init_48 : decode cX3_init 48 = .ok (.multianewarray 32 2, 4) := by decide +kernel
theorem dX3_init_52 : decode cX3_init 52 = .ok (.putfield 34, 3) := by decide +kernel
theorem dX3_init_55 : decode cX3_init 55 = .ok (.aload_n 0, 1) := by decide +kernel
theorem dX3_init_56 : decode cX3_init 56 = .ok (.bipush 25, 2) := by decide +kernel
theorem dX3_init_58 : decode cX3_init 58 = .ok (.newarray .int, 2) := by decide +kernel
theorem dX3_init_60 : decode cX3_init 60 = .ok (.putfield 37, 3) := by decide +kernel
theorem dX3_init_63 : decode cX3_init 63 = .ok (.aload_n 0, 1) := by decide +kernel
theorem dX3_init_64 : decode cX3_init 64 = .ok (.bipush 8, 2) := by decide +kernel
theorem dX3_init_66 : decode cX3_init 66 = .ok (.iconst 5, 1) := by decide +kernel
theorem dX3_init_67 : decode cX3_init 67 = .ok (.multianewarray 32 2, 4) := by decide +kernel
theorem dX3_init_71 : decode cX3_init 71 = .ok (.putfield 40, 3) := by decide +kernel
theorem dX3_init_74 : decode cX3_init 74 = .ok (.aload_n 0, 1) := by decide +kernel
theorem dX3_init_75 : decode cX3_init 75 = .ok (.iconst (-1), 1) := by decide +kernel
theorem dX3_init_76 : decode cX3_init 76 = .ok (.putfield 43, 3) := by decide +kernel
theorem dX3_init_79 : decode cX3_init 79 = .ok (.return_, 1) := by decide +kernel
theorem dX3_become_0 : decode cX3_become 0 = .ok (.aload_n 0, 1) := by decide +kernel
theorem dX3_become_1 : decode cX3_become 1 = .ok (.aload_n 1, 1) := by decide +kernel
theorem dX3_become_2 : decode cX3_become 2 = .ok (.getfield 46, 3) := by decide +kernel
theorem dX3_become_5 : decode cX3_become 5 = .ok (.putfield 46, 3) := by decide +kernel
theorem dX3_become_8 : decode cX3_become 8 = .ok (.aload_n 0, 1) := by decide +kernel
theorem dX3_become_9 : decode cX3_become 9 = .ok (.aload_n 1, 1) := by decide +kernel
theorem dX3_become_10 : decode cX3_become 10 = .ok (.getfield 15, 3) := by decide +kernel
theorem dX3_become_13 : decode cX3_become 13 = .ok (.putfield 15, 3) := by decide +kernel
theorem dX3_become_16 : decode cX3_become 16 = .ok (.aload_n 0, 1) := by decide +kernel
theorem dX3_become_17 : decode cX3_become 17 = .ok (.aload_n 1, 1) := by decide +kernel
theorem dX3_become_18 : decode cX3_become 18 = .ok (.getfield 19, 3) := by decide +kernel
theorem dX3_become_21 : decode cX3_become 21 = .ok (.putfield 19, 3) := by decide +kernel
theorem dX3_become_24 : decode cX3_become 24 = .ok (.aload_n 0, 1) := by decide +kernel
theorem dX3_become_25 : decode cX3_become 25 = .ok (.aload_n 1, 1) := by decide +kernel
theorem dX3_become_26 : decode cX3_become 26 = .ok (.getfield 22, 3) := by decide +kernel
theorem dX3_become_29 : decode cX3_become 29 = .ok (.putfield 22, 3) := by decide +kernel
theorem dX3_become_32 : decode cX3_become 32 = .ok (.aload_n 0, 1) := by decide +kernel
theorem dX3_become_33 : decode cX3_become 33 = .ok (.aload_n 1, 1) := by decide +kernel
theorem dX3_become_34 : decode cX3_become 34 = .ok (.getfield 49, 3) := by decide +kernel
theorem dX3_become_37 : decode cX3_become 37 = .ok (.putfield 49, 3) := by decide +kernel
theorem dX3_become_40 : decode cX3_become 40 = .ok (.aload_n 0, 1) := by decide +kernel
theorem dX3_become_41 : decode cX3_become 41 = .ok (.aload_n 1, 1) := by decide +kernel
theorem dX3_become_42 : decode cX3_become 42 = .ok (.getfield 52, 3) := by decide +kernel
theorem dX3_become_45 : decode cX3_become 45 = .ok (.putfield 52, 3) := by decide +kernel
theorem dX3_become_48 : decode cX3_become 48 = .ok (.aload_n 0, 1) := by decide +kernel
theorem dX3_become_49 : decode cX3_become 49 = .ok (.aload_n 1, 1) := by decide +kernel
theorem dX3_become_50 : decode cX3_become 50 = .ok (.getfield 55, 3) := by decide +kernel
theorem dX3_become_53 : decode cX3_become 53 = .ok (.putfield 55, 3) := by decide +kernel
theorem dX3_become_56 : decode cX3_become 56 = .ok (.aload_n 0, 1) := by decide +kernel
theorem dX3_become_57 : decode cX3_become 57 = .ok (.aload_n 1, 1) := by decide +kernel
theorem dX3_become_58 : decode cX3_become 58 = .ok (.getfield 58, 3) := by decide +kernel
theorem dX3_become_61 : decode cX3_become 61 = .ok (.putfield 58, 3) := by decide +kernel
theorem dX3_become_64 : decode cX3_become 64 = .ok (.aload_n 0, 1) := by decide +kernel
theorem dX3_become_65 : decode cX3_become 65 = .ok (.aload_n 1, 1) := by decide +kernel
theorem dX3_become_66 : decode cX3_become 66 = .ok (.getfield 61, 3) := by decide +kernel
theorem dX3_become_69 : decode cX3_become 69 = .ok (.putfield 61, 3) := by decide +kernel
theorem dX3_become_72 : decode cX3_become 72 = .ok (.aload_n 0, 1) := by decide +kernel
theorem dX3_become_73 : decode cX3_become 73 = .ok (.aload_n 1, 1) := by decide +kernel
theorem dX3_become_74 : decode cX3_become 74 = .ok (.getfield 64, 3) := by decide +kernel
theorem dX3_become_77 : decode cX3_become 77 = .ok (.putfield 64, 3) := by decide +kernel
theorem dX3_become_80 : decode cX3_become 80 = .ok (.aload_n 0, 1) := by decide +kernel
theorem dX3_become_81 : decode cX3_become 81 = .ok (.iconst (-1), 1) := by decide +kernel
theorem dX3_become_82 : decode cX3_become 82 = .ok (.putfield 43, 3) := by decide +kernel
theorem dX3_become_85 : decode cX3_become 85 = .ok (.aload_n 0, 1) := by decide +kernel
theorem dX3_become_86 : decode cX3_become 86 = .ok (.iconst 0, 1) := by decide +kernel
theorem dX3_become_87 : decode cX3_become 87 = .ok (.putfield 67, 3) := by decide +kernel
theorem dX3_become_90 : decode cX3_become 90 = .ok (.aload_n 1, 1) := by decide +kernel
theorem dX3_become_91 : decode cX3_become 91 = .ok (.getfield 25, 3) := by decide +kernel
theorem dX3_become_94 : decode cX3_become 94 = .ok (.iconst 0, 1) := by decide +kernel
theorem dX3_become_95 : decode cX3_become 95 = .ok (.aload_n 0, 1) := by decide +kernel
theorem dX3_become_96 : decode cX3_become 96 = .ok (.getfield 25, 3) := by decide +kernel
theorem dX3_become_99 : decode cX3_become 99 = .ok (.iconst 0, 1) := by decide +kernel
theorem dX3_become_100 : decode cX3_become 100 = .ok (.bipush 6, 2) := by decide +kernel
theorem dX3_become_102 : decode cX3_become 102 = .ok (.invokestatic 70, 3) := by decide +kernel
theorem dX3_become_105 : decode cX3_become 105 = .ok (.aload_n 1, 1) := by decide +kernel
theorem dX3_become_106 : decode cX3_become 106 = .ok (.getfield 29, 3) := by decide +kernel
theorem dX3_become_109 : decode cX3_become 109 = .ok (.iconst 0, 1) := by decide +kernel
theorem dX3_become_110 : decode cX3_become 110 = .ok (.aload_n 0, 1) := by decide +kernel
theorem dX3_become_111 : decode cX3_become 111 = .ok (.getfield 29, 3) := by decide +kernel
theorem dX3_become_114 : decode cX3_become 114 = .ok (.iconst 0, 1) := by decide +kernel
theorem dX3_become_115 : decode cX3_become 115 = .ok (.bipush 6, 2) := by decide +kernel
theorem dX3_become_117 : decode cX3_become 117 = .ok (.invokestatic 70, 3) := by decide +kernel
theorem dX3_become_120 : decode cX3_become 120 = .ok (.iconst 0, 1) := by decide +kernel
theorem dX3_become_121 : decode cX3_become 121 = .ok (.istore_n 2, 1) := by decide +kernel
theorem dX3_become_122 : decode cX3_become 122 = .ok (.iload_n 2, 1) := by decide +kernel
theorem dX3_become_123 : decode cX3_become 123 = .ok (.aload_n 0, 1) := by decide +kernel
theorem dX3_become_124 : decode cX3_become 124 = .ok (.getfield 34, 3) := by decide +kernel
theorem dX3_become_127 : decode cX3_become 127 = .ok (.arraylength, 1) := by decide +kernel
theorem dX3_become_128 : decode cX3_become 128 = .ok (.if_icmp .ge 27, 3) := by decide +kernel
theorem dX3_become_131 : decode cX3_become 131 = .ok (.aload_n 1, 1) := by decide +kernel
theorem dX3_become_132 : decode cX3_become 132 = .ok (.getfield 34, 3) := by decide +kernel
theorem dX3_become_135 : decode cX3_become 135 = .ok (.iload_n 2, 1) := by decide +kernel
theorem dX3_become_136 : decode cX3_become 136 = .ok (.aaload, 1) := by decide +kernel
theorem dX3_become_137 : decode cX3_become 137 = .ok (.iconst 0, 1) := by decide +kernel
theorem dX3_become_138 : decode cX3_become 138 = .ok (.aload_n 0, 1) := by decide +kernel
theorem dX3_become_139 : decode cX3_become 139 = .ok (.getfield 34, 3) := by decide +kernel
theorem dX3_become_142 : decode cX3_become 142 = .ok (.iload_n 2, 1) := by decide +kernel
theorem dX3_become_143 : decode cX3_become 143 = .ok (.aaload, 1) := by decide +kernel
theorem dX3_become_144 : decode cX3_become 144 = .ok (.iconst 0, 1) := by decide +kernel
theorem dX3_become_145 : decode cX3_become 145 = .ok (.iconst 4, 1) := by decide +kernel
theorem dX3_become_146 : decode cX3_become 146 = .ok (.invokestatic 70, 3) := by decide +kernel
theorem dX3_become_149 : decode cX3_become 149 = .ok (.iinc 2 1, 3) := by decide +kernel
theorem dX3_become_152 : decode cX3_become 152 = .ok (.goto (-30), 3) := by decide +kernel
theorem dX3_become_155 : decode cX3_become 155 = .ok (.aload_n 1, 1) := by decide +kernel
theorem dX3_become_156 : decode cX3_become 156 = .ok (.getfield 37, 3) := by decide +kernel
theorem dX3_become_159 : decode cX3_become 159 = .ok (.iconst 0, 1) := by decide +kernel
theorem dX3_become_160 : decode cX3_become 160 = .ok (.aload_n 0, 1) := by decide +kernel
theorem dX3_become_161 : decode cX3_become 161 = .ok (.getfield 37, 3) := by decide +kernel
theorem dX3_become_164 : decode cX3_become 164 = .ok (.iconst 0, 1) := by decide +kernel
theorem dX3_become_165 : decode cX3_become 165 = .ok (.aload_n 0, 1) := by decide +kernel
theorem dX3_become_166 : decode cX3_become 166 = .ok (.getfield 37, 3) := by decide +kernel
theorem dX3_become_169 : decode cX3_become 169 = .ok (.arraylength, 1) := by decide +kernel
theorem dX3_become_170 : decode cX3_become 170 = .ok (.invokestatic 70, 3) := by decide +kernel
theorem dX3_become_173 : decode cX3_become 173 = .ok (.iconst 0, 1) := by decide +kernel
theorem dX3_become_174 : decode cX3_become 174 = .ok (.istore_n 2, 1) := by decide +kernel
theorem dX3_become_175 : decode cX3_become 175 = .ok (.iload_n 2, 1) := by decide +kernel
theorem dX3_become_176 : decode cX3_become 176 = .ok (.bipush 8, 2) := by decide +kernel
theorem dX3_become_178 : decode cX3_become 178 = .ok (.if_icmp .ge 36, 3) := by decide +kernel
theorem dX3_become_181 : decode cX3_become 181 = .ok (.aload_n 1, 1) := by decide +kernel
theorem dX3_become_182 : decode cX3_become 182 = .ok (.getfield 40, 3) := by decide +kernel
theorem dX3_become_185 : decode cX3_become 185 = .ok (.iload_n 2, 1) := by decide +kernel
theorem dX3_become_186 : decode cX3_become 186 = .ok (.aaload, 1) := by decide +kernel
theorem dX3_become_187 : decode cX3_become 187 = .ok (.iconst 0, 1) := by decide +kernel
theorem dX3_become_188 : decode cX3_become 188 = .ok (.aload_n 0, 1) := by decide +kernel
theorem dX3_become_189 : decode cX3_become 189 = .ok (.getfield 40, 3) := by decide +kernel
theorem dX3_become_192 : decode cX3_become 192 = .ok (.iload_n 2, 1) := by decide +kernel
theorem dX3_become_193 : decode cX3_become 193 = .ok (.aaload, 1) := by decide +kernel
theorem dX3_become_194 : decode cX3_become 194 = .ok (.iconst 0, 1) := by decide +kernel
theorem dX3_become_195 : decode cX3_become 195 = .ok (.iconst 5, 1) := by decide +kernel
theorem dX3_become_196 : decode cX3_become 196 = .ok (.invokestatic 70, 3) := by decide +kernel
theorem dX3_become_199 : decode cX3_become 199 = .ok (.aload_n 0, 1) := by decide +kernel
theorem dX3_become_200 : decode cX3_become 200 = .ok (.getfield 40, 3) := by decide +kernel
theorem dX3_become_203 : decode cX3_become 203 = .ok (.iload_n 2, 1) := by decide +kernel
theorem dX3_become_204 : decode cX3_become 204 = .ok (.aaload, 1) := by decide +kernel
theorem dX3_become_205 : decode cX3_become 205 = .ok (.iconst 4, 1) := by decide +kernel
theorem dX3_become_206 : decode cX3_become 206 = .ok (.iload_n 2, 1) := by decide +kernel
theorem dX3_become_207 : decode cX3_become 207 = .ok (.iastore, 1) := by decide +kernel
theorem dX3_become_208 : decode cX3_become 208 = .ok (.iinc 2 1, 3) := by decide +kernel
theorem dX3_become_211 : decode cX3_become 211 = .ok (.goto (-36), 3) := by decide +kernel
theorem dX3_become_214 : decode cX3_become 214 = .ok (.aload_n 0, 1) := by decide +kernel
theorem dX3_become_215 : decode cX3_become 215 = .ok (.areturn, 1) := by decide +kernel
theorem dX3_flaw_0 : decode cX3_flaw 0 = .ok (.aload_n 0, 1) := by decide +kernel
theorem dX3_flaw_1 : decode cX3_flaw 1 = .ok (.getfield 29, 3) := by decide +kernel
theorem dX3_flaw_4 : decode cX3_flaw 4 = .ok (.iload_n 1, 1) := by decide +kernel
theorem dX3_flaw_5 : decode cX3_flaw 5 = .ok (.iaload, 1) := by decide +kernel
theorem dX3_flaw_6 : decode cX3_flaw 6 = .ok (.bipush 10, 2) := by decide +kernel
theorem dX3_flaw_8 : decode cX3_flaw 8 = .ok (.idiv, 1) := by decide +kernel
theorem dX3_flaw_9 : decode cX3_flaw 9 = .ok (.bipush 9, 2) := by decide +kernel
theorem dX3_flaw_11 : decode cX3_flaw 11 = .ok (.iadd, 1) := by decide +kernel
theorem dX3_flaw_12 : decode cX3_flaw 12 = .ok (.aload_n 0, 1) := by decide +kernel
theorem dX3_flaw_13 : decode cX3_flaw 13 = .ok (.getfield 25, 3) := by decide +kernel
theorem dX3_flaw_16 : decode cX3_flaw 16 = .ok (.iload_n 1, 1) := by decide +kernel
theorem dX3_flaw_17 : decode cX3_flaw 17 = .ok (.iaload, 1) := by decide +kernel
theorem dX3_flaw_18 : decode cX3_flaw 18 = .ok (.isub, 1) := by decide +kernel
theorem dX3_flaw_19 : decode cX3_flaw 19 = .ok (.ireturn, 1) := by decide +kernel
theorem dX3_saggar_0 : decode cX3_saggar 0 = .ok (.aload_n 0, 1) := by decide +kernel
theorem dX3_saggar_1 : decode cX3_saggar 1 = .ok (.getfield 34, 3) := by decide +kernel
theorem dX3_saggar_4 : decode cX3_saggar 4 = .ok (.bipush 10, 2) := by decide +kernel
theorem dX3_saggar_6 : decode cX3_saggar 6 = .ok (.iload_n 1, 1) := by decide +kernel
theorem dX3_saggar_7 : decode cX3_saggar 7 = .ok (.iadd, 1) := by decide +kernel
theorem dX3_saggar_8 : decode cX3_saggar 8 = .ok (.aaload, 1) := by decide +kernel
theorem dX3_saggar_9 : decode cX3_saggar 9 = .ok (.areturn, 1) := by decide +kernel
theorem dX3_put_0 : decode cX3_put 0 = .ok (.aload_n 1, 1) := by decide +kernel
theorem dX3_put_1 : decode cX3_put 1 = .ok (.iconst 0, 1) := by decide +kernel
theorem dX3_put_2 : decode cX3_put 2 = .ok (.iload_n 2, 1) := by decide +kernel
theorem dX3_put_3 : decode cX3_put 3 = .ok (.iastore, 1) := by decide +kernel
theorem dX3_put_4 : decode cX3_put 4 = .ok (.aload_n 1, 1) := by decide +kernel
theorem dX3_put_5 : decode cX3_put 5 = .ok (.iconst 1, 1) := by decide +kernel
theorem dX3_put_6 : decode cX3_put 6 = .ok (.iload_n 3, 1) := by decide +kernel
theorem dX3_put_7 : decode cX3_put 7 = .ok (.iastore, 1) := by decide +kernel
theorem dX3_put_8 : decode cX3_put 8 = .ok (.aload_n 1, 1) := by decide +kernel
theorem dX3_put_9 : decode cX3_put 9 = .ok (.iconst 2, 1) := by decide +kernel
theorem dX3_put_10 : decode cX3_put 10 = .ok (.iload 4, 2) := by decide +kernel
theorem dX3_put_12 : decode cX3_put 12 = .ok (.iastore, 1) := by decide +kernel
theorem dX3_put_13 : decode cX3_put 13 = .ok (.aload_n 1, 1) := by decide +kernel
theorem dX3_put_14 : decode cX3_put 14 = .ok (.iconst 3, 1) := by decide +kernel
theorem dX3_put_15 : decode cX3_put 15 = .ok (.iload 5, 2) := by decide +kernel
theorem dX3_put_17 : decode cX3_put 17 = .ok (.iastore, 1) := by decide +kernel
theorem dX3_put_18 : decode cX3_put 18 = .ok (.return_, 1) := by decide +kernel
theorem dX3_make_0 : decode cX3_make 0 = .ok (.aload_n 0, 1) := by decide +kernel
theorem dX3_make_1 : decode cX3_make 1 = .ok (.getfield 3, 3) := by decide +kernel
theorem dX3_make_4 : decode cX3_make 4 = .ok (.getfield 76, 3) := by decide +kernel
theorem dX3_make_7 : decode cX3_make 7 = .ok (.iload_n 1, 1) := by decide +kernel
theorem dX3_make_8 : decode cX3_make 8 = .ok (.iaload, 1) := by decide +kernel
theorem dX3_make_9 : decode cX3_make 9 = .ok (.istore_n 2, 1) := by decide +kernel
theorem dX3_make_10 : decode cX3_make 10 = .ok (.iload_n 2, 1) := by decide +kernel
theorem dX3_make_11 : decode cX3_make 11 = .ok (.iconst (-1), 1) := by decide +kernel
theorem dX3_make_12 : decode cX3_make 12 = .ok (.if_icmp .eq 12, 3) := by decide +kernel
theorem dX3_make_15 : decode cX3_make 15 = .ok (.aload_n 0, 1) := by decide +kernel
theorem dX3_make_16 : decode cX3_make 16 = .ok (.getfield 61, 3) := by decide +kernel
theorem dX3_make_19 : decode cX3_make 19 = .ok (.bipush 10, 2) := by decide +kernel
theorem dX3_make_21 : decode cX3_make 21 = .ok (.if_icmp .ne 4, 3) := by decide +kernel
theorem dX3_make_24 : decode cX3_make 24 = .ok (.return_, 1) := by decide +kernel
theorem dX3_make_25 : decode cX3_make 25 = .ok (.aload_n 0, 1) := by decide +kernel
theorem dX3_make_26 : decode cX3_make 26 = .ok (.getfield 3, 3) := by decide +kernel
theorem dX3_make_29 : decode cX3_make 29 = .ok (.getfield 79, 3) := by decide +kernel
theorem dX3_make_32 : decode cX3_make 32 = .ok (.iload_n 1, 1) := by decide +kernel
theorem dX3_make_33 : decode cX3_make 33 = .ok (.iaload, 1) := by decide +kernel
theorem dX3_make_34 : decode cX3_make 34 = .ok (.aload_n 0, 1) := by decide +kernel
theorem dX3_make_35 : decode cX3_make 35 = .ok (.getfield 15, 3) := by decide +kernel
theorem dX3_make_38 : decode cX3_make 38 = .ok (.aload_n 0, 1) := by decide +kernel
theorem dX3_make_39 : decode cX3_make 39 = .ok (.getfield 3, 3) := by decide +kernel
theorem dX3_make_42 : decode cX3_make 42 = .ok (.iload_n 2, 1) := by decide +kernel
theorem dX3_make_43 : decode cX3_make 43 = .ok (.invokevirtual 82, 3) := by decide +kernel
theorem dX3_make_46 : decode cX3_make 46 = .ok (.idiv, 1) := by decide +kernel
theorem dX3_make_47 : decode cX3_make 47 = .ok (.invokestatic 86, 3) := by decide +kernel
theorem dX3_make_50 : decode cX3_make 50 = .ok (.istore_n 3, 1) := by decide +kernel
theorem dX3_make_51 : decode cX3_make 51 = .ok (.iload_n 3, 1) := by decide +kernel
theorem dX3_make_52 : decode cX3_make 52 = .ok (.ifCond .ne 4, 3) := by decide +kernel
theorem dX3_make_55 : decode cX3_make 55 = .ok (.return_, 1) := by decide +kernel
theorem dX3_make_56 : decode cX3_make 56 = .ok (.aload_n 0, 1) := by decide +kernel
theorem dX3_make_57 : decode cX3_make 57 = .ok (.dup, 1) := by decide +kernel
theorem dX3_make_58 : decode cX3_make 58 = .ok (.getfield 15, 3) := by decide +kernel
theorem dX3_make_61 : decode cX3_make 61 = .ok (.iload_n 3, 1) := by decide +kernel
theorem dX3_make_62 : decode cX3_make 62 = .ok (.aload_n 0, 1) := by decide +kernel
theorem dX3_make_63 : decode cX3_make 63 = .ok (.getfield 3, 3) := by decide +kernel
theorem dX3_make_66 : decode cX3_make 66 = .ok (.iload_n 2, 1) := by decide +kernel
theorem dX3_make_67 : decode cX3_make 67 = .ok (.invokevirtual 82, 3) := by decide +kernel
theorem dX3_make_70 : decode cX3_make 70 = .ok (.imul, 1) := by decide +kernel
theorem dX3_make_71 : decode cX3_make 71 = .ok (.isub, 1) := by decide +kernel
theorem dX3_make_72 : decode cX3_make 72 = .ok (.putfield 15, 3) := by decide +kernel
theorem dX3_make_75 : decode cX3_make 75 = .ok (.aload_n 0, 1) := by decide +kernel
theorem dX3_make_76 : decode cX3_make 76 = .ok (.dup, 1) := by decide +kernel
theorem dX3_make_77 : decode cX3_make 77 = .ok (.getfield 49, 3) := by decide +kernel
theorem dX3_make_80 : decode cX3_make 80 = .ok (.iload_n 3, 1) := by decide +kernel
theorem dX3_make_81 : decode cX3_make 81 = .ok (.iadd, 1) := by decide +kernel
theorem dX3_make_82 : decode cX3_make 82 = .ok (.putfield 49, 3) := by decide +kernel
theorem dX3_make_85 : decode cX3_make 85 = .ok (.aload_n 0, 1) := by decide +kernel
theorem dX3_make_86 : decode cX3_make 86 = .ok (.aload_n 0, 1) := by decide +kernel
theorem dX3_make_87 : decode cX3_make 87 = .ok (.getfield 34, 3) := by decide +kernel
theorem dX3_make_90 : decode cX3_make 90 = .ok (.aload_n 0, 1) := by decide +kernel
theorem dX3_make_91 : decode cX3_make 91 = .ok (.getfield 61, 3) := by decide +kernel
theorem dX3_make_94 : decode cX3_make 94 = .ok (.aaload, 1) := by decide +kernel
theorem dX3_make_95 : decode cX3_make 95 = .ok (.aload_n 0, 1) := by decide +kernel
theorem dX3_make_96 : decode cX3_make 96 = .ok (.getfield 3, 3) := by decide +kernel
theorem dX3_make_99 : decode cX3_make 99 = .ok (.getfield 92, 3) := by decide +kernel
theorem dX3_make_102 : decode cX3_make 102 = .ok (.iload_n 2, 1) := by decide +kernel
theorem dX3_make_103 : decode cX3_make 103 = .ok (.iaload, 1) := by decide +kernel
theorem dX3_make_104 : decode cX3_make 104 = .ok (.iload_n 3, 1) := by decide +kernel
theorem dX3_make_105 : decode cX3_make 105 = .ok (.bipush 6, 2) := by decide +kernel
theorem dX3_make_107 : decode cX3_make 107 = .ok (.aload_n 0, 1) := by decide +kernel
theorem dX3_make_108 : decode cX3_make 108 = .ok (.iload_n 2, 1) := by decide +kernel
theorem dX3_make_109 : decode cX3_make 109 = .ok (.invokevirtual 95, 3) := by decide +kernel
theorem dX3_make_112 : decode cX3_make 112 = .ok (.invokevirtual 98, 3) := by decide +kernel
theorem dX3_make_115 : decode cX3_make 115 = .ok (.aload_n 0, 1) := by decide +kernel
theorem dX3_make_116 : decode cX3_make 116 = .ok (.dup, 1) := by decide +kernel
theorem dX3_make_117 : decode cX3_make 117 = .ok (.getfield 61, 3) := by decide +kernel
theorem dX3_make_120 : decode cX3_make 120 = .ok (.iconst 1, 1) := by decide +kernel
theorem dX3_make_121 : decode cX3_make 121 = .ok (.iadd, 1) := by decide +kernel
theorem dX3_make_122 : decode cX3_make 122 = .ok (.putfield 61, 3) := by decide +kernel
theorem dX3_make_125 : decode cX3_make 125 = .ok (.aload_n 0, 1) := by decide +kernel
theorem dX3_make_126 : decode cX3_make 126 = .ok (.getfield 29, 3) := by decide +kernel
theorem dX3_make_129 : decode cX3_make 129 = .ok (.iload_n 2, 1) := by decide +kernel
theorem dX3_make_130 : decode cX3_make 130 = .ok (.iaload, 1) := by decide +kernel
theorem dX3_make_131 : decode cX3_make 131 = .ok (.istore 4, 2) := by decide +kernel
theorem dX3_make_133 : decode cX3_make 133 = .ok (.aload_n 0, 1) := by decide +kernel
theorem dX3_make_134 : decode cX3_make 134 = .ok (.getfield 29, 3) := by decide +kernel
theorem dX3_make_137 : decode cX3_make 137 = .ok (.iload_n 2, 1) := by decide +kernel
theorem dX3_make_138 : decode cX3_make 138 = .ok (.bipush 100, 2) := by decide +kernel
theorem dX3_make_140 : decode cX3_make 140 = .ok (.iload 4, 2) := by decide +kernel
theorem dX3_make_142 : decode cX3_make 142 = .ok (.iload_n 3, 1) := by decide +kernel
theorem dX3_make_143 : decode cX3_make 143 = .ok (.iconst 3, 1) := by decide +kernel
theorem dX3_make_144 : decode cX3_make 144 = .ok (.iadd, 1) := by decide +kernel
theorem dX3_make_145 : decode cX3_make 145 = .ok (.iconst 4, 1) := by decide +kernel
theorem dX3_make_146 : decode cX3_make 146 = .ok (.idiv, 1) := by decide +kernel
theorem dX3_make_147 : decode cX3_make 147 = .ok (.iadd, 1) := by decide +kernel
theorem dX3_make_148 : decode cX3_make 148 = .ok (.invokestatic 86, 3) := by decide +kernel
theorem dX3_make_151 : decode cX3_make 151 = .ok (.iastore, 1) := by decide +kernel
theorem dX3_make_152 : decode cX3_make 152 = .ok (.aload_n 0, 1) := by decide +kernel
theorem dX3_make_153 : decode cX3_make 153 = .ok (.getfield 29, 3) := by decide +kernel
theorem dX3_make_156 : decode cX3_make 156 = .ok (.iload_n 2, 1) := by decide +kernel
theorem dX3_make_157 : decode cX3_make 157 = .ok (.iaload, 1) := by decide +kernel
theorem dX3_make_158 : decode cX3_make 158 = .ok (.bipush 10, 2) := by decide +kernel
theorem dX3_make_160 : decode cX3_make 160 = .ok (.idiv, 1) := by decide +kernel
theorem dX3_make_161 : decode cX3_make 161 = .ok (.iload 4, 2) := by decide +kernel
theorem dX3_make_163 : decode cX3_make 163 = .ok (.bipush 10, 2) := by decide +kernel
theorem dX3_make_165 : decode cX3_make 165 = .ok (.idiv, 1) := by decide +kernel
theorem dX3_make_166 : decode cX3_make 166 = .ok (.if_icmp .le 21, 3) := by decide +kernel
theorem dX3_make_169 : decode cX3_make 169 = .ok (.aload_n 0, 1) := by decide +kernel
theorem dX3_make_170 : decode cX3_make 170 = .ok (.getfield 25, 3) := by decide +kernel
theorem dX3_make_173 : decode cX3_make 173 = .ok (.iload_n 2, 1) := by decide +kernel
theorem dX3_make_174 : decode cX3_make 174 = .ok (.iconst 0, 1) := by decide +kernel
theorem dX3_make_175 : decode cX3_make 175 = .ok (.aload_n 0, 1) := by decide +kernel
theorem dX3_make_176 : decode cX3_make 176 = .ok (.getfield 25, 3) := by decide +kernel
theorem dX3_make_179 : decode cX3_make 179 = .ok (.iload_n 2, 1) := by decide +kernel
theorem dX3_make_180 : decode cX3_make 180 = .ok (.iaload, 1) := by decide +kernel
theorem dX3_make_181 : decode cX3_make 181 = .ok (.iconst 1, 1) := by decide +kernel
theorem dX3_make_182 : decode cX3_make 182 = .ok (.isub, 1) := by decide +kernel
theorem dX3_make_183 : decode cX3_make 183 = .ok (.invokestatic 102, 3) := by decide +kernel
theorem dX3_make_186 : decode cX3_make 186 = .ok (.iastore, 1) := by decide +kernel
theorem dX3_make_187 : decode cX3_make 187 = .ok (.return_, 1) := by decide +kernel
theorem dX3_serve_0 : decode cX3_serve 0 = .ok (.iconst 0, 1) := by decide +kernel
theorem dX3_serve_1 : decode cX3_serve 1 = .ok (.istore_n 1, 1) := by decide +kernel
theorem dX3_serve_2 : decode cX3_serve 2 = .ok (.iconst 0, 1) := by decide +kernel
theorem dX3_serve_3 : decode cX3_serve 3 = .ok (.istore_n 2, 1) := by decide +kernel
theorem dX3_serve_4 : decode cX3_serve 4 = .ok (.iload_n 2, 1) := by decide +kernel
theorem dX3_serve_5 : decode cX3_serve 5 = .ok (.aload_n 0, 1) := by decide +kernel
theorem dX3_serve_6 : decode cX3_serve 6 = .ok (.getfield 64, 3) := by decide +kernel
theorem dX3_serve_9 : decode cX3_serve 9 = .ok (.if_icmp .ge 156, 3) := by decide +kernel
theorem dX3_serve_12 : decode cX3_serve 12 = .ok (.aload_n 0, 1) := by decide +kernel
theorem dX3_serve_13 : decode cX3_serve 13 = .ok (.getfield 40, 3) := by decide +kernel
theorem dX3_serve_16 : decode cX3_serve 16 = .ok (.iload_n 2, 1) := by decide +kernel
theorem dX3_serve_17 : decode cX3_serve 17 = .ok (.aaload, 1) := by decide +kernel
theorem dX3_serve_18 : decode cX3_serve 18 = .ok (.astore_n 3, 1) := by decide +kernel
theorem dX3_serve_19 : decode cX3_serve 19 = .ok (.aload_n 0, 1) := by decide +kernel
theorem dX3_serve_20 : decode cX3_serve 20 = .ok (.getfield 37, 3) := by decide +kernel
theorem dX3_serve_23 : decode cX3_serve 23 = .ok (.aload_n 3, 1) := by decide +kernel
theorem dX3_serve_24 : decode cX3_serve 24 = .ok (.iconst 0, 1) := by decide +kernel
theorem dX3_serve_25 : decode cX3_serve 25 = .ok (.iaload, 1) := by decide +kernel
theorem dX3_serve_26 : decode cX3_serve 26 = .ok (.iaload, 1) := by decide +kernel
theorem dX3_serve_27 : decode cX3_serve 27 = .ok (.aload_n 3, 1) := by decide +kernel
theorem dX3_serve_28 : decode cX3_serve 28 = .ok (.iconst 1, 1) := by decide +kernel
theorem dX3_serve_29 : decode cX3_serve 29 = .ok (.iaload, 1) := by decide +kernel
theorem dX3_serve_30 : decode cX3_serve 30 = .ok (.if_icmp .lt 57, 3) := by decide +kernel
theorem dX3_serve_33 : decode cX3_serve 33 = .ok (.aload_n 0, 1) := by decide +kernel
theorem dX3_serve_34 : decode cX3_serve 34 = .ok (.getfield 37, 3) := by decide +kernel
theorem dX3_serve_37 : decode cX3_serve 37 = .ok (.aload_n 3, 1) := by decide +kernel
theorem dX3_serve_38 : decode cX3_serve 38 = .ok (.iconst 0, 1) := by decide +kernel
theorem dX3_serve_39 : decode cX3_serve 39 = .ok (.iaload, 1) := by decide +kernel
theorem dX3_serve_40 : decode cX3_serve 40 = .ok (.dup2, 1) := by decide +kernel
theorem dX3_serve_41 : decode cX3_serve 41 = .ok (.iaload, 1) := by decide +kernel
theorem dX3_serve_42 : decode cX3_serve 42 = .ok (.aload_n 3, 1) := by decide +kernel
theorem dX3_serve_43 : decode cX3_serve 43 = .ok (.iconst 1, 1) := by decide +kernel
theorem dX3_serve_44 : decode cX3_serve 44 = .ok (.iaload, 1) := by decide +kernel
theorem dX3_serve_45 : decode cX3_serve 45 = .ok (.isub, 1) := by decide +kernel
theorem dX3_serve_46 : decode cX3_serve 46 = .ok (.iastore, 1) := by decide +kernel
theorem dX3_serve_47 : decode cX3_serve 47 = .ok (.aload_n 0, 1) := by decide +kernel
theorem dX3_serve_48 : decode cX3_serve 48 = .ok (.dup, 1) := by decide +kernel
theorem dX3_serve_49 : decode cX3_serve 49 = .ok (.getfield 22, 3) := by decide +kernel
theorem dX3_serve_52 : decode cX3_serve 52 = .ok (.aload_n 3, 1) := by decide +kernel
theorem dX3_serve_53 : decode cX3_serve 53 = .ok (.iconst 3, 1) := by decide +kernel
theorem dX3_serve_54 : decode cX3_serve 54 = .ok (.iaload, 1) := by decide +kernel
theorem dX3_serve_55 : decode cX3_serve 55 = .ok (.iadd, 1) := by decide +kernel
theorem dX3_serve_56 : decode cX3_serve 56 = .ok (.putfield 22, 3) := by decide +kernel
theorem dX3_serve_59 : decode cX3_serve 59 = .ok (.aload_n 0, 1) := by decide +kernel
theorem dX3_serve_60 : decode cX3_serve 60 = .ok (.dup, 1) := by decide +kernel
theorem dX3_serve_61 : decode cX3_serve 61 = .ok (.getfield 55, 3) := by decide +kernel
theorem dX3_serve_64 : decode cX3_serve 64 = .ok (.iconst 1, 1) := by decide +kernel
theorem dX3_serve_65 : decode cX3_serve 65 = .ok (.iadd, 1) := by decide +kernel
theorem dX3_serve_66 : decode cX3_serve 66 = .ok (.putfield 55, 3) := by decide +kernel
theorem dX3_serve_69 : decode cX3_serve 69 = .ok (.aload_n 3, 1) := by decide +kernel
theorem dX3_serve_70 : decode cX3_serve 70 = .ok (.iconst 4, 1) := by decide +kernel
theorem dX3_serve_71 : decode cX3_serve 71 = .ok (.iaload, 1) := by decide +kernel
theorem dX3_serve_72 : decode cX3_serve 72 = .ok (.aload_n 0, 1) := by decide +kernel
theorem dX3_serve_73 : decode cX3_serve 73 = .ok (.getfield 43, 3) := by decide +kernel
theorem dX3_serve_76 : decode cX3_serve 76 = .ok (.if_icmp .ne 83, 3) := by decide +kernel
theorem dX3_serve_79 : decode cX3_serve 79 = .ok (.aload_n 0, 1) := by decide +kernel
theorem dX3_serve_80 : decode cX3_serve 80 = .ok (.iconst 1, 1) := by decide +kernel
theorem dX3_serve_81 : decode cX3_serve 81 = .ok (.putfield 67, 3) := by decide +kernel
theorem dX3_serve_84 : decode cX3_serve 84 = .ok (.goto 75, 3) := by decide +kernel
theorem dX3_serve_87 : decode cX3_serve 87 = .ok (.aload_n 3, 1) := by decide +kernel
theorem dX3_serve_88 : decode cX3_serve 88 = .ok (.iconst 2, 1) := by decide +kernel
theorem dX3_serve_89 : decode cX3_serve 89 = .ok (.dup2, 1) := by decide +kernel
theorem dX3_serve_90 : decode cX3_serve 90 = .ok (.iaload, 1) := by decide +kernel
theorem dX3_serve_91 : decode cX3_serve 91 = .ok (.iconst 1, 1) := by decide +kernel
theorem dX3_serve_92 : decode cX3_serve 92 = .ok (.isub, 1) := by decide +kernel
theorem dX3_serve_93 : decode cX3_serve 93 = .ok (.iastore, 1) := by decide +kernel
theorem dX3_serve_94 : decode cX3_serve 94 = .ok (.aload_n 3, 1) := by decide +kernel
theorem dX3_serve_95 : decode cX3_serve 95 = .ok (.iconst 2, 1) := by decide +kernel
theorem dX3_serve_96 : decode cX3_serve 96 = .ok (.iaload, 1) := by decide +kernel
theorem dX3_serve_97 : decode cX3_serve 97 = .ok (.ifCond .ge 31, 3) := by decide +kernel
theorem dX3_serve_100 : decode cX3_serve 100 = .ok (.aload_n 0, 1) := by decide +kernel
theorem dX3_serve_101 : decode cX3_serve 101 = .ok (.dup, 1) := by decide +kernel
theorem dX3_serve_102 : decode cX3_serve 102 = .ok (.getfield 58, 3) := by decide +kernel
theorem dX3_serve_105 : decode cX3_serve 105 = .ok (.iconst 1, 1) := by decide +kernel
theorem dX3_serve_106 : decode cX3_serve 106 = .ok (.iadd, 1) := by decide +kernel
theorem dX3_serve_107 : decode cX3_serve 107 = .ok (.putfield 58, 3) := by decide +kernel
theorem dX3_serve_110 : decode cX3_serve 110 = .ok (.aload_n 3, 1) := by decide +kernel
theorem dX3_serve_111 : decode cX3_serve 111 = .ok (.iconst 4, 1) := by decide +kernel
theorem dX3_serve_112 : decode cX3_serve 112 = .ok (.iaload, 1) := by decide +kernel
theorem dX3_serve_113 : decode cX3_serve 113 = .ok (.aload_n 0, 1) := by decide +kernel
theorem dX3_serve_114 : decode cX3_serve 114 = .ok (.getfield 43, 3) := by decide +kernel
theorem dX3_serve_117 : decode cX3_serve 117 = .ok (.if_icmp .ne 42, 3) := by decide +kernel
theorem dX3_serve_120 : decode cX3_serve 120 = .ok (.aload_n 0, 1) := by decide +kernel
theorem dX3_serve_121 : decode cX3_serve 121 = .ok (.iconst 2, 1) := by decide +kernel
theorem dX3_serve_122 : decode cX3_serve 122 = .ok (.putfield 67, 3) := by decide +kernel
theorem dX3_serve_125 : decode cX3_serve 125 = .ok (.goto 34, 3) := by decide +kernel
theorem dX3_serve_128 : decode cX3_serve 128 = .ok (.iconst 0, 1) := by decide +kernel
theorem dX3_serve_129 : decode cX3_serve 129 = .ok (.istore 4, 2) := by decide +kernel
theorem dX3_serve_131 : decode cX3_serve 131 = .ok (.iload 4, 2) := by decide +kernel
theorem dX3_serve_133 : decode cX3_serve 133 = .ok (.iconst 5, 1) := by decide +kernel
theorem dX3_serve_134 : decode cX3_serve 134 = .ok (.if_icmp .ge 22, 3) := by decide +kernel
theorem dX3_serve_137 : decode cX3_serve 137 = .ok (.aload_n 0, 1) := by decide +kernel
theorem dX3_serve_138 : decode cX3_serve 138 = .ok (.getfield 40, 3) := by decide +kernel
theorem dX3_serve_141 : decode cX3_serve 141 = .ok (.iload_n 1, 1) := by decide +kernel
theorem dX3_serve_142 : decode cX3_serve 142 = .ok (.aaload, 1) := by decide +kernel
theorem dX3_serve_143 : decode cX3_serve 143 = .ok (.iload 4, 2) := by decide +kernel
theorem dX3_serve_145 : decode cX3_serve 145 = .ok (.aload_n 3, 1) := by decide +kernel
theorem dX3_serve_146 : decode cX3_serve 146 = .ok (.iload 4, 2) := by decide +kernel
theorem dX3_serve_148 : decode cX3_serve 148 = .ok (.iaload, 1) := by decide +kernel
theorem dX3_serve_149 : decode cX3_serve 149 = .ok (.iastore, 1) := by decide +kernel
theorem dX3_serve_150 : decode cX3_serve 150 = .ok (.iinc 4 1, 3) := by decide +kernel
theorem dX3_serve_153 : decode cX3_serve 153 = .ok (.goto (-22), 3) := by decide +kernel
theorem dX3_serve_156 : decode cX3_serve 156 = .ok (.iinc 1 1, 3) := by decide +kernel
theorem dX3_serve_159 : decode cX3_serve 159 = .ok (.iinc 2 1, 3) := by decide +kernel
theorem dX3_serve_162 : decode cX3_serve 162 = .ok (.goto (-158), 3) := by decide +kernel
theorem dX3_serve_165 : decode cX3_serve 165 = .ok (.aload_n 0, 1) := by decide +kernel
theorem dX3_serve_166 : decode cX3_serve 166 = .ok (.iload_n 1, 1) := by decide +kernel
theorem dX3_serve_167 : decode cX3_serve 167 = .ok (.putfield 64, 3) := by decide +kernel
theorem dX3_serve_170 : decode cX3_serve 170 = .ok (.return_, 1) := by decide +kernel
theorem dX3_pass_0 : decode cX3_pass 0 = .ok (.iconst 0, 1) := by decide +kernel
theorem dX3_pass_1 : decode cX3_pass 1 = .ok (.istore_n 1, 1) := by decide +kernel
theorem dX3_pass_2 : decode cX3_pass 2 = .ok (.iload_n 1, 1) := by decide +kernel
theorem dX3_pass_3 : decode cX3_pass 3 = .ok (.aload_n 0, 1) := by decide +kernel
theorem dX3_pass_4 : decode cX3_pass 4 = .ok (.getfield 3, 3) := by decide +kernel
theorem dX3_pass_7 : decode cX3_pass 7 = .ok (.getfield 105, 3) := by decide +kernel
theorem dX3_pass_10 : decode cX3_pass 10 = .ok (.if_icmp .ge 14, 3) := by decide +kernel
theorem dX3_pass_13 : decode cX3_pass 13 = .ok (.aload_n 0, 1) := by decide +kernel
theorem dX3_pass_14 : decode cX3_pass 14 = .ok (.iload_n 1, 1) := by decide +kernel
theorem dX3_pass_15 : decode cX3_pass 15 = .ok (.invokevirtual 108, 3) := by decide +kernel
theorem dX3_pass_18 : decode cX3_pass 18 = .ok (.iinc 1 1, 3) := by decide +kernel
theorem dX3_pass_21 : decode cX3_pass 21 = .ok (.goto (-19), 3) := by decide +kernel
theorem dX3_pass_24 : decode cX3_pass 24 = .ok (.aload_n 0, 1) := by decide +kernel
theorem dX3_pass_25 : decode cX3_pass 25 = .ok (.getfield 34, 3) := by decide +kernel
theorem dX3_pass_28 : decode cX3_pass 28 = .ok (.astore_n 1, 1) := by decide +kernel
theorem dX3_pass_29 : decode cX3_pass 29 = .ok (.aload_n 1, 1) := by decide +kernel
theorem dX3_pass_30 : decode cX3_pass 30 = .ok (.arraylength, 1) := by decide +kernel
theorem dX3_pass_31 : decode cX3_pass 31 = .ok (.istore_n 2, 1) := by decide +kernel
theorem dX3_pass_32 : decode cX3_pass 32 = .ok (.iconst 0, 1) := by decide +kernel
theorem dX3_pass_33 : decode cX3_pass 33 = .ok (.istore_n 3, 1) := by decide +kernel
theorem dX3_pass_34 : decode cX3_pass 34 = .ok (.iload_n 3, 1) := by decide +kernel
theorem dX3_pass_35 : decode cX3_pass 35 = .ok (.iload_n 2, 1) := by decide +kernel
theorem dX3_pass_36 : decode cX3_pass 36 = .ok (.if_icmp .ge 42, 3) := by decide +kernel
theorem dX3_pass_39 : decode cX3_pass 39 = .ok (.aload_n 1, 1) := by decide +kernel
theorem dX3_pass_40 : decode cX3_pass 40 = .ok (.iload_n 3, 1) := by decide +kernel
theorem dX3_pass_41 : decode cX3_pass 41 = .ok (.aaload, 1) := by decide +kernel
theorem dX3_pass_42 : decode cX3_pass 42 = .ok (.astore 4, 2) := by decide +kernel
theorem dX3_pass_44 : decode cX3_pass 44 = .ok (.aload 4, 2) := by decide +kernel
theorem dX3_pass_46 : decode cX3_pass 46 = .ok (.iconst 2, 1) := by decide +kernel
theorem dX3_pass_47 : decode cX3_pass 47 = .ok (.iconst 0, 1) := by decide +kernel
theorem dX3_pass_48 : decode cX3_pass 48 = .ok (.aload 4, 2) := by decide +kernel
theorem dX3_pass_50 : decode cX3_pass 50 = .ok (.iconst 2, 1) := by decide +kernel
theorem dX3_pass_51 : decode cX3_pass 51 = .ok (.iaload, 1) := by decide +kernel
theorem dX3_pass_52 : decode cX3_pass 52 = .ok (.aload_n 0, 1) := by decide +kernel
theorem dX3_pass_53 : decode cX3_pass 53 = .ok (.getfield 3, 3) := by decide +kernel
theorem dX3_pass_56 : decode cX3_pass 56 = .ok (.getfield 112, 3) := by decide +kernel
theorem dX3_pass_59 : decode cX3_pass 59 = .ok (.aload_n 0, 1) := by decide +kernel
theorem dX3_pass_60 : decode cX3_pass 60 = .ok (.getfield 46, 3) := by decide +kernel
theorem dX3_pass_63 : decode cX3_pass 63 = .ok (.bipush 7, 2) := by decide +kernel
theorem dX3_pass_65 : decode cX3_pass 65 = .ok (.irem, 1) := by decide +kernel
theorem dX3_pass_66 : decode cX3_pass 66 = .ok (.iaload, 1) := by decide +kernel
theorem dX3_pass_67 : decode cX3_pass 67 = .ok (.isub, 1) := by decide +kernel
theorem dX3_pass_68 : decode cX3_pass 68 = .ok (.invokestatic 102, 3) := by decide +kernel
theorem dX3_pass_71 : decode cX3_pass 71 = .ok (.iastore, 1) := by decide +kernel
theorem dX3_pass_72 : decode cX3_pass 72 = .ok (.iinc 3 1, 3) := by decide +kernel
theorem dX3_pass_75 : decode cX3_pass 75 = .ok (.goto (-41), 3) := by decide +kernel
theorem dX3_pass_78 : decode cX3_pass 78 = .ok (.aload_n 0, 1) := by decide +kernel
theorem dX3_pass_79 : decode cX3_pass 79 = .ok (.invokevirtual 115, 3) := by decide +kernel
theorem dX3_pass_82 : decode cX3_pass 82 = .ok (.aload_n 0, 1) := by decide +kernel
theorem dX3_pass_83 : decode cX3_pass 83 = .ok (.dup, 1) := by decide +kernel
theorem dX3_pass_84 : decode cX3_pass 84 = .ok (.getfield 46, 3) := by decide +kernel
theorem dX3_pass_87 : decode cX3_pass 87 = .ok (.iconst 1, 1) := by decide +kernel
theorem dX3_pass_88 : decode cX3_pass 88 = .ok (.iadd, 1) := by decide +kernel
theorem dX3_pass_89 : decode cX3_pass 89 = .ok (.putfield 46, 3) := by decide +kernel
theorem dX3_pass_92 : decode cX3_pass 92 = .ok (.return_, 1) := by decide +kernel
theorem dX3_pass__0 : decode cX3_pass_ 0 = .ok (.iconst 0, 1) := by decide +kernel
theorem dX3_pass__1 : decode cX3_pass_ 1 = .ok (.istore_n 2, 1) := by decide +kernel
theorem dX3_pass__2 : decode cX3_pass_ 2 = .ok (.iload_n 2, 1) := by decide +kernel
theorem dX3_pass__3 : decode cX3_pass_ 3 = .ok (.iload_n 1, 1) := by decide +kernel
theorem dX3_pass__4 : decode cX3_pass_ 4 = .ok (.if_icmp .ge 13, 3) := by decide +kernel
theorem dX3_pass__7 : decode cX3_pass_ 7 = .ok (.aload_n 0, 1) := by decide +kernel
theorem dX3_pass__8 : decode cX3_pass_ 8 = .ok (.invokevirtual 118, 3) := by decide +kernel
theorem dX3_pass__11 : decode cX3_pass_ 11 = .ok (.iinc 2 1, 3) := by decide +kernel
theorem dX3_pass__14 : decode cX3_pass_ 14 = .ok (.goto (-12), 3) := by decide +kernel
theorem dX3_pass__17 : decode cX3_pass_ 17 = .ok (.return_, 1) := by decide +kernel
theorem dX3_takeBatch_0 : decode cX3_takeBatch 0 = .ok (.aload_n 0, 1) := by decide +kernel
theorem dX3_takeBatch_1 : decode cX3_takeBatch 1 = .ok (.dup, 1) := by decide +kernel
theorem dX3_takeBatch_2 : decode cX3_takeBatch 2 = .ok (.getfield 61, 3) := by decide +kernel
theorem dX3_takeBatch_5 : decode cX3_takeBatch 5 = .ok (.iconst 1, 1) := by decide +kernel
theorem dX3_takeBatch_6 : decode cX3_takeBatch 6 = .ok (.isub, 1) := by decide +kernel
theorem dX3_takeBatch_7 : decode cX3_takeBatch 7 = .ok (.putfield 61, 3) := by decide +kernel
theorem dX3_takeBatch_10 : decode cX3_takeBatch 10 = .ok (.iload_n 1, 1) := by decide +kernel
theorem dX3_takeBatch_11 : decode cX3_takeBatch 11 = .ok (.istore_n 2, 1) := by decide +kernel
theorem dX3_takeBatch_12 : decode cX3_takeBatch 12 = .ok (.iload_n 2, 1) := by decide +kernel
theorem dX3_takeBatch_13 : decode cX3_takeBatch 13 = .ok (.aload_n 0, 1) := by decide +kernel
theorem dX3_takeBatch_14 : decode cX3_takeBatch 14 = .ok (.getfield 61, 3) := by decide +kernel
theorem dX3_takeBatch_17 : decode cX3_takeBatch 17 = .ok (.if_icmp .ge 59, 3) := by decide +kernel
theorem dX3_takeBatch_20 : decode cX3_takeBatch 20 = .ok (.aload_n 0, 1) := by decide +kernel
theorem dX3_takeBatch_21 : decode cX3_takeBatch 21 = .ok (.aload_n 0, 1) := by decide +kernel
theorem dX3_takeBatch_22 : decode cX3_takeBatch 22 = .ok (.getfield 34, 3) := by decide +kernel
theorem dX3_takeBatch_25 : decode cX3_takeBatch 25 = .ok (.iload_n 2, 1) := by decide +kernel
theorem dX3_takeBatch_26 : decode cX3_takeBatch 26 = .ok (.aaload, 1) := by decide +kernel
theorem dX3_takeBatch_27 : decode cX3_takeBatch 27 = .ok (.aload_n 0, 1) := by decide +kernel
theorem dX3_takeBatch_28 : decode cX3_takeBatch 28 = .ok (.getfield 34, 3) := by decide +kernel
theorem dX3_takeBatch_31 : decode cX3_takeBatch 31 = .ok (.iload_n 2, 1) := by decide +kernel
theorem dX3_takeBatch_32 : decode cX3_takeBatch 32 = .ok (.iconst 1, 1) := by decide +kernel
theorem dX3_takeBatch_33 : decode cX3_takeBatch 33 = .ok (.iadd, 1) := by decide +kernel
theorem dX3_takeBatch_34 : decode cX3_takeBatch 34 = .ok (.aaload, 1) := by decide +kernel
theorem dX3_takeBatch_35 : decode cX3_takeBatch 35 = .ok (.iconst 0, 1) := by decide +kernel
theorem dX3_takeBatch_36 : decode cX3_takeBatch 36 = .ok (.iaload, 1) := by decide +kernel
theorem dX3_takeBatch_37 : decode cX3_takeBatch 37 = .ok (.aload_n 0, 1) := by decide +kernel
theorem dX3_takeBatch_38 : decode cX3_takeBatch 38 = .ok (.getfield 34, 3) := by decide +kernel
theorem dX3_takeBatch_41 : decode cX3_takeBatch 41 = .ok (.iload_n 2, 1) := by decide +kernel
theorem dX3_takeBatch_42 : decode cX3_takeBatch 42 = .ok (.iconst 1, 1) := by decide +kernel
theorem dX3_takeBatch_43 : decode cX3_takeBatch 43 = .ok (.iadd, 1) := by decide +kernel
theorem dX3_takeBatch_44 : decode cX3_takeBatch 44 = .ok (.aaload, 1) := by decide +kernel
theorem dX3_takeBatch_45 : decode cX3_takeBatch 45 = .ok (.iconst 1, 1) := by decide +kernel
theorem dX3_takeBatch_46 : decode cX3_takeBatch 46 = .ok (.iaload, 1) := by decide +kernel
theorem dX3_takeBatch_47 : decode cX3_takeBatch 47 = .ok (.aload_n 0, 1) := by decide +kernel
theorem dX3_takeBatch_48 : decode cX3_takeBatch 48 = .ok (.getfield 34, 3) := by decide +kernel
theorem dX3_takeBatch_51 : decode cX3_takeBatch 51 = .ok (.iload_n 2, 1) := by decide +kernel
theorem dX3_takeBatch_52 : decode cX3_takeBatch 52 = .ok (.iconst 1, 1) := by decide +kernel
theorem dX3_takeBatch_53 : decode cX3_takeBatch 53 = .ok (.iadd, 1) := by decide +kernel
theorem dX3_takeBatch_54 : decode cX3_takeBatch 54 = .ok (.aaload, 1) := by decide +kernel
theorem dX3_takeBatch_55 : decode cX3_takeBatch 55 = .ok (.iconst 2, 1) := by decide +kernel
theorem dX3_takeBatch_56 : decode cX3_takeBatch 56 = .ok (.iaload, 1) := by decide +kernel
theorem dX3_takeBatch_57 : decode cX3_takeBatch 57 = .ok (.aload_n 0, 1) := by decide +kernel
theorem dX3_takeBatch_58 : decode cX3_takeBatch 58 = .ok (.getfield 34, 3) := by decide +kernel
theorem dX3_takeBatch_61 : decode cX3_takeBatch 61 = .ok (.iload_n 2, 1) := by decide +kernel
theorem dX3_takeBatch_62 : decode cX3_takeBatch 62 = .ok (.iconst 1, 1) := by decide +kernel
theorem dX3_takeBatch_63 : decode cX3_takeBatch 63 = .ok (.iadd, 1) := by decide +kernel
theorem dX3_takeBatch_64 : decode cX3_takeBatch 64 = .ok (.aaload, 1) := by decide +kernel
theorem dX3_takeBatch_65 : decode cX3_takeBatch 65 = .ok (.iconst 3, 1) := by decide +kernel
theorem dX3_takeBatch_66 : decode cX3_takeBatch 66 = .ok (.iaload, 1) := by decide +kernel
theorem dX3_takeBatch_67 : decode cX3_takeBatch 67 = .ok (.invokevirtual 98, 3) := by decide +kernel
theorem dX3_takeBatch_70 : decode cX3_takeBatch 70 = .ok (.iinc 2 1, 3) := by decide +kernel
theorem dX3_takeBatch_73 : decode cX3_takeBatch 73 = .ok (.goto (-61), 3) := by decide +kernel
theorem dX3_takeBatch_76 : decode cX3_takeBatch 76 = .ok (.return_, 1) := by decide +kernel
theorem dX3_breaks_0 : decode cX3_breaks 0 = .ok (.aload_n 0, 1) := by decide +kernel
theorem dX3_breaks_1 : decode cX3_breaks 1 = .ok (.iload_n 1, 1) := by decide +kernel
theorem dX3_breaks_2 : decode cX3_breaks 2 = .ok (.invokevirtual 121, 3) := by decide +kernel
theorem dX3_breaks_5 : decode cX3_breaks 5 = .ok (.astore_n 3, 1) := by decide +kernel
theorem dX3_breaks_6 : decode cX3_breaks 6 = .ok (.iconst 4, 1) := by decide +kernel
theorem dX3_breaks_7 : decode cX3_breaks 7 = .ok (.iload_n 2, 1) := by decide +kernel
theorem dX3_breaks_8 : decode cX3_breaks 8 = .ok (.imul, 1) := by decide +kernel
theorem dX3_breaks_9 : decode cX3_breaks 9 = .ok (.bipush 20, 2) := by decide +kernel
theorem dX3_breaks_11 : decode cX3_breaks 11 = .ok (.isub, 1) := by decide +kernel
theorem dX3_breaks_12 : decode cX3_breaks 12 = .ok (.iconst 2, 1) := by decide +kernel
theorem dX3_breaks_13 : decode cX3_breaks 13 = .ok (.aload_n 3, 1) := by decide +kernel
theorem dX3_breaks_14 : decode cX3_breaks 14 = .ok (.iconst 0, 1) := by decide +kernel
theorem dX3_breaks_15 : decode cX3_breaks 15 = .ok (.iaload, 1) := by decide +kernel
theorem dX3_breaks_16 : decode cX3_breaks 16 = .ok (.imul, 1) := by decide +kernel
theorem dX3_breaks_17 : decode cX3_breaks 17 = .ok (.isub, 1) := by decide +kernel
theorem dX3_breaks_18 : decode cX3_breaks 18 = .ok (.invokestatic 125, 3) := by decide +kernel
theorem dX3_breaks_21 : decode cX3_breaks 21 = .ok (.iconst 2, 1) := by decide +kernel
theorem dX3_breaks_22 : decode cX3_breaks 22 = .ok (.idiv, 1) := by decide +kernel
theorem dX3_breaks_23 : decode cX3_breaks 23 = .ok (.istore 4, 2) := by decide +kernel
theorem dX3_breaks_25 : decode cX3_breaks 25 = .ok (.bipush 100, 2) := by decide +kernel
theorem dX3_breaks_27 : decode cX3_breaks 27 = .ok (.bipush 8, 2) := by decide +kernel
theorem dX3_breaks_29 : decode cX3_breaks 29 = .ok (.aload_n 3, 1) := by decide +kernel
theorem dX3_breaks_30 : decode cX3_breaks 30 = .ok (.iconst 2, 1) := by decide +kernel
theorem dX3_breaks_31 : decode cX3_breaks 31 = .ok (.iaload, 1) := by decide +kernel
theorem dX3_breaks_32 : decode cX3_breaks 32 = .ok (.imul, 1) := by decide +kernel
theorem dX3_breaks_33 : decode cX3_breaks 33 = .ok (.iconst 2, 1) := by decide +kernel
theorem dX3_breaks_34 : decode cX3_breaks 34 = .ok (.aload_n 3, 1) := by decide +kernel
theorem dX3_breaks_35 : decode cX3_breaks 35 = .ok (.iconst 3, 1) := by decide +kernel
theorem dX3_breaks_36 : decode cX3_breaks 36 = .ok (.iaload, 1) := by decide +kernel
theorem dX3_breaks_37 : decode cX3_breaks 37 = .ok (.imul, 1) := by decide +kernel
theorem dX3_breaks_38 : decode cX3_breaks 38 = .ok (.iadd, 1) := by decide +kernel
theorem dX3_breaks_39 : decode cX3_breaks 39 = .ok (.iload 4, 2) := by decide +kernel
theorem dX3_breaks_41 : decode cX3_breaks 41 = .ok (.iadd, 1) := by decide +kernel
theorem dX3_breaks_42 : decode cX3_breaks 42 = .ok (.iload_n 1, 1) := by decide +kernel
theorem dX3_breaks_43 : decode cX3_breaks 43 = .ok (.ifCond .eq 8, 3) := by decide +kernel
theorem dX3_breaks_46 : decode cX3_breaks 46 = .ok (.iload_n 1, 1) := by decide +kernel
theorem dX3_breaks_47 : decode cX3_breaks 47 = .ok (.iconst 5, 1) := by decide +kernel
theorem dX3_breaks_48 : decode cX3_breaks 48 = .ok (.if_icmp .ne 7, 3) := by decide +kernel
theorem dX3_breaks_51 : decode cX3_breaks 51 = .ok (.iconst 5, 1) := by decide +kernel
theorem dX3_breaks_52 : decode cX3_breaks 52 = .ok (.goto 4, 3) := by decide +kernel
theorem dX3_breaks_55 : decode cX3_breaks 55 = .ok (.iconst 0, 1) := by decide +kernel
theorem dX3_breaks_56 : decode cX3_breaks 56 = .ok (.iadd, 1) := by decide +kernel
theorem dX3_breaks_57 : decode cX3_breaks 57 = .ok (.invokestatic 86, 3) := by decide +kernel
theorem dX3_breaks_60 : decode cX3_breaks 60 = .ok (.istore 5, 2) := by decide +kernel
theorem dX3_breaks_62 : decode cX3_breaks 62 = .ok (.aload_n 3, 1) := by decide +kernel
theorem dX3_breaks_63 : decode cX3_breaks 63 = .ok (.iconst 1, 1) := by decide +kernel
theorem dX3_breaks_64 : decode cX3_breaks 64 = .ok (.iaload, 1) := by decide +kernel
theorem dX3_breaks_65 : decode cX3_breaks 65 = .ok (.iload 5, 2) := by decide +kernel
theorem dX3_breaks_67 : decode cX3_breaks 67 = .ok (.imul, 1) := by decide +kernel
theorem dX3_breaks_68 : decode cX3_breaks 68 = .ok (.bipush 99, 2) := by decide +kernel
theorem dX3_breaks_70 : decode cX3_breaks 70 = .ok (.iadd, 1) := by decide +kernel
theorem dX3_breaks_71 : decode cX3_breaks 71 = .ok (.bipush 100, 2) := by decide +kernel
theorem dX3_breaks_73 : decode cX3_breaks 73 = .ok (.idiv, 1) := by decide +kernel
theorem dX3_breaks_74 : decode cX3_breaks 74 = .ok (.ireturn, 1) := by decide +kernel
theorem dX3_pipes_0 : decode cX3_pipes 0 = .ok (.iconst 0, 1) := by decide +kernel
theorem dX3_pipes_1 : decode cX3_pipes 1 = .ok (.istore_n 3, 1) := by decide +kernel
theorem dX3_pipes_2 : decode cX3_pipes 2 = .ok (.iload_n 1, 1) := by decide +kernel
theorem dX3_pipes_3 : decode cX3_pipes 3 = .ok (.istore 4, 2) := by decide +kernel
theorem dX3_pipes_5 : decode cX3_pipes 5 = .ok (.iload 4, 2) := by decide +kernel
theorem dX3_pipes_7 : decode cX3_pipes 7 = .ok (.iload_n 2, 1) := by decide +kernel
theorem dX3_pipes_8 : decode cX3_pipes 8 = .ok (.if_icmp .ge 21, 3) := by decide +kernel
theorem dX3_pipes_11 : decode cX3_pipes 11 = .ok (.iload_n 3, 1) := by decide +kernel
theorem dX3_pipes_12 : decode cX3_pipes 12 = .ok (.aload_n 0, 1) := by decide +kernel
theorem dX3_pipes_13 : decode cX3_pipes 13 = .ok (.getfield 34, 3) := by decide +kernel
theorem dX3_pipes_16 : decode cX3_pipes 16 = .ok (.iload 4, 2) := by decide +kernel
theorem dX3_pipes_18 : decode cX3_pipes 18 = .ok (.aaload, 1) := by decide +kernel
theorem dX3_pipes_19 : decode cX3_pipes 19 = .ok (.iconst 1, 1) := by decide +kernel
theorem dX3_pipes_20 : decode cX3_pipes 20 = .ok (.iaload, 1) := by decide +kernel
theorem dX3_pipes_21 : decode cX3_pipes 21 = .ok (.iadd, 1) := by decide +kernel
theorem dX3_pipes_22 : decode cX3_pipes 22 = .ok (.istore_n 3, 1) := by decide +kernel
theorem dX3_pipes_23 : decode cX3_pipes 23 = .ok (.iinc 4 1, 3) := by decide +kernel
theorem dX3_pipes_26 : decode cX3_pipes 26 = .ok (.goto (-21), 3) := by decide +kernel
theorem dX3_pipes_29 : decode cX3_pipes 29 = .ok (.iload_n 3, 1) := by decide +kernel
theorem dX3_pipes_30 : decode cX3_pipes 30 = .ok (.ireturn, 1) := by decide +kernel
theorem dX3_inSaggars_0 : decode cX3_inSaggars 0 = .ok (.aload_n 0, 1) := by decide +kernel
theorem dX3_inSaggars_1 : decode cX3_inSaggars 1 = .ok (.bipush 10, 2) := by decide +kernel
theorem dX3_inSaggars_3 : decode cX3_inSaggars 3 = .ok (.bipush 16, 2) := by decide +kernel
theorem dX3_inSaggars_5 : decode cX3_inSaggars 5 = .ok (.invokevirtual 128, 3) := by decide +kernel
theorem dX3_inSaggars_8 : decode cX3_inSaggars 8 = .ok (.ireturn, 1) := by decide +kernel
theorem dX3_stored_0 : decode cX3_stored 0 = .ok (.iconst 0, 1) := by decide +kernel
theorem dX3_stored_1 : decode cX3_stored 1 = .ok (.istore_n 1, 1) := by decide +kernel
theorem dX3_stored_2 : decode cX3_stored 2 = .ok (.aload_n 0, 1) := by decide +kernel
theorem dX3_stored_3 : decode cX3_stored 3 = .ok (.getfield 37, 3) := by decide +kernel
theorem dX3_stored_6 : decode cX3_stored 6 = .ok (.astore_n 2, 1) := by decide +kernel
theorem dX3_stored_7 : decode cX3_stored 7 = .ok (.aload_n 2, 1) := by decide +kernel
theorem dX3_stored_8 : decode cX3_stored 8 = .ok (.arraylength, 1) := by decide +kernel
theorem dX3_stored_9 : decode cX3_stored 9 = .ok (.istore_n 3, 1) := by decide +kernel
theorem dX3_stored_10 : decode cX3_stored 10 = .ok (.iconst 0, 1) := by decide +kernel
theorem dX3_stored_11 : decode cX3_stored 11 = .ok (.istore 4, 2) := by decide +kernel
theorem dX3_stored_13 : decode cX3_stored 13 = .ok (.iload 4, 2) := by decide +kernel
theorem dX3_stored_15 : decode cX3_stored 15 = .ok (.iload_n 3, 1) := by decide +kernel
theorem dX3_stored_16 : decode cX3_stored 16 = .ok (.if_icmp .ge 20, 3) := by decide +kernel
theorem dX3_stored_19 : decode cX3_stored 19 = .ok (.aload_n 2, 1) := by decide +kernel
theorem dX3_stored_20 : decode cX3_stored 20 = .ok (.iload 4, 2) := by decide +kernel
theorem dX3_stored_22 : decode cX3_stored 22 = .ok (.iaload, 1) := by decide +kernel
theorem dX3_stored_23 : decode cX3_stored 23 = .ok (.istore 5, 2) := by decide +kernel
theorem dX3_stored_25 : decode cX3_stored 25 = .ok (.iload_n 1, 1) := by decide +kernel
theorem dX3_stored_26 : decode cX3_stored 26 = .ok (.iload 5, 2) := by decide +kernel
theorem dX3_stored_28 : decode cX3_stored 28 = .ok (.iadd, 1) := by decide +kernel
theorem dX3_stored_29 : decode cX3_stored 29 = .ok (.istore_n 1, 1) := by decide +kernel
theorem dX3_stored_30 : decode cX3_stored 30 = .ok (.iinc 4 1, 3) := by decide +kernel
theorem dX3_stored_33 : decode cX3_stored 33 = .ok (.goto (-20), 3) := by decide +kernel
theorem dX3_stored_36 : decode cX3_stored 36 = .ok (.iload_n 1, 1) := by decide +kernel
theorem dX3_stored_37 : decode cX3_stored 37 = .ok (.ireturn, 1) := by decide +kernel
theorem dX3_counted_0 : decode cX3_counted 0 = .ok (.bipush 12, 2) := by decide +kernel
theorem dX3_counted_2 : decode cX3_counted 2 = .ok (.newarray .int, 2) := by decide +kernel
theorem dX3_counted_4 : decode cX3_counted 4 = .ok (.dup, 1) := by decide +kernel
theorem dX3_counted_5 : decode cX3_counted 5 = .ok (.iconst 0, 1) := by decide +kernel
theorem dX3_counted_6 : decode cX3_counted 6 = .ok (.aload_n 0, 1) := by decide +kernel
theorem dX3_counted_7 : decode cX3_counted 7 = .ok (.getfield 46, 3) := by decide +kernel
theorem dX3_counted_10 : decode cX3_counted 10 = .ok (.iastore, 1) := by decide +kernel
theorem dX3_counted_11 : decode cX3_counted 11 = .ok (.dup, 1) := by decide +kernel
theorem dX3_counted_12 : decode cX3_counted 12 = .ok (.iconst 1, 1) := by decide +kernel
theorem dX3_counted_13 : decode cX3_counted 13 = .ok (.aload_n 0, 1) := by decide +kernel
theorem dX3_counted_14 : decode cX3_counted 14 = .ok (.getfield 15, 3) := by decide +kernel
theorem dX3_counted_17 : decode cX3_counted 17 = .ok (.iastore, 1) := by decide +kernel
theorem dX3_counted_18 : decode cX3_counted 18 = .ok (.dup, 1) := by decide +kernel
theorem dX3_counted_19 : decode cX3_counted 19 = .ok (.iconst 2, 1) := by decide +kernel
theorem dX3_counted_20 : decode cX3_counted 20 = .ok (.aload_n 0, 1) := by decide +kernel
theorem dX3_counted_21 : decode cX3_counted 21 = .ok (.getfield 19, 3) := by decide +kernel
theorem dX3_counted_24 : decode cX3_counted 24 = .ok (.iastore, 1) := by decide +kernel
theorem dX3_counted_25 : decode cX3_counted 25 = .ok (.dup, 1) := by decide +kernel
theorem dX3_counted_26 : decode cX3_counted 26 = .ok (.iconst 3, 1) := by decide +kernel
theorem dX3_counted_27 : decode cX3_counted 27 = .ok (.aload_n 0, 1) := by decide +kernel
theorem dX3_counted_28 : decode cX3_counted 28 = .ok (.getfield 22, 3) := by decide +kernel
theorem dX3_counted_31 : decode cX3_counted 31 = .ok (.iastore, 1) := by decide +kernel
theorem dX3_counted_32 : decode cX3_counted 32 = .ok (.dup, 1) := by decide +kernel
theorem dX3_counted_33 : decode cX3_counted 33 = .ok (.iconst 4, 1) := by decide +kernel
theorem dX3_counted_34 : decode cX3_counted 34 = .ok (.aload_n 0, 1) := by decide +kernel
theorem dX3_counted_35 : decode cX3_counted 35 = .ok (.getfield 49, 3) := by decide +kernel
theorem dX3_counted_38 : decode cX3_counted 38 = .ok (.iastore, 1) := by decide +kernel
theorem dX3_counted_39 : decode cX3_counted 39 = .ok (.dup, 1) := by decide +kernel
theorem dX3_counted_40 : decode cX3_counted 40 = .ok (.iconst 5, 1) := by decide +kernel
theorem dX3_counted_41 : decode cX3_counted 41 = .ok (.aload_n 0, 1) := by decide +kernel
theorem dX3_counted_42 : decode cX3_counted 42 = .ok (.getfield 52, 3) := by decide +kernel
theorem dX3_counted_45 : decode cX3_counted 45 = .ok (.iastore, 1) := by decide +kernel
theorem dX3_counted_46 : decode cX3_counted 46 = .ok (.dup, 1) := by decide +kernel
theorem dX3_counted_47 : decode cX3_counted 47 = .ok (.bipush 6, 2) := by decide +kernel
theorem dX3_counted_49 : decode cX3_counted 49 = .ok (.aload_n 0, 1) := by decide +kernel
theorem dX3_counted_50 : decode cX3_counted 50 = .ok (.iconst 0, 1) := by decide +kernel
theorem dX3_counted_51 : decode cX3_counted 51 = .ok (.aload_n 0, 1) := by decide +kernel
theorem dX3_counted_52 : decode cX3_counted 52 = .ok (.getfield 61, 3) := by decide +kernel
theorem dX3_counted_55 : decode cX3_counted 55 = .ok (.invokevirtual 128, 3) := by decide +kernel
theorem dX3_counted_58 : decode cX3_counted 58 = .ok (.iastore, 1) := by decide +kernel
theorem dX3_counted_59 : decode cX3_counted 59 = .ok (.dup, 1) := by decide +kernel
theorem dX3_counted_60 : decode cX3_counted 60 = .ok (.bipush 7, 2) := by decide +kernel
theorem dX3_counted_62 : decode cX3_counted 62 = .ok (.aload_n 0, 1) := by decide +kernel
theorem dX3_counted_63 : decode cX3_counted 63 = .ok (.invokevirtual 131, 3) := by decide +kernel
theorem dX3_counted_66 : decode cX3_counted 66 = .ok (.iastore, 1) := by decide +kernel
theorem dX3_counted_67 : decode cX3_counted 67 = .ok (.dup, 1) := by decide +kernel
theorem dX3_counted_68 : decode cX3_counted 68 = .ok (.bipush 8, 2) := by decide +kernel
theorem dX3_counted_70 : decode cX3_counted 70 = .ok (.aload_n 0, 1) := by decide +kernel
theorem dX3_counted_71 : decode cX3_counted 71 = .ok (.invokevirtual 135, 3) := by decide +kernel
theorem dX3_counted_74 : decode cX3_counted 74 = .ok (.iastore, 1) := by decide +kernel
theorem dX3_counted_75 : decode cX3_counted 75 = .ok (.dup, 1) := by decide +kernel
theorem dX3_counted_76 : decode cX3_counted 76 = .ok (.bipush 9, 2) := by decide +kernel
theorem dX3_counted_78 : decode cX3_counted 78 = .ok (.aload_n 0, 1) := by decide +kernel
theorem dX3_counted_79 : decode cX3_counted 79 = .ok (.getfield 64, 3) := by decide +kernel
theorem dX3_counted_82 : decode cX3_counted 82 = .ok (.iastore, 1) := by decide +kernel
theorem dX3_counted_83 : decode cX3_counted 83 = .ok (.dup, 1) := by decide +kernel
theorem dX3_counted_84 : decode cX3_counted 84 = .ok (.bipush 10, 2) := by decide +kernel
theorem dX3_counted_86 : decode cX3_counted 86 = .ok (.aload_n 0, 1) := by decide +kernel
theorem dX3_counted_87 : decode cX3_counted 87 = .ok (.getfield 55, 3) := by decide +kernel
theorem dX3_counted_90 : decode cX3_counted 90 = .ok (.iastore, 1) := by decide +kernel
theorem dX3_counted_91 : decode cX3_counted 91 = .ok (.dup, 1) := by decide +kernel
theorem dX3_counted_92 : decode cX3_counted 92 = .ok (.bipush 11, 2) := by decide +kernel
theorem dX3_counted_94 : decode cX3_counted 94 = .ok (.aload_n 0, 1) := by decide +kernel
theorem dX3_counted_95 : decode cX3_counted 95 = .ok (.getfield 58, 3) := by decide +kernel
theorem dX3_counted_98 : decode cX3_counted 98 = .ok (.iastore, 1) := by decide +kernel
theorem dX3_counted_99 : decode cX3_counted 99 = .ok (.astore_n 2, 1) := by decide +kernel
theorem dX3_counted_100 : decode cX3_counted 100 = .ok (.aload_n 2, 1) := by decide +kernel
theorem dX3_counted_101 : decode cX3_counted 101 = .ok (.iload_n 1, 1) := by decide +kernel
theorem dX3_counted_102 : decode cX3_counted 102 = .ok (.iaload, 1) := by decide +kernel
theorem dX3_counted_103 : decode cX3_counted 103 = .ok (.ireturn, 1) := by decide +kernel
