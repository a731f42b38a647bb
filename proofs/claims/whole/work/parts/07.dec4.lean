theorem dX4_init_0 : decode cX4_init 0 = .ok (.aload_n 0, 1) := by decide +kernel
theorem dX4_init_1 : decode cX4_init 1 = .ok (.invokespecial 1, 3) := by decide +kernel
theorem dX4_init_4 : decode cX4_init 4 = .ok (.aload_n 0, 1) := by decide +kernel
theorem dX4_init_5 : decode cX4_init 5 = .ok (.bipush 7, 2) := by decide +kernel
theorem dX4_init_7 : decode cX4_init 7 = .ok (.newarray .int, 2) := by decide +kernel
theorem dX4_init_9 : decode cX4_init 9 = .ok (.dup, 1) := by decide +kernel
theorem dX4_init_10 : decode cX4_init 10 = .ok (.iconst 0, 1) := by decide +kernel
theorem dX4_init_11 : decode cX4_init 11 = .ok (.iconst 1, 1) := by decide +kernel
theorem dX4_init_12 : decode cX4_init 12 = .ok (.iastore, 1) := by decide +kernel
theorem dX4_init_13 : decode cX4_init 13 = .ok (.dup, 1) := by decide +kernel
theorem dX4_init_14 : decode cX4_init 14 = .ok (.iconst 1, 1) := by decide +kernel
theorem dX4_init_15 : decode cX4_init 15 = .ok (.iconst 1, 1) := by decide +kernel
theorem dX4_init_16 : decode cX4_init 16 = .ok (.iastore, 1) := by decide +kernel
theorem dX4_init_17 : decode cX4_init 17 = .ok (.dup, 1) := by decide +kernel
theorem dX4_init_18 : decode cX4_init 18 = .ok (.iconst 2, 1) := by decide +kernel
theorem dX4_init_19 : decode cX4_init 19 = .ok (.iconst 1, 1) := by decide +kernel
theorem dX4_init_20 : decode cX4_init 20 = .ok (.iastore, 1) := by decide +kernel
theorem dX4_init_21 : decode cX4_init 21 = .ok (.dup, 1) := by decide +kernel
theorem dX4_init_22 : decode cX4_init 22 = .ok (.iconst 3, 1) := by decide +kernel
theorem dX4_init_23 : decode cX4_init 23 = .ok (.iconst 1, 1) := by decide +kernel
theorem dX4_init_24 : decode cX4_init 24 = .ok (.iastore, 1) := by decide +kernel
theorem dX4_init_25 : decode cX4_init 25 = .ok (.dup, 1) := by decide +kernel
theorem dX4_init_26 : decode cX4_init 26 = .ok (.iconst 4, 1) := by decide +kernel
theorem dX4_init_27 : decode cX4_init 27 = .ok (.iconst 1, 1) := by decide +kernel
theorem dX4_init_28 : decode cX4_init 28 = .ok (.iastore, 1) := by decide +kernel
theorem dX4_init_29 : decode cX4_init 29 = .ok (.dup, 1) := by decide +kernel
theorem dX4_init_30 : decode cX4_init 30 = .ok (.iconst 5, 1) := by decide +kernel
theorem dX4_init_31 : decode cX4_init 31 = .ok (.iconst 1, 1) := by decide +kernel
theorem dX4_init_32 : decode cX4_init 32 = .ok (.iastore, 1) := by decide +kernel
theorem dX4_init_33 : decode cX4_init 33 = .ok (.dup, 1) := by decide +kernel
theorem dX4_init_34 : decode cX4_init 34 = .ok (.bipush 6, 2) := by decide +kernel
theorem dX4_init_36 : decode cX4_init 36 = .ok (.iconst 1, 1) := by decide +kernel
theorem dX4_init_37 : decode cX4_init 37 = .ok (.iastore, 1) := by decide +kernel
theorem dX4_init_38 : decode cX4_init 38 = .ok (.putfield 7, 3) := by decide +kernel
theorem dX4_init_41 : decode cX4_init 41 = .ok (.aload_n 0, 1) := by decide +kernel
theorem dX4_init_42 : decode cX4_init 42 = .ok (.bipush 6, 2) := by decide +kernel
theorem dX4_init_44 : decode cX4_init 44 = .ok (.newarray .int, 2) := by decide +kernel
theorem dX4_init_46 : decode cX4_init 46 = .ok (.putfield 13, 3) := by decide +kernel
theorem dX4_init_49 : decode cX4_init 49 = .ok (.aload_n 0, 1) := by decide +kernel
theorem dX4_init_50 : decode cX4_init 50 = .ok (.iconst 5, 1) := by decide +kernel
theorem dX4_init_51 : decode cX4_init 51 = .ok (.newarray .int, 2) := by decide +kernel
theorem dX4_init_53 : decode cX4_init 53 = .ok (.putfield 16, 3) := by decide +kernel
theorem dX4_init_56 : decode cX4_init 56 = .ok (.aload_n 0, 1) := by decide +kernel
theorem dX4_init_57 : decode cX4_init 57 = .ok (.iconst 5, 1) := by decide +kernel
theorem dX4_init_58 : decode cX4_init 58 = .ok (.newarray .int, 2) := by decide +kernel
theorem dX4_init_60 : decode cX4_init 60 = .ok (.putfield 19, 3) := by decide +kernel
theorem dX4_init_63 : decode cX4_init 63 = .ok (.aload_n 0, 1) := by decide +kernel
theorem dX4_init_64 : decode cX4_init 64 = .ok (.new 22, 3) := by decide +kernel
theorem dX4_init_67 : decode cX4_init 67 = .ok (.dup, 1) := by decide +kernel
theorem dX4_init_68 : decode cX4_init 68 = .ok (.aload_n 0, 1) := by decide +kernel
theorem dX4_init_69 : decode cX4_init 69 = .ok (.invokespecial 24, 3) := by decide +kernel
theorem dX4_init_72 : decode cX4_init 72 = .ok (.putfield 27, 3) := by decide +kernel
theorem dX4_init_75 : decode cX4_init 75 = .ok (.aload_n 0, 1) := by decide +kernel
theorem dX4_init_76 : decode cX4_init 76 = .ok (.new 22, 3) := by decide +kernel
theorem dX4_init_79 : decode cX4_init 79 = .ok (.dup, 1) := by decide +kernel
theorem dX4_init_80 : decode cX4_init 80 = .ok (.aload_n 0, 1) := by decide +kernel
theorem dX4_init_81 : decode cX4_init 81 = .ok (.invokespecial 24, 3) := by decide +kernel
theorem dX4_init_84 : decode cX4_init 84 = .ok (.putfield 31, 3) := by decide +kernel
theorem dX4_init_87 : decode cX4_init 87 = .ok (.return_, 1) := by decide +kernel
theorem dX4_thrown_0 : decode cX4_thrown 0 = .ok (.aload_n 0, 1) := by decide +kernel
theorem dX4_thrown_1 : decode cX4_thrown 1 = .ok (.getfield 34, 3) := by decide +kernel
theorem dX4_thrown_4 : decode cX4_thrown 4 = .ok (.ireturn, 1) := by decide +kernel
theorem dX4_no_0 : decode cX4_no 0 = .ok (.aload_n 0, 1) := by decide +kernel
theorem dX4_no_1 : decode cX4_no 1 = .ok (.iload_n 1, 1) := by decide +kernel
theorem dX4_no_2 : decode cX4_no 2 = .ok (.putfield 34, 3) := by decide +kernel
theorem dX4_no_5 : decode cX4_no 5 = .ok (.iconst 0, 1) := by decide +kernel
theorem dX4_no_6 : decode cX4_no 6 = .ok (.ireturn, 1) := by decide +kernel
theorem dX4_isIn_0 : decode cX4_isIn 0 = .ok (.iload_n 0, 1) := by decide +kernel
theorem dX4_isIn_1 : decode cX4_isIn 1 = .ok (.iload_n 1, 1) := by decide +kernel
theorem dX4_isIn_2 : decode cX4_isIn 2 = .ok (.if_icmp .lt 12, 3) := by decide +kernel
theorem dX4_isIn_5 : decode cX4_isIn 5 = .ok (.iload_n 0, 1) := by decide +kernel
theorem dX4_isIn_6 : decode cX4_isIn 6 = .ok (.iload_n 2, 1) := by decide +kernel
theorem dX4_isIn_7 : decode cX4_isIn 7 = .ok (.if_icmp .gt 7, 3) := by decide +kernel
theorem dX4_isIn_10 : decode cX4_isIn 10 = .ok (.iconst 1, 1) := by decide +kernel
theorem dX4_isIn_11 : decode cX4_isIn 11 = .ok (.goto 4, 3) := by decide +kernel
theorem dX4_isIn_14 : decode cX4_isIn 14 = .ok (.iconst 0, 1) := by decide +kernel
theorem dX4_isIn_15 : decode cX4_isIn 15 = .ok (.ireturn, 1) := by decide +kernel
theorem dX4_isLength_0 : decode cX4_isLength 0 = .ok (.iload_n 0, 1) := by decide +kernel
theorem dX4_isLength_1 : decode cX4_isLength 1 = .ok (.iconst 4, 1) := by decide +kernel
theorem dX4_isLength_2 : decode cX4_isLength 2 = .ok (.bipush 24, 2) := by decide +kernel
theorem dX4_isLength_4 : decode cX4_isLength 4 = .ok (.invokestatic 38, 3) := by decide +kernel
theorem dX4_isLength_7 : decode cX4_isLength 7 = .ok (.ireturn, 1) := by decide +kernel
theorem dX4_isMould_0 : decode cX4_isMould 0 = .ok (.iload_n 1, 1) := by decide +kernel
theorem dX4_isMould_1 : decode cX4_isMould 1 = .ok (.iconst 0, 1) := by decide +kernel
theorem dX4_isMould_2 : decode cX4_isMould 2 = .ok (.aload_n 0, 1) := by decide +kernel
theorem dX4_isMould_3 : decode cX4_isMould 3 = .ok (.getfield 42, 3) := by decide +kernel
theorem dX4_isMould_6 : decode cX4_isMould 6 = .ok (.iconst 1, 1) := by decide +kernel
theorem dX4_isMould_7 : decode cX4_isMould 7 = .ok (.isub, 1) := by decide +kernel
theorem dX4_isMould_8 : decode cX4_isMould 8 = .ok (.invokestatic 38, 3) := by decide +kernel
theorem dX4_isMould_11 : decode cX4_isMould 11 = .ok (.ireturn, 1) := by decide +kernel
theorem dX4_isMaker_0 : decode cX4_isMaker 0 = .ok (.iload_n 1, 1) := by decide +kernel
theorem dX4_isMaker_1 : decode cX4_isMaker 1 = .ok (.iconst 0, 1) := by decide +kernel
theorem dX4_isMaker_2 : decode cX4_isMaker 2 = .ok (.aload_n 0, 1) := by decide +kernel
theorem dX4_isMaker_3 : decode cX4_isMaker 3 = .ok (.getfield 45, 3) := by decide +kernel
theorem dX4_isMaker_6 : decode cX4_isMaker 6 = .ok (.iconst 1, 1) := by decide +kernel
theorem dX4_isMaker_7 : decode cX4_isMaker 7 = .ok (.isub, 1) := by decide +kernel
theorem dX4_isMaker_8 : decode cX4_isMaker 8 = .ok (.invokestatic 38, 3) := by decide +kernel
theorem dX4_isMaker_11 : decode cX4_isMaker 11 = .ok (.ireturn, 1) := by decide +kernel
theorem dX4_isBatch_0 : decode cX4_isBatch 0 = .ok (.iload_n 1, 1) := by decide +kernel
theorem dX4_isBatch_1 : decode cX4_isBatch 1 = .ok (.iconst 0, 1) := by decide +kernel
theorem dX4_isBatch_2 : decode cX4_isBatch 2 = .ok (.aload_n 0, 1) := by decide +kernel
theorem dX4_isBatch_3 : decode cX4_isBatch 3 = .ok (.getfield 27, 3) := by decide +kernel
theorem dX4_isBatch_6 : decode cX4_isBatch 6 = .ok (.getfield 48, 3) := by decide +kernel
theorem dX4_isBatch_9 : decode cX4_isBatch 9 = .ok (.iconst 1, 1) := by decide +kernel
theorem dX4_isBatch_10 : decode cX4_isBatch 10 = .ok (.isub, 1) := by decide +kernel
theorem dX4_isBatch_11 : decode cX4_isBatch 11 = .ok (.invokestatic 38, 3) := by decide +kernel
theorem dX4_isBatch_14 : decode cX4_isBatch 14 = .ok (.ireturn, 1) := by decide +kernel
theorem dX4_isSaggar_0 : decode cX4_isSaggar 0 = .ok (.iload_n 0, 1) := by decide +kernel
theorem dX4_isSaggar_1 : decode cX4_isSaggar 1 = .ok (.iconst 0, 1) := by decide +kernel
theorem dX4_isSaggar_2 : decode cX4_isSaggar 2 = .ok (.iconst 5, 1) := by decide +kernel
theorem dX4_isSaggar_3 : decode cX4_isSaggar 3 = .ok (.invokestatic 38, 3) := by decide +kernel
theorem dX4_isSaggar_6 : decode cX4_isSaggar 6 = .ok (.ireturn, 1) := by decide +kernel
theorem dX4_clayOf_0 : decode cX4_clayOf 0 = .ok (.aload_n 0, 1) := by decide +kernel
theorem dX4_clayOf_1 : decode cX4_clayOf 1 = .ok (.getfield 13, 3) := by decide +kernel
theorem dX4_clayOf_4 : decode cX4_clayOf 4 = .ok (.iload_n 1, 1) := by decide +kernel
theorem dX4_clayOf_5 : decode cX4_clayOf 5 = .ok (.iaload, 1) := by decide +kernel
theorem dX4_clayOf_6 : decode cX4_clayOf 6 = .ok (.bipush 7, 2) := by decide +kernel
theorem dX4_clayOf_8 : decode cX4_clayOf 8 = .ok (.iadd, 1) := by decide +kernel
theorem dX4_clayOf_9 : decode cX4_clayOf 9 = .ok (.bipush 8, 2) := by decide +kernel
theorem dX4_clayOf_11 : decode cX4_clayOf 11 = .ok (.idiv, 1) := by decide +kernel
theorem dX4_clayOf_12 : decode cX4_clayOf 12 = .ok (.ireturn, 1) := by decide +kernel
theorem dX4_mould_0 : decode cX4_mould 0 = .ok (.aload_n 0, 1) := by decide +kernel
theorem dX4_mould_1 : decode cX4_mould 1 = .ok (.iconst 0, 1) := by decide +kernel
theorem dX4_mould_2 : decode cX4_mould 2 = .ok (.putfield 34, 3) := by decide +kernel
theorem dX4_mould_5 : decode cX4_mould 5 = .ok (.iload_n 1, 1) := by decide +kernel
theorem dX4_mould_6 : decode cX4_mould 6 = .ok (.invokestatic 51, 3) := by decide +kernel
theorem dX4_mould_9 : decode cX4_mould 9 = .ok (.ifCond .eq 13, 3) := by decide +kernel
theorem dX4_mould_12 : decode cX4_mould 12 = .ok (.iload_n 2, 1) := by decide +kernel
theorem dX4_mould_13 : decode cX4_mould 13 = .ok (.iconst 0, 1) := by decide +kernel
theorem dX4_mould_14 : decode cX4_mould 14 = .ok (.bipush 9, 2) := by decide +kernel
theorem dX4_mould_16 : decode cX4_mould 16 = .ok (.invokestatic 38, 3) := by decide +kernel
theorem dX4_mould_19 : decode cX4_mould 19 = .ok (.ifCond .ne 9, 3) := by decide +kernel
theorem dX4_mould_22 : decode cX4_mould 22 = .ok (.aload_n 0, 1) := by decide +kernel
theorem dX4_mould_23 : decode cX4_mould 23 = .ok (.iconst 1, 1) := by decide +kernel
theorem dX4_mould_24 : decode cX4_mould 24 = .ok (.invokevirtual 55, 3) := by decide +kernel
theorem dX4_mould_27 : decode cX4_mould 27 = .ok (.ireturn, 1) := by decide +kernel
theorem dX4_mould_28 : decode cX4_mould 28 = .ok (.aload_n 0, 1) := by decide +kernel
theorem dX4_mould_29 : decode cX4_mould 29 = .ok (.getfield 42, 3) := by decide +kernel
theorem dX4_mould_32 : decode cX4_mould 32 = .ok (.bipush 6, 2) := by decide +kernel
theorem dX4_mould_34 : decode cX4_mould 34 = .ok (.if_icmp .ne 9, 3) := by decide +kernel
theorem dX4_mould_37 : decode cX4_mould 37 = .ok (.aload_n 0, 1) := by decide +kernel
theorem dX4_mould_38 : decode cX4_mould 38 = .ok (.iconst 2, 1) := by decide +kernel
theorem dX4_mould_39 : decode cX4_mould 39 = .ok (.invokevirtual 55, 3) := by decide +kernel
theorem dX4_mould_42 : decode cX4_mould 42 = .ok (.ireturn, 1) := by decide +kernel
theorem dX4_mould_43 : decode cX4_mould 43 = .ok (.aload_n 0, 1) := by decide +kernel
theorem dX4_mould_44 : decode cX4_mould 44 = .ok (.getfield 13, 3) := by decide +kernel
theorem dX4_mould_47 : decode cX4_mould 47 = .ok (.aload_n 0, 1) := by decide +kernel
theorem dX4_mould_48 : decode cX4_mould 48 = .ok (.getfield 42, 3) := by decide +kernel
theorem dX4_mould_51 : decode cX4_mould 51 = .ok (.iload_n 1, 1) := by decide +kernel
theorem dX4_mould_52 : decode cX4_mould 52 = .ok (.iastore, 1) := by decide +kernel
theorem dX4_mould_53 : decode cX4_mould 53 = .ok (.aload_n 0, 1) := by decide +kernel
theorem dX4_mould_54 : decode cX4_mould 54 = .ok (.getfield 27, 3) := by decide +kernel
theorem dX4_mould_57 : decode cX4_mould 57 = .ok (.getfield 59, 3) := by decide +kernel
theorem dX4_mould_60 : decode cX4_mould 60 = .ok (.aload_n 0, 1) := by decide +kernel
theorem dX4_mould_61 : decode cX4_mould 61 = .ok (.getfield 42, 3) := by decide +kernel
theorem dX4_mould_64 : decode cX4_mould 64 = .ok (.iload_n 2, 1) := by decide +kernel
theorem dX4_mould_65 : decode cX4_mould 65 = .ok (.iastore, 1) := by decide +kernel
theorem dX4_mould_66 : decode cX4_mould 66 = .ok (.aload_n 0, 1) := by decide +kernel
theorem dX4_mould_67 : decode cX4_mould 67 = .ok (.dup, 1) := by decide +kernel
theorem dX4_mould_68 : decode cX4_mould 68 = .ok (.getfield 42, 3) := by decide +kernel
theorem dX4_mould_71 : decode cX4_mould 71 = .ok (.iconst 1, 1) := by decide +kernel
theorem dX4_mould_72 : decode cX4_mould 72 = .ok (.iadd, 1) := by decide +kernel
theorem dX4_mould_73 : decode cX4_mould 73 = .ok (.putfield 42, 3) := by decide +kernel
theorem dX4_mould_76 : decode cX4_mould 76 = .ok (.aload_n 0, 1) := by decide +kernel
theorem dX4_mould_77 : decode cX4_mould 77 = .ok (.getfield 42, 3) := by decide +kernel
theorem dX4_mould_80 : decode cX4_mould 80 = .ok (.iconst 1, 1) := by decide +kernel
theorem dX4_mould_81 : decode cX4_mould 81 = .ok (.isub, 1) := by decide +kernel
theorem dX4_mould_82 : decode cX4_mould 82 = .ok (.ireturn, 1) := by decide +kernel
theorem dX4_refit_0 : decode cX4_refit 0 = .ok (.aload_n 0, 1) := by decide +kernel
theorem dX4_refit_1 : decode cX4_refit 1 = .ok (.iconst 0, 1) := by decide +kernel
theorem dX4_refit_2 : decode cX4_refit 2 = .ok (.putfield 34, 3) := by decide +kernel
theorem dX4_refit_5 : decode cX4_refit 5 = .ok (.aload_n 0, 1) := by decide +kernel
theorem dX4_refit_6 : decode cX4_refit 6 = .ok (.iload_n 1, 1) := by decide +kernel
theorem dX4_refit_7 : decode cX4_refit 7 = .ok (.invokevirtual 62, 3) := by decide +kernel
theorem dX4_refit_10 : decode cX4_refit 10 = .ok (.ifCond .ne 9, 3) := by decide +kernel
theorem dX4_refit_13 : decode cX4_refit 13 = .ok (.aload_n 0, 1) := by decide +kernel
theorem dX4_refit_14 : decode cX4_refit 14 = .ok (.iconst 1, 1) := by decide +kernel
theorem dX4_refit_15 : decode cX4_refit 15 = .ok (.invokevirtual 55, 3) := by decide +kernel
theorem dX4_refit_18 : decode cX4_refit 18 = .ok (.ireturn, 1) := by decide +kernel
theorem dX4_refit_19 : decode cX4_refit 19 = .ok (.aload_n 0, 1) := by decide +kernel
theorem dX4_refit_20 : decode cX4_refit 20 = .ok (.getfield 27, 3) := by decide +kernel
theorem dX4_refit_23 : decode cX4_refit 23 = .ok (.getfield 59, 3) := by decide +kernel
theorem dX4_refit_26 : decode cX4_refit 26 = .ok (.iload_n 1, 1) := by decide +kernel
theorem dX4_refit_27 : decode cX4_refit 27 = .ok (.iaload, 1) := by decide +kernel
theorem dX4_refit_28 : decode cX4_refit 28 = .ok (.istore_n 2, 1) := by decide +kernel
theorem dX4_refit_29 : decode cX4_refit 29 = .ok (.iload_n 2, 1) := by decide +kernel
theorem dX4_refit_30 : decode cX4_refit 30 = .ok (.bipush 9, 2) := by decide +kernel
theorem dX4_refit_32 : decode cX4_refit 32 = .ok (.if_icmp .eq 14, 3) := by decide +kernel
theorem dX4_refit_35 : decode cX4_refit 35 = .ok (.aload_n 0, 1) := by decide +kernel
theorem dX4_refit_36 : decode cX4_refit 36 = .ok (.getfield 27, 3) := by decide +kernel
theorem dX4_refit_39 : decode cX4_refit 39 = .ok (.getfield 65, 3) := by decide +kernel
theorem dX4_refit_42 : decode cX4_refit 42 = .ok (.iconst 2, 1) := by decide +kernel
theorem dX4_refit_43 : decode cX4_refit 43 = .ok (.if_icmp .ge 9, 3) := by decide +kernel
theorem dX4_refit_46 : decode cX4_refit 46 = .ok (.aload_n 0, 1) := by decide +kernel
theorem dX4_refit_47 : decode cX4_refit 47 = .ok (.iconst 2, 1) := by decide +kernel
theorem dX4_refit_48 : decode cX4_refit 48 = .ok (.invokevirtual 55, 3) := by decide +kernel
theorem dX4_refit_51 : decode cX4_refit 51 = .ok (.ireturn, 1) := by decide +kernel
theorem dX4_refit_52 : decode cX4_refit 52 = .ok (.aload_n 0, 1) := by decide +kernel
theorem dX4_refit_53 : decode cX4_refit 53 = .ok (.getfield 27, 3) := by decide +kernel
theorem dX4_refit_56 : decode cX4_refit 56 = .ok (.getfield 59, 3) := by decide +kernel
theorem dX4_refit_59 : decode cX4_refit 59 = .ok (.iload_n 1, 1) := by decide +kernel
theorem dX4_refit_60 : decode cX4_refit 60 = .ok (.bipush 9, 2) := by decide +kernel
theorem dX4_refit_62 : decode cX4_refit 62 = .ok (.iastore, 1) := by decide +kernel
theorem dX4_refit_63 : decode cX4_refit 63 = .ok (.aload_n 0, 1) := by decide +kernel
theorem dX4_refit_64 : decode cX4_refit 64 = .ok (.getfield 27, 3) := by decide +kernel
theorem dX4_refit_67 : decode cX4_refit 67 = .ok (.dup, 1) := by decide +kernel
theorem dX4_refit_68 : decode cX4_refit 68 = .ok (.getfield 65, 3) := by decide +kernel
theorem dX4_refit_71 : decode cX4_refit 71 = .ok (.iconst 2, 1) := by decide +kernel
theorem dX4_refit_72 : decode cX4_refit 72 = .ok (.isub, 1) := by decide +kernel
theorem dX4_refit_73 : decode cX4_refit 73 = .ok (.putfield 65, 3) := by decide +kernel
theorem dX4_refit_76 : decode cX4_refit 76 = .ok (.iload_n 2, 1) := by decide +kernel
theorem dX4_refit_77 : decode cX4_refit 77 = .ok (.ireturn, 1) := by decide +kernel
theorem dX4_maker_0 : decode cX4_maker 0 = .ok (.aload_n 0, 1) := by decide +kernel
theorem dX4_maker_1 : decode cX4_maker 1 = .ok (.iconst 0, 1) := by decide +kernel
theorem dX4_maker_2 : decode cX4_maker 2 = .ok (.putfield 34, 3) := by decide +kernel
theorem dX4_maker_5 : decode cX4_maker 5 = .ok (.iload_n 1, 1) := by decide +kernel
theorem dX4_maker_6 : decode cX4_maker 6 = .ok (.iconst 1, 1) := by decide +kernel
theorem dX4_maker_7 : decode cX4_maker 7 = .ok (.bipush 9, 2) := by decide +kernel
theorem dX4_maker_9 : decode cX4_maker 9 = .ok (.invokestatic 38, 3) := by decide +kernel
theorem dX4_maker_12 : decode cX4_maker 12 = .ok (.ifCond .ne 9, 3) := by decide +kernel
theorem dX4_maker_15 : decode cX4_maker 15 = .ok (.aload_n 0, 1) := by decide +kernel
theorem dX4_maker_16 : decode cX4_maker 16 = .ok (.iconst 1, 1) := by decide +kernel
theorem dX4_maker_17 : decode cX4_maker 17 = .ok (.invokevirtual 55, 3) := by decide +kernel
theorem dX4_maker_20 : decode cX4_maker 20 = .ok (.ireturn, 1) := by decide +kernel
theorem dX4_maker_21 : decode cX4_maker 21 = .ok (.aload_n 0, 1) := by decide +kernel
theorem dX4_maker_22 : decode cX4_maker 22 = .ok (.getfield 45, 3) := by decide +kernel
theorem dX4_maker_25 : decode cX4_maker 25 = .ok (.iconst 5, 1) := by decide +kernel
theorem dX4_maker_26 : decode cX4_maker 26 = .ok (.if_icmp .ne 9, 3) := by decide +kernel
theorem dX4_maker_29 : decode cX4_maker 29 = .ok (.aload_n 0, 1) := by decide +kernel
theorem dX4_maker_30 : decode cX4_maker 30 = .ok (.iconst 2, 1) := by decide +kernel
theorem dX4_maker_31 : decode cX4_maker 31 = .ok (.invokevirtual 55, 3) := by decide +kernel
theorem dX4_maker_34 : decode cX4_maker 34 = .ok (.ireturn, 1) := by decide +kernel
theorem dX4_maker_35 : decode cX4_maker 35 = .ok (.aload_n 0, 1) := by decide +kernel
theorem dX4_maker_36 : decode cX4_maker 36 = .ok (.getfield 16, 3) := by decide +kernel
theorem dX4_maker_39 : decode cX4_maker 39 = .ok (.aload_n 0, 1) := by decide +kernel
theorem dX4_maker_40 : decode cX4_maker 40 = .ok (.getfield 45, 3) := by decide +kernel
theorem dX4_maker_43 : decode cX4_maker 43 = .ok (.iload_n 1, 1) := by decide +kernel
theorem dX4_maker_44 : decode cX4_maker 44 = .ok (.iastore, 1) := by decide +kernel
theorem dX4_maker_45 : decode cX4_maker 45 = .ok (.aload_n 0, 1) := by decide +kernel
theorem dX4_maker_46 : decode cX4_maker 46 = .ok (.getfield 19, 3) := by decide +kernel
theorem dX4_maker_49 : decode cX4_maker 49 = .ok (.aload_n 0, 1) := by decide +kernel
theorem dX4_maker_50 : decode cX4_maker 50 = .ok (.getfield 45, 3) := by decide +kernel
theorem dX4_maker_53 : decode cX4_maker 53 = .ok (.iconst (-1), 1) := by decide +kernel
theorem dX4_maker_54 : decode cX4_maker 54 = .ok (.iastore, 1) := by decide +kernel
theorem dX4_maker_55 : decode cX4_maker 55 = .ok (.aload_n 0, 1) := by decide +kernel
theorem dX4_maker_56 : decode cX4_maker 56 = .ok (.dup, 1) := by decide +kernel
theorem dX4_maker_57 : decode cX4_maker 57 = .ok (.getfield 45, 3) := by decide +kernel
theorem dX4_maker_60 : decode cX4_maker 60 = .ok (.iconst 1, 1) := by decide +kernel
theorem dX4_maker_61 : decode cX4_maker 61 = .ok (.iadd, 1) := by decide +kernel
theorem dX4_maker_62 : decode cX4_maker 62 = .ok (.putfield 45, 3) := by decide +kernel
theorem dX4_maker_65 : decode cX4_maker 65 = .ok (.aload_n 0, 1) := by decide +kernel
theorem dX4_maker_66 : decode cX4_maker 66 = .ok (.getfield 45, 3) := by decide +kernel
theorem dX4_maker_69 : decode cX4_maker 69 = .ok (.iconst 1, 1) := by decide +kernel
theorem dX4_maker_70 : decode cX4_maker 70 = .ok (.isub, 1) := by decide +kernel
theorem dX4_maker_71 : decode cX4_maker 71 = .ok (.ireturn, 1) := by decide +kernel
theorem dX4_makerAt_0 : decode cX4_makerAt 0 = .ok (.iconst 0, 1) := by decide +kernel
theorem dX4_makerAt_1 : decode cX4_makerAt 1 = .ok (.istore_n 2, 1) := by decide +kernel
theorem dX4_makerAt_2 : decode cX4_makerAt 2 = .ok (.iload_n 2, 1) := by decide +kernel
theorem dX4_makerAt_3 : decode cX4_makerAt 3 = .ok (.aload_n 0, 1) := by decide +kernel
theorem dX4_makerAt_4 : decode cX4_makerAt 4 = .ok (.getfield 45, 3) := by decide +kernel
theorem dX4_makerAt_7 : decode cX4_makerAt 7 = .ok (.if_icmp .ge 21, 3) := by decide +kernel
theorem dX4_makerAt_10 : decode cX4_makerAt 10 = .ok (.aload_n 0, 1) := by decide +kernel
theorem dX4_makerAt_11 : decode cX4_makerAt 11 = .ok (.getfield 19, 3) := by decide +kernel
theorem dX4_makerAt_14 : decode cX4_makerAt 14 = .ok (.iload_n 2, 1) := by decide +kernel
theorem dX4_makerAt_15 : decode cX4_makerAt 15 = .ok (.iaload, 1) := by decide +kernel
theorem dX4_makerAt_16 : decode cX4_makerAt 16 = .ok (.iload_n 1, 1) := by decide +kernel
theorem dX4_makerAt_17 : decode cX4_makerAt 17 = .ok (.if_icmp .ne 5, 3) := by decide +kernel
theorem dX4_makerAt_20 : decode cX4_makerAt 20 = .ok (.iload_n 2, 1) := by decide +kernel
theorem dX4_makerAt_21 : decode cX4_makerAt 21 = .ok (.ireturn, 1) := by decide +kernel
theorem dX4_makerAt_22 : decode cX4_makerAt 22 = .ok (.iinc 2 1, 3) := by decide +kernel
theorem dX4_makerAt_25 : decode cX4_makerAt 25 = .ok (.goto (-23), 3) := by decide +kernel
theorem dX4_makerAt_28 : decode cX4_makerAt 28 = .ok (.iconst (-1), 1) := by decide +kernel
theorem dX4_makerAt_29 : decode cX4_makerAt 29 = .ok (.ireturn, 1) := by decide +kernel
theorem dX4_place_0 : decode cX4_place 0 = .ok (.aload_n 0, 1) := by decide +kernel
theorem dX4_place_1 : decode cX4_place 1 = .ok (.iconst 0, 1) := by decide +kernel
theorem dX4_place_2 : decode cX4_place 2 = .ok (.putfield 34, 3) := by decide +kernel
theorem dX4_place_5 : decode cX4_place 5 = .ok (.aload_n 0, 1) := by decide +kernel
theorem dX4_place_6 : decode cX4_place 6 = .ok (.iload_n 1, 1) := by decide +kernel
theorem dX4_place_7 : decode cX4_place 7 = .ok (.invokevirtual 68, 3) := by decide +kernel
theorem dX4_place_10 : decode cX4_place 10 = .ok (.ifCond .eq 16, 3) := by decide +kernel
theorem dX4_place_13 : decode cX4_place 13 = .ok (.iload_n 2, 1) := by decide +kernel
theorem dX4_place_14 : decode cX4_place 14 = .ok (.iconst (-1), 1) := by decide +kernel
theorem dX4_place_15 : decode cX4_place 15 = .ok (.if_icmp .eq 17, 3) := by decide +kernel
theorem dX4_place_18 : decode cX4_place 18 = .ok (.aload_n 0, 1) := by decide +kernel
theorem dX4_place_19 : decode cX4_place 19 = .ok (.iload_n 2, 1) := by decide +kernel
theorem dX4_place_20 : decode cX4_place 20 = .ok (.invokevirtual 62, 3) := by decide +kernel
theorem dX4_place_23 : decode cX4_place 23 = .ok (.ifCond .ne 9, 3) := by decide +kernel
theorem dX4_place_26 : decode cX4_place 26 = .ok (.aload_n 0, 1) := by decide +kernel
theorem dX4_place_27 : decode cX4_place 27 = .ok (.iconst 1, 1) := by decide +kernel
theorem dX4_place_28 : decode cX4_place 28 = .ok (.invokevirtual 55, 3) := by decide +kernel
theorem dX4_place_31 : decode cX4_place 31 = .ok (.ireturn, 1) := by decide +kernel
theorem dX4_place_32 : decode cX4_place 32 = .ok (.iload_n 2, 1) := by decide +kernel
theorem dX4_place_33 : decode cX4_place 33 = .ok (.iconst (-1), 1) := by decide +kernel
theorem dX4_place_34 : decode cX4_place 34 = .ok (.if_icmp .eq 27, 3) := by decide +kernel
theorem dX4_place_37 : decode cX4_place 37 = .ok (.aload_n 0, 1) := by decide +kernel
theorem dX4_place_38 : decode cX4_place 38 = .ok (.iload_n 2, 1) := by decide +kernel
theorem dX4_place_39 : decode cX4_place 39 = .ok (.invokevirtual 71, 3) := by decide +kernel
theorem dX4_place_42 : decode cX4_place 42 = .ok (.iconst (-1), 1) := by decide +kernel
theorem dX4_place_43 : decode cX4_place 43 = .ok (.if_icmp .eq 18, 3) := by decide +kernel
theorem dX4_place_46 : decode cX4_place 46 = .ok (.aload_n 0, 1) := by decide +kernel
theorem dX4_place_47 : decode cX4_place 47 = .ok (.iload_n 2, 1) := by decide +kernel
theorem dX4_place_48 : decode cX4_place 48 = .ok (.invokevirtual 71, 3) := by decide +kernel
theorem dX4_place_51 : decode cX4_place 51 = .ok (.iload_n 1, 1) := by decide +kernel
theorem dX4_place_52 : decode cX4_place 52 = .ok (.if_icmp .eq 9, 3) := by decide +kernel
theorem dX4_place_55 : decode cX4_place 55 = .ok (.aload_n 0, 1) := by decide +kernel
theorem dX4_place_56 : decode cX4_place 56 = .ok (.iconst 2, 1) := by decide +kernel
theorem dX4_place_57 : decode cX4_place 57 = .ok (.invokevirtual 55, 3) := by decide +kernel
theorem dX4_place_60 : decode cX4_place 60 = .ok (.ireturn, 1) := by decide +kernel
theorem dX4_place_61 : decode cX4_place 61 = .ok (.aload_n 0, 1) := by decide +kernel
theorem dX4_place_62 : decode cX4_place 62 = .ok (.getfield 19, 3) := by decide +kernel
theorem dX4_place_65 : decode cX4_place 65 = .ok (.iload_n 1, 1) := by decide +kernel
theorem dX4_place_66 : decode cX4_place 66 = .ok (.iaload, 1) := by decide +kernel
theorem dX4_place_67 : decode cX4_place 67 = .ok (.istore_n 3, 1) := by decide +kernel
theorem dX4_place_68 : decode cX4_place 68 = .ok (.aload_n 0, 1) := by decide +kernel
theorem dX4_place_69 : decode cX4_place 69 = .ok (.getfield 19, 3) := by decide +kernel
theorem dX4_place_72 : decode cX4_place 72 = .ok (.iload_n 1, 1) := by decide +kernel
theorem dX4_place_73 : decode cX4_place 73 = .ok (.iload_n 2, 1) := by decide +kernel
theorem dX4_place_74 : decode cX4_place 74 = .ok (.iastore, 1) := by decide +kernel
theorem dX4_place_75 : decode cX4_place 75 = .ok (.iload_n 3, 1) := by decide +kernel
theorem dX4_place_76 : decode cX4_place 76 = .ok (.ireturn, 1) := by decide +kernel
theorem dX4_buy_0 : decode cX4_buy 0 = .ok (.aload_n 0, 1) := by decide +kernel
theorem dX4_buy_1 : decode cX4_buy 1 = .ok (.iconst 0, 1) := by decide +kernel
theorem dX4_buy_2 : decode cX4_buy 2 = .ok (.putfield 34, 3) := by decide +kernel
theorem dX4_buy_5 : decode cX4_buy 5 = .ok (.iload_n 1, 1) := by decide +kernel
theorem dX4_buy_6 : decode cX4_buy 6 = .ok (.iconst 0, 1) := by decide +kernel
theorem dX4_buy_7 : decode cX4_buy 7 = .ok (.iconst 1, 1) := by decide +kernel
theorem dX4_buy_8 : decode cX4_buy 8 = .ok (.invokestatic 38, 3) := by decide +kernel
theorem dX4_buy_11 : decode cX4_buy 11 = .ok (.ifCond .ne 9, 3) := by decide +kernel
theorem dX4_buy_14 : decode cX4_buy 14 = .ok (.aload_n 0, 1) := by decide +kernel
theorem dX4_buy_15 : decode cX4_buy 15 = .ok (.iconst 1, 1) := by decide +kernel
theorem dX4_buy_16 : decode cX4_buy 16 = .ok (.invokevirtual 55, 3) := by decide +kernel
theorem dX4_buy_19 : decode cX4_buy 19 = .ok (.ireturn, 1) := by decide +kernel
theorem dX4_buy_20 : decode cX4_buy 20 = .ok (.iload_n 2, 1) := by decide +kernel
theorem dX4_buy_21 : decode cX4_buy 21 = .ok (.iconst 1, 1) := by decide +kernel
theorem dX4_buy_22 : decode cX4_buy 22 = .ok (.sipush 200, 3) := by decide +kernel
theorem dX4_buy_25 : decode cX4_buy 25 = .ok (.invokestatic 38, 3) := by decide +kernel
theorem dX4_buy_28 : decode cX4_buy 28 = .ok (.ifCond .ne 9, 3) := by decide +kernel
theorem dX4_buy_31 : decode cX4_buy 31 = .ok (.aload_n 0, 1) := by decide +kernel
theorem dX4_buy_32 : decode cX4_buy 32 = .ok (.iconst 2, 1) := by decide +kernel
theorem dX4_buy_33 : decode cX4_buy 33 = .ok (.invokevirtual 55, 3) := by decide +kernel
theorem dX4_buy_36 : decode cX4_buy 36 = .ok (.ireturn, 1) := by decide +kernel
theorem dX4_buy_37 : decode cX4_buy 37 = .ok (.iload_n 1, 1) := by decide +kernel
theorem dX4_buy_38 : decode cX4_buy 38 = .ok (.ifCond .ne 11, 3) := by decide +kernel
theorem dX4_buy_41 : decode cX4_buy 41 = .ok (.iload_n 2, 1) := by decide +kernel
theorem dX4_buy_42 : decode cX4_buy 42 = .ok (.iconst 3, 1) := by decide +kernel
theorem dX4_buy_43 : decode cX4_buy 43 = .ok (.iadd, 1) := by decide +kernel
theorem dX4_buy_44 : decode cX4_buy 44 = .ok (.iconst 4, 1) := by decide +kernel
theorem dX4_buy_45 : decode cX4_buy 45 = .ok (.idiv, 1) := by decide +kernel
theorem dX4_buy_46 : decode cX4_buy 46 = .ok (.goto 4, 3) := by decide +kernel
theorem dX4_buy_49 : decode cX4_buy 49 = .ok (.iload_n 2, 1) := by decide +kernel
theorem dX4_buy_50 : decode cX4_buy 50 = .ok (.istore_n 3, 1) := by decide +kernel
theorem dX4_buy_51 : decode cX4_buy 51 = .ok (.aload_n 0, 1) := by decide +kernel
theorem dX4_buy_52 : decode cX4_buy 52 = .ok (.getfield 27, 3) := by decide +kernel
theorem dX4_buy_55 : decode cX4_buy 55 = .ok (.getfield 65, 3) := by decide +kernel
theorem dX4_buy_58 : decode cX4_buy 58 = .ok (.iload_n 3, 1) := by decide +kernel
theorem dX4_buy_59 : decode cX4_buy 59 = .ok (.if_icmp .ge 9, 3) := by decide +kernel
theorem dX4_buy_62 : decode cX4_buy 62 = .ok (.aload_n 0, 1) := by decide +kernel
theorem dX4_buy_63 : decode cX4_buy 63 = .ok (.iconst 3, 1) := by decide +kernel
theorem dX4_buy_64 : decode cX4_buy 64 = .ok (.invokevirtual 55, 3) := by decide +kernel
theorem dX4_buy_67 : decode cX4_buy 67 = .ok (.ireturn, 1) := by decide +kernel
theorem dX4_buy_68 : decode cX4_buy 68 = .ok (.aload_n 0, 1) := by decide +kernel
theorem dX4_buy_69 : decode cX4_buy 69 = .ok (.getfield 27, 3) := by decide +kernel
theorem dX4_buy_72 : decode cX4_buy 72 = .ok (.dup, 1) := by decide +kernel
theorem dX4_buy_73 : decode cX4_buy 73 = .ok (.getfield 65, 3) := by decide +kernel
theorem dX4_buy_76 : decode cX4_buy 76 = .ok (.iload_n 3, 1) := by decide +kernel
theorem dX4_buy_77 : decode cX4_buy 77 = .ok (.isub, 1) := by decide +kernel
theorem dX4_buy_78 : decode cX4_buy 78 = .ok (.putfield 65, 3) := by decide +kernel
theorem dX4_buy_81 : decode cX4_buy 81 = .ok (.aload_n 0, 1) := by decide +kernel
theorem dX4_buy_82 : decode cX4_buy 82 = .ok (.getfield 27, 3) := by decide +kernel
theorem dX4_buy_85 : decode cX4_buy 85 = .ok (.dup, 1) := by decide +kernel
theorem dX4_buy_86 : decode cX4_buy 86 = .ok (.getfield 74, 3) := by decide +kernel
theorem dX4_buy_89 : decode cX4_buy 89 = .ok (.iload_n 1, 1) := by decide +kernel
theorem dX4_buy_90 : decode cX4_buy 90 = .ok (.ifCond .ne 7, 3) := by decide +kernel
theorem dX4_buy_93 : decode cX4_buy 93 = .ok (.iload_n 2, 1) := by decide +kernel
theorem dX4_buy_94 : decode cX4_buy 94 = .ok (.goto 4, 3) := by decide +kernel
theorem dX4_buy_97 : decode cX4_buy 97 = .ok (.iconst 0, 1) := by decide +kernel
theorem dX4_buy_98 : decode cX4_buy 98 = .ok (.iadd, 1) := by decide +kernel
theorem dX4_buy_99 : decode cX4_buy 99 = .ok (.putfield 74, 3) := by decide +kernel
theorem dX4_buy_102 : decode cX4_buy 102 = .ok (.aload_n 0, 1) := by decide +kernel
theorem dX4_buy_103 : decode cX4_buy 103 = .ok (.getfield 27, 3) := by decide +kernel
theorem dX4_buy_106 : decode cX4_buy 106 = .ok (.dup, 1) := by decide +kernel
theorem dX4_buy_107 : decode cX4_buy 107 = .ok (.getfield 77, 3) := by decide +kernel
theorem dX4_buy_110 : decode cX4_buy 110 = .ok (.iload_n 1, 1) := by decide +kernel
theorem dX4_buy_111 : decode cX4_buy 111 = .ok (.iconst 1, 1) := by decide +kernel
theorem dX4_buy_112 : decode cX4_buy 112 = .ok (.if_icmp .ne 7, 3) := by decide +kernel
theorem dX4_buy_115 : decode cX4_buy 115 = .ok (.iload_n 2, 1) := by decide +kernel
theorem dX4_buy_116 : decode cX4_buy 116 = .ok (.goto 4, 3) := by decide +kernel
theorem dX4_buy_119 : decode cX4_buy 119 = .ok (.iconst 0, 1) := by decide +kernel
theorem dX4_buy_120 : decode cX4_buy 120 = .ok (.iadd, 1) := by decide +kernel
theorem dX4_buy_121 : decode cX4_buy 121 = .ok (.putfield 77, 3) := by decide +kernel
theorem dX4_buy_124 : decode cX4_buy 124 = .ok (.iload_n 1, 1) := by decide +kernel
theorem dX4_buy_125 : decode cX4_buy 125 = .ok (.ifCond .ne 13, 3) := by decide +kernel
theorem dX4_buy_128 : decode cX4_buy 128 = .ok (.aload_n 0, 1) := by decide +kernel
theorem dX4_buy_129 : decode cX4_buy 129 = .ok (.getfield 27, 3) := by decide +kernel
theorem dX4_buy_132 : decode cX4_buy 132 = .ok (.getfield 74, 3) := by decide +kernel
theorem dX4_buy_135 : decode cX4_buy 135 = .ok (.goto 10, 3) := by decide +kernel
theorem dX4_buy_138 : decode cX4_buy 138 = .ok (.aload_n 0, 1) := by decide +kernel
theorem dX4_buy_139 : decode cX4_buy 139 = .ok (.getfield 27, 3) := by decide +kernel
theorem dX4_buy_142 : decode cX4_buy 142 = .ok (.getfield 77, 3) := by decide +kernel
theorem dX4_buy_145 : decode cX4_buy 145 = .ok (.ireturn, 1) := by decide +kernel
theorem dX4_setDry_0 : decode cX4_setDry 0 = .ok (.aload_n 0, 1) := by decide +kernel
theorem dX4_setDry_1 : decode cX4_setDry 1 = .ok (.iconst 0, 1) := by decide +kernel
theorem dX4_setDry_2 : decode cX4_setDry 2 = .ok (.putfield 34, 3) := by decide +kernel
theorem dX4_setDry_5 : decode cX4_setDry 5 = .ok (.iload_n 1, 1) := by decide +kernel
theorem dX4_setDry_6 : decode cX4_setDry 6 = .ok (.iconst 0, 1) := by decide +kernel
theorem dX4_setDry_7 : decode cX4_setDry 7 = .ok (.bipush 6, 2) := by decide +kernel
theorem dX4_setDry_9 : decode cX4_setDry 9 = .ok (.invokestatic 38, 3) := by decide +kernel
theorem dX4_setDry_12 : decode cX4_setDry 12 = .ok (.ifCond .ne 9, 3) := by decide +kernel
theorem dX4_setDry_15 : decode cX4_setDry 15 = .ok (.aload_n 0, 1) := by decide +kernel
theorem dX4_setDry_16 : decode cX4_setDry 16 = .ok (.iconst 1, 1) := by decide +kernel
theorem dX4_setDry_17 : decode cX4_setDry 17 = .ok (.invokevirtual 55, 3) := by decide +kernel
theorem dX4_setDry_20 : decode cX4_setDry 20 = .ok (.ireturn, 1) := by decide +kernel
theorem dX4_setDry_21 : decode cX4_setDry 21 = .ok (.iload_n 2, 1) := by decide +kernel
theorem dX4_setDry_22 : decode cX4_setDry 22 = .ok (.iconst 0, 1) := by decide +kernel
theorem dX4_setDry_23 : decode cX4_setDry 23 = .ok (.iconst 3, 1) := by decide +kernel
theorem dX4_setDry_24 : decode cX4_setDry 24 = .ok (.invokestatic 38, 3) := by decide +kernel
theorem dX4_setDry_27 : decode cX4_setDry 27 = .ok (.ifCond .ne 9, 3) := by decide +kernel
theorem dX4_setDry_30 : decode cX4_setDry 30 = .ok (.aload_n 0, 1) := by decide +kernel
theorem dX4_setDry_31 : decode cX4_setDry 31 = .ok (.iconst 2, 1) := by decide +kernel
theorem dX4_setDry_32 : decode cX4_setDry 32 = .ok (.invokevirtual 55, 3) := by decide +kernel
theorem dX4_setDry_35 : decode cX4_setDry 35 = .ok (.ireturn, 1) := by decide +kernel
theorem dX4_setDry_36 : decode cX4_setDry 36 = .ok (.aload_n 0, 1) := by decide +kernel
theorem dX4_setDry_37 : decode cX4_setDry 37 = .ok (.getfield 7, 3) := by decide +kernel
theorem dX4_setDry_40 : decode cX4_setDry 40 = .ok (.iload_n 1, 1) := by decide +kernel
theorem dX4_setDry_41 : decode cX4_setDry 41 = .ok (.iaload, 1) := by decide +kernel
theorem dX4_setDry_42 : decode cX4_setDry 42 = .ok (.istore_n 3, 1) := by decide +kernel
theorem dX4_setDry_43 : decode cX4_setDry 43 = .ok (.aload_n 0, 1) := by decide +kernel
theorem dX4_setDry_44 : decode cX4_setDry 44 = .ok (.getfield 7, 3) := by decide +kernel
theorem dX4_setDry_47 : decode cX4_setDry 47 = .ok (.iload_n 1, 1) := by decide +kernel
theorem dX4_setDry_48 : decode cX4_setDry 48 = .ok (.iload_n 2, 1) := by decide +kernel
theorem dX4_setDry_49 : decode cX4_setDry 49 = .ok (.iastore, 1) := by decide +kernel
theorem dX4_setDry_50 : decode cX4_setDry 50 = .ok (.iload_n 3, 1) := by decide +kernel
theorem dX4_setDry_51 : decode cX4_setDry 51 = .ok (.ireturn, 1) := by decide +kernel
theorem dX4_pack_0 : decode cX4_pack 0 = .ok (.aload_n 0, 1) := by decide +kernel
theorem dX4_pack_1 : decode cX4_pack 1 = .ok (.iconst 0, 1) := by decide +kernel
theorem dX4_pack_2 : decode cX4_pack 2 = .ok (.putfield 34, 3) := by decide +kernel
theorem dX4_pack_5 : decode cX4_pack 5 = .ok (.aload_n 0, 1) := by decide +kernel
theorem dX4_pack_6 : decode cX4_pack 6 = .ok (.iload_n 1, 1) := by decide +kernel
theorem dX4_pack_7 : decode cX4_pack 7 = .ok (.invokevirtual 80, 3) := by decide +kernel
theorem dX4_pack_10 : decode cX4_pack 10 = .ok (.ifCond .eq 10, 3) := by decide +kernel
theorem dX4_pack_13 : decode cX4_pack 13 = .ok (.iload_n 2, 1) := by decide +kernel
theorem dX4_pack_14 : decode cX4_pack 14 = .ok (.invokestatic 83, 3) := by decide +kernel
theorem dX4_pack_17 : decode cX4_pack 17 = .ok (.ifCond .ne 9, 3) := by decide +kernel
theorem dX4_pack_20 : decode cX4_pack 20 = .ok (.aload_n 0, 1) := by decide +kernel
theorem dX4_pack_21 : decode cX4_pack 21 = .ok (.iconst 1, 1) := by decide +kernel
theorem dX4_pack_22 : decode cX4_pack 22 = .ok (.invokevirtual 55, 3) := by decide +kernel
theorem dX4_pack_25 : decode cX4_pack 25 = .ok (.ireturn, 1) := by decide +kernel
theorem dX4_pack_26 : decode cX4_pack 26 = .ok (.iload_n 3, 1) := by decide +kernel
theorem dX4_pack_27 : decode cX4_pack 27 = .ok (.iconst 1, 1) := by decide +kernel
theorem dX4_pack_28 : decode cX4_pack 28 = .ok (.bipush 24, 2) := by decide +kernel
theorem dX4_pack_30 : decode cX4_pack 30 = .ok (.invokestatic 38, 3) := by decide +kernel
theorem dX4_pack_33 : decode cX4_pack 33 = .ok (.ifCond .ne 9, 3) := by decide +kernel
theorem dX4_pack_36 : decode cX4_pack 36 = .ok (.aload_n 0, 1) := by decide +kernel
theorem dX4_pack_37 : decode cX4_pack 37 = .ok (.iconst 2, 1) := by decide +kernel
theorem dX4_pack_38 : decode cX4_pack 38 = .ok (.invokevirtual 55, 3) := by decide +kernel
theorem dX4_pack_41 : decode cX4_pack 41 = .ok (.ireturn, 1) := by decide +kernel
theorem dX4_pack_42 : decode cX4_pack 42 = .ok (.aload_n 0, 1) := by decide +kernel
theorem dX4_pack_43 : decode cX4_pack 43 = .ok (.getfield 27, 3) := by decide +kernel
theorem dX4_pack_46 : decode cX4_pack 46 = .ok (.getfield 86, 3) := by decide +kernel
theorem dX4_pack_49 : decode cX4_pack 49 = .ok (.iload_n 1, 1) := by decide +kernel
theorem dX4_pack_50 : decode cX4_pack 50 = .ok (.aaload, 1) := by decide +kernel
theorem dX4_pack_51 : decode cX4_pack 51 = .ok (.astore 4, 2) := by decide +kernel
theorem dX4_pack_53 : decode cX4_pack 53 = .ok (.aload_n 0, 1) := by decide +kernel
theorem dX4_pack_54 : decode cX4_pack 54 = .ok (.getfield 27, 3) := by decide +kernel
theorem dX4_pack_57 : decode cX4_pack 57 = .ok (.iload_n 2, 1) := by decide +kernel
theorem dX4_pack_58 : decode cX4_pack 58 = .ok (.invokevirtual 90, 3) := by decide +kernel
theorem dX4_pack_61 : decode cX4_pack 61 = .ok (.iconst 1, 1) := by decide +kernel
theorem dX4_pack_62 : decode cX4_pack 62 = .ok (.iaload, 1) := by decide +kernel
theorem dX4_pack_63 : decode cX4_pack 63 = .ok (.ifCond .gt 11, 3) := by decide +kernel
theorem dX4_pack_66 : decode cX4_pack 66 = .ok (.aload 4, 2) := by decide +kernel
theorem dX4_pack_68 : decode cX4_pack 68 = .ok (.iconst 1, 1) := by decide +kernel
theorem dX4_pack_69 : decode cX4_pack 69 = .ok (.iaload, 1) := by decide +kernel
theorem dX4_pack_70 : decode cX4_pack 70 = .ok (.iload_n 3, 1) := by decide +kernel
theorem dX4_pack_71 : decode cX4_pack 71 = .ok (.if_icmp .ge 9, 3) := by decide +kernel
theorem dX4_pack_74 : decode cX4_pack 74 = .ok (.aload_n 0, 1) := by decide +kernel
theorem dX4_pack_75 : decode cX4_pack 75 = .ok (.iconst 3, 1) := by decide +kernel
theorem dX4_pack_76 : decode cX4_pack 76 = .ok (.invokevirtual 55, 3) := by decide +kernel
theorem dX4_pack_79 : decode cX4_pack 79 = .ok (.ireturn, 1) := by decide +kernel
theorem dX4_pack_80 : decode cX4_pack 80 = .ok (.aload_n 0, 1) := by decide +kernel
theorem dX4_pack_81 : decode cX4_pack 81 = .ok (.getfield 27, 3) := by decide +kernel
theorem dX4_pack_84 : decode cX4_pack 84 = .ok (.aload_n 0, 1) := by decide +kernel
theorem dX4_pack_85 : decode cX4_pack 85 = .ok (.getfield 27, 3) := by decide +kernel
theorem dX4_pack_88 : decode cX4_pack 88 = .ok (.iload_n 2, 1) := by decide +kernel
theorem dX4_pack_89 : decode cX4_pack 89 = .ok (.invokevirtual 90, 3) := by decide +kernel
theorem dX4_pack_92 : decode cX4_pack 92 = .ok (.aload 4, 2) := by decide +kernel
theorem dX4_pack_94 : decode cX4_pack 94 = .ok (.iconst 0, 1) := by decide +kernel
theorem dX4_pack_95 : decode cX4_pack 95 = .ok (.iaload, 1) := by decide +kernel
theorem dX4_pack_96 : decode cX4_pack 96 = .ok (.iload_n 3, 1) := by decide +kernel
theorem dX4_pack_97 : decode cX4_pack 97 = .ok (.aload 4, 2) := by decide +kernel
theorem dX4_pack_99 : decode cX4_pack 99 = .ok (.iconst 2, 1) := by decide +kernel
theorem dX4_pack_100 : decode cX4_pack 100 = .ok (.iaload, 1) := by decide +kernel
theorem dX4_pack_101 : decode cX4_pack 101 = .ok (.aload 4, 2) := by decide +kernel
theorem dX4_pack_103 : decode cX4_pack 103 = .ok (.iconst 3, 1) := by decide +kernel
theorem dX4_pack_104 : decode cX4_pack 104 = .ok (.iaload, 1) := by decide +kernel
theorem dX4_pack_105 : decode cX4_pack 105 = .ok (.invokevirtual 94, 3) := by decide +kernel
theorem dX4_pack_108 : decode cX4_pack 108 = .ok (.aload 4, 2) := by decide +kernel
theorem dX4_pack_110 : decode cX4_pack 110 = .ok (.iconst 1, 1) := by decide +kernel
theorem dX4_pack_111 : decode cX4_pack 111 = .ok (.dup2, 1) := by decide +kernel
theorem dX4_pack_112 : decode cX4_pack 112 = .ok (.iaload, 1) := by decide +kernel
theorem dX4_pack_113 : decode cX4_pack 113 = .ok (.iload_n 3, 1) := by decide +kernel
theorem dX4_pack_114 : decode cX4_pack 114 = .ok (.isub, 1) := by decide +kernel
theorem dX4_pack_115 : decode cX4_pack 115 = .ok (.iastore, 1) := by decide +kernel
theorem dX4_pack_116 : decode cX4_pack 116 = .ok (.aload 4, 2) := by decide +kernel
theorem dX4_pack_118 : decode cX4_pack 118 = .ok (.iconst 1, 1) := by decide +kernel
theorem dX4_pack_119 : decode cX4_pack 119 = .ok (.iaload, 1) := by decide +kernel
theorem dX4_pack_120 : decode cX4_pack 120 = .ok (.istore 5, 2) := by decide +kernel
theorem dX4_pack_122 : decode cX4_pack 122 = .ok (.iload 5, 2) := by decide +kernel
theorem dX4_pack_124 : decode cX4_pack 124 = .ok (.ifCond .ne 11, 3) := by decide +kernel
theorem dX4_pack_127 : decode cX4_pack 127 = .ok (.aload_n 0, 1) := by decide +kernel
theorem dX4_pack_128 : decode cX4_pack 128 = .ok (.getfield 27, 3) := by decide +kernel
theorem dX4_pack_131 : decode cX4_pack 131 = .ok (.iload_n 1, 1) := by decide +kernel
theorem dX4_pack_132 : decode cX4_pack 132 = .ok (.invokevirtual 98, 3) := by decide +kernel
theorem dX4_pack_135 : decode cX4_pack 135 = .ok (.iload 5, 2) := by decide +kernel
theorem dX4_pack_137 : decode cX4_pack 137 = .ok (.ireturn, 1) := by decide +kernel
theorem dX4_fire_0 : decode cX4_fire 0 = .ok (.aload_n 0, 1) := by decide +kernel
theorem dX4_fire_1 : decode cX4_fire 1 = .ok (.iconst 0, 1) := by decide +kernel
theorem dX4_fire_2 : decode cX4_fire 2 = .ok (.putfield 34, 3) := by decide +kernel
theorem dX4_fire_5 : decode cX4_fire 5 = .ok (.iload_n 1, 1) := by decide +kernel
theorem dX4_fire_6 : decode cX4_fire 6 = .ok (.iconst 1, 1) := by decide +kernel
theorem dX4_fire_7 : decode cX4_fire 7 = .ok (.bipush 30, 2) := by decide +kernel
theorem dX4_fire_9 : decode cX4_fire 9 = .ok (.invokestatic 38, 3) := by decide +kernel
theorem dX4_fire_12 : decode cX4_fire 12 = .ok (.ifCond .ne 9, 3) := by decide +kernel
theorem dX4_fire_15 : decode cX4_fire 15 = .ok (.aload_n 0, 1) := by decide +kernel
theorem dX4_fire_16 : decode cX4_fire 16 = .ok (.iconst 1, 1) := by decide +kernel
theorem dX4_fire_17 : decode cX4_fire 17 = .ok (.invokevirtual 55, 3) := by decide +kernel
theorem dX4_fire_20 : decode cX4_fire 20 = .ok (.ireturn, 1) := by decide +kernel
theorem dX4_fire_21 : decode cX4_fire 21 = .ok (.aload_n 0, 1) := by decide +kernel
theorem dX4_fire_22 : decode cX4_fire 22 = .ok (.getfield 27, 3) := by decide +kernel
theorem dX4_fire_25 : decode cX4_fire 25 = .ok (.getfield 77, 3) := by decide +kernel
theorem dX4_fire_28 : decode cX4_fire 28 = .ok (.iload_n 1, 1) := by decide +kernel
theorem dX4_fire_29 : decode cX4_fire 29 = .ok (.if_icmp .lt 13, 3) := by decide +kernel
theorem dX4_fire_32 : decode cX4_fire 32 = .ok (.aload_n 0, 1) := by decide +kernel
theorem dX4_fire_33 : decode cX4_fire 33 = .ok (.getfield 27, 3) := by decide +kernel
theorem dX4_fire_36 : decode cX4_fire 36 = .ok (.invokevirtual 102, 3) := by decide +kernel
theorem dX4_fire_39 : decode cX4_fire 39 = .ok (.ifCond .ne 9, 3) := by decide +kernel
theorem dX4_fire_42 : decode cX4_fire 42 = .ok (.aload_n 0, 1) := by decide +kernel
theorem dX4_fire_43 : decode cX4_fire 43 = .ok (.iconst 2, 1) := by decide +kernel
theorem dX4_fire_44 : decode cX4_fire 44 = .ok (.invokevirtual 55, 3) := by decide +kernel
theorem dX4_fire_47 : decode cX4_fire 47 = .ok (.ireturn, 1) := by decide +kernel
theorem dX4_fire_48 : decode cX4_fire 48 = .ok (.aload_n 0, 1) := by decide +kernel
theorem dX4_fire_49 : decode cX4_fire 49 = .ok (.getfield 27, 3) := by decide +kernel
theorem dX4_fire_52 : decode cX4_fire 52 = .ok (.dup, 1) := by decide +kernel
theorem dX4_fire_53 : decode cX4_fire 53 = .ok (.getfield 77, 3) := by decide +kernel
theorem dX4_fire_56 : decode cX4_fire 56 = .ok (.iload_n 1, 1) := by decide +kernel
theorem dX4_fire_57 : decode cX4_fire 57 = .ok (.isub, 1) := by decide +kernel
theorem dX4_fire_58 : decode cX4_fire 58 = .ok (.putfield 77, 3) := by decide +kernel
theorem dX4_fire_61 : decode cX4_fire 61 = .ok (.iconst 0, 1) := by decide +kernel
theorem dX4_fire_62 : decode cX4_fire 62 = .ok (.istore_n 2, 1) := by decide +kernel
theorem dX4_fire_63 : decode cX4_fire 63 = .ok (.iconst 0, 1) := by decide +kernel
theorem dX4_fire_64 : decode cX4_fire 64 = .ok (.istore_n 3, 1) := by decide +kernel
theorem dX4_fire_65 : decode cX4_fire 65 = .ok (.iload_n 3, 1) := by decide +kernel
theorem dX4_fire_66 : decode cX4_fire 66 = .ok (.bipush 6, 2) := by decide +kernel
theorem dX4_fire_68 : decode cX4_fire 68 = .ok (.if_icmp .ge 89, 3) := by decide +kernel
theorem dX4_fire_71 : decode cX4_fire 71 = .ok (.aload_n 0, 1) := by decide +kernel
theorem dX4_fire_72 : decode cX4_fire 72 = .ok (.getfield 27, 3) := by decide +kernel
theorem dX4_fire_75 : decode cX4_fire 75 = .ok (.iload_n 3, 1) := by decide +kernel
theorem dX4_fire_76 : decode cX4_fire 76 = .ok (.invokevirtual 90, 3) := by decide +kernel
theorem dX4_fire_79 : decode cX4_fire 79 = .ok (.astore 4, 2) := by decide +kernel
theorem dX4_fire_81 : decode cX4_fire 81 = .ok (.aload_n 0, 1) := by decide +kernel
theorem dX4_fire_82 : decode cX4_fire 82 = .ok (.getfield 27, 3) := by decide +kernel
theorem dX4_fire_85 : decode cX4_fire 85 = .ok (.iload_n 3, 1) := by decide +kernel
theorem dX4_fire_86 : decode cX4_fire 86 = .ok (.iload_n 1, 1) := by decide +kernel
theorem dX4_fire_87 : decode cX4_fire 87 = .ok (.invokevirtual 106, 3) := by decide +kernel
theorem dX4_fire_90 : decode cX4_fire 90 = .ok (.istore 5, 2) := by decide +kernel
theorem dX4_fire_92 : decode cX4_fire 92 = .ok (.aload_n 0, 1) := by decide +kernel
theorem dX4_fire_93 : decode cX4_fire 93 = .ok (.getfield 27, 3) := by decide +kernel
theorem dX4_fire_96 : decode cX4_fire 96 = .ok (.dup, 1) := by decide +kernel
theorem dX4_fire_97 : decode cX4_fire 97 = .ok (.getfield 110, 3) := by decide +kernel
theorem dX4_fire_100 : decode cX4_fire 100 = .ok (.iload 5, 2) := by decide +kernel
theorem dX4_fire_102 : decode cX4_fire 102 = .ok (.iadd, 1) := by decide +kernel
theorem dX4_fire_103 : decode cX4_fire 103 = .ok (.putfield 110, 3) := by decide +kernel
theorem dX4_fire_106 : decode cX4_fire 106 = .ok (.iload_n 2, 1) := by decide +kernel
theorem dX4_fire_107 : decode cX4_fire 107 = .ok (.aload 4, 2) := by decide +kernel
theorem dX4_fire_109 : decode cX4_fire 109 = .ok (.iconst 1, 1) := by decide +kernel
theorem dX4_fire_110 : decode cX4_fire 110 = .ok (.iaload, 1) := by decide +kernel
theorem dX4_fire_111 : decode cX4_fire 111 = .ok (.iload 5, 2) := by decide +kernel
theorem dX4_fire_113 : decode cX4_fire 113 = .ok (.isub, 1) := by decide +kernel
theorem dX4_fire_114 : decode cX4_fire 114 = .ok (.iadd, 1) := by decide +kernel
theorem dX4_fire_115 : decode cX4_fire 115 = .ok (.istore_n 2, 1) := by decide +kernel
theorem dX4_fire_116 : decode cX4_fire 116 = .ok (.aload_n 0, 1) := by decide +kernel
theorem dX4_fire_117 : decode cX4_fire 117 = .ok (.getfield 27, 3) := by decide +kernel
theorem dX4_fire_120 : decode cX4_fire 120 = .ok (.getfield 113, 3) := by decide +kernel
theorem dX4_fire_123 : decode cX4_fire 123 = .ok (.aload 4, 2) := by decide +kernel
theorem dX4_fire_125 : decode cX4_fire 125 = .ok (.iconst 0, 1) := by decide +kernel
theorem dX4_fire_126 : decode cX4_fire 126 = .ok (.iaload, 1) := by decide +kernel
theorem dX4_fire_127 : decode cX4_fire 127 = .ok (.dup2, 1) := by decide +kernel
theorem dX4_fire_128 : decode cX4_fire 128 = .ok (.iaload, 1) := by decide +kernel
theorem dX4_fire_129 : decode cX4_fire 129 = .ok (.aload 4, 2) := by decide +kernel
theorem dX4_fire_131 : decode cX4_fire 131 = .ok (.iconst 1, 1) := by decide +kernel
theorem dX4_fire_132 : decode cX4_fire 132 = .ok (.iaload, 1) := by decide +kernel
theorem dX4_fire_133 : decode cX4_fire 133 = .ok (.iload 5, 2) := by decide +kernel
theorem dX4_fire_135 : decode cX4_fire 135 = .ok (.isub, 1) := by decide +kernel
theorem dX4_fire_136 : decode cX4_fire 136 = .ok (.iadd, 1) := by decide +kernel
theorem dX4_fire_137 : decode cX4_fire 137 = .ok (.iastore, 1) := by decide +kernel
theorem dX4_fire_138 : decode cX4_fire 138 = .ok (.aload_n 0, 1) := by decide +kernel
theorem dX4_fire_139 : decode cX4_fire 139 = .ok (.getfield 27, 3) := by decide +kernel
theorem dX4_fire_142 : decode cX4_fire 142 = .ok (.aload 4, 2) := by decide +kernel
theorem dX4_fire_144 : decode cX4_fire 144 = .ok (.iconst 0, 1) := by decide +kernel
theorem dX4_fire_145 : decode cX4_fire 145 = .ok (.iconst 0, 1) := by decide +kernel
theorem dX4_fire_146 : decode cX4_fire 146 = .ok (.iconst 0, 1) := by decide +kernel
theorem dX4_fire_147 : decode cX4_fire 147 = .ok (.iconst 0, 1) := by decide +kernel
theorem dX4_fire_148 : decode cX4_fire 148 = .ok (.invokevirtual 94, 3) := by decide +kernel
theorem dX4_fire_151 : decode cX4_fire 151 = .ok (.iinc 3 1, 3) := by decide +kernel
theorem dX4_fire_154 : decode cX4_fire 154 = .ok (.goto (-89), 3) := by decide +kernel
theorem dX4_fire_157 : decode cX4_fire 157 = .ok (.iload_n 2, 1) := by decide +kernel
theorem dX4_fire_158 : decode cX4_fire 158 = .ok (.ireturn, 1) := by decide +kernel
theorem dX4_order_0 : decode cX4_order 0 = .ok (.aload_n 0, 1) := by decide +kernel
theorem dX4_order_1 : decode cX4_order 1 = .ok (.iconst 0, 1) := by decide +kernel
theorem dX4_order_2 : decode cX4_order 2 = .ok (.putfield 34, 3) := by decide +kernel
theorem dX4_order_5 : decode cX4_order 5 = .ok (.iload_n 1, 1) := by decide +kernel
theorem dX4_order_6 : decode cX4_order 6 = .ok (.invokestatic 51, 3) := by decide +kernel
theorem dX4_order_9 : decode cX4_order 9 = .ok (.ifCond .eq 34, 3) := by decide +kernel
theorem dX4_order_12 : decode cX4_order 12 = .ok (.iload_n 2, 1) := by decide +kernel
theorem dX4_order_13 : decode cX4_order 13 = .ok (.iconst 1, 1) := by decide +kernel
theorem dX4_order_14 : decode cX4_order 14 = .ok (.bipush 99, 2) := by decide +kernel
theorem dX4_order_16 : decode cX4_order 16 = .ok (.invokestatic 38, 3) := by decide +kernel
theorem dX4_order_19 : decode cX4_order 19 = .ok (.ifCond .eq 24, 3) := by decide +kernel
theorem dX4_order_22 : decode cX4_order 22 = .ok (.iload_n 3, 1) := by decide +kernel
theorem dX4_order_23 : decode cX4_order 23 = .ok (.iconst 0, 1) := by decide +kernel
theorem dX4_order_24 : decode cX4_order 24 = .ok (.bipush 30, 2) := by decide +kernel
theorem dX4_order_26 : decode cX4_order 26 = .ok (.invokestatic 38, 3) := by decide +kernel
theorem dX4_order_29 : decode cX4_order 29 = .ok (.ifCond .eq 14, 3) := by decide +kernel
theorem dX4_order_32 : decode cX4_order 32 = .ok (.iload 4, 2) := by decide +kernel
theorem dX4_order_34 : decode cX4_order 34 = .ok (.iconst 1, 1) := by decide +kernel
theorem dX4_order_35 : decode cX4_order 35 = .ok (.bipush 99, 2) := by decide +kernel
theorem dX4_order_37 : decode cX4_order 37 = .ok (.invokestatic 38, 3) := by decide +kernel
theorem dX4_order_40 : decode cX4_order 40 = .ok (.ifCond .ne 9, 3) := by decide +kernel
theorem dX4_order_43 : decode cX4_order 43 = .ok (.aload_n 0, 1) := by decide +kernel
theorem dX4_order_44 : decode cX4_order 44 = .ok (.iconst 1, 1) := by decide +kernel
theorem dX4_order_45 : decode cX4_order 45 = .ok (.invokevirtual 55, 3) := by decide +kernel
theorem dX4_order_48 : decode cX4_order 48 = .ok (.ireturn, 1) := by decide +kernel
theorem dX4_order_49 : decode cX4_order 49 = .ok (.aload_n 0, 1) := by decide +kernel
theorem dX4_order_50 : decode cX4_order 50 = .ok (.getfield 27, 3) := by decide +kernel
theorem dX4_order_53 : decode cX4_order 53 = .ok (.getfield 116, 3) := by decide +kernel
theorem dX4_order_56 : decode cX4_order 56 = .ok (.bipush 8, 2) := by decide +kernel
theorem dX4_order_58 : decode cX4_order 58 = .ok (.if_icmp .ne 9, 3) := by decide +kernel
theorem dX4_order_61 : decode cX4_order 61 = .ok (.aload_n 0, 1) := by decide +kernel
theorem dX4_order_62 : decode cX4_order 62 = .ok (.iconst 2, 1) := by decide +kernel
theorem dX4_order_63 : decode cX4_order 63 = .ok (.invokevirtual 55, 3) := by decide +kernel
theorem dX4_order_66 : decode cX4_order 66 = .ok (.ireturn, 1) := by decide +kernel
theorem dX4_order_67 : decode cX4_order 67 = .ok (.iconst 5, 1) := by decide +kernel
theorem dX4_order_68 : decode cX4_order 68 = .ok (.newarray .int, 2) := by decide +kernel
theorem dX4_order_70 : decode cX4_order 70 = .ok (.dup, 1) := by decide +kernel
theorem dX4_order_71 : decode cX4_order 71 = .ok (.iconst 0, 1) := by decide +kernel
theorem dX4_order_72 : decode cX4_order 72 = .ok (.iload_n 1, 1) := by decide +kernel
theorem dX4_order_73 : decode cX4_order 73 = .ok (.iastore, 1) := by decide +kernel
theorem dX4_order_74 : decode cX4_order 74 = .ok (.dup, 1) := by decide +kernel
theorem dX4_order_75 : decode cX4_order 75 = .ok (.iconst 1, 1) := by decide +kernel
theorem dX4_order_76 : decode cX4_order 76 = .ok (.iload_n 2, 1) := by decide +kernel
theorem dX4_order_77 : decode cX4_order 77 = .ok (.iastore, 1) := by decide +kernel
theorem dX4_order_78 : decode cX4_order 78 = .ok (.dup, 1) := by decide +kernel
theorem dX4_order_79 : decode cX4_order 79 = .ok (.iconst 2, 1) := by decide +kernel
theorem dX4_order_80 : decode cX4_order 80 = .ok (.iload_n 3, 1) := by decide +kernel
theorem dX4_order_81 : decode cX4_order 81 = .ok (.iastore, 1) := by decide +kernel
theorem dX4_order_82 : decode cX4_order 82 = .ok (.dup, 1) := by decide +kernel
theorem dX4_order_83 : decode cX4_order 83 = .ok (.iconst 3, 1) := by decide +kernel
theorem dX4_order_84 : decode cX4_order 84 = .ok (.iload 4, 2) := by decide +kernel
theorem dX4_order_86 : decode cX4_order 86 = .ok (.iastore, 1) := by decide +kernel
theorem dX4_order_87 : decode cX4_order 87 = .ok (.dup, 1) := by decide +kernel
theorem dX4_order_88 : decode cX4_order 88 = .ok (.iconst 4, 1) := by decide +kernel
theorem dX4_order_89 : decode cX4_order 89 = .ok (.iconst 0, 1) := by decide +kernel
theorem dX4_order_90 : decode cX4_order 90 = .ok (.iastore, 1) := by decide +kernel
theorem dX4_order_91 : decode cX4_order 91 = .ok (.astore 5, 2) := by decide +kernel
theorem dX4_order_93 : decode cX4_order 93 = .ok (.aload 5, 2) := by decide +kernel
theorem dX4_order_95 : decode cX4_order 95 = .ok (.iconst 0, 1) := by decide +kernel
theorem dX4_order_96 : decode cX4_order 96 = .ok (.aload_n 0, 1) := by decide +kernel
theorem dX4_order_97 : decode cX4_order 97 = .ok (.getfield 27, 3) := by decide +kernel
theorem dX4_order_100 : decode cX4_order 100 = .ok (.getfield 119, 3) := by decide +kernel
theorem dX4_order_103 : decode cX4_order 103 = .ok (.aload_n 0, 1) := by decide +kernel
theorem dX4_order_104 : decode cX4_order 104 = .ok (.getfield 27, 3) := by decide +kernel
theorem dX4_order_107 : decode cX4_order 107 = .ok (.getfield 116, 3) := by decide +kernel
theorem dX4_order_110 : decode cX4_order 110 = .ok (.aaload, 1) := by decide +kernel
theorem dX4_order_111 : decode cX4_order 111 = .ok (.iconst 0, 1) := by decide +kernel
theorem dX4_order_112 : decode cX4_order 112 = .ok (.iconst 5, 1) := by decide +kernel
theorem dX4_order_113 : decode cX4_order 113 = .ok (.invokestatic 122, 3) := by decide +kernel
theorem dX4_order_116 : decode cX4_order 116 = .ok (.aload_n 0, 1) := by decide +kernel
theorem dX4_order_117 : decode cX4_order 117 = .ok (.getfield 27, 3) := by decide +kernel
theorem dX4_order_120 : decode cX4_order 120 = .ok (.dup, 1) := by decide +kernel
theorem dX4_order_121 : decode cX4_order 121 = .ok (.getfield 116, 3) := by decide +kernel
theorem dX4_order_124 : decode cX4_order 124 = .ok (.iconst 1, 1) := by decide +kernel
theorem dX4_order_125 : decode cX4_order 125 = .ok (.iadd, 1) := by decide +kernel
theorem dX4_order_126 : decode cX4_order 126 = .ok (.putfield 116, 3) := by decide +kernel
theorem dX4_order_129 : decode cX4_order 129 = .ok (.aload_n 0, 1) := by decide +kernel
theorem dX4_order_130 : decode cX4_order 130 = .ok (.getfield 27, 3) := by decide +kernel
theorem dX4_order_133 : decode cX4_order 133 = .ok (.getfield 116, 3) := by decide +kernel
theorem dX4_order_136 : decode cX4_order 136 = .ok (.ireturn, 1) := by decide +kernel
theorem dX4_mouldTold_0 : decode cX4_mouldTold 0 = .ok (.bipush 6, 2) := by decide +kernel
theorem dX4_mouldTold_2 : decode cX4_mouldTold 2 = .ok (.newarray .int, 2) := by decide +kernel
theorem dX4_mouldTold_4 : decode cX4_mouldTold 4 = .ok (.dup, 1) := by decide +kernel
theorem dX4_mouldTold_5 : decode cX4_mouldTold 5 = .ok (.iconst 0, 1) := by decide +kernel
theorem dX4_mouldTold_6 : decode cX4_mouldTold 6 = .ok (.aload_n 0, 1) := by decide +kernel
theorem dX4_mouldTold_7 : decode cX4_mouldTold 7 = .ok (.getfield 13, 3) := by decide +kernel
theorem dX4_mouldTold_10 : decode cX4_mouldTold 10 = .ok (.iload_n 1, 1) := by decide +kernel
theorem dX4_mouldTold_11 : decode cX4_mouldTold 11 = .ok (.iaload, 1) := by decide +kernel
theorem dX4_mouldTold_12 : decode cX4_mouldTold 12 = .ok (.iastore, 1) := by decide +kernel
theorem dX4_mouldTold_13 : decode cX4_mouldTold 13 = .ok (.dup, 1) := by decide +kernel
theorem dX4_mouldTold_14 : decode cX4_mouldTold 14 = .ok (.iconst 1, 1) := by decide +kernel
theorem dX4_mouldTold_15 : decode cX4_mouldTold 15 = .ok (.aload_n 0, 1) := by decide +kernel
theorem dX4_mouldTold_16 : decode cX4_mouldTold 16 = .ok (.getfield 27, 3) := by decide +kernel
theorem dX4_mouldTold_19 : decode cX4_mouldTold 19 = .ok (.getfield 59, 3) := by decide +kernel
theorem dX4_mouldTold_22 : decode cX4_mouldTold 22 = .ok (.iload_n 1, 1) := by decide +kernel
theorem dX4_mouldTold_23 : decode cX4_mouldTold 23 = .ok (.iaload, 1) := by decide +kernel
theorem dX4_mouldTold_24 : decode cX4_mouldTold 24 = .ok (.iastore, 1) := by decide +kernel
theorem dX4_mouldTold_25 : decode cX4_mouldTold 25 = .ok (.dup, 1) := by decide +kernel
theorem dX4_mouldTold_26 : decode cX4_mouldTold 26 = .ok (.iconst 2, 1) := by decide +kernel
theorem dX4_mouldTold_27 : decode cX4_mouldTold 27 = .ok (.aload_n 0, 1) := by decide +kernel
theorem dX4_mouldTold_28 : decode cX4_mouldTold 28 = .ok (.getfield 27, 3) := by decide +kernel
theorem dX4_mouldTold_31 : decode cX4_mouldTold 31 = .ok (.getfield 128, 3) := by decide +kernel
theorem dX4_mouldTold_34 : decode cX4_mouldTold 34 = .ok (.iload_n 1, 1) := by decide +kernel
theorem dX4_mouldTold_35 : decode cX4_mouldTold 35 = .ok (.iaload, 1) := by decide +kernel
theorem dX4_mouldTold_36 : decode cX4_mouldTold 36 = .ok (.iastore, 1) := by decide +kernel
theorem dX4_mouldTold_37 : decode cX4_mouldTold 37 = .ok (.dup, 1) := by decide +kernel
theorem dX4_mouldTold_38 : decode cX4_mouldTold 38 = .ok (.iconst 3, 1) := by decide +kernel
theorem dX4_mouldTold_39 : decode cX4_mouldTold 39 = .ok (.aload_n 0, 1) := by decide +kernel
theorem dX4_mouldTold_40 : decode cX4_mouldTold 40 = .ok (.getfield 27, 3) := by decide +kernel
theorem dX4_mouldTold_43 : decode cX4_mouldTold 43 = .ok (.iload_n 1, 1) := by decide +kernel
theorem dX4_mouldTold_44 : decode cX4_mouldTold 44 = .ok (.invokevirtual 131, 3) := by decide +kernel
theorem dX4_mouldTold_47 : decode cX4_mouldTold 47 = .ok (.iastore, 1) := by decide +kernel
theorem dX4_mouldTold_48 : decode cX4_mouldTold 48 = .ok (.dup, 1) := by decide +kernel
theorem dX4_mouldTold_49 : decode cX4_mouldTold 49 = .ok (.iconst 4, 1) := by decide +kernel
theorem dX4_mouldTold_50 : decode cX4_mouldTold 50 = .ok (.aload_n 0, 1) := by decide +kernel
theorem dX4_mouldTold_51 : decode cX4_mouldTold 51 = .ok (.iload_n 1, 1) := by decide +kernel
theorem dX4_mouldTold_52 : decode cX4_mouldTold 52 = .ok (.invokevirtual 134, 3) := by decide +kernel
theorem dX4_mouldTold_55 : decode cX4_mouldTold 55 = .ok (.iastore, 1) := by decide +kernel
theorem dX4_mouldTold_56 : decode cX4_mouldTold 56 = .ok (.dup, 1) := by decide +kernel
theorem dX4_mouldTold_57 : decode cX4_mouldTold 57 = .ok (.iconst 5, 1) := by decide +kernel
theorem dX4_mouldTold_58 : decode cX4_mouldTold 58 = .ok (.aload_n 0, 1) := by decide +kernel
theorem dX4_mouldTold_59 : decode cX4_mouldTold 59 = .ok (.iload_n 1, 1) := by decide +kernel
theorem dX4_mouldTold_60 : decode cX4_mouldTold 60 = .ok (.invokevirtual 71, 3) := by decide +kernel
theorem dX4_mouldTold_63 : decode cX4_mouldTold 63 = .ok (.iastore, 1) := by decide +kernel
theorem dX4_mouldTold_64 : decode cX4_mouldTold 64 = .ok (.astore_n 3, 1) := by decide +kernel
theorem dX4_mouldTold_65 : decode cX4_mouldTold 65 = .ok (.aload_n 3, 1) := by decide +kernel
theorem dX4_mouldTold_66 : decode cX4_mouldTold 66 = .ok (.iload_n 2, 1) := by decide +kernel
theorem dX4_mouldTold_67 : decode cX4_mouldTold 67 = .ok (.iaload, 1) := by decide +kernel
theorem dX4_mouldTold_68 : decode cX4_mouldTold 68 = .ok (.ireturn, 1) := by decide +kernel
theorem dX4_about_0 : decode cX4_about 0 = .ok (.aload_n 0, 1) := by decide +kernel
theorem dX4_about_1 : decode cX4_about 1 = .ok (.iconst 0, 1) := by decide +kernel
theorem dX4_about_2 : decode cX4_about 2 = .ok (.putfield 34, 3) := by decide +kernel
theorem dX4_about_5 : decode cX4_about 5 = .ok (.aload_n 0, 1) := by decide +kernel
theorem dX4_about_6 : decode cX4_about 6 = .ok (.iload_n 1, 1) := by decide +kernel
theorem dX4_about_7 : decode cX4_about 7 = .ok (.invokevirtual 62, 3) := by decide +kernel
theorem dX4_about_10 : decode cX4_about 10 = .ok (.ifCond .eq 21, 3) := by decide +kernel
theorem dX4_about_13 : decode cX4_about 13 = .ok (.iload_n 2, 1) := by decide +kernel
theorem dX4_about_14 : decode cX4_about 14 = .ok (.iconst 0, 1) := by decide +kernel
theorem dX4_about_15 : decode cX4_about 15 = .ok (.iconst 5, 1) := by decide +kernel
theorem dX4_about_16 : decode cX4_about 16 = .ok (.invokestatic 38, 3) := by decide +kernel
theorem dX4_about_19 : decode cX4_about 19 = .ok (.ifCond .eq 12, 3) := by decide +kernel
theorem dX4_about_22 : decode cX4_about 22 = .ok (.aload_n 0, 1) := by decide +kernel
theorem dX4_about_23 : decode cX4_about 23 = .ok (.iload_n 1, 1) := by decide +kernel
theorem dX4_about_24 : decode cX4_about 24 = .ok (.iload_n 2, 1) := by decide +kernel
theorem dX4_about_25 : decode cX4_about 25 = .ok (.invokevirtual 137, 3) := by decide +kernel
theorem dX4_about_28 : decode cX4_about 28 = .ok (.goto 8, 3) := by decide +kernel
theorem dX4_about_31 : decode cX4_about 31 = .ok (.aload_n 0, 1) := by decide +kernel
theorem dX4_about_32 : decode cX4_about 32 = .ok (.iconst 1, 1) := by decide +kernel
theorem dX4_about_33 : decode cX4_about 33 = .ok (.invokevirtual 55, 3) := by decide +kernel
theorem dX4_about_36 : decode cX4_about 36 = .ok (.ireturn, 1) := by decide +kernel
theorem dX4_makerTold_0 : decode cX4_makerTold 0 = .ok (.iload_n 2, 1) := by decide +kernel
theorem dX4_makerTold_1 : decode cX4_makerTold 1 = .ok (.ifCond .ne 12, 3) := by decide +kernel
theorem dX4_makerTold_4 : decode cX4_makerTold 4 = .ok (.aload_n 0, 1) := by decide +kernel
theorem dX4_makerTold_5 : decode cX4_makerTold 5 = .ok (.getfield 16, 3) := by decide +kernel
theorem dX4_makerTold_8 : decode cX4_makerTold 8 = .ok (.iload_n 1, 1) := by decide +kernel
theorem dX4_makerTold_9 : decode cX4_makerTold 9 = .ok (.iaload, 1) := by decide +kernel
theorem dX4_makerTold_10 : decode cX4_makerTold 10 = .ok (.goto 9, 3) := by decide +kernel
theorem dX4_makerTold_13 : decode cX4_makerTold 13 = .ok (.aload_n 0, 1) := by decide +kernel
theorem dX4_makerTold_14 : decode cX4_makerTold 14 = .ok (.getfield 19, 3) := by decide +kernel
theorem dX4_makerTold_17 : decode cX4_makerTold 17 = .ok (.iload_n 1, 1) := by decide +kernel
theorem dX4_makerTold_18 : decode cX4_makerTold 18 = .ok (.iaload, 1) := by decide +kernel
theorem dX4_makerTold_19 : decode cX4_makerTold 19 = .ok (.ireturn, 1) := by decide +kernel
theorem dX4_told_0 : decode cX4_told 0 = .ok (.aload_n 0, 1) := by decide +kernel
theorem dX4_told_1 : decode cX4_told 1 = .ok (.iconst 0, 1) := by decide +kernel
theorem dX4_told_2 : decode cX4_told 2 = .ok (.putfield 34, 3) := by decide +kernel
theorem dX4_told_5 : decode cX4_told 5 = .ok (.aload_n 0, 1) := by decide +kernel
theorem dX4_told_6 : decode cX4_told 6 = .ok (.iload_n 1, 1) := by decide +kernel
theorem dX4_told_7 : decode cX4_told 7 = .ok (.invokevirtual 68, 3) := by decide +kernel
theorem dX4_told_10 : decode cX4_told 10 = .ok (.ifCond .eq 21, 3) := by decide +kernel
theorem dX4_told_13 : decode cX4_told 13 = .ok (.iload_n 2, 1) := by decide +kernel
theorem dX4_told_14 : decode cX4_told 14 = .ok (.iconst 0, 1) := by decide +kernel
theorem dX4_told_15 : decode cX4_told 15 = .ok (.iconst 1, 1) := by decide +kernel
theorem dX4_told_16 : decode cX4_told 16 = .ok (.invokestatic 38, 3) := by decide +kernel
theorem dX4_told_19 : decode cX4_told 19 = .ok (.ifCond .eq 12, 3) := by decide +kernel
theorem dX4_told_22 : decode cX4_told 22 = .ok (.aload_n 0, 1) := by decide +kernel
theorem dX4_told_23 : decode cX4_told 23 = .ok (.iload_n 1, 1) := by decide +kernel
theorem dX4_told_24 : decode cX4_told 24 = .ok (.iload_n 2, 1) := by decide +kernel
theorem dX4_told_25 : decode cX4_told 25 = .ok (.invokevirtual 140, 3) := by decide +kernel
theorem dX4_told_28 : decode cX4_told 28 = .ok (.goto 8, 3) := by decide +kernel
theorem dX4_told_31 : decode cX4_told 31 = .ok (.aload_n 0, 1) := by decide +kernel
theorem dX4_told_32 : decode cX4_told 32 = .ok (.iconst 1, 1) := by decide +kernel
theorem dX4_told_33 : decode cX4_told 33 = .ok (.invokevirtual 55, 3) := by decide +kernel
theorem dX4_told_36 : decode cX4_told 36 = .ok (.ireturn, 1) := by decide +kernel
theorem dX4_batch_0 : decode cX4_batch 0 = .ok (.aload_n 0, 1) := by decide +kernel
theorem dX4_batch_1 : decode cX4_batch 1 = .ok (.iconst 0, 1) := by decide +kernel
theorem dX4_batch_2 : decode cX4_batch 2 = .ok (.putfield 34, 3) := by decide +kernel
theorem dX4_batch_5 : decode cX4_batch 5 = .ok (.aload_n 0, 1) := by decide +kernel
theorem dX4_batch_6 : decode cX4_batch 6 = .ok (.iload_n 1, 1) := by decide +kernel
theorem dX4_batch_7 : decode cX4_batch 7 = .ok (.invokevirtual 80, 3) := by decide +kernel
theorem dX4_batch_10 : decode cX4_batch 10 = .ok (.ifCond .eq 26, 3) := by decide +kernel
theorem dX4_batch_13 : decode cX4_batch 13 = .ok (.iload_n 2, 1) := by decide +kernel
theorem dX4_batch_14 : decode cX4_batch 14 = .ok (.iconst 0, 1) := by decide +kernel
theorem dX4_batch_15 : decode cX4_batch 15 = .ok (.iconst 3, 1) := by decide +kernel
theorem dX4_batch_16 : decode cX4_batch 16 = .ok (.invokestatic 38, 3) := by decide +kernel
theorem dX4_batch_19 : decode cX4_batch 19 = .ok (.ifCond .eq 17, 3) := by decide +kernel
theorem dX4_batch_22 : decode cX4_batch 22 = .ok (.aload_n 0, 1) := by decide +kernel
theorem dX4_batch_23 : decode cX4_batch 23 = .ok (.getfield 27, 3) := by decide +kernel
theorem dX4_batch_26 : decode cX4_batch 26 = .ok (.getfield 86, 3) := by decide +kernel
theorem dX4_batch_29 : decode cX4_batch 29 = .ok (.iload_n 1, 1) := by decide +kernel
theorem dX4_batch_30 : decode cX4_batch 30 = .ok (.aaload, 1) := by decide +kernel
theorem dX4_batch_31 : decode cX4_batch 31 = .ok (.iload_n 2, 1) := by decide +kernel
theorem dX4_batch_32 : decode cX4_batch 32 = .ok (.iaload, 1) := by decide +kernel
theorem dX4_batch_33 : decode cX4_batch 33 = .ok (.goto 8, 3) := by decide +kernel
theorem dX4_batch_36 : decode cX4_batch 36 = .ok (.aload_n 0, 1) := by decide +kernel
theorem dX4_batch_37 : decode cX4_batch 37 = .ok (.iconst 1, 1) := by decide +kernel
theorem dX4_batch_38 : decode cX4_batch 38 = .ok (.invokevirtual 55, 3) := by decide +kernel
theorem dX4_batch_41 : decode cX4_batch 41 = .ok (.ireturn, 1) := by decide +kernel
theorem dX4_saggar_0 : decode cX4_saggar 0 = .ok (.aload_n 0, 1) := by decide +kernel
theorem dX4_saggar_1 : decode cX4_saggar 1 = .ok (.iconst 0, 1) := by decide +kernel
theorem dX4_saggar_2 : decode cX4_saggar 2 = .ok (.putfield 34, 3) := by decide +kernel
theorem dX4_saggar_5 : decode cX4_saggar 5 = .ok (.iload_n 1, 1) := by decide +kernel
theorem dX4_saggar_6 : decode cX4_saggar 6 = .ok (.invokestatic 83, 3) := by decide +kernel
theorem dX4_saggar_9 : decode cX4_saggar 9 = .ok (.ifCond .eq 25, 3) := by decide +kernel
theorem dX4_saggar_12 : decode cX4_saggar 12 = .ok (.iload_n 2, 1) := by decide +kernel
theorem dX4_saggar_13 : decode cX4_saggar 13 = .ok (.iconst 0, 1) := by decide +kernel
theorem dX4_saggar_14 : decode cX4_saggar 14 = .ok (.iconst 3, 1) := by decide +kernel
theorem dX4_saggar_15 : decode cX4_saggar 15 = .ok (.invokestatic 38, 3) := by decide +kernel
theorem dX4_saggar_18 : decode cX4_saggar 18 = .ok (.ifCond .eq 16, 3) := by decide +kernel
theorem dX4_saggar_21 : decode cX4_saggar 21 = .ok (.aload_n 0, 1) := by decide +kernel
theorem dX4_saggar_22 : decode cX4_saggar 22 = .ok (.getfield 27, 3) := by decide +kernel
theorem dX4_saggar_25 : decode cX4_saggar 25 = .ok (.iload_n 1, 1) := by decide +kernel
theorem dX4_saggar_26 : decode cX4_saggar 26 = .ok (.invokevirtual 90, 3) := by decide +kernel
theorem dX4_saggar_29 : decode cX4_saggar 29 = .ok (.iload_n 2, 1) := by decide +kernel
theorem dX4_saggar_30 : decode cX4_saggar 30 = .ok (.iaload, 1) := by decide +kernel
theorem dX4_saggar_31 : decode cX4_saggar 31 = .ok (.goto 8, 3) := by decide +kernel
theorem dX4_saggar_34 : decode cX4_saggar 34 = .ok (.aload_n 0, 1) := by decide +kernel
theorem dX4_saggar_35 : decode cX4_saggar 35 = .ok (.iconst 1, 1) := by decide +kernel
theorem dX4_saggar_36 : decode cX4_saggar 36 = .ok (.invokevirtual 55, 3) := by decide +kernel
theorem dX4_saggar_39 : decode cX4_saggar 39 = .ok (.ireturn, 1) := by decide +kernel
theorem dX4_store_0 : decode cX4_store 0 = .ok (.aload_n 0, 1) := by decide +kernel
theorem dX4_store_1 : decode cX4_store 1 = .ok (.iconst 0, 1) := by decide +kernel
theorem dX4_store_2 : decode cX4_store 2 = .ok (.putfield 34, 3) := by decide +kernel
theorem dX4_store_5 : decode cX4_store 5 = .ok (.iload_n 1, 1) := by decide +kernel
theorem dX4_store_6 : decode cX4_store 6 = .ok (.invokestatic 51, 3) := by decide +kernel
theorem dX4_store_9 : decode cX4_store 9 = .ok (.ifCond .eq 15, 3) := by decide +kernel
theorem dX4_store_12 : decode cX4_store 12 = .ok (.aload_n 0, 1) := by decide +kernel
theorem dX4_store_13 : decode cX4_store 13 = .ok (.getfield 27, 3) := by decide +kernel
theorem dX4_store_16 : decode cX4_store 16 = .ok (.getfield 113, 3) := by decide +kernel
theorem dX4_store_19 : decode cX4_store 19 = .ok (.iload_n 1, 1) := by decide +kernel
theorem dX4_store_20 : decode cX4_store 20 = .ok (.iaload, 1) := by decide +kernel
theorem dX4_store_21 : decode cX4_store 21 = .ok (.goto 8, 3) := by decide +kernel
theorem dX4_store_24 : decode cX4_store 24 = .ok (.aload_n 0, 1) := by decide +kernel
theorem dX4_store_25 : decode cX4_store 25 = .ok (.iconst 1, 1) := by decide +kernel
theorem dX4_store_26 : decode cX4_store 26 = .ok (.invokevirtual 55, 3) := by decide +kernel
theorem dX4_store_29 : decode cX4_store 29 = .ok (.ireturn, 1) := by decide +kernel
theorem dX4_isWaiting_0 : decode cX4_isWaiting 0 = .ok (.iload_n 1, 1) := by decide +kernel
theorem dX4_isWaiting_1 : decode cX4_isWaiting 1 = .ok (.iconst 0, 1) := by decide +kernel
theorem dX4_isWaiting_2 : decode cX4_isWaiting 2 = .ok (.aload_n 0, 1) := by decide +kernel
theorem dX4_isWaiting_3 : decode cX4_isWaiting 3 = .ok (.getfield 27, 3) := by decide +kernel
theorem dX4_isWaiting_6 : decode cX4_isWaiting 6 = .ok (.getfield 116, 3) := by decide +kernel
theorem dX4_isWaiting_9 : decode cX4_isWaiting 9 = .ok (.iconst 1, 1) := by decide +kernel
theorem dX4_isWaiting_10 : decode cX4_isWaiting 10 = .ok (.isub, 1) := by decide +kernel
theorem dX4_isWaiting_11 : decode cX4_isWaiting 11 = .ok (.invokestatic 38, 3) := by decide +kernel
theorem dX4_isWaiting_14 : decode cX4_isWaiting 14 = .ok (.ireturn, 1) := by decide +kernel
theorem dX4_waits_0 : decode cX4_waits 0 = .ok (.aload_n 0, 1) := by decide +kernel
theorem dX4_waits_1 : decode cX4_waits 1 = .ok (.iconst 0, 1) := by decide +kernel
theorem dX4_waits_2 : decode cX4_waits 2 = .ok (.putfield 34, 3) := by decide +kernel
theorem dX4_waits_5 : decode cX4_waits 5 = .ok (.aload_n 0, 1) := by decide +kernel
theorem dX4_waits_6 : decode cX4_waits 6 = .ok (.iload_n 1, 1) := by decide +kernel
theorem dX4_waits_7 : decode cX4_waits 7 = .ok (.invokevirtual 143, 3) := by decide +kernel
theorem dX4_waits_10 : decode cX4_waits 10 = .ok (.ifCond .eq 26, 3) := by decide +kernel
theorem dX4_waits_13 : decode cX4_waits 13 = .ok (.iload_n 2, 1) := by decide +kernel
theorem dX4_waits_14 : decode cX4_waits 14 = .ok (.iconst 0, 1) := by decide +kernel
theorem dX4_waits_15 : decode cX4_waits 15 = .ok (.iconst 3, 1) := by decide +kernel
theorem dX4_waits_16 : decode cX4_waits 16 = .ok (.invokestatic 38, 3) := by decide +kernel
theorem dX4_waits_19 : decode cX4_waits 19 = .ok (.ifCond .eq 17, 3) := by decide +kernel
theorem dX4_waits_22 : decode cX4_waits 22 = .ok (.aload_n 0, 1) := by decide +kernel
theorem dX4_waits_23 : decode cX4_waits 23 = .ok (.getfield 27, 3) := by decide +kernel
theorem dX4_waits_26 : decode cX4_waits 26 = .ok (.getfield 119, 3) := by decide +kernel
theorem dX4_waits_29 : decode cX4_waits 29 = .ok (.iload_n 1, 1) := by decide +kernel
theorem dX4_waits_30 : decode cX4_waits 30 = .ok (.aaload, 1) := by decide +kernel
theorem dX4_waits_31 : decode cX4_waits 31 = .ok (.iload_n 2, 1) := by decide +kernel
theorem dX4_waits_32 : decode cX4_waits 32 = .ok (.iaload, 1) := by decide +kernel
theorem dX4_waits_33 : decode cX4_waits 33 = .ok (.goto 8, 3) := by decide +kernel
theorem dX4_waits_36 : decode cX4_waits 36 = .ok (.aload_n 0, 1) := by decide +kernel
theorem dX4_waits_37 : decode cX4_waits 37 = .ok (.iconst 1, 1) := by decide +kernel
theorem dX4_waits_38 : decode cX4_waits 38 = .ok (.invokevirtual 55, 3) := by decide +kernel
theorem dX4_waits_41 : decode cX4_waits 41 = .ok (.ireturn, 1) := by decide +kernel
theorem dX4_count_0 : decode cX4_count 0 = .ok (.aload_n 0, 1) := by decide +kernel
theorem dX4_count_1 : decode cX4_count 1 = .ok (.iconst 0, 1) := by decide +kernel
theorem dX4_count_2 : decode cX4_count 2 = .ok (.putfield 34, 3) := by decide +kernel
theorem dX4_count_5 : decode cX4_count 5 = .ok (.iload_n 1, 1) := by decide +kernel
theorem dX4_count_6 : decode cX4_count 6 = .ok (.iconst 0, 1) := by decide +kernel
theorem dX4_count_7 : decode cX4_count 7 = .ok (.bipush 11, 2) := by decide +kernel
theorem dX4_count_9 : decode cX4_count 9 = .ok (.invokestatic 38, 3) := by decide +kernel
theorem dX4_count_12 : decode cX4_count 12 = .ok (.ifCond .eq 14, 3) := by decide +kernel
theorem dX4_count_15 : decode cX4_count 15 = .ok (.aload_n 0, 1) := by decide +kernel
theorem dX4_count_16 : decode cX4_count 16 = .ok (.getfield 27, 3) := by decide +kernel
theorem dX4_count_19 : decode cX4_count 19 = .ok (.iload_n 1, 1) := by decide +kernel
theorem dX4_count_20 : decode cX4_count 20 = .ok (.invokevirtual 146, 3) := by decide +kernel
theorem dX4_count_23 : decode cX4_count 23 = .ok (.goto 8, 3) := by decide +kernel
theorem dX4_count_26 : decode cX4_count 26 = .ok (.aload_n 0, 1) := by decide +kernel
theorem dX4_count_27 : decode cX4_count 27 = .ok (.iconst 1, 1) := by decide +kernel
theorem dX4_count_28 : decode cX4_count 28 = .ok (.invokevirtual 55, 3) := by decide +kernel
theorem dX4_count_31 : decode cX4_count 31 = .ok (.ireturn, 1) := by decide +kernel
theorem dX4_pass_0 : decode cX4_pass 0 = .ok (.aload_n 0, 1) := by decide +kernel
theorem dX4_pass_1 : decode cX4_pass 1 = .ok (.iconst 0, 1) := by decide +kernel
theorem dX4_pass_2 : decode cX4_pass 2 = .ok (.putfield 34, 3) := by decide +kernel
theorem dX4_pass_5 : decode cX4_pass 5 = .ok (.iload_n 1, 1) := by decide +kernel
theorem dX4_pass_6 : decode cX4_pass 6 = .ok (.iconst 1, 1) := by decide +kernel
theorem dX4_pass_7 : decode cX4_pass 7 = .ok (.bipush 40, 2) := by decide +kernel
theorem dX4_pass_9 : decode cX4_pass 9 = .ok (.invokestatic 38, 3) := by decide +kernel
theorem dX4_pass_12 : decode cX4_pass 12 = .ok (.ifCond .ne 9, 3) := by decide +kernel
theorem dX4_pass_15 : decode cX4_pass 15 = .ok (.aload_n 0, 1) := by decide +kernel
theorem dX4_pass_16 : decode cX4_pass 16 = .ok (.iconst 1, 1) := by decide +kernel
theorem dX4_pass_17 : decode cX4_pass 17 = .ok (.invokevirtual 55, 3) := by decide +kernel
theorem dX4_pass_20 : decode cX4_pass 20 = .ok (.ireturn, 1) := by decide +kernel
theorem dX4_pass_21 : decode cX4_pass 21 = .ok (.aload_n 0, 1) := by decide +kernel
theorem dX4_pass_22 : decode cX4_pass 22 = .ok (.getfield 27, 3) := by decide +kernel
theorem dX4_pass_25 : decode cX4_pass 25 = .ok (.getfield 149, 3) := by decide +kernel
theorem dX4_pass_28 : decode cX4_pass 28 = .ok (.istore_n 2, 1) := by decide +kernel
theorem dX4_pass_29 : decode cX4_pass 29 = .ok (.aload_n 0, 1) := by decide +kernel
theorem dX4_pass_30 : decode cX4_pass 30 = .ok (.getfield 27, 3) := by decide +kernel
theorem dX4_pass_33 : decode cX4_pass 33 = .ok (.iload_n 1, 1) := by decide +kernel
theorem dX4_pass_34 : decode cX4_pass 34 = .ok (.invokevirtual 152, 3) := by decide +kernel
theorem dX4_pass_37 : decode cX4_pass 37 = .ok (.aload_n 0, 1) := by decide +kernel
theorem dX4_pass_38 : decode cX4_pass 38 = .ok (.getfield 27, 3) := by decide +kernel
theorem dX4_pass_41 : decode cX4_pass 41 = .ok (.getfield 149, 3) := by decide +kernel
theorem dX4_pass_44 : decode cX4_pass 44 = .ok (.iload_n 2, 1) := by decide +kernel
theorem dX4_pass_45 : decode cX4_pass 45 = .ok (.isub, 1) := by decide +kernel
theorem dX4_pass_46 : decode cX4_pass 46 = .ok (.ireturn, 1) := by decide +kernel
theorem dX4_breaks_0 : decode cX4_breaks 0 = .ok (.aload_n 0, 1) := by decide +kernel
theorem dX4_breaks_1 : decode cX4_breaks 1 = .ok (.iconst 0, 1) := by decide +kernel
theorem dX4_breaks_2 : decode cX4_breaks 2 = .ok (.putfield 34, 3) := by decide +kernel
theorem dX4_breaks_5 : decode cX4_breaks 5 = .ok (.iload_n 1, 1) := by decide +kernel
theorem dX4_breaks_6 : decode cX4_breaks 6 = .ok (.invokestatic 83, 3) := by decide +kernel
theorem dX4_breaks_9 : decode cX4_breaks 9 = .ok (.ifCond .ne 9, 3) := by decide +kernel
theorem dX4_breaks_12 : decode cX4_breaks 12 = .ok (.aload_n 0, 1) := by decide +kernel
theorem dX4_breaks_13 : decode cX4_breaks 13 = .ok (.iconst 1, 1) := by decide +kernel
theorem dX4_breaks_14 : decode cX4_breaks 14 = .ok (.invokevirtual 55, 3) := by decide +kernel
theorem dX4_breaks_17 : decode cX4_breaks 17 = .ok (.ireturn, 1) := by decide +kernel
theorem dX4_breaks_18 : decode cX4_breaks 18 = .ok (.iload_n 2, 1) := by decide +kernel
theorem dX4_breaks_19 : decode cX4_breaks 19 = .ok (.iconst 1, 1) := by decide +kernel
theorem dX4_breaks_20 : decode cX4_breaks 20 = .ok (.bipush 30, 2) := by decide +kernel
theorem dX4_breaks_22 : decode cX4_breaks 22 = .ok (.invokestatic 38, 3) := by decide +kernel
theorem dX4_breaks_25 : decode cX4_breaks 25 = .ok (.ifCond .eq 15, 3) := by decide +kernel
theorem dX4_breaks_28 : decode cX4_breaks 28 = .ok (.aload_n 0, 1) := by decide +kernel
theorem dX4_breaks_29 : decode cX4_breaks 29 = .ok (.getfield 27, 3) := by decide +kernel
theorem dX4_breaks_32 : decode cX4_breaks 32 = .ok (.iload_n 1, 1) := by decide +kernel
theorem dX4_breaks_33 : decode cX4_breaks 33 = .ok (.iload_n 2, 1) := by decide +kernel
theorem dX4_breaks_34 : decode cX4_breaks 34 = .ok (.invokevirtual 106, 3) := by decide +kernel
theorem dX4_breaks_37 : decode cX4_breaks 37 = .ok (.goto 8, 3) := by decide +kernel
theorem dX4_breaks_40 : decode cX4_breaks 40 = .ok (.aload_n 0, 1) := by decide +kernel
theorem dX4_breaks_41 : decode cX4_breaks 41 = .ok (.iconst 2, 1) := by decide +kernel
theorem dX4_breaks_42 : decode cX4_breaks 42 = .ok (.invokevirtual 55, 3) := by decide +kernel
theorem dX4_breaks_45 : decode cX4_breaks 45 = .ok (.ireturn, 1) := by decide +kernel
theorem dX4_advise_0 : decode cX4_advise 0 = .ok (.aload_n 0, 1) := by decide +kernel
theorem dX4_advise_1 : decode cX4_advise 1 = .ok (.iconst 0, 1) := by decide +kernel
theorem dX4_advise_2 : decode cX4_advise 2 = .ok (.putfield 34, 3) := by decide +kernel
theorem dX4_advise_5 : decode cX4_advise 5 = .ok (.aload_n 0, 1) := by decide +kernel
theorem dX4_advise_6 : decode cX4_advise 6 = .ok (.getfield 27, 3) := by decide +kernel
theorem dX4_advise_9 : decode cX4_advise 9 = .ok (.invokevirtual 102, 3) := by decide +kernel
theorem dX4_advise_12 : decode cX4_advise 12 = .ok (.ifCond .ne 5, 3) := by decide +kernel
theorem dX4_advise_15 : decode cX4_advise 15 = .ok (.iconst (-1), 1) := by decide +kernel
theorem dX4_advise_16 : decode cX4_advise 16 = .ok (.ireturn, 1) := by decide +kernel
theorem dX4_advise_17 : decode cX4_advise 17 = .ok (.iconst 0, 1) := by decide +kernel
theorem dX4_advise_18 : decode cX4_advise 18 = .ok (.istore_n 1, 1) := by decide +kernel
theorem dX4_advise_19 : decode cX4_advise 19 = .ok (.ldc 157, 2) := by decide +kernel
theorem dX4_advise_21 : decode cX4_advise 21 = .ok (.istore_n 2, 1) := by decide +kernel
theorem dX4_advise_22 : decode cX4_advise 22 = .ok (.iconst 1, 1) := by decide +kernel
theorem dX4_advise_23 : decode cX4_advise 23 = .ok (.istore_n 3, 1) := by decide +kernel
theorem dX4_advise_24 : decode cX4_advise 24 = .ok (.iload_n 3, 1) := by decide +kernel
theorem dX4_advise_25 : decode cX4_advise 25 = .ok (.bipush 30, 2) := by decide +kernel
theorem dX4_advise_27 : decode cX4_advise 27 = .ok (.if_icmp .gt 57, 3) := by decide +kernel
theorem dX4_advise_30 : decode cX4_advise 30 = .ok (.iconst 0, 1) := by decide +kernel
theorem dX4_advise_31 : decode cX4_advise 31 = .ok (.istore 4, 2) := by decide +kernel
theorem dX4_advise_33 : decode cX4_advise 33 = .ok (.iconst 0, 1) := by decide +kernel
theorem dX4_advise_34 : decode cX4_advise 34 = .ok (.istore 5, 2) := by decide +kernel
theorem dX4_advise_36 : decode cX4_advise 36 = .ok (.iload 5, 2) := by decide +kernel
theorem dX4_advise_38 : decode cX4_advise 38 = .ok (.bipush 6, 2) := by decide +kernel
theorem dX4_advise_40 : decode cX4_advise 40 = .ok (.if_icmp .ge 24, 3) := by decide +kernel
theorem dX4_advise_43 : decode cX4_advise 43 = .ok (.iload 4, 2) := by decide +kernel
theorem dX4_advise_45 : decode cX4_advise 45 = .ok (.aload_n 0, 1) := by decide +kernel
theorem dX4_advise_46 : decode cX4_advise 46 = .ok (.getfield 27, 3) := by decide +kernel
theorem dX4_advise_49 : decode cX4_advise 49 = .ok (.iload 5, 2) := by decide +kernel
theorem dX4_advise_51 : decode cX4_advise 51 = .ok (.iload_n 3, 1) := by decide +kernel
theorem dX4_advise_52 : decode cX4_advise 52 = .ok (.invokevirtual 106, 3) := by decide +kernel
theorem dX4_advise_55 : decode cX4_advise 55 = .ok (.iadd, 1) := by decide +kernel
theorem dX4_advise_56 : decode cX4_advise 56 = .ok (.istore 4, 2) := by decide +kernel
theorem dX4_advise_58 : decode cX4_advise 58 = .ok (.iinc 5 1, 3) := by decide +kernel
theorem dX4_advise_61 : decode cX4_advise 61 = .ok (.goto (-25), 3) := by decide +kernel
theorem dX4_advise_64 : decode cX4_advise 64 = .ok (.iload 4, 2) := by decide +kernel
theorem dX4_advise_66 : decode cX4_advise 66 = .ok (.iload_n 2, 1) := by decide +kernel
theorem dX4_advise_67 : decode cX4_advise 67 = .ok (.if_icmp .lt 6, 3) := by decide +kernel
theorem dX4_advise_70 : decode cX4_advise 70 = .ok (.goto 8, 3) := by decide +kernel
theorem dX4_advise_73 : decode cX4_advise 73 = .ok (.iload 4, 2) := by decide +kernel
theorem dX4_advise_75 : decode cX4_advise 75 = .ok (.istore_n 2, 1) := by decide +kernel
theorem dX4_advise_76 : decode cX4_advise 76 = .ok (.iload_n 3, 1) := by decide +kernel
theorem dX4_advise_77 : decode cX4_advise 77 = .ok (.istore_n 1, 1) := by decide +kernel
theorem dX4_advise_78 : decode cX4_advise 78 = .ok (.iinc 3 1, 3) := by decide +kernel
theorem dX4_advise_81 : decode cX4_advise 81 = .ok (.goto (-57), 3) := by decide +kernel
theorem dX4_advise_84 : decode cX4_advise 84 = .ok (.iload_n 1, 1) := by decide +kernel
theorem dX4_advise_85 : decode cX4_advise 85 = .ok (.ireturn, 1) := by decide +kernel
theorem dX4_ready_0 : decode cX4_ready 0 = .ok (.aload_n 0, 1) := by decide +kernel
theorem dX4_ready_1 : decode cX4_ready 1 = .ok (.iconst 0, 1) := by decide +kernel
theorem dX4_ready_2 : decode cX4_ready 2 = .ok (.putfield 34, 3) := by decide +kernel
theorem dX4_ready_5 : decode cX4_ready 5 = .ok (.aload_n 0, 1) := by decide +kernel
theorem dX4_ready_6 : decode cX4_ready 6 = .ok (.iload_n 1, 1) := by decide +kernel
theorem dX4_ready_7 : decode cX4_ready 7 = .ok (.invokevirtual 143, 3) := by decide +kernel
theorem dX4_ready_10 : decode cX4_ready 10 = .ok (.ifCond .ne 9, 3) := by decide +kernel
theorem dX4_ready_13 : decode cX4_ready 13 = .ok (.aload_n 0, 1) := by decide +kernel
theorem dX4_ready_14 : decode cX4_ready 14 = .ok (.iconst 1, 1) := by decide +kernel
theorem dX4_ready_15 : decode cX4_ready 15 = .ok (.invokevirtual 55, 3) := by decide +kernel
theorem dX4_ready_18 : decode cX4_ready 18 = .ok (.ireturn, 1) := by decide +kernel
theorem dX4_ready_19 : decode cX4_ready 19 = .ok (.aload_n 0, 1) := by decide +kernel
theorem dX4_ready_20 : decode cX4_ready 20 = .ok (.getfield 31, 3) := by decide +kernel
theorem dX4_ready_23 : decode cX4_ready 23 = .ok (.aload_n 0, 1) := by decide +kernel
theorem dX4_ready_24 : decode cX4_ready 24 = .ok (.getfield 27, 3) := by decide +kernel
theorem dX4_ready_27 : decode cX4_ready 27 = .ok (.invokevirtual 158, 3) := by decide +kernel
theorem dX4_ready_30 : decode cX4_ready 30 = .ok (.pop, 1) := by decide +kernel
theorem dX4_ready_31 : decode cX4_ready 31 = .ok (.aload_n 0, 1) := by decide +kernel
theorem dX4_ready_32 : decode cX4_ready 32 = .ok (.getfield 31, 3) := by decide +kernel
theorem dX4_ready_35 : decode cX4_ready 35 = .ok (.iload_n 1, 1) := by decide +kernel
theorem dX4_ready_36 : decode cX4_ready 36 = .ok (.putfield 162, 3) := by decide +kernel
theorem dX4_ready_39 : decode cX4_ready 39 = .ok (.iconst 0, 1) := by decide +kernel
theorem dX4_ready_40 : decode cX4_ready 40 = .ok (.istore_n 2, 1) := by decide +kernel
theorem dX4_ready_41 : decode cX4_ready 41 = .ok (.aload_n 0, 1) := by decide +kernel
theorem dX4_ready_42 : decode cX4_ready 42 = .ok (.getfield 31, 3) := by decide +kernel
theorem dX4_ready_45 : decode cX4_ready 45 = .ok (.getfield 165, 3) := by decide +kernel
theorem dX4_ready_48 : decode cX4_ready 48 = .ok (.ifCond .ne 16, 3) := by decide +kernel
theorem dX4_ready_51 : decode cX4_ready 51 = .ok (.aload_n 0, 1) := by decide +kernel
theorem dX4_ready_52 : decode cX4_ready 52 = .ok (.getfield 31, 3) := by decide +kernel
theorem dX4_ready_55 : decode cX4_ready 55 = .ok (.invokevirtual 168, 3) := by decide +kernel
theorem dX4_ready_58 : decode cX4_ready 58 = .ok (.iinc 2 1, 3) := by decide +kernel
theorem dX4_ready_61 : decode cX4_ready 61 = .ok (.goto (-20), 3) := by decide +kernel
theorem dX4_ready_64 : decode cX4_ready 64 = .ok (.aload_n 0, 1) := by decide +kernel
theorem dX4_ready_65 : decode cX4_ready 65 = .ok (.getfield 31, 3) := by decide +kernel
theorem dX4_ready_68 : decode cX4_ready 68 = .ok (.getfield 165, 3) := by decide +kernel
theorem dX4_ready_71 : decode cX4_ready 71 = .ok (.iconst 1, 1) := by decide +kernel
theorem dX4_ready_72 : decode cX4_ready 72 = .ok (.if_icmp .ne 7, 3) := by decide +kernel
theorem dX4_ready_75 : decode cX4_ready 75 = .ok (.iload_n 2, 1) := by decide +kernel
theorem dX4_ready_76 : decode cX4_ready 76 = .ok (.goto 4, 3) := by decide +kernel
theorem dX4_ready_79 : decode cX4_ready 79 = .ok (.iconst (-1), 1) := by decide +kernel
theorem dX4_ready_80 : decode cX4_ready 80 = .ok (.ireturn, 1) := by decide +kernel
theorem dX4_foresee_0 : decode cX4_foresee 0 = .ok (.aload_n 0, 1) := by decide +kernel
theorem dX4_foresee_1 : decode cX4_foresee 1 = .ok (.iconst 0, 1) := by decide +kernel
theorem dX4_foresee_2 : decode cX4_foresee 2 = .ok (.putfield 34, 3) := by decide +kernel
theorem dX4_foresee_5 : decode cX4_foresee 5 = .ok (.iload_n 1, 1) := by decide +kernel
theorem dX4_foresee_6 : decode cX4_foresee 6 = .ok (.iconst 1, 1) := by decide +kernel
theorem dX4_foresee_7 : decode cX4_foresee 7 = .ok (.bipush 40, 2) := by decide +kernel
theorem dX4_foresee_9 : decode cX4_foresee 9 = .ok (.invokestatic 38, 3) := by decide +kernel
theorem dX4_foresee_12 : decode cX4_foresee 12 = .ok (.ifCond .ne 9, 3) := by decide +kernel
theorem dX4_foresee_15 : decode cX4_foresee 15 = .ok (.aload_n 0, 1) := by decide +kernel
theorem dX4_foresee_16 : decode cX4_foresee 16 = .ok (.iconst 1, 1) := by decide +kernel
theorem dX4_foresee_17 : decode cX4_foresee 17 = .ok (.invokevirtual 55, 3) := by decide +kernel
theorem dX4_foresee_20 : decode cX4_foresee 20 = .ok (.ireturn, 1) := by decide +kernel
theorem dX4_foresee_21 : decode cX4_foresee 21 = .ok (.iload_n 2, 1) := by decide +kernel
theorem dX4_foresee_22 : decode cX4_foresee 22 = .ok (.iconst 0, 1) := by decide +kernel
theorem dX4_foresee_23 : decode cX4_foresee 23 = .ok (.bipush 11, 2) := by decide +kernel
theorem dX4_foresee_25 : decode cX4_foresee 25 = .ok (.invokestatic 38, 3) := by decide +kernel
theorem dX4_foresee_28 : decode cX4_foresee 28 = .ok (.ifCond .ne 9, 3) := by decide +kernel
theorem dX4_foresee_31 : decode cX4_foresee 31 = .ok (.aload_n 0, 1) := by decide +kernel
theorem dX4_foresee_32 : decode cX4_foresee 32 = .ok (.iconst 2, 1) := by decide +kernel
theorem dX4_foresee_33 : decode cX4_foresee 33 = .ok (.invokevirtual 55, 3) := by decide +kernel
theorem dX4_foresee_36 : decode cX4_foresee 36 = .ok (.ireturn, 1) := by decide +kernel
theorem dX4_foresee_37 : decode cX4_foresee 37 = .ok (.aload_n 0, 1) := by decide +kernel
theorem dX4_foresee_38 : decode cX4_foresee 38 = .ok (.getfield 31, 3) := by decide +kernel
theorem dX4_foresee_41 : decode cX4_foresee 41 = .ok (.aload_n 0, 1) := by decide +kernel
theorem dX4_foresee_42 : decode cX4_foresee 42 = .ok (.getfield 27, 3) := by decide +kernel
theorem dX4_foresee_45 : decode cX4_foresee 45 = .ok (.invokevirtual 158, 3) := by decide +kernel
theorem dX4_foresee_48 : decode cX4_foresee 48 = .ok (.iload_n 1, 1) := by decide +kernel
theorem dX4_foresee_49 : decode cX4_foresee 49 = .ok (.invokevirtual 152, 3) := by decide +kernel
theorem dX4_foresee_52 : decode cX4_foresee 52 = .ok (.aload_n 0, 1) := by decide +kernel
theorem dX4_foresee_53 : decode cX4_foresee 53 = .ok (.getfield 31, 3) := by decide +kernel
theorem dX4_foresee_56 : decode cX4_foresee 56 = .ok (.iload_n 2, 1) := by decide +kernel
theorem dX4_foresee_57 : decode cX4_foresee 57 = .ok (.invokevirtual 146, 3) := by decide +kernel
theorem dX4_foresee_60 : decode cX4_foresee 60 = .ok (.ireturn, 1) := by decide +kernel
theorem dX4_mean_0 : decode cX4_mean 0 = .ok (.aload_n 0, 1) := by decide +kernel
theorem dX4_mean_1 : decode cX4_mean 1 = .ok (.iconst 0, 1) := by decide +kernel
theorem dX4_mean_2 : decode cX4_mean 2 = .ok (.putfield 34, 3) := by decide +kernel
theorem dX4_mean_5 : decode cX4_mean 5 = .ok (.iconst 0, 1) := by decide +kernel
theorem dX4_mean_6 : decode cX4_mean 6 = .ok (.istore_n 1, 1) := by decide +kernel
theorem dX4_mean_7 : decode cX4_mean 7 = .ok (.iconst 0, 1) := by decide +kernel
theorem dX4_mean_8 : decode cX4_mean 8 = .ok (.istore_n 2, 1) := by decide +kernel
theorem dX4_mean_9 : decode cX4_mean 9 = .ok (.iconst 0, 1) := by decide +kernel
theorem dX4_mean_10 : decode cX4_mean 10 = .ok (.istore_n 3, 1) := by decide +kernel
theorem dX4_mean_11 : decode cX4_mean 11 = .ok (.iload_n 3, 1) := by decide +kernel
theorem dX4_mean_12 : decode cX4_mean 12 = .ok (.aload_n 0, 1) := by decide +kernel
theorem dX4_mean_13 : decode cX4_mean 13 = .ok (.getfield 27, 3) := by decide +kernel
theorem dX4_mean_16 : decode cX4_mean 16 = .ok (.getfield 48, 3) := by decide +kernel
theorem dX4_mean_19 : decode cX4_mean 19 = .ok (.if_icmp .ge 49, 3) := by decide +kernel
theorem dX4_mean_22 : decode cX4_mean 22 = .ok (.iload_n 1, 1) := by decide +kernel
theorem dX4_mean_23 : decode cX4_mean 23 = .ok (.aload_n 0, 1) := by decide +kernel
theorem dX4_mean_24 : decode cX4_mean 24 = .ok (.getfield 27, 3) := by decide +kernel
theorem dX4_mean_27 : decode cX4_mean 27 = .ok (.getfield 86, 3) := by decide +kernel
theorem dX4_mean_30 : decode cX4_mean 30 = .ok (.iload_n 3, 1) := by decide +kernel
theorem dX4_mean_31 : decode cX4_mean 31 = .ok (.aaload, 1) := by decide +kernel
theorem dX4_mean_32 : decode cX4_mean 32 = .ok (.iconst 1, 1) := by decide +kernel
theorem dX4_mean_33 : decode cX4_mean 33 = .ok (.iaload, 1) := by decide +kernel
theorem dX4_mean_34 : decode cX4_mean 34 = .ok (.iadd, 1) := by decide +kernel
theorem dX4_mean_35 : decode cX4_mean 35 = .ok (.istore_n 1, 1) := by decide +kernel
theorem dX4_mean_36 : decode cX4_mean 36 = .ok (.iload_n 2, 1) := by decide +kernel
theorem dX4_mean_37 : decode cX4_mean 37 = .ok (.aload_n 0, 1) := by decide +kernel
theorem dX4_mean_38 : decode cX4_mean 38 = .ok (.getfield 27, 3) := by decide +kernel
theorem dX4_mean_41 : decode cX4_mean 41 = .ok (.getfield 86, 3) := by decide +kernel
theorem dX4_mean_44 : decode cX4_mean 44 = .ok (.iload_n 3, 1) := by decide +kernel
theorem dX4_mean_45 : decode cX4_mean 45 = .ok (.aaload, 1) := by decide +kernel
theorem dX4_mean_46 : decode cX4_mean 46 = .ok (.iconst 1, 1) := by decide +kernel
theorem dX4_mean_47 : decode cX4_mean 47 = .ok (.iaload, 1) := by decide +kernel
theorem dX4_mean_48 : decode cX4_mean 48 = .ok (.aload_n 0, 1) := by decide +kernel
theorem dX4_mean_49 : decode cX4_mean 49 = .ok (.getfield 27, 3) := by decide +kernel
theorem dX4_mean_52 : decode cX4_mean 52 = .ok (.getfield 86, 3) := by decide +kernel
theorem dX4_mean_55 : decode cX4_mean 55 = .ok (.iload_n 3, 1) := by decide +kernel
theorem dX4_mean_56 : decode cX4_mean 56 = .ok (.aaload, 1) := by decide +kernel
theorem dX4_mean_57 : decode cX4_mean 57 = .ok (.iconst 3, 1) := by decide +kernel
theorem dX4_mean_58 : decode cX4_mean 58 = .ok (.iaload, 1) := by decide +kernel
theorem dX4_mean_59 : decode cX4_mean 59 = .ok (.imul, 1) := by decide +kernel
theorem dX4_mean_60 : decode cX4_mean 60 = .ok (.iadd, 1) := by decide +kernel
theorem dX4_mean_61 : decode cX4_mean 61 = .ok (.istore_n 2, 1) := by decide +kernel
theorem dX4_mean_62 : decode cX4_mean 62 = .ok (.iinc 3 1, 3) := by decide +kernel
theorem dX4_mean_65 : decode cX4_mean 65 = .ok (.goto (-54), 3) := by decide +kernel
theorem dX4_mean_68 : decode cX4_mean 68 = .ok (.iload_n 1, 1) := by decide +kernel
theorem dX4_mean_69 : decode cX4_mean 69 = .ok (.ifCond .ne 7, 3) := by decide +kernel
theorem dX4_mean_72 : decode cX4_mean 72 = .ok (.dconst 0, 1) := by decide +kernel
theorem dX4_mean_73 : decode cX4_mean 73 = .ok (.goto 8, 3) := by decide +kernel
theorem dX4_mean_76 : decode cX4_mean 76 = .ok (.iload_n 2, 1) := by decide +kernel
theorem dX4_mean_77 : decode cX4_mean 77 = .ok (.i2d, 1) := by decide +kernel
theorem dX4_mean_78 : decode cX4_mean 78 = .ok (.iload_n 1, 1) := by decide +kernel
theorem dX4_mean_79 : decode cX4_mean 79 = .ok (.i2d, 1) := by decide +kernel
theorem dX4_mean_80 : decode cX4_mean 80 = .ok (.ddiv, 1) := by decide +kernel
theorem dX4_mean_81 : decode cX4_mean 81 = .ok (.dreturn, 1) := by decide +kernel
theorem dX4_digest_0 : decode cX4_digest 0 = .ok (.aload_n 0, 1) := by decide +kernel
theorem dX4_digest_1 : decode cX4_digest 1 = .ok (.iconst 0, 1) := by decide +kernel
theorem dX4_digest_2 : decode cX4_digest 2 = .ok (.putfield 34, 3) := by decide +kernel
theorem dX4_digest_5 : decode cX4_digest 5 = .ok (.ldc2_w 170, 3) := by decide +kernel
theorem dX4_digest_8 : decode cX4_digest 8 = .ok (.lstore_n 1, 1) := by decide +kernel
theorem dX4_digest_9 : decode cX4_digest 9 = .ok (.iconst 0, 1) := by decide +kernel
theorem dX4_digest_10 : decode cX4_digest 10 = .ok (.istore_n 3, 1) := by decide +kernel
theorem dX4_digest_11 : decode cX4_digest 11 = .ok (.iload_n 3, 1) := by decide +kernel
theorem dX4_digest_12 : decode cX4_digest 12 = .ok (.bipush 11, 2) := by decide +kernel
theorem dX4_digest_14 : decode cX4_digest 14 = .ok (.if_icmp .gt 25, 3) := by decide +kernel
theorem dX4_digest_17 : decode cX4_digest 17 = .ok (.lload_n 1, 1) := by decide +kernel
theorem dX4_digest_18 : decode cX4_digest 18 = .ok (.ldc2_w 172, 3) := by decide +kernel
theorem dX4_digest_21 : decode cX4_digest 21 = .ok (.lmul, 1) := by decide +kernel
theorem dX4_digest_22 : decode cX4_digest 22 = .ok (.aload_n 0, 1) := by decide +kernel
theorem dX4_digest_23 : decode cX4_digest 23 = .ok (.getfield 27, 3) := by decide +kernel
theorem dX4_digest_26 : decode cX4_digest 26 = .ok (.iload_n 3, 1) := by decide +kernel
theorem dX4_digest_27 : decode cX4_digest 27 = .ok (.invokevirtual 146, 3) := by decide +kernel
theorem dX4_digest_30 : decode cX4_digest 30 = .ok (.i2l, 1) := by decide +kernel
theorem dX4_digest_31 : decode cX4_digest 31 = .ok (.ladd, 1) := by decide +kernel
theorem dX4_digest_32 : decode cX4_digest 32 = .ok (.lstore_n 1, 1) := by decide +kernel
theorem dX4_digest_33 : decode cX4_digest 33 = .ok (.iinc 3 1, 3) := by decide +kernel
theorem dX4_digest_36 : decode cX4_digest 36 = .ok (.goto (-25), 3) := by decide +kernel
theorem dX4_digest_39 : decode cX4_digest 39 = .ok (.aload_n 0, 1) := by decide +kernel
theorem dX4_digest_40 : decode cX4_digest 40 = .ok (.getfield 7, 3) := by decide +kernel
theorem dX4_digest_43 : decode cX4_digest 43 = .ok (.astore_n 3, 1) := by decide +kernel
theorem dX4_digest_44 : decode cX4_digest 44 = .ok (.aload_n 3, 1) := by decide +kernel
theorem dX4_digest_45 : decode cX4_digest 45 = .ok (.arraylength, 1) := by decide +kernel
theorem dX4_digest_46 : decode cX4_digest 46 = .ok (.istore 4, 2) := by decide +kernel
theorem dX4_digest_48 : decode cX4_digest 48 = .ok (.iconst 0, 1) := by decide +kernel
theorem dX4_digest_49 : decode cX4_digest 49 = .ok (.istore 5, 2) := by decide +kernel
theorem dX4_digest_51 : decode cX4_digest 51 = .ok (.iload 5, 2) := by decide +kernel
theorem dX4_digest_53 : decode cX4_digest 53 = .ok (.iload 4, 2) := by decide +kernel
theorem dX4_digest_55 : decode cX4_digest 55 = .ok (.if_icmp .ge 25, 3) := by decide +kernel
theorem dX4_digest_58 : decode cX4_digest 58 = .ok (.aload_n 3, 1) := by decide +kernel
theorem dX4_digest_59 : decode cX4_digest 59 = .ok (.iload 5, 2) := by decide +kernel
theorem dX4_digest_61 : decode cX4_digest 61 = .ok (.iaload, 1) := by decide +kernel
theorem dX4_digest_62 : decode cX4_digest 62 = .ok (.istore 6, 2) := by decide +kernel
theorem dX4_digest_64 : decode cX4_digest 64 = .ok (.lload_n 1, 1) := by decide +kernel
theorem dX4_digest_65 : decode cX4_digest 65 = .ok (.ldc2_w 172, 3) := by decide +kernel
theorem dX4_digest_68 : decode cX4_digest 68 = .ok (.lmul, 1) := by decide +kernel
theorem dX4_digest_69 : decode cX4_digest 69 = .ok (.iload 6, 2) := by decide +kernel
theorem dX4_digest_71 : decode cX4_digest 71 = .ok (.i2l, 1) := by decide +kernel
theorem dX4_digest_72 : decode cX4_digest 72 = .ok (.ladd, 1) := by decide +kernel
theorem dX4_digest_73 : decode cX4_digest 73 = .ok (.lstore_n 1, 1) := by decide +kernel
theorem dX4_digest_74 : decode cX4_digest 74 = .ok (.iinc 5 1, 3) := by decide +kernel
theorem dX4_digest_77 : decode cX4_digest 77 = .ok (.goto (-26), 3) := by decide +kernel
theorem dX4_digest_80 : decode cX4_digest 80 = .ok (.iconst 0, 1) := by decide +kernel
theorem dX4_digest_81 : decode cX4_digest 81 = .ok (.istore_n 3, 1) := by decide +kernel
theorem dX4_digest_82 : decode cX4_digest 82 = .ok (.iload_n 3, 1) := by decide +kernel
theorem dX4_digest_83 : decode cX4_digest 83 = .ok (.aload_n 0, 1) := by decide +kernel
theorem dX4_digest_84 : decode cX4_digest 84 = .ok (.getfield 42, 3) := by decide +kernel
theorem dX4_digest_87 : decode cX4_digest 87 = .ok (.if_icmp .ge 39, 3) := by decide +kernel
theorem dX4_digest_90 : decode cX4_digest 90 = .ok (.iconst 0, 1) := by decide +kernel
theorem dX4_digest_91 : decode cX4_digest 91 = .ok (.istore 4, 2) := by decide +kernel
theorem dX4_digest_93 : decode cX4_digest 93 = .ok (.iload 4, 2) := by decide +kernel
theorem dX4_digest_95 : decode cX4_digest 95 = .ok (.iconst 5, 1) := by decide +kernel
theorem dX4_digest_96 : decode cX4_digest 96 = .ok (.if_icmp .gt 24, 3) := by decide +kernel
theorem dX4_digest_99 : decode cX4_digest 99 = .ok (.lload_n 1, 1) := by decide +kernel
theorem dX4_digest_100 : decode cX4_digest 100 = .ok (.ldc2_w 172, 3) := by decide +kernel
theorem dX4_digest_103 : decode cX4_digest 103 = .ok (.lmul, 1) := by decide +kernel
theorem dX4_digest_104 : decode cX4_digest 104 = .ok (.aload_n 0, 1) := by decide +kernel
theorem dX4_digest_105 : decode cX4_digest 105 = .ok (.iload_n 3, 1) := by decide +kernel
theorem dX4_digest_106 : decode cX4_digest 106 = .ok (.iload 4, 2) := by decide +kernel
theorem dX4_digest_108 : decode cX4_digest 108 = .ok (.invokevirtual 137, 3) := by decide +kernel
theorem dX4_digest_111 : decode cX4_digest 111 = .ok (.i2l, 1) := by decide +kernel
theorem dX4_digest_112 : decode cX4_digest 112 = .ok (.ladd, 1) := by decide +kernel
theorem dX4_digest_113 : decode cX4_digest 113 = .ok (.lstore_n 1, 1) := by decide +kernel
theorem dX4_digest_114 : decode cX4_digest 114 = .ok (.iinc 4 1, 3) := by decide +kernel
theorem dX4_digest_117 : decode cX4_digest 117 = .ok (.goto (-24), 3) := by decide +kernel
theorem dX4_digest_120 : decode cX4_digest 120 = .ok (.iinc 3 1, 3) := by decide +kernel
theorem dX4_digest_123 : decode cX4_digest 123 = .ok (.goto (-41), 3) := by decide +kernel
theorem dX4_digest_126 : decode cX4_digest 126 = .ok (.iconst 0, 1) := by decide +kernel
theorem dX4_digest_127 : decode cX4_digest 127 = .ok (.istore_n 3, 1) := by decide +kernel
theorem dX4_digest_128 : decode cX4_digest 128 = .ok (.iload_n 3, 1) := by decide +kernel
theorem dX4_digest_129 : decode cX4_digest 129 = .ok (.aload_n 0, 1) := by decide +kernel
theorem dX4_digest_130 : decode cX4_digest 130 = .ok (.getfield 45, 3) := by decide +kernel
theorem dX4_digest_133 : decode cX4_digest 133 = .ok (.if_icmp .ge 39, 3) := by decide +kernel
theorem dX4_digest_136 : decode cX4_digest 136 = .ok (.iconst 0, 1) := by decide +kernel
theorem dX4_digest_137 : decode cX4_digest 137 = .ok (.istore 4, 2) := by decide +kernel
theorem dX4_digest_139 : decode cX4_digest 139 = .ok (.iload 4, 2) := by decide +kernel
theorem dX4_digest_141 : decode cX4_digest 141 = .ok (.iconst 1, 1) := by decide +kernel
theorem dX4_digest_142 : decode cX4_digest 142 = .ok (.if_icmp .gt 24, 3) := by decide +kernel
theorem dX4_digest_145 : decode cX4_digest 145 = .ok (.lload_n 1, 1) := by decide +kernel
theorem dX4_digest_146 : decode cX4_digest 146 = .ok (.ldc2_w 172, 3) := by decide +kernel
theorem dX4_digest_149 : decode cX4_digest 149 = .ok (.lmul, 1) := by decide +kernel
theorem dX4_digest_150 : decode cX4_digest 150 = .ok (.aload_n 0, 1) := by decide +kernel
theorem dX4_digest_151 : decode cX4_digest 151 = .ok (.iload_n 3, 1) := by decide +kernel
theorem dX4_digest_152 : decode cX4_digest 152 = .ok (.iload 4, 2) := by decide +kernel
theorem dX4_digest_154 : decode cX4_digest 154 = .ok (.invokevirtual 140, 3) := by decide +kernel
theorem dX4_digest_157 : decode cX4_digest 157 = .ok (.i2l, 1) := by decide +kernel
theorem dX4_digest_158 : decode cX4_digest 158 = .ok (.ladd, 1) := by decide +kernel
theorem dX4_digest_159 : decode cX4_digest 159 = .ok (.lstore_n 1, 1) := by decide +kernel
theorem dX4_digest_160 : decode cX4_digest 160 = .ok (.iinc 4 1, 3) := by decide +kernel
theorem dX4_digest_163 : decode cX4_digest 163 = .ok (.goto (-24), 3) := by decide +kernel
theorem dX4_digest_166 : decode cX4_digest 166 = .ok (.iinc 3 1, 3) := by decide +kernel
theorem dX4_digest_169 : decode cX4_digest 169 = .ok (.goto (-41), 3) := by decide +kernel
theorem dX4_digest_172 : decode cX4_digest 172 = .ok (.iconst 0, 1) := by decide +kernel
theorem dX4_digest_173 : decode cX4_digest 173 = .ok (.istore_n 3, 1) := by decide +kernel
theorem dX4_digest_174 : decode cX4_digest 174 = .ok (.iload_n 3, 1) := by decide +kernel
theorem dX4_digest_175 : decode cX4_digest 175 = .ok (.aload_n 0, 1) := by decide +kernel
theorem dX4_digest_176 : decode cX4_digest 176 = .ok (.getfield 27, 3) := by decide +kernel
theorem dX4_digest_179 : decode cX4_digest 179 = .ok (.getfield 48, 3) := by decide +kernel
theorem dX4_digest_182 : decode cX4_digest 182 = .ok (.if_icmp .ge 44, 3) := by decide +kernel
theorem dX4_digest_185 : decode cX4_digest 185 = .ok (.iconst 0, 1) := by decide +kernel
theorem dX4_digest_186 : decode cX4_digest 186 = .ok (.istore 4, 2) := by decide +kernel
theorem dX4_digest_188 : decode cX4_digest 188 = .ok (.iload 4, 2) := by decide +kernel
theorem dX4_digest_190 : decode cX4_digest 190 = .ok (.iconst 3, 1) := by decide +kernel
theorem dX4_digest_191 : decode cX4_digest 191 = .ok (.if_icmp .gt 29, 3) := by decide +kernel
theorem dX4_digest_194 : decode cX4_digest 194 = .ok (.lload_n 1, 1) := by decide +kernel
theorem dX4_digest_195 : decode cX4_digest 195 = .ok (.ldc2_w 172, 3) := by decide +kernel
theorem dX4_digest_198 : decode cX4_digest 198 = .ok (.lmul, 1) := by decide +kernel
theorem dX4_digest_199 : decode cX4_digest 199 = .ok (.aload_n 0, 1) := by decide +kernel
theorem dX4_digest_200 : decode cX4_digest 200 = .ok (.getfield 27, 3) := by decide +kernel
theorem dX4_digest_203 : decode cX4_digest 203 = .ok (.getfield 86, 3) := by decide +kernel
theorem dX4_digest_206 : decode cX4_digest 206 = .ok (.iload_n 3, 1) := by decide +kernel
theorem dX4_digest_207 : decode cX4_digest 207 = .ok (.aaload, 1) := by decide +kernel
theorem dX4_digest_208 : decode cX4_digest 208 = .ok (.iload 4, 2) := by decide +kernel
theorem dX4_digest_210 : decode cX4_digest 210 = .ok (.iaload, 1) := by decide +kernel
theorem dX4_digest_211 : decode cX4_digest 211 = .ok (.i2l, 1) := by decide +kernel
theorem dX4_digest_212 : decode cX4_digest 212 = .ok (.ladd, 1) := by decide +kernel
theorem dX4_digest_213 : decode cX4_digest 213 = .ok (.lstore_n 1, 1) := by decide +kernel
theorem dX4_digest_214 : decode cX4_digest 214 = .ok (.iinc 4 1, 3) := by decide +kernel
theorem dX4_digest_217 : decode cX4_digest 217 = .ok (.goto (-29), 3) := by decide +kernel
theorem dX4_digest_220 : decode cX4_digest 220 = .ok (.iinc 3 1, 3) := by decide +kernel
theorem dX4_digest_223 : decode cX4_digest 223 = .ok (.goto (-49), 3) := by decide +kernel
theorem dX4_digest_226 : decode cX4_digest 226 = .ok (.iconst 0, 1) := by decide +kernel
theorem dX4_digest_227 : decode cX4_digest 227 = .ok (.istore_n 3, 1) := by decide +kernel
theorem dX4_digest_228 : decode cX4_digest 228 = .ok (.iload_n 3, 1) := by decide +kernel
theorem dX4_digest_229 : decode cX4_digest 229 = .ok (.bipush 6, 2) := by decide +kernel
theorem dX4_digest_231 : decode cX4_digest 231 = .ok (.if_icmp .ge 43, 3) := by decide +kernel
theorem dX4_digest_234 : decode cX4_digest 234 = .ok (.iconst 0, 1) := by decide +kernel
theorem dX4_digest_235 : decode cX4_digest 235 = .ok (.istore 4, 2) := by decide +kernel
theorem dX4_digest_237 : decode cX4_digest 237 = .ok (.iload 4, 2) := by decide +kernel
theorem dX4_digest_239 : decode cX4_digest 239 = .ok (.iconst 3, 1) := by decide +kernel
theorem dX4_digest_240 : decode cX4_digest 240 = .ok (.if_icmp .gt 28, 3) := by decide +kernel
theorem dX4_digest_243 : decode cX4_digest 243 = .ok (.lload_n 1, 1) := by decide +kernel
theorem dX4_digest_244 : decode cX4_digest 244 = .ok (.ldc2_w 172, 3) := by decide +kernel
theorem dX4_digest_247 : decode cX4_digest 247 = .ok (.lmul, 1) := by decide +kernel
theorem dX4_digest_248 : decode cX4_digest 248 = .ok (.aload_n 0, 1) := by decide +kernel
theorem dX4_digest_249 : decode cX4_digest 249 = .ok (.getfield 27, 3) := by decide +kernel
theorem dX4_digest_252 : decode cX4_digest 252 = .ok (.iload_n 3, 1) := by decide +kernel
theorem dX4_digest_253 : decode cX4_digest 253 = .ok (.invokevirtual 90, 3) := by decide +kernel
theorem dX4_digest_256 : decode cX4_digest 256 = .ok (.iload 4, 2) := by decide +kernel
theorem dX4_digest_258 : decode cX4_digest 258 = .ok (.iaload, 1) := by decide +kernel
theorem dX4_digest_259 : decode cX4_digest 259 = .ok (.i2l, 1) := by decide +kernel
theorem dX4_digest_260 : decode cX4_digest 260 = .ok (.ladd, 1) := by decide +kernel
theorem dX4_digest_261 : decode cX4_digest 261 = .ok (.lstore_n 1, 1) := by decide +kernel
theorem dX4_digest_262 : decode cX4_digest 262 = .ok (.iinc 4 1, 3) := by decide +kernel
theorem dX4_digest_265 : decode cX4_digest 265 = .ok (.goto (-28), 3) := by decide +kernel
theorem dX4_digest_268 : decode cX4_digest 268 = .ok (.iinc 3 1, 3) := by decide +kernel
theorem dX4_digest_271 : decode cX4_digest 271 = .ok (.goto (-43), 3) := by decide +kernel
theorem dX4_digest_274 : decode cX4_digest 274 = .ok (.iconst 4, 1) := by decide +kernel
theorem dX4_digest_275 : decode cX4_digest 275 = .ok (.istore_n 3, 1) := by decide +kernel
theorem dX4_digest_276 : decode cX4_digest 276 = .ok (.iload_n 3, 1) := by decide +kernel
theorem dX4_digest_277 : decode cX4_digest 277 = .ok (.bipush 24, 2) := by decide +kernel
theorem dX4_digest_279 : decode cX4_digest 279 = .ok (.if_icmp .gt 26, 3) := by decide +kernel
theorem dX4_digest_282 : decode cX4_digest 282 = .ok (.lload_n 1, 1) := by decide +kernel
theorem dX4_digest_283 : decode cX4_digest 283 = .ok (.ldc2_w 172, 3) := by decide +kernel
theorem dX4_digest_286 : decode cX4_digest 286 = .ok (.lmul, 1) := by decide +kernel
theorem dX4_digest_287 : decode cX4_digest 287 = .ok (.aload_n 0, 1) := by decide +kernel
theorem dX4_digest_288 : decode cX4_digest 288 = .ok (.getfield 27, 3) := by decide +kernel
theorem dX4_digest_291 : decode cX4_digest 291 = .ok (.getfield 113, 3) := by decide +kernel
theorem dX4_digest_294 : decode cX4_digest 294 = .ok (.iload_n 3, 1) := by decide +kernel
theorem dX4_digest_295 : decode cX4_digest 295 = .ok (.iaload, 1) := by decide +kernel
theorem dX4_digest_296 : decode cX4_digest 296 = .ok (.i2l, 1) := by decide +kernel
theorem dX4_digest_297 : decode cX4_digest 297 = .ok (.ladd, 1) := by decide +kernel
theorem dX4_digest_298 : decode cX4_digest 298 = .ok (.lstore_n 1, 1) := by decide +kernel
theorem dX4_digest_299 : decode cX4_digest 299 = .ok (.iinc 3 1, 3) := by decide +kernel
theorem dX4_digest_302 : decode cX4_digest 302 = .ok (.goto (-26), 3) := by decide +kernel
theorem dX4_digest_305 : decode cX4_digest 305 = .ok (.iconst 0, 1) := by decide +kernel
theorem dX4_digest_306 : decode cX4_digest 306 = .ok (.istore_n 3, 1) := by decide +kernel
theorem dX4_digest_307 : decode cX4_digest 307 = .ok (.iload_n 3, 1) := by decide +kernel
theorem dX4_digest_308 : decode cX4_digest 308 = .ok (.aload_n 0, 1) := by decide +kernel
theorem dX4_digest_309 : decode cX4_digest 309 = .ok (.getfield 27, 3) := by decide +kernel
theorem dX4_digest_312 : decode cX4_digest 312 = .ok (.getfield 116, 3) := by decide +kernel
theorem dX4_digest_315 : decode cX4_digest 315 = .ok (.if_icmp .ge 44, 3) := by decide +kernel
theorem dX4_digest_318 : decode cX4_digest 318 = .ok (.iconst 0, 1) := by decide +kernel
theorem dX4_digest_319 : decode cX4_digest 319 = .ok (.istore 4, 2) := by decide +kernel
theorem dX4_digest_321 : decode cX4_digest 321 = .ok (.iload 4, 2) := by decide +kernel
theorem dX4_digest_323 : decode cX4_digest 323 = .ok (.iconst 3, 1) := by decide +kernel
theorem dX4_digest_324 : decode cX4_digest 324 = .ok (.if_icmp .gt 29, 3) := by decide +kernel
theorem dX4_digest_327 : decode cX4_digest 327 = .ok (.lload_n 1, 1) := by decide +kernel
theorem dX4_digest_328 : decode cX4_digest 328 = .ok (.ldc2_w 172, 3) := by decide +kernel
theorem dX4_digest_331 : decode cX4_digest 331 = .ok (.lmul, 1) := by decide +kernel
theorem dX4_digest_332 : decode cX4_digest 332 = .ok (.aload_n 0, 1) := by decide +kernel
theorem dX4_digest_333 : decode cX4_digest 333 = .ok (.getfield 27, 3) := by decide +kernel
theorem dX4_digest_336 : decode cX4_digest 336 = .ok (.getfield 119, 3) := by decide +kernel
theorem dX4_digest_339 : decode cX4_digest 339 = .ok (.iload_n 3, 1) := by decide +kernel
theorem dX4_digest_340 : decode cX4_digest 340 = .ok (.aaload, 1) := by decide +kernel
theorem dX4_digest_341 : decode cX4_digest 341 = .ok (.iload 4, 2) := by decide +kernel
theorem dX4_digest_343 : decode cX4_digest 343 = .ok (.iaload, 1) := by decide +kernel
theorem dX4_digest_344 : decode cX4_digest 344 = .ok (.i2l, 1) := by decide +kernel
theorem dX4_digest_345 : decode cX4_digest 345 = .ok (.ladd, 1) := by decide +kernel
theorem dX4_digest_346 : decode cX4_digest 346 = .ok (.lstore_n 1, 1) := by decide +kernel
theorem dX4_digest_347 : decode cX4_digest 347 = .ok (.iinc 4 1, 3) := by decide +kernel
theorem dX4_digest_350 : decode cX4_digest 350 = .ok (.goto (-29), 3) := by decide +kernel
theorem dX4_digest_353 : decode cX4_digest 353 = .ok (.iinc 3 1, 3) := by decide +kernel
theorem dX4_digest_356 : decode cX4_digest 356 = .ok (.goto (-49), 3) := by decide +kernel
theorem dX4_digest_359 : decode cX4_digest 359 = .ok (.lload_n 1, 1) := by decide +kernel
theorem dX4_digest_360 : decode cX4_digest 360 = .ok (.lreturn, 1) := by decide +kernel
