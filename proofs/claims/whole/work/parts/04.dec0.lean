theorem dX0_init_0 : decode cX0_init 0 = .ok (.aload_n 0, 1) := by decide +kernel
theorem dX0_init_1 : decode cX0_init 1 = .ok (.invokespecial 3, 3) := by decide +kernel
theorem dX0_init_4 : decode cX0_init 4 = .ok (.aload_n 0, 1) := by decide +kernel
theorem dX0_init_5 : decode cX0_init 5 = .ok (.aload_n 1, 1) := by decide +kernel
theorem dX0_init_6 : decode cX0_init 6 = .ok (.putfield 9, 3) := by decide +kernel
theorem dX0_init_9 : decode cX0_init 9 = .ok (.aload_n 0, 1) := by decide +kernel
theorem dX0_init_10 : decode cX0_init 10 = .ok (.iload_n 2, 1) := by decide +kernel
theorem dX0_init_11 : decode cX0_init 11 = .ok (.putfield 15, 3) := by decide +kernel
theorem dX0_init_14 : decode cX0_init 14 = .ok (.aload_n 0, 1) := by decide +kernel
theorem dX0_init_15 : decode cX0_init 15 = .ok (.iload_n 3, 1) := by decide +kernel
theorem dX0_init_16 : decode cX0_init 16 = .ok (.putfield 19, 3) := by decide +kernel
theorem dX0_init_19 : decode cX0_init 19 = .ok (.return_, 1) := by decide +kernel
theorem dX0_copyFrom_0 : decode cX0_copyFrom 0 = .ok (.aload_n 1, 1) := by decide +kernel
theorem dX0_copyFrom_1 : decode cX0_copyFrom 1 = .ok (.getfield 9, 3) := by decide +kernel
theorem dX0_copyFrom_4 : decode cX0_copyFrom 4 = .ok (.iconst 0, 1) := by decide +kernel
theorem dX0_copyFrom_5 : decode cX0_copyFrom 5 = .ok (.aload_n 0, 1) := by decide +kernel
theorem dX0_copyFrom_6 : decode cX0_copyFrom 6 = .ok (.getfield 9, 3) := by decide +kernel
theorem dX0_copyFrom_9 : decode cX0_copyFrom 9 = .ok (.iconst 0, 1) := by decide +kernel
theorem dX0_copyFrom_10 : decode cX0_copyFrom 10 = .ok (.aload_n 0, 1) := by decide +kernel
theorem dX0_copyFrom_11 : decode cX0_copyFrom 11 = .ok (.getfield 9, 3) := by decide +kernel
theorem dX0_copyFrom_14 : decode cX0_copyFrom 14 = .ok (.arraylength, 1) := by decide +kernel
theorem dX0_copyFrom_15 : decode cX0_copyFrom 15 = .ok (.aload_n 1, 1) := by decide +kernel
theorem dX0_copyFrom_16 : decode cX0_copyFrom 16 = .ok (.getfield 9, 3) := by decide +kernel
theorem dX0_copyFrom_19 : decode cX0_copyFrom 19 = .ok (.arraylength, 1) := by decide +kernel
theorem dX0_copyFrom_20 : decode cX0_copyFrom 20 = .ok (.invokestatic 22, 3) := by decide +kernel
theorem dX0_copyFrom_23 : decode cX0_copyFrom 23 = .ok (.invokestatic 28, 3) := by decide +kernel
theorem dX0_copyFrom_26 : decode cX0_copyFrom 26 = .ok (.aload_n 0, 1) := by decide +kernel
theorem dX0_copyFrom_27 : decode cX0_copyFrom 27 = .ok (.aload_n 1, 1) := by decide +kernel
theorem dX0_copyFrom_28 : decode cX0_copyFrom 28 = .ok (.getfield 19, 3) := by decide +kernel
theorem dX0_copyFrom_31 : decode cX0_copyFrom 31 = .ok (.putfield 19, 3) := by decide +kernel
theorem dX0_copyFrom_34 : decode cX0_copyFrom 34 = .ok (.return_, 1) := by decide +kernel
theorem dX0_size_0 : decode cX0_size 0 = .ok (.aload_n 0, 1) := by decide +kernel
theorem dX0_size_1 : decode cX0_size 1 = .ok (.getfield 19, 3) := by decide +kernel
theorem dX0_size_4 : decode cX0_size 4 = .ok (.ireturn, 1) := by decide +kernel
theorem dX0_isFull_0 : decode cX0_isFull 0 = .ok (.aload_n 0, 1) := by decide +kernel
theorem dX0_isFull_1 : decode cX0_isFull 1 = .ok (.getfield 19, 3) := by decide +kernel
theorem dX0_isFull_4 : decode cX0_isFull 4 = .ok (.iconst 1, 1) := by decide +kernel
theorem dX0_isFull_5 : decode cX0_isFull 5 = .ok (.iadd, 1) := by decide +kernel
theorem dX0_isFull_6 : decode cX0_isFull 6 = .ok (.aload_n 0, 1) := by decide +kernel
theorem dX0_isFull_7 : decode cX0_isFull 7 = .ok (.getfield 15, 3) := by decide +kernel
theorem dX0_isFull_10 : decode cX0_isFull 10 = .ok (.imul, 1) := by decide +kernel
theorem dX0_isFull_11 : decode cX0_isFull 11 = .ok (.aload_n 0, 1) := by decide +kernel
theorem dX0_isFull_12 : decode cX0_isFull 12 = .ok (.getfield 9, 3) := by decide +kernel
theorem dX0_isFull_15 : decode cX0_isFull 15 = .ok (.arraylength, 1) := by decide +kernel
theorem dX0_isFull_16 : decode cX0_isFull 16 = .ok (.if_icmp .le 7, 3) := by decide +kernel
theorem dX0_isFull_19 : decode cX0_isFull 19 = .ok (.iconst 1, 1) := by decide +kernel
theorem dX0_isFull_20 : decode cX0_isFull 20 = .ok (.goto 4, 3) := by decide +kernel
theorem dX0_isFull_23 : decode cX0_isFull 23 = .ok (.iconst 0, 1) := by decide +kernel
theorem dX0_isFull_24 : decode cX0_isFull 24 = .ok (.ireturn, 1) := by decide +kernel
theorem dX0_width_0 : decode cX0_width 0 = .ok (.aload_n 0, 1) := by decide +kernel
theorem dX0_width_1 : decode cX0_width 1 = .ok (.getfield 15, 3) := by decide +kernel
theorem dX0_width_4 : decode cX0_width 4 = .ok (.ireturn, 1) := by decide +kernel
theorem dX0_hasRow_0 : decode cX0_hasRow 0 = .ok (.iload_n 1, 1) := by decide +kernel
theorem dX0_hasRow_1 : decode cX0_hasRow 1 = .ok (.ifCond .lt 15, 3) := by decide +kernel
theorem dX0_hasRow_4 : decode cX0_hasRow 4 = .ok (.iload_n 1, 1) := by decide +kernel
theorem dX0_hasRow_5 : decode cX0_hasRow 5 = .ok (.aload_n 0, 1) := by decide +kernel
theorem dX0_hasRow_6 : decode cX0_hasRow 6 = .ok (.getfield 19, 3) := by decide +kernel
theorem dX0_hasRow_9 : decode cX0_hasRow 9 = .ok (.if_icmp .ge 7, 3) := by decide +kernel
theorem dX0_hasRow_12 : decode cX0_hasRow 12 = .ok (.iconst 1, 1) := by decide +kernel
theorem dX0_hasRow_13 : decode cX0_hasRow 13 = .ok (.goto 4, 3) := by decide +kernel
theorem dX0_hasRow_16 : decode cX0_hasRow 16 = .ok (.iconst 0, 1) := by decide +kernel
theorem dX0_hasRow_17 : decode cX0_hasRow 17 = .ok (.ireturn, 1) := by decide +kernel
theorem dX0_hasColumn_0 : decode cX0_hasColumn 0 = .ok (.iload_n 1, 1) := by decide +kernel
theorem dX0_hasColumn_1 : decode cX0_hasColumn 1 = .ok (.ifCond .lt 15, 3) := by decide +kernel
theorem dX0_hasColumn_4 : decode cX0_hasColumn 4 = .ok (.iload_n 1, 1) := by decide +kernel
theorem dX0_hasColumn_5 : decode cX0_hasColumn 5 = .ok (.aload_n 0, 1) := by decide +kernel
theorem dX0_hasColumn_6 : decode cX0_hasColumn 6 = .ok (.getfield 15, 3) := by decide +kernel
theorem dX0_hasColumn_9 : decode cX0_hasColumn 9 = .ok (.if_icmp .ge 7, 3) := by decide +kernel
theorem dX0_hasColumn_12 : decode cX0_hasColumn 12 = .ok (.iconst 1, 1) := by decide +kernel
theorem dX0_hasColumn_13 : decode cX0_hasColumn 13 = .ok (.goto 4, 3) := by decide +kernel
theorem dX0_hasColumn_16 : decode cX0_hasColumn 16 = .ok (.iconst 0, 1) := by decide +kernel
theorem dX0_hasColumn_17 : decode cX0_hasColumn 17 = .ok (.ireturn, 1) := by decide +kernel
theorem dX0_at_0 : decode cX0_at 0 = .ok (.iload_n 1, 1) := by decide +kernel
theorem dX0_at_1 : decode cX0_at 1 = .ok (.aload_n 0, 1) := by decide +kernel
theorem dX0_at_2 : decode cX0_at 2 = .ok (.getfield 15, 3) := by decide +kernel
theorem dX0_at_5 : decode cX0_at 5 = .ok (.imul, 1) := by decide +kernel
theorem dX0_at_6 : decode cX0_at 6 = .ok (.iload_n 2, 1) := by decide +kernel
theorem dX0_at_7 : decode cX0_at 7 = .ok (.iadd, 1) := by decide +kernel
theorem dX0_at_8 : decode cX0_at 8 = .ok (.istore_n 3, 1) := by decide +kernel
theorem dX0_at_9 : decode cX0_at 9 = .ok (.iload_n 1, 1) := by decide +kernel
theorem dX0_at_10 : decode cX0_at 10 = .ok (.ifCond .lt 36, 3) := by decide +kernel
theorem dX0_at_13 : decode cX0_at 13 = .ok (.iload_n 1, 1) := by decide +kernel
theorem dX0_at_14 : decode cX0_at 14 = .ok (.aload_n 0, 1) := by decide +kernel
theorem dX0_at_15 : decode cX0_at 15 = .ok (.getfield 19, 3) := by decide +kernel
theorem dX0_at_18 : decode cX0_at 18 = .ok (.if_icmp .ge 28, 3) := by decide +kernel
theorem dX0_at_21 : decode cX0_at 21 = .ok (.iload_n 2, 1) := by decide +kernel
theorem dX0_at_22 : decode cX0_at 22 = .ok (.ifCond .lt 24, 3) := by decide +kernel
theorem dX0_at_25 : decode cX0_at 25 = .ok (.iload_n 2, 1) := by decide +kernel
theorem dX0_at_26 : decode cX0_at 26 = .ok (.aload_n 0, 1) := by decide +kernel
theorem dX0_at_27 : decode cX0_at 27 = .ok (.getfield 15, 3) := by decide +kernel
theorem dX0_at_30 : decode cX0_at 30 = .ok (.if_icmp .ge 16, 3) := by decide +kernel
theorem dX0_at_33 : decode cX0_at 33 = .ok (.iload_n 3, 1) := by decide +kernel
theorem dX0_at_34 : decode cX0_at 34 = .ok (.ifCond .lt 12, 3) := by decide +kernel
theorem dX0_at_37 : decode cX0_at 37 = .ok (.iload_n 3, 1) := by decide +kernel
theorem dX0_at_38 : decode cX0_at 38 = .ok (.aload_n 0, 1) := by decide +kernel
theorem dX0_at_39 : decode cX0_at 39 = .ok (.getfield 9, 3) := by decide +kernel
theorem dX0_at_42 : decode cX0_at 42 = .ok (.arraylength, 1) := by decide +kernel
theorem dX0_at_43 : decode cX0_at 43 = .ok (.if_icmp .lt 5, 3) := by decide +kernel
theorem dX0_at_46 : decode cX0_at 46 = .ok (.iconst 0, 1) := by decide +kernel
theorem dX0_at_47 : decode cX0_at 47 = .ok (.ireturn, 1) := by decide +kernel
theorem dX0_at_48 : decode cX0_at 48 = .ok (.aload_n 0, 1) := by decide +kernel
theorem dX0_at_49 : decode cX0_at 49 = .ok (.getfield 9, 3) := by decide +kernel
theorem dX0_at_52 : decode cX0_at 52 = .ok (.iload_n 3, 1) := by decide +kernel
theorem dX0_at_53 : decode cX0_at 53 = .ok (.iaload, 1) := by decide +kernel
theorem dX0_at_54 : decode cX0_at 54 = .ok (.ireturn, 1) := by decide +kernel
theorem dX0_put_0 : decode cX0_put 0 = .ok (.iload_n 1, 1) := by decide +kernel
theorem dX0_put_1 : decode cX0_put 1 = .ok (.aload_n 0, 1) := by decide +kernel
theorem dX0_put_2 : decode cX0_put 2 = .ok (.getfield 15, 3) := by decide +kernel
theorem dX0_put_5 : decode cX0_put 5 = .ok (.imul, 1) := by decide +kernel
theorem dX0_put_6 : decode cX0_put 6 = .ok (.iload_n 2, 1) := by decide +kernel
theorem dX0_put_7 : decode cX0_put 7 = .ok (.iadd, 1) := by decide +kernel
theorem dX0_put_8 : decode cX0_put 8 = .ok (.istore 4, 2) := by decide +kernel
theorem dX0_put_10 : decode cX0_put 10 = .ok (.iload_n 1, 1) := by decide +kernel
theorem dX0_put_11 : decode cX0_put 11 = .ok (.ifCond .lt 38, 3) := by decide +kernel
theorem dX0_put_14 : decode cX0_put 14 = .ok (.iload_n 1, 1) := by decide +kernel
theorem dX0_put_15 : decode cX0_put 15 = .ok (.aload_n 0, 1) := by decide +kernel
theorem dX0_put_16 : decode cX0_put 16 = .ok (.getfield 19, 3) := by decide +kernel
theorem dX0_put_19 : decode cX0_put 19 = .ok (.if_icmp .ge 30, 3) := by decide +kernel
theorem dX0_put_22 : decode cX0_put 22 = .ok (.iload_n 2, 1) := by decide +kernel
theorem dX0_put_23 : decode cX0_put 23 = .ok (.ifCond .lt 26, 3) := by decide +kernel
theorem dX0_put_26 : decode cX0_put 26 = .ok (.iload_n 2, 1) := by decide +kernel
theorem dX0_put_27 : decode cX0_put 27 = .ok (.aload_n 0, 1) := by decide +kernel
theorem dX0_put_28 : decode cX0_put 28 = .ok (.getfield 15, 3) := by decide +kernel
theorem dX0_put_31 : decode cX0_put 31 = .ok (.if_icmp .ge 18, 3) := by decide +kernel
theorem dX0_put_34 : decode cX0_put 34 = .ok (.iload 4, 2) := by decide +kernel
theorem dX0_put_36 : decode cX0_put 36 = .ok (.ifCond .lt 13, 3) := by decide +kernel
theorem dX0_put_39 : decode cX0_put 39 = .ok (.iload 4, 2) := by decide +kernel
theorem dX0_put_41 : decode cX0_put 41 = .ok (.aload_n 0, 1) := by decide +kernel
theorem dX0_put_42 : decode cX0_put 42 = .ok (.getfield 9, 3) := by decide +kernel
theorem dX0_put_45 : decode cX0_put 45 = .ok (.arraylength, 1) := by decide +kernel
theorem dX0_put_46 : decode cX0_put 46 = .ok (.if_icmp .lt 4, 3) := by decide +kernel
theorem dX0_put_49 : decode cX0_put 49 = .ok (.return_, 1) := by decide +kernel
theorem dX0_put_50 : decode cX0_put 50 = .ok (.aload_n 0, 1) := by decide +kernel
theorem dX0_put_51 : decode cX0_put 51 = .ok (.getfield 9, 3) := by decide +kernel
theorem dX0_put_54 : decode cX0_put 54 = .ok (.iload 4, 2) := by decide +kernel
theorem dX0_put_56 : decode cX0_put 56 = .ok (.iload_n 3, 1) := by decide +kernel
theorem dX0_put_57 : decode cX0_put 57 = .ok (.iastore, 1) := by decide +kernel
theorem dX0_put_58 : decode cX0_put 58 = .ok (.return_, 1) := by decide +kernel
theorem dX0_addRow_0 : decode cX0_addRow 0 = .ok (.aload_n 0, 1) := by decide +kernel
theorem dX0_addRow_1 : decode cX0_addRow 1 = .ok (.invokevirtual 34, 3) := by decide +kernel
theorem dX0_addRow_4 : decode cX0_addRow 4 = .ok (.ifCond .eq 5, 3) := by decide +kernel
theorem dX0_addRow_7 : decode cX0_addRow 7 = .ok (.iconst (-1), 1) := by decide +kernel
theorem dX0_addRow_8 : decode cX0_addRow 8 = .ok (.ireturn, 1) := by decide +kernel
theorem dX0_addRow_9 : decode cX0_addRow 9 = .ok (.aload_n 0, 1) := by decide +kernel
theorem dX0_addRow_10 : decode cX0_addRow 10 = .ok (.dup, 1) := by decide +kernel
theorem dX0_addRow_11 : decode cX0_addRow 11 = .ok (.getfield 19, 3) := by decide +kernel
theorem dX0_addRow_14 : decode cX0_addRow 14 = .ok (.iconst 1, 1) := by decide +kernel
theorem dX0_addRow_15 : decode cX0_addRow 15 = .ok (.iadd, 1) := by decide +kernel
theorem dX0_addRow_16 : decode cX0_addRow 16 = .ok (.putfield 19, 3) := by decide +kernel
theorem dX0_addRow_19 : decode cX0_addRow 19 = .ok (.aload_n 0, 1) := by decide +kernel
theorem dX0_addRow_20 : decode cX0_addRow 20 = .ok (.getfield 19, 3) := by decide +kernel
theorem dX0_addRow_23 : decode cX0_addRow 23 = .ok (.iconst 1, 1) := by decide +kernel
theorem dX0_addRow_24 : decode cX0_addRow 24 = .ok (.isub, 1) := by decide +kernel
theorem dX0_addRow_25 : decode cX0_addRow 25 = .ok (.ireturn, 1) := by decide +kernel
theorem dX0_removeRow_0 : decode cX0_removeRow 0 = .ok (.iload_n 1, 1) := by decide +kernel
theorem dX0_removeRow_1 : decode cX0_removeRow 1 = .ok (.ifCond .lt 11, 3) := by decide +kernel
theorem dX0_removeRow_4 : decode cX0_removeRow 4 = .ok (.iload_n 1, 1) := by decide +kernel
theorem dX0_removeRow_5 : decode cX0_removeRow 5 = .ok (.aload_n 0, 1) := by decide +kernel
theorem dX0_removeRow_6 : decode cX0_removeRow 6 = .ok (.getfield 19, 3) := by decide +kernel
theorem dX0_removeRow_9 : decode cX0_removeRow 9 = .ok (.if_icmp .lt 4, 3) := by decide +kernel
theorem dX0_removeRow_12 : decode cX0_removeRow 12 = .ok (.return_, 1) := by decide +kernel
theorem dX0_removeRow_13 : decode cX0_removeRow 13 = .ok (.aload_n 0, 1) := by decide +kernel
theorem dX0_removeRow_14 : decode cX0_removeRow 14 = .ok (.dup, 1) := by decide +kernel
theorem dX0_removeRow_15 : decode cX0_removeRow 15 = .ok (.getfield 19, 3) := by decide +kernel
theorem dX0_removeRow_18 : decode cX0_removeRow 18 = .ok (.iconst 1, 1) := by decide +kernel
theorem dX0_removeRow_19 : decode cX0_removeRow 19 = .ok (.isub, 1) := by decide +kernel
theorem dX0_removeRow_20 : decode cX0_removeRow 20 = .ok (.putfield 19, 3) := by decide +kernel
theorem dX0_removeRow_23 : decode cX0_removeRow 23 = .ok (.aload_n 0, 1) := by decide +kernel
theorem dX0_removeRow_24 : decode cX0_removeRow 24 = .ok (.getfield 19, 3) := by decide +kernel
theorem dX0_removeRow_27 : decode cX0_removeRow 27 = .ok (.aload_n 0, 1) := by decide +kernel
theorem dX0_removeRow_28 : decode cX0_removeRow 28 = .ok (.getfield 15, 3) := by decide +kernel
theorem dX0_removeRow_31 : decode cX0_removeRow 31 = .ok (.imul, 1) := by decide +kernel
theorem dX0_removeRow_32 : decode cX0_removeRow 32 = .ok (.aload_n 0, 1) := by decide +kernel
theorem dX0_removeRow_33 : decode cX0_removeRow 33 = .ok (.getfield 9, 3) := by decide +kernel
theorem dX0_removeRow_36 : decode cX0_removeRow 36 = .ok (.arraylength, 1) := by decide +kernel
theorem dX0_removeRow_37 : decode cX0_removeRow 37 = .ok (.aload_n 0, 1) := by decide +kernel
theorem dX0_removeRow_38 : decode cX0_removeRow 38 = .ok (.getfield 15, 3) := by decide +kernel
theorem dX0_removeRow_41 : decode cX0_removeRow 41 = .ok (.isub, 1) := by decide +kernel
theorem dX0_removeRow_42 : decode cX0_removeRow 42 = .ok (.invokestatic 22, 3) := by decide +kernel
theorem dX0_removeRow_45 : decode cX0_removeRow 45 = .ok (.istore_n 2, 1) := by decide +kernel
theorem dX0_removeRow_46 : decode cX0_removeRow 46 = .ok (.iload_n 1, 1) := by decide +kernel
theorem dX0_removeRow_47 : decode cX0_removeRow 47 = .ok (.aload_n 0, 1) := by decide +kernel
theorem dX0_removeRow_48 : decode cX0_removeRow 48 = .ok (.getfield 15, 3) := by decide +kernel
theorem dX0_removeRow_51 : decode cX0_removeRow 51 = .ok (.imul, 1) := by decide +kernel
theorem dX0_removeRow_52 : decode cX0_removeRow 52 = .ok (.istore_n 3, 1) := by decide +kernel
theorem dX0_removeRow_53 : decode cX0_removeRow 53 = .ok (.iload_n 3, 1) := by decide +kernel
theorem dX0_removeRow_54 : decode cX0_removeRow 54 = .ok (.iload_n 2, 1) := by decide +kernel
theorem dX0_removeRow_55 : decode cX0_removeRow 55 = .ok (.if_icmp .ge 26, 3) := by decide +kernel
theorem dX0_removeRow_58 : decode cX0_removeRow 58 = .ok (.aload_n 0, 1) := by decide +kernel
theorem dX0_removeRow_59 : decode cX0_removeRow 59 = .ok (.getfield 9, 3) := by decide +kernel
theorem dX0_removeRow_62 : decode cX0_removeRow 62 = .ok (.iload_n 3, 1) := by decide +kernel
theorem dX0_removeRow_63 : decode cX0_removeRow 63 = .ok (.aload_n 0, 1) := by decide +kernel
theorem dX0_removeRow_64 : decode cX0_removeRow 64 = .ok (.getfield 9, 3) := by decide +kernel
theorem dX0_removeRow_67 : decode cX0_removeRow 67 = .ok (.iload_n 3, 1) := by decide +kernel
theorem dX0_removeRow_68 : decode cX0_removeRow 68 = .ok (.aload_n 0, 1) := by decide +kernel
theorem dX0_removeRow_69 : decode cX0_removeRow 69 = .ok (.getfield 15, 3) := by decide +kernel
theorem dX0_removeRow_72 : decode cX0_removeRow 72 = .ok (.iadd, 1) := by decide +kernel
theorem dX0_removeRow_73 : decode cX0_removeRow 73 = .ok (.iaload, 1) := by decide +kernel
theorem dX0_removeRow_74 : decode cX0_removeRow 74 = .ok (.iastore, 1) := by decide +kernel
theorem dX0_removeRow_75 : decode cX0_removeRow 75 = .ok (.iinc 3 1, 3) := by decide +kernel
theorem dX0_removeRow_78 : decode cX0_removeRow 78 = .ok (.goto (-25), 3) := by decide +kernel
theorem dX0_removeRow_81 : decode cX0_removeRow 81 = .ok (.return_, 1) := by decide +kernel
theorem dX0_sum_0 : decode cX0_sum 0 = .ok (.iconst 0, 1) := by decide +kernel
theorem dX0_sum_1 : decode cX0_sum 1 = .ok (.istore_n 2, 1) := by decide +kernel
theorem dX0_sum_2 : decode cX0_sum 2 = .ok (.iconst 0, 1) := by decide +kernel
theorem dX0_sum_3 : decode cX0_sum 3 = .ok (.istore_n 3, 1) := by decide +kernel
theorem dX0_sum_4 : decode cX0_sum 4 = .ok (.iload_n 3, 1) := by decide +kernel
theorem dX0_sum_5 : decode cX0_sum 5 = .ok (.aload_n 0, 1) := by decide +kernel
theorem dX0_sum_6 : decode cX0_sum 6 = .ok (.getfield 19, 3) := by decide +kernel
theorem dX0_sum_9 : decode cX0_sum 9 = .ok (.if_icmp .ge 18, 3) := by decide +kernel
theorem dX0_sum_12 : decode cX0_sum 12 = .ok (.iload_n 2, 1) := by decide +kernel
theorem dX0_sum_13 : decode cX0_sum 13 = .ok (.aload_n 0, 1) := by decide +kernel
theorem dX0_sum_14 : decode cX0_sum 14 = .ok (.iload_n 3, 1) := by decide +kernel
theorem dX0_sum_15 : decode cX0_sum 15 = .ok (.iload_n 1, 1) := by decide +kernel
theorem dX0_sum_16 : decode cX0_sum 16 = .ok (.invokevirtual 38, 3) := by decide +kernel
theorem dX0_sum_19 : decode cX0_sum 19 = .ok (.iadd, 1) := by decide +kernel
theorem dX0_sum_20 : decode cX0_sum 20 = .ok (.istore_n 2, 1) := by decide +kernel
theorem dX0_sum_21 : decode cX0_sum 21 = .ok (.iinc 3 1, 3) := by decide +kernel
theorem dX0_sum_24 : decode cX0_sum 24 = .ok (.goto (-20), 3) := by decide +kernel
theorem dX0_sum_27 : decode cX0_sum 27 = .ok (.iload_n 2, 1) := by decide +kernel
theorem dX0_sum_28 : decode cX0_sum 28 = .ok (.ireturn, 1) := by decide +kernel
theorem dX2_init_0 : decode cX2_init 0 = .ok (.aload_n 0, 1) := by decide +kernel
theorem dX2_init_1 : decode cX2_init 1 = .ok (.invokespecial 1, 3) := by decide +kernel
theorem dX2_init_4 : decode cX2_init 4 = .ok (.aload_n 0, 1) := by decide +kernel
theorem dX2_init_5 : decode cX2_init 5 = .ok (.new 7, 3) := by decide +kernel
theorem dX2_init_8 : decode cX2_init 8 = .ok (.dup, 1) := by decide +kernel
theorem dX2_init_9 : decode cX2_init 9 = .ok (.invokespecial 9, 3) := by decide +kernel
theorem dX2_init_12 : decode cX2_init 12 = .ok (.putfield 10, 3) := by decide +kernel
theorem dX2_init_15 : decode cX2_init 15 = .ok (.aload_n 0, 1) := by decide +kernel
theorem dX2_init_16 : decode cX2_init 16 = .ok (.new 7, 3) := by decide +kernel
theorem dX2_init_19 : decode cX2_init 19 = .ok (.dup, 1) := by decide +kernel
theorem dX2_init_20 : decode cX2_init 20 = .ok (.invokespecial 9, 3) := by decide +kernel
theorem dX2_init_23 : decode cX2_init 23 = .ok (.putfield 16, 3) := by decide +kernel
theorem dX2_init_26 : decode cX2_init 26 = .ok (.return_, 1) := by decide +kernel
theorem dX2_mould_0 : decode cX2_mould 0 = .ok (.iload_n 1, 1) := by decide +kernel
theorem dX2_mould_1 : decode cX2_mould 1 = .ok (.invokestatic 19, 3) := by decide +kernel
theorem dX2_mould_4 : decode cX2_mould 4 = .ok (.invokestatic 23, 3) := by decide +kernel
theorem dX2_mould_7 : decode cX2_mould 7 = .ok (.iload_n 2, 1) := by decide +kernel
theorem dX2_mould_8 : decode cX2_mould 8 = .ok (.iconst 0, 1) := by decide +kernel
theorem dX2_mould_9 : decode cX2_mould 9 = .ok (.bipush 9, 2) := by decide +kernel
theorem dX2_mould_11 : decode cX2_mould 11 = .ok (.invokestatic 27, 3) := by decide +kernel
theorem dX2_mould_14 : decode cX2_mould 14 = .ok (.invokestatic 23, 3) := by decide +kernel
theorem dX2_mould_17 : decode cX2_mould 17 = .ok (.aload_n 0, 1) := by decide +kernel
theorem dX2_mould_18 : decode cX2_mould 18 = .ok (.getfield 10, 3) := by decide +kernel
theorem dX2_mould_21 : decode cX2_mould 21 = .ok (.getfield 31, 3) := by decide +kernel
theorem dX2_mould_24 : decode cX2_mould 24 = .ok (.invokevirtual 35, 3) := by decide +kernel
theorem dX2_mould_27 : decode cX2_mould 27 = .ok (.ifCond .ne 7, 3) := by decide +kernel
theorem dX2_mould_30 : decode cX2_mould 30 = .ok (.iconst 1, 1) := by decide +kernel
theorem dX2_mould_31 : decode cX2_mould 31 = .ok (.goto 4, 3) := by decide +kernel
theorem dX2_mould_34 : decode cX2_mould 34 = .ok (.iconst 0, 1) := by decide +kernel
theorem dX2_mould_35 : decode cX2_mould 35 = .ok (.invokestatic 41, 3) := by decide +kernel
theorem dX2_mould_38 : decode cX2_mould 38 = .ok (.aload_n 0, 1) := by decide +kernel
theorem dX2_mould_39 : decode cX2_mould 39 = .ok (.getfield 10, 3) := by decide +kernel
theorem dX2_mould_42 : decode cX2_mould 42 = .ok (.iload_n 1, 1) := by decide +kernel
theorem dX2_mould_43 : decode cX2_mould 43 = .ok (.iload_n 2, 1) := by decide +kernel
theorem dX2_mould_44 : decode cX2_mould 44 = .ok (.invokevirtual 44, 3) := by decide +kernel
theorem dX2_mould_47 : decode cX2_mould 47 = .ok (.ireturn, 1) := by decide +kernel
theorem dX2_refit_0 : decode cX2_refit 0 = .ok (.aload_n 0, 1) := by decide +kernel
theorem dX2_refit_1 : decode cX2_refit 1 = .ok (.getfield 10, 3) := by decide +kernel
theorem dX2_refit_4 : decode cX2_refit 4 = .ok (.getfield 31, 3) := by decide +kernel
theorem dX2_refit_7 : decode cX2_refit 7 = .ok (.iload_n 1, 1) := by decide +kernel
theorem dX2_refit_8 : decode cX2_refit 8 = .ok (.invokevirtual 48, 3) := by decide +kernel
theorem dX2_refit_11 : decode cX2_refit 11 = .ok (.invokestatic 51, 3) := by decide +kernel
theorem dX2_refit_14 : decode cX2_refit 14 = .ok (.aload_n 0, 1) := by decide +kernel
theorem dX2_refit_15 : decode cX2_refit 15 = .ok (.getfield 10, 3) := by decide +kernel
theorem dX2_refit_18 : decode cX2_refit 18 = .ok (.getfield 31, 3) := by decide +kernel
theorem dX2_refit_21 : decode cX2_refit 21 = .ok (.iload_n 1, 1) := by decide +kernel
theorem dX2_refit_22 : decode cX2_refit 22 = .ok (.iconst 1, 1) := by decide +kernel
theorem dX2_refit_23 : decode cX2_refit 23 = .ok (.invokevirtual 54, 3) := by decide +kernel
theorem dX2_refit_26 : decode cX2_refit 26 = .ok (.istore_n 2, 1) := by decide +kernel
theorem dX2_refit_27 : decode cX2_refit 27 = .ok (.iload_n 2, 1) := by decide +kernel
theorem dX2_refit_28 : decode cX2_refit 28 = .ok (.bipush 9, 2) := by decide +kernel
theorem dX2_refit_30 : decode cX2_refit 30 = .ok (.if_icmp .eq 18, 3) := by decide +kernel
theorem dX2_refit_33 : decode cX2_refit 33 = .ok (.aload_n 0, 1) := by decide +kernel
theorem dX2_refit_34 : decode cX2_refit 34 = .ok (.getfield 10, 3) := by decide +kernel
theorem dX2_refit_37 : decode cX2_refit 37 = .ok (.getfield 57, 3) := by decide +kernel
theorem dX2_refit_40 : decode cX2_refit 40 = .ok (.iconst 2, 1) := by decide +kernel
theorem dX2_refit_41 : decode cX2_refit 41 = .ok (.if_icmp .lt 7, 3) := by decide +kernel
theorem dX2_refit_44 : decode cX2_refit 44 = .ok (.iconst 1, 1) := by decide +kernel
theorem dX2_refit_45 : decode cX2_refit 45 = .ok (.goto 4, 3) := by decide +kernel
theorem dX2_refit_48 : decode cX2_refit 48 = .ok (.iconst 0, 1) := by decide +kernel
theorem dX2_refit_49 : decode cX2_refit 49 = .ok (.invokestatic 41, 3) := by decide +kernel
theorem dX2_refit_52 : decode cX2_refit 52 = .ok (.aload_n 0, 1) := by decide +kernel
theorem dX2_refit_53 : decode cX2_refit 53 = .ok (.getfield 10, 3) := by decide +kernel
theorem dX2_refit_56 : decode cX2_refit 56 = .ok (.iconst 2, 1) := by decide +kernel
theorem dX2_refit_57 : decode cX2_refit 57 = .ok (.invokevirtual 61, 3) := by decide +kernel
theorem dX2_refit_60 : decode cX2_refit 60 = .ok (.aload_n 0, 1) := by decide +kernel
theorem dX2_refit_61 : decode cX2_refit 61 = .ok (.getfield 10, 3) := by decide +kernel
theorem dX2_refit_64 : decode cX2_refit 64 = .ok (.getfield 31, 3) := by decide +kernel
theorem dX2_refit_67 : decode cX2_refit 67 = .ok (.iload_n 1, 1) := by decide +kernel
theorem dX2_refit_68 : decode cX2_refit 68 = .ok (.iconst 1, 1) := by decide +kernel
theorem dX2_refit_69 : decode cX2_refit 69 = .ok (.bipush 9, 2) := by decide +kernel
theorem dX2_refit_71 : decode cX2_refit 71 = .ok (.invokevirtual 65, 3) := by decide +kernel
theorem dX2_refit_74 : decode cX2_refit 74 = .ok (.iload_n 2, 1) := by decide +kernel
theorem dX2_refit_75 : decode cX2_refit 75 = .ok (.ireturn, 1) := by decide +kernel
theorem dX2_maker_0 : decode cX2_maker 0 = .ok (.iload_n 1, 1) := by decide +kernel
theorem dX2_maker_1 : decode cX2_maker 1 = .ok (.iconst 1, 1) := by decide +kernel
theorem dX2_maker_2 : decode cX2_maker 2 = .ok (.bipush 9, 2) := by decide +kernel
theorem dX2_maker_4 : decode cX2_maker 4 = .ok (.invokestatic 27, 3) := by decide +kernel
theorem dX2_maker_7 : decode cX2_maker 7 = .ok (.invokestatic 23, 3) := by decide +kernel
theorem dX2_maker_10 : decode cX2_maker 10 = .ok (.aload_n 0, 1) := by decide +kernel
theorem dX2_maker_11 : decode cX2_maker 11 = .ok (.getfield 10, 3) := by decide +kernel
theorem dX2_maker_14 : decode cX2_maker 14 = .ok (.getfield 69, 3) := by decide +kernel
theorem dX2_maker_17 : decode cX2_maker 17 = .ok (.invokevirtual 35, 3) := by decide +kernel
theorem dX2_maker_20 : decode cX2_maker 20 = .ok (.ifCond .ne 7, 3) := by decide +kernel
theorem dX2_maker_23 : decode cX2_maker 23 = .ok (.iconst 1, 1) := by decide +kernel
theorem dX2_maker_24 : decode cX2_maker 24 = .ok (.goto 4, 3) := by decide +kernel
theorem dX2_maker_27 : decode cX2_maker 27 = .ok (.iconst 0, 1) := by decide +kernel
theorem dX2_maker_28 : decode cX2_maker 28 = .ok (.invokestatic 41, 3) := by decide +kernel
theorem dX2_maker_31 : decode cX2_maker 31 = .ok (.aload_n 0, 1) := by decide +kernel
theorem dX2_maker_32 : decode cX2_maker 32 = .ok (.getfield 10, 3) := by decide +kernel
theorem dX2_maker_35 : decode cX2_maker 35 = .ok (.iload_n 1, 1) := by decide +kernel
theorem dX2_maker_36 : decode cX2_maker 36 = .ok (.invokevirtual 72, 3) := by decide +kernel
theorem dX2_maker_39 : decode cX2_maker 39 = .ok (.ireturn, 1) := by decide +kernel
theorem dX2_place_0 : decode cX2_place 0 = .ok (.aload_n 0, 1) := by decide +kernel
theorem dX2_place_1 : decode cX2_place 1 = .ok (.getfield 10, 3) := by decide +kernel
theorem dX2_place_4 : decode cX2_place 4 = .ok (.getfield 69, 3) := by decide +kernel
theorem dX2_place_7 : decode cX2_place 7 = .ok (.iload_n 1, 1) := by decide +kernel
theorem dX2_place_8 : decode cX2_place 8 = .ok (.invokevirtual 48, 3) := by decide +kernel
theorem dX2_place_11 : decode cX2_place 11 = .ok (.invokestatic 51, 3) := by decide +kernel
theorem dX2_place_14 : decode cX2_place 14 = .ok (.iload_n 2, 1) := by decide +kernel
theorem dX2_place_15 : decode cX2_place 15 = .ok (.iconst (-1), 1) := by decide +kernel
theorem dX2_place_16 : decode cX2_place 16 = .ok (.if_icmp .eq 17, 3) := by decide +kernel
theorem dX2_place_19 : decode cX2_place 19 = .ok (.aload_n 0, 1) := by decide +kernel
theorem dX2_place_20 : decode cX2_place 20 = .ok (.getfield 10, 3) := by decide +kernel
theorem dX2_place_23 : decode cX2_place 23 = .ok (.getfield 31, 3) := by decide +kernel
theorem dX2_place_26 : decode cX2_place 26 = .ok (.iload_n 2, 1) := by decide +kernel
theorem dX2_place_27 : decode cX2_place 27 = .ok (.invokevirtual 48, 3) := by decide +kernel
theorem dX2_place_30 : decode cX2_place 30 = .ok (.ifCond .eq 7, 3) := by decide +kernel
theorem dX2_place_33 : decode cX2_place 33 = .ok (.iconst 1, 1) := by decide +kernel
theorem dX2_place_34 : decode cX2_place 34 = .ok (.goto 4, 3) := by decide +kernel
theorem dX2_place_37 : decode cX2_place 37 = .ok (.iconst 0, 1) := by decide +kernel
theorem dX2_place_38 : decode cX2_place 38 = .ok (.invokestatic 51, 3) := by decide +kernel
theorem dX2_place_41 : decode cX2_place 41 = .ok (.aload_n 0, 1) := by decide +kernel
theorem dX2_place_42 : decode cX2_place 42 = .ok (.getfield 10, 3) := by decide +kernel
theorem dX2_place_45 : decode cX2_place 45 = .ok (.iload_n 2, 1) := by decide +kernel
theorem dX2_place_46 : decode cX2_place 46 = .ok (.iload_n 1, 1) := by decide +kernel
theorem dX2_place_47 : decode cX2_place 47 = .ok (.invokevirtual 76, 3) := by decide +kernel
theorem dX2_place_50 : decode cX2_place 50 = .ok (.ifCond .ne 7, 3) := by decide +kernel
theorem dX2_place_53 : decode cX2_place 53 = .ok (.iconst 1, 1) := by decide +kernel
theorem dX2_place_54 : decode cX2_place 54 = .ok (.goto 4, 3) := by decide +kernel
theorem dX2_place_57 : decode cX2_place 57 = .ok (.iconst 0, 1) := by decide +kernel
theorem dX2_place_58 : decode cX2_place 58 = .ok (.invokestatic 41, 3) := by decide +kernel
theorem dX2_place_61 : decode cX2_place 61 = .ok (.aload_n 0, 1) := by decide +kernel
theorem dX2_place_62 : decode cX2_place 62 = .ok (.getfield 10, 3) := by decide +kernel
theorem dX2_place_65 : decode cX2_place 65 = .ok (.getfield 69, 3) := by decide +kernel
theorem dX2_place_68 : decode cX2_place 68 = .ok (.iload_n 1, 1) := by decide +kernel
theorem dX2_place_69 : decode cX2_place 69 = .ok (.iconst 1, 1) := by decide +kernel
theorem dX2_place_70 : decode cX2_place 70 = .ok (.invokevirtual 54, 3) := by decide +kernel
theorem dX2_place_73 : decode cX2_place 73 = .ok (.istore_n 3, 1) := by decide +kernel
theorem dX2_place_74 : decode cX2_place 74 = .ok (.aload_n 0, 1) := by decide +kernel
theorem dX2_place_75 : decode cX2_place 75 = .ok (.getfield 10, 3) := by decide +kernel
theorem dX2_place_78 : decode cX2_place 78 = .ok (.getfield 69, 3) := by decide +kernel
theorem dX2_place_81 : decode cX2_place 81 = .ok (.iload_n 1, 1) := by decide +kernel
theorem dX2_place_82 : decode cX2_place 82 = .ok (.iconst 1, 1) := by decide +kernel
theorem dX2_place_83 : decode cX2_place 83 = .ok (.iload_n 2, 1) := by decide +kernel
theorem dX2_place_84 : decode cX2_place 84 = .ok (.invokevirtual 65, 3) := by decide +kernel
theorem dX2_place_87 : decode cX2_place 87 = .ok (.iload_n 3, 1) := by decide +kernel
theorem dX2_place_88 : decode cX2_place 88 = .ok (.ireturn, 1) := by decide +kernel
theorem dX2_buy_0 : decode cX2_buy 0 = .ok (.iload_n 1, 1) := by decide +kernel
theorem dX2_buy_1 : decode cX2_buy 1 = .ok (.iconst 0, 1) := by decide +kernel
theorem dX2_buy_2 : decode cX2_buy 2 = .ok (.iconst 1, 1) := by decide +kernel
theorem dX2_buy_3 : decode cX2_buy 3 = .ok (.invokestatic 27, 3) := by decide +kernel
theorem dX2_buy_6 : decode cX2_buy 6 = .ok (.invokestatic 51, 3) := by decide +kernel
theorem dX2_buy_9 : decode cX2_buy 9 = .ok (.iload_n 2, 1) := by decide +kernel
theorem dX2_buy_10 : decode cX2_buy 10 = .ok (.iconst 1, 1) := by decide +kernel
theorem dX2_buy_11 : decode cX2_buy 11 = .ok (.sipush 200, 3) := by decide +kernel
theorem dX2_buy_14 : decode cX2_buy 14 = .ok (.invokestatic 27, 3) := by decide +kernel
theorem dX2_buy_17 : decode cX2_buy 17 = .ok (.invokestatic 23, 3) := by decide +kernel
theorem dX2_buy_20 : decode cX2_buy 20 = .ok (.iload_n 1, 1) := by decide +kernel
theorem dX2_buy_21 : decode cX2_buy 21 = .ok (.ifCond .ne 11, 3) := by decide +kernel
theorem dX2_buy_24 : decode cX2_buy 24 = .ok (.iload_n 2, 1) := by decide +kernel
theorem dX2_buy_25 : decode cX2_buy 25 = .ok (.iconst 3, 1) := by decide +kernel
theorem dX2_buy_26 : decode cX2_buy 26 = .ok (.iadd, 1) := by decide +kernel
theorem dX2_buy_27 : decode cX2_buy 27 = .ok (.iconst 4, 1) := by decide +kernel
theorem dX2_buy_28 : decode cX2_buy 28 = .ok (.idiv, 1) := by decide +kernel
theorem dX2_buy_29 : decode cX2_buy 29 = .ok (.goto 4, 3) := by decide +kernel
theorem dX2_buy_32 : decode cX2_buy 32 = .ok (.iload_n 2, 1) := by decide +kernel
theorem dX2_buy_33 : decode cX2_buy 33 = .ok (.istore_n 3, 1) := by decide +kernel
theorem dX2_buy_34 : decode cX2_buy 34 = .ok (.aload_n 0, 1) := by decide +kernel
theorem dX2_buy_35 : decode cX2_buy 35 = .ok (.getfield 10, 3) := by decide +kernel
theorem dX2_buy_38 : decode cX2_buy 38 = .ok (.getfield 57, 3) := by decide +kernel
theorem dX2_buy_41 : decode cX2_buy 41 = .ok (.iload_n 3, 1) := by decide +kernel
theorem dX2_buy_42 : decode cX2_buy 42 = .ok (.if_icmp .lt 7, 3) := by decide +kernel
theorem dX2_buy_45 : decode cX2_buy 45 = .ok (.iconst 1, 1) := by decide +kernel
theorem dX2_buy_46 : decode cX2_buy 46 = .ok (.goto 4, 3) := by decide +kernel
theorem dX2_buy_49 : decode cX2_buy 49 = .ok (.iconst 0, 1) := by decide +kernel
theorem dX2_buy_50 : decode cX2_buy 50 = .ok (.invokestatic 41, 3) := by decide +kernel
theorem dX2_buy_53 : decode cX2_buy 53 = .ok (.aload_n 0, 1) := by decide +kernel
theorem dX2_buy_54 : decode cX2_buy 54 = .ok (.getfield 10, 3) := by decide +kernel
theorem dX2_buy_57 : decode cX2_buy 57 = .ok (.iload_n 3, 1) := by decide +kernel
theorem dX2_buy_58 : decode cX2_buy 58 = .ok (.invokevirtual 61, 3) := by decide +kernel
theorem dX2_buy_61 : decode cX2_buy 61 = .ok (.iload_n 1, 1) := by decide +kernel
theorem dX2_buy_62 : decode cX2_buy 62 = .ok (.ifCond .ne 14, 3) := by decide +kernel
theorem dX2_buy_65 : decode cX2_buy 65 = .ok (.aload_n 0, 1) := by decide +kernel
theorem dX2_buy_66 : decode cX2_buy 66 = .ok (.getfield 10, 3) := by decide +kernel
theorem dX2_buy_69 : decode cX2_buy 69 = .ok (.iload_n 2, 1) := by decide +kernel
theorem dX2_buy_70 : decode cX2_buy 70 = .ok (.invokevirtual 80, 3) := by decide +kernel
theorem dX2_buy_73 : decode cX2_buy 73 = .ok (.goto 11, 3) := by decide +kernel
theorem dX2_buy_76 : decode cX2_buy 76 = .ok (.aload_n 0, 1) := by decide +kernel
theorem dX2_buy_77 : decode cX2_buy 77 = .ok (.getfield 10, 3) := by decide +kernel
theorem dX2_buy_80 : decode cX2_buy 80 = .ok (.iload_n 2, 1) := by decide +kernel
theorem dX2_buy_81 : decode cX2_buy 81 = .ok (.invokevirtual 83, 3) := by decide +kernel
theorem dX2_buy_84 : decode cX2_buy 84 = .ok (.ireturn, 1) := by decide +kernel
theorem dX2_setDry_0 : decode cX2_setDry 0 = .ok (.iload_n 1, 1) := by decide +kernel
theorem dX2_setDry_1 : decode cX2_setDry 1 = .ok (.iconst 0, 1) := by decide +kernel
theorem dX2_setDry_2 : decode cX2_setDry 2 = .ok (.bipush 6, 2) := by decide +kernel
theorem dX2_setDry_4 : decode cX2_setDry 4 = .ok (.invokestatic 27, 3) := by decide +kernel
theorem dX2_setDry_7 : decode cX2_setDry 7 = .ok (.invokestatic 51, 3) := by decide +kernel
theorem dX2_setDry_10 : decode cX2_setDry 10 = .ok (.iload_n 2, 1) := by decide +kernel
theorem dX2_setDry_11 : decode cX2_setDry 11 = .ok (.iconst 0, 1) := by decide +kernel
theorem dX2_setDry_12 : decode cX2_setDry 12 = .ok (.iconst 3, 1) := by decide +kernel
theorem dX2_setDry_13 : decode cX2_setDry 13 = .ok (.invokestatic 27, 3) := by decide +kernel
theorem dX2_setDry_16 : decode cX2_setDry 16 = .ok (.invokestatic 23, 3) := by decide +kernel
theorem dX2_setDry_19 : decode cX2_setDry 19 = .ok (.aload_n 0, 1) := by decide +kernel
theorem dX2_setDry_20 : decode cX2_setDry 20 = .ok (.getfield 10, 3) := by decide +kernel
theorem dX2_setDry_23 : decode cX2_setDry 23 = .ok (.iload_n 1, 1) := by decide +kernel
theorem dX2_setDry_24 : decode cX2_setDry 24 = .ok (.invokevirtual 86, 3) := by decide +kernel
theorem dX2_setDry_27 : decode cX2_setDry 27 = .ok (.istore_n 3, 1) := by decide +kernel
theorem dX2_setDry_28 : decode cX2_setDry 28 = .ok (.aload_n 0, 1) := by decide +kernel
theorem dX2_setDry_29 : decode cX2_setDry 29 = .ok (.getfield 10, 3) := by decide +kernel
theorem dX2_setDry_32 : decode cX2_setDry 32 = .ok (.iload_n 1, 1) := by decide +kernel
theorem dX2_setDry_33 : decode cX2_setDry 33 = .ok (.iload_n 2, 1) := by decide +kernel
theorem dX2_setDry_34 : decode cX2_setDry 34 = .ok (.invokevirtual 89, 3) := by decide +kernel
theorem dX2_setDry_37 : decode cX2_setDry 37 = .ok (.iload_n 3, 1) := by decide +kernel
theorem dX2_setDry_38 : decode cX2_setDry 38 = .ok (.ireturn, 1) := by decide +kernel
theorem dX2_pack_0 : decode cX2_pack 0 = .ok (.aload_n 0, 1) := by decide +kernel
theorem dX2_pack_1 : decode cX2_pack 1 = .ok (.getfield 10, 3) := by decide +kernel
theorem dX2_pack_4 : decode cX2_pack 4 = .ok (.getfield 93, 3) := by decide +kernel
theorem dX2_pack_7 : decode cX2_pack 7 = .ok (.iload_n 1, 1) := by decide +kernel
theorem dX2_pack_8 : decode cX2_pack 8 = .ok (.invokevirtual 48, 3) := by decide +kernel
theorem dX2_pack_11 : decode cX2_pack 11 = .ok (.invokestatic 51, 3) := by decide +kernel
theorem dX2_pack_14 : decode cX2_pack 14 = .ok (.aload_n 0, 1) := by decide +kernel
theorem dX2_pack_15 : decode cX2_pack 15 = .ok (.getfield 10, 3) := by decide +kernel
theorem dX2_pack_18 : decode cX2_pack 18 = .ok (.getfield 96, 3) := by decide +kernel
theorem dX2_pack_21 : decode cX2_pack 21 = .ok (.iload_n 2, 1) := by decide +kernel
theorem dX2_pack_22 : decode cX2_pack 22 = .ok (.invokevirtual 48, 3) := by decide +kernel
theorem dX2_pack_25 : decode cX2_pack 25 = .ok (.invokestatic 51, 3) := by decide +kernel
theorem dX2_pack_28 : decode cX2_pack 28 = .ok (.iload_n 3, 1) := by decide +kernel
theorem dX2_pack_29 : decode cX2_pack 29 = .ok (.iconst 1, 1) := by decide +kernel
theorem dX2_pack_30 : decode cX2_pack 30 = .ok (.bipush 24, 2) := by decide +kernel
theorem dX2_pack_32 : decode cX2_pack 32 = .ok (.invokestatic 27, 3) := by decide +kernel
theorem dX2_pack_35 : decode cX2_pack 35 = .ok (.invokestatic 23, 3) := by decide +kernel
theorem dX2_pack_38 : decode cX2_pack 38 = .ok (.aload_n 0, 1) := by decide +kernel
theorem dX2_pack_39 : decode cX2_pack 39 = .ok (.getfield 10, 3) := by decide +kernel
theorem dX2_pack_42 : decode cX2_pack 42 = .ok (.getfield 96, 3) := by decide +kernel
theorem dX2_pack_45 : decode cX2_pack 45 = .ok (.iload_n 2, 1) := by decide +kernel
theorem dX2_pack_46 : decode cX2_pack 46 = .ok (.iconst 1, 1) := by decide +kernel
theorem dX2_pack_47 : decode cX2_pack 47 = .ok (.invokevirtual 54, 3) := by decide +kernel
theorem dX2_pack_50 : decode cX2_pack 50 = .ok (.ifCond .ne 7, 3) := by decide +kernel
theorem dX2_pack_53 : decode cX2_pack 53 = .ok (.iconst 1, 1) := by decide +kernel
theorem dX2_pack_54 : decode cX2_pack 54 = .ok (.goto 4, 3) := by decide +kernel
theorem dX2_pack_57 : decode cX2_pack 57 = .ok (.iconst 0, 1) := by decide +kernel
theorem dX2_pack_58 : decode cX2_pack 58 = .ok (.invokestatic 41, 3) := by decide +kernel
theorem dX2_pack_61 : decode cX2_pack 61 = .ok (.aload_n 0, 1) := by decide +kernel
theorem dX2_pack_62 : decode cX2_pack 62 = .ok (.getfield 10, 3) := by decide +kernel
theorem dX2_pack_65 : decode cX2_pack 65 = .ok (.getfield 93, 3) := by decide +kernel
theorem dX2_pack_68 : decode cX2_pack 68 = .ok (.iload_n 1, 1) := by decide +kernel
theorem dX2_pack_69 : decode cX2_pack 69 = .ok (.iconst 1, 1) := by decide +kernel
theorem dX2_pack_70 : decode cX2_pack 70 = .ok (.invokevirtual 54, 3) := by decide +kernel
theorem dX2_pack_73 : decode cX2_pack 73 = .ok (.iload_n 3, 1) := by decide +kernel
theorem dX2_pack_74 : decode cX2_pack 74 = .ok (.if_icmp .lt 7, 3) := by decide +kernel
theorem dX2_pack_77 : decode cX2_pack 77 = .ok (.iconst 1, 1) := by decide +kernel
theorem dX2_pack_78 : decode cX2_pack 78 = .ok (.goto 4, 3) := by decide +kernel
theorem dX2_pack_81 : decode cX2_pack 81 = .ok (.iconst 0, 1) := by decide +kernel
theorem dX2_pack_82 : decode cX2_pack 82 = .ok (.invokestatic 41, 3) := by decide +kernel
theorem dX2_pack_85 : decode cX2_pack 85 = .ok (.aload_n 0, 1) := by decide +kernel
theorem dX2_pack_86 : decode cX2_pack 86 = .ok (.getfield 10, 3) := by decide +kernel
theorem dX2_pack_89 : decode cX2_pack 89 = .ok (.iload_n 1, 1) := by decide +kernel
theorem dX2_pack_90 : decode cX2_pack 90 = .ok (.iload_n 2, 1) := by decide +kernel
theorem dX2_pack_91 : decode cX2_pack 91 = .ok (.iload_n 3, 1) := by decide +kernel
theorem dX2_pack_92 : decode cX2_pack 92 = .ok (.invokevirtual 99, 3) := by decide +kernel
theorem dX2_pack_95 : decode cX2_pack 95 = .ok (.ireturn, 1) := by decide +kernel
theorem dX2_fire_0 : decode cX2_fire 0 = .ok (.iload_n 1, 1) := by decide +kernel
theorem dX2_fire_1 : decode cX2_fire 1 = .ok (.iconst 1, 1) := by decide +kernel
theorem dX2_fire_2 : decode cX2_fire 2 = .ok (.bipush 30, 2) := by decide +kernel
theorem dX2_fire_4 : decode cX2_fire 4 = .ok (.invokestatic 27, 3) := by decide +kernel
theorem dX2_fire_7 : decode cX2_fire 7 = .ok (.invokestatic 23, 3) := by decide +kernel
theorem dX2_fire_10 : decode cX2_fire 10 = .ok (.aload_n 0, 1) := by decide +kernel
theorem dX2_fire_11 : decode cX2_fire 11 = .ok (.getfield 10, 3) := by decide +kernel
theorem dX2_fire_14 : decode cX2_fire 14 = .ok (.getfield 103, 3) := by decide +kernel
theorem dX2_fire_17 : decode cX2_fire 17 = .ok (.iload_n 1, 1) := by decide +kernel
theorem dX2_fire_18 : decode cX2_fire 18 = .ok (.if_icmp .lt 17, 3) := by decide +kernel
theorem dX2_fire_21 : decode cX2_fire 21 = .ok (.aload_n 0, 1) := by decide +kernel
theorem dX2_fire_22 : decode cX2_fire 22 = .ok (.getfield 10, 3) := by decide +kernel
theorem dX2_fire_25 : decode cX2_fire 25 = .ok (.invokevirtual 106, 3) := by decide +kernel
theorem dX2_fire_28 : decode cX2_fire 28 = .ok (.ifCond .ne 7, 3) := by decide +kernel
theorem dX2_fire_31 : decode cX2_fire 31 = .ok (.iconst 1, 1) := by decide +kernel
theorem dX2_fire_32 : decode cX2_fire 32 = .ok (.goto 4, 3) := by decide +kernel
theorem dX2_fire_35 : decode cX2_fire 35 = .ok (.iconst 0, 1) := by decide +kernel
theorem dX2_fire_36 : decode cX2_fire 36 = .ok (.invokestatic 41, 3) := by decide +kernel
theorem dX2_fire_39 : decode cX2_fire 39 = .ok (.aload_n 0, 1) := by decide +kernel
theorem dX2_fire_40 : decode cX2_fire 40 = .ok (.getfield 10, 3) := by decide +kernel
theorem dX2_fire_43 : decode cX2_fire 43 = .ok (.iload_n 1, 1) := by decide +kernel
theorem dX2_fire_44 : decode cX2_fire 44 = .ok (.invokevirtual 109, 3) := by decide +kernel
theorem dX2_fire_47 : decode cX2_fire 47 = .ok (.ireturn, 1) := by decide +kernel
theorem dX2_order_0 : decode cX2_order 0 = .ok (.iload_n 1, 1) := by decide +kernel
theorem dX2_order_1 : decode cX2_order 1 = .ok (.invokestatic 19, 3) := by decide +kernel
theorem dX2_order_4 : decode cX2_order 4 = .ok (.invokestatic 23, 3) := by decide +kernel
theorem dX2_order_7 : decode cX2_order 7 = .ok (.iload_n 2, 1) := by decide +kernel
theorem dX2_order_8 : decode cX2_order 8 = .ok (.iconst 1, 1) := by decide +kernel
theorem dX2_order_9 : decode cX2_order 9 = .ok (.bipush 99, 2) := by decide +kernel
theorem dX2_order_11 : decode cX2_order 11 = .ok (.invokestatic 27, 3) := by decide +kernel
theorem dX2_order_14 : decode cX2_order 14 = .ok (.invokestatic 23, 3) := by decide +kernel
theorem dX2_order_17 : decode cX2_order 17 = .ok (.iload_n 3, 1) := by decide +kernel
theorem dX2_order_18 : decode cX2_order 18 = .ok (.iconst 0, 1) := by decide +kernel
theorem dX2_order_19 : decode cX2_order 19 = .ok (.bipush 30, 2) := by decide +kernel
theorem dX2_order_21 : decode cX2_order 21 = .ok (.invokestatic 27, 3) := by decide +kernel
theorem dX2_order_24 : decode cX2_order 24 = .ok (.invokestatic 23, 3) := by decide +kernel
theorem dX2_order_27 : decode cX2_order 27 = .ok (.iload 4, 2) := by decide +kernel
theorem dX2_order_29 : decode cX2_order 29 = .ok (.iconst 1, 1) := by decide +kernel
theorem dX2_order_30 : decode cX2_order 30 = .ok (.bipush 99, 2) := by decide +kernel
theorem dX2_order_32 : decode cX2_order 32 = .ok (.invokestatic 27, 3) := by decide +kernel
theorem dX2_order_35 : decode cX2_order 35 = .ok (.invokestatic 23, 3) := by decide +kernel
theorem dX2_order_38 : decode cX2_order 38 = .ok (.aload_n 0, 1) := by decide +kernel
theorem dX2_order_39 : decode cX2_order 39 = .ok (.getfield 10, 3) := by decide +kernel
theorem dX2_order_42 : decode cX2_order 42 = .ok (.getfield 112, 3) := by decide +kernel
theorem dX2_order_45 : decode cX2_order 45 = .ok (.invokevirtual 35, 3) := by decide +kernel
theorem dX2_order_48 : decode cX2_order 48 = .ok (.ifCond .ne 7, 3) := by decide +kernel
theorem dX2_order_51 : decode cX2_order 51 = .ok (.iconst 1, 1) := by decide +kernel
theorem dX2_order_52 : decode cX2_order 52 = .ok (.goto 4, 3) := by decide +kernel
theorem dX2_order_55 : decode cX2_order 55 = .ok (.iconst 0, 1) := by decide +kernel
theorem dX2_order_56 : decode cX2_order 56 = .ok (.invokestatic 41, 3) := by decide +kernel
theorem dX2_order_59 : decode cX2_order 59 = .ok (.aload_n 0, 1) := by decide +kernel
theorem dX2_order_60 : decode cX2_order 60 = .ok (.getfield 10, 3) := by decide +kernel
theorem dX2_order_63 : decode cX2_order 63 = .ok (.iload_n 1, 1) := by decide +kernel
theorem dX2_order_64 : decode cX2_order 64 = .ok (.iload_n 2, 1) := by decide +kernel
theorem dX2_order_65 : decode cX2_order 65 = .ok (.iload_n 3, 1) := by decide +kernel
theorem dX2_order_66 : decode cX2_order 66 = .ok (.iload 4, 2) := by decide +kernel
theorem dX2_order_68 : decode cX2_order 68 = .ok (.invokevirtual 115, 3) := by decide +kernel
theorem dX2_order_71 : decode cX2_order 71 = .ok (.ireturn, 1) := by decide +kernel
theorem dX2_about_0 : decode cX2_about 0 = .ok (.aload_n 0, 1) := by decide +kernel
theorem dX2_about_1 : decode cX2_about 1 = .ok (.getfield 10, 3) := by decide +kernel
theorem dX2_about_4 : decode cX2_about 4 = .ok (.getfield 31, 3) := by decide +kernel
theorem dX2_about_7 : decode cX2_about 7 = .ok (.iload_n 1, 1) := by decide +kernel
theorem dX2_about_8 : decode cX2_about 8 = .ok (.invokevirtual 48, 3) := by decide +kernel
theorem dX2_about_11 : decode cX2_about 11 = .ok (.invokestatic 51, 3) := by decide +kernel
theorem dX2_about_14 : decode cX2_about 14 = .ok (.iload_n 2, 1) := by decide +kernel
theorem dX2_about_15 : decode cX2_about 15 = .ok (.iconst 0, 1) := by decide +kernel
theorem dX2_about_16 : decode cX2_about 16 = .ok (.iconst 5, 1) := by decide +kernel
theorem dX2_about_17 : decode cX2_about 17 = .ok (.invokestatic 27, 3) := by decide +kernel
theorem dX2_about_20 : decode cX2_about 20 = .ok (.invokestatic 51, 3) := by decide +kernel
theorem dX2_about_23 : decode cX2_about 23 = .ok (.aload_n 0, 1) := by decide +kernel
theorem dX2_about_24 : decode cX2_about 24 = .ok (.getfield 10, 3) := by decide +kernel
theorem dX2_about_27 : decode cX2_about 27 = .ok (.iload_n 1, 1) := by decide +kernel
theorem dX2_about_28 : decode cX2_about 28 = .ok (.iload_n 2, 1) := by decide +kernel
theorem dX2_about_29 : decode cX2_about 29 = .ok (.invokevirtual 119, 3) := by decide +kernel
theorem dX2_about_32 : decode cX2_about 32 = .ok (.ireturn, 1) := by decide +kernel
theorem dX2_told_0 : decode cX2_told 0 = .ok (.aload_n 0, 1) := by decide +kernel
theorem dX2_told_1 : decode cX2_told 1 = .ok (.getfield 10, 3) := by decide +kernel
theorem dX2_told_4 : decode cX2_told 4 = .ok (.getfield 69, 3) := by decide +kernel
theorem dX2_told_7 : decode cX2_told 7 = .ok (.iload_n 1, 1) := by decide +kernel
theorem dX2_told_8 : decode cX2_told 8 = .ok (.iload_n 2, 1) := by decide +kernel
theorem dX2_told_9 : decode cX2_told 9 = .ok (.invokestatic 122, 3) := by decide +kernel
theorem dX2_told_12 : decode cX2_told 12 = .ok (.ireturn, 1) := by decide +kernel
theorem dX2_batch_0 : decode cX2_batch 0 = .ok (.aload_n 0, 1) := by decide +kernel
theorem dX2_batch_1 : decode cX2_batch 1 = .ok (.getfield 10, 3) := by decide +kernel
theorem dX2_batch_4 : decode cX2_batch 4 = .ok (.getfield 93, 3) := by decide +kernel
theorem dX2_batch_7 : decode cX2_batch 7 = .ok (.iload_n 1, 1) := by decide +kernel
theorem dX2_batch_8 : decode cX2_batch 8 = .ok (.iload_n 2, 1) := by decide +kernel
theorem dX2_batch_9 : decode cX2_batch 9 = .ok (.invokestatic 122, 3) := by decide +kernel
theorem dX2_batch_12 : decode cX2_batch 12 = .ok (.ireturn, 1) := by decide +kernel
theorem dX2_saggar_0 : decode cX2_saggar 0 = .ok (.aload_n 0, 1) := by decide +kernel
theorem dX2_saggar_1 : decode cX2_saggar 1 = .ok (.getfield 10, 3) := by decide +kernel
theorem dX2_saggar_4 : decode cX2_saggar 4 = .ok (.getfield 96, 3) := by decide +kernel
theorem dX2_saggar_7 : decode cX2_saggar 7 = .ok (.iload_n 1, 1) := by decide +kernel
theorem dX2_saggar_8 : decode cX2_saggar 8 = .ok (.iload_n 2, 1) := by decide +kernel
theorem dX2_saggar_9 : decode cX2_saggar 9 = .ok (.invokestatic 122, 3) := by decide +kernel
theorem dX2_saggar_12 : decode cX2_saggar 12 = .ok (.ireturn, 1) := by decide +kernel
theorem dX2_store_0 : decode cX2_store 0 = .ok (.iload_n 1, 1) := by decide +kernel
theorem dX2_store_1 : decode cX2_store 1 = .ok (.invokestatic 19, 3) := by decide +kernel
theorem dX2_store_4 : decode cX2_store 4 = .ok (.invokestatic 51, 3) := by decide +kernel
theorem dX2_store_7 : decode cX2_store 7 = .ok (.aload_n 0, 1) := by decide +kernel
theorem dX2_store_8 : decode cX2_store 8 = .ok (.getfield 10, 3) := by decide +kernel
theorem dX2_store_11 : decode cX2_store 11 = .ok (.iload_n 1, 1) := by decide +kernel
theorem dX2_store_12 : decode cX2_store 12 = .ok (.invokevirtual 126, 3) := by decide +kernel
theorem dX2_store_15 : decode cX2_store 15 = .ok (.ireturn, 1) := by decide +kernel
theorem dX2_waits_0 : decode cX2_waits 0 = .ok (.aload_n 0, 1) := by decide +kernel
theorem dX2_waits_1 : decode cX2_waits 1 = .ok (.getfield 10, 3) := by decide +kernel
theorem dX2_waits_4 : decode cX2_waits 4 = .ok (.getfield 112, 3) := by decide +kernel
theorem dX2_waits_7 : decode cX2_waits 7 = .ok (.iload_n 1, 1) := by decide +kernel
theorem dX2_waits_8 : decode cX2_waits 8 = .ok (.iload_n 2, 1) := by decide +kernel
theorem dX2_waits_9 : decode cX2_waits 9 = .ok (.invokestatic 122, 3) := by decide +kernel
theorem dX2_waits_12 : decode cX2_waits 12 = .ok (.ireturn, 1) := by decide +kernel
theorem dX2_count_0 : decode cX2_count 0 = .ok (.iload_n 1, 1) := by decide +kernel
theorem dX2_count_1 : decode cX2_count 1 = .ok (.iconst 0, 1) := by decide +kernel
theorem dX2_count_2 : decode cX2_count 2 = .ok (.bipush 11, 2) := by decide +kernel
theorem dX2_count_4 : decode cX2_count 4 = .ok (.invokestatic 27, 3) := by decide +kernel
theorem dX2_count_7 : decode cX2_count 7 = .ok (.invokestatic 51, 3) := by decide +kernel
theorem dX2_count_10 : decode cX2_count 10 = .ok (.aload_n 0, 1) := by decide +kernel
theorem dX2_count_11 : decode cX2_count 11 = .ok (.getfield 10, 3) := by decide +kernel
theorem dX2_count_14 : decode cX2_count 14 = .ok (.iload_n 1, 1) := by decide +kernel
theorem dX2_count_15 : decode cX2_count 15 = .ok (.invokevirtual 129, 3) := by decide +kernel
theorem dX2_count_18 : decode cX2_count 18 = .ok (.ireturn, 1) := by decide +kernel
theorem dX2_pass_0 : decode cX2_pass 0 = .ok (.iload_n 1, 1) := by decide +kernel
theorem dX2_pass_1 : decode cX2_pass 1 = .ok (.iconst 1, 1) := by decide +kernel
theorem dX2_pass_2 : decode cX2_pass 2 = .ok (.bipush 40, 2) := by decide +kernel
theorem dX2_pass_4 : decode cX2_pass 4 = .ok (.invokestatic 27, 3) := by decide +kernel
theorem dX2_pass_7 : decode cX2_pass 7 = .ok (.invokestatic 23, 3) := by decide +kernel
theorem dX2_pass_10 : decode cX2_pass 10 = .ok (.aload_n 0, 1) := by decide +kernel
theorem dX2_pass_11 : decode cX2_pass 11 = .ok (.getfield 10, 3) := by decide +kernel
theorem dX2_pass_14 : decode cX2_pass 14 = .ok (.getfield 132, 3) := by decide +kernel
theorem dX2_pass_17 : decode cX2_pass 17 = .ok (.istore_n 2, 1) := by decide +kernel
theorem dX2_pass_18 : decode cX2_pass 18 = .ok (.aload_n 0, 1) := by decide +kernel
theorem dX2_pass_19 : decode cX2_pass 19 = .ok (.getfield 10, 3) := by decide +kernel
theorem dX2_pass_22 : decode cX2_pass 22 = .ok (.iload_n 1, 1) := by decide +kernel
theorem dX2_pass_23 : decode cX2_pass 23 = .ok (.invokevirtual 135, 3) := by decide +kernel
theorem dX2_pass_26 : decode cX2_pass 26 = .ok (.aload_n 0, 1) := by decide +kernel
theorem dX2_pass_27 : decode cX2_pass 27 = .ok (.getfield 10, 3) := by decide +kernel
theorem dX2_pass_30 : decode cX2_pass 30 = .ok (.getfield 132, 3) := by decide +kernel
theorem dX2_pass_33 : decode cX2_pass 33 = .ok (.iload_n 2, 1) := by decide +kernel
theorem dX2_pass_34 : decode cX2_pass 34 = .ok (.isub, 1) := by decide +kernel
theorem dX2_pass_35 : decode cX2_pass 35 = .ok (.ireturn, 1) := by decide +kernel
theorem dX2_breaks_0 : decode cX2_breaks 0 = .ok (.aload_n 0, 1) := by decide +kernel
theorem dX2_breaks_1 : decode cX2_breaks 1 = .ok (.getfield 10, 3) := by decide +kernel
theorem dX2_breaks_4 : decode cX2_breaks 4 = .ok (.getfield 96, 3) := by decide +kernel
theorem dX2_breaks_7 : decode cX2_breaks 7 = .ok (.iload_n 1, 1) := by decide +kernel
theorem dX2_breaks_8 : decode cX2_breaks 8 = .ok (.invokevirtual 48, 3) := by decide +kernel
theorem dX2_breaks_11 : decode cX2_breaks 11 = .ok (.invokestatic 51, 3) := by decide +kernel
theorem dX2_breaks_14 : decode cX2_breaks 14 = .ok (.iload_n 2, 1) := by decide +kernel
theorem dX2_breaks_15 : decode cX2_breaks 15 = .ok (.iconst 1, 1) := by decide +kernel
theorem dX2_breaks_16 : decode cX2_breaks 16 = .ok (.bipush 30, 2) := by decide +kernel
theorem dX2_breaks_18 : decode cX2_breaks 18 = .ok (.invokestatic 27, 3) := by decide +kernel
theorem dX2_breaks_21 : decode cX2_breaks 21 = .ok (.invokestatic 23, 3) := by decide +kernel
theorem dX2_breaks_24 : decode cX2_breaks 24 = .ok (.aload_n 0, 1) := by decide +kernel
theorem dX2_breaks_25 : decode cX2_breaks 25 = .ok (.getfield 10, 3) := by decide +kernel
theorem dX2_breaks_28 : decode cX2_breaks 28 = .ok (.iload_n 1, 1) := by decide +kernel
theorem dX2_breaks_29 : decode cX2_breaks 29 = .ok (.iload_n 2, 1) := by decide +kernel
theorem dX2_breaks_30 : decode cX2_breaks 30 = .ok (.invokevirtual 138, 3) := by decide +kernel
theorem dX2_breaks_33 : decode cX2_breaks 33 = .ok (.ireturn, 1) := by decide +kernel
theorem dX2_advise_0 : decode cX2_advise 0 = .ok (.aload_n 0, 1) := by decide +kernel
theorem dX2_advise_1 : decode cX2_advise 1 = .ok (.getfield 10, 3) := by decide +kernel
theorem dX2_advise_4 : decode cX2_advise 4 = .ok (.invokevirtual 106, 3) := by decide +kernel
theorem dX2_advise_7 : decode cX2_advise 7 = .ok (.ifCond .eq 7, 3) := by decide +kernel
theorem dX2_advise_10 : decode cX2_advise 10 = .ok (.iconst (-1), 1) := by decide +kernel
theorem dX2_advise_11 : decode cX2_advise 11 = .ok (.goto 10, 3) := by decide +kernel
theorem dX2_advise_14 : decode cX2_advise 14 = .ok (.aload_n 0, 1) := by decide +kernel
theorem dX2_advise_15 : decode cX2_advise 15 = .ok (.getfield 10, 3) := by decide +kernel
theorem dX2_advise_18 : decode cX2_advise 18 = .ok (.invokevirtual 141, 3) := by decide +kernel
theorem dX2_advise_21 : decode cX2_advise 21 = .ok (.ireturn, 1) := by decide +kernel
theorem dX2_ready_0 : decode cX2_ready 0 = .ok (.aload_n 0, 1) := by decide +kernel
theorem dX2_ready_1 : decode cX2_ready 1 = .ok (.getfield 10, 3) := by decide +kernel
theorem dX2_ready_4 : decode cX2_ready 4 = .ok (.getfield 112, 3) := by decide +kernel
theorem dX2_ready_7 : decode cX2_ready 7 = .ok (.iload_n 1, 1) := by decide +kernel
theorem dX2_ready_8 : decode cX2_ready 8 = .ok (.invokevirtual 48, 3) := by decide +kernel
theorem dX2_ready_11 : decode cX2_ready 11 = .ok (.invokestatic 51, 3) := by decide +kernel
theorem dX2_ready_14 : decode cX2_ready 14 = .ok (.aload_n 0, 1) := by decide +kernel
theorem dX2_ready_15 : decode cX2_ready 15 = .ok (.getfield 16, 3) := by decide +kernel
theorem dX2_ready_18 : decode cX2_ready 18 = .ok (.aload_n 0, 1) := by decide +kernel
theorem dX2_ready_19 : decode cX2_ready 19 = .ok (.getfield 10, 3) := by decide +kernel
theorem dX2_ready_22 : decode cX2_ready 22 = .ok (.invokevirtual 145, 3) := by decide +kernel
theorem dX2_ready_25 : decode cX2_ready 25 = .ok (.aload_n 0, 1) := by decide +kernel
theorem dX2_ready_26 : decode cX2_ready 26 = .ok (.getfield 16, 3) := by decide +kernel
theorem dX2_ready_29 : decode cX2_ready 29 = .ok (.iload_n 1, 1) := by decide +kernel
theorem dX2_ready_30 : decode cX2_ready 30 = .ok (.invokevirtual 149, 3) := by decide +kernel
theorem dX2_ready_33 : decode cX2_ready 33 = .ok (.ireturn, 1) := by decide +kernel
theorem dX2_foresee_0 : decode cX2_foresee 0 = .ok (.iload_n 1, 1) := by decide +kernel
theorem dX2_foresee_1 : decode cX2_foresee 1 = .ok (.iconst 1, 1) := by decide +kernel
theorem dX2_foresee_2 : decode cX2_foresee 2 = .ok (.bipush 40, 2) := by decide +kernel
theorem dX2_foresee_4 : decode cX2_foresee 4 = .ok (.invokestatic 27, 3) := by decide +kernel
theorem dX2_foresee_7 : decode cX2_foresee 7 = .ok (.invokestatic 23, 3) := by decide +kernel
theorem dX2_foresee_10 : decode cX2_foresee 10 = .ok (.iload_n 2, 1) := by decide +kernel
theorem dX2_foresee_11 : decode cX2_foresee 11 = .ok (.iconst 0, 1) := by decide +kernel
theorem dX2_foresee_12 : decode cX2_foresee 12 = .ok (.bipush 11, 2) := by decide +kernel
theorem dX2_foresee_14 : decode cX2_foresee 14 = .ok (.invokestatic 27, 3) := by decide +kernel
theorem dX2_foresee_17 : decode cX2_foresee 17 = .ok (.invokestatic 51, 3) := by decide +kernel
theorem dX2_foresee_20 : decode cX2_foresee 20 = .ok (.aload_n 0, 1) := by decide +kernel
theorem dX2_foresee_21 : decode cX2_foresee 21 = .ok (.getfield 16, 3) := by decide +kernel
theorem dX2_foresee_24 : decode cX2_foresee 24 = .ok (.aload_n 0, 1) := by decide +kernel
theorem dX2_foresee_25 : decode cX2_foresee 25 = .ok (.getfield 10, 3) := by decide +kernel
theorem dX2_foresee_28 : decode cX2_foresee 28 = .ok (.invokevirtual 145, 3) := by decide +kernel
theorem dX2_foresee_31 : decode cX2_foresee 31 = .ok (.aload_n 0, 1) := by decide +kernel
theorem dX2_foresee_32 : decode cX2_foresee 32 = .ok (.getfield 16, 3) := by decide +kernel
theorem dX2_foresee_35 : decode cX2_foresee 35 = .ok (.iload_n 1, 1) := by decide +kernel
theorem dX2_foresee_36 : decode cX2_foresee 36 = .ok (.invokevirtual 135, 3) := by decide +kernel
theorem dX2_foresee_39 : decode cX2_foresee 39 = .ok (.aload_n 0, 1) := by decide +kernel
theorem dX2_foresee_40 : decode cX2_foresee 40 = .ok (.getfield 16, 3) := by decide +kernel
theorem dX2_foresee_43 : decode cX2_foresee 43 = .ok (.iload_n 2, 1) := by decide +kernel
theorem dX2_foresee_44 : decode cX2_foresee 44 = .ok (.invokevirtual 129, 3) := by decide +kernel
theorem dX2_foresee_47 : decode cX2_foresee 47 = .ok (.ireturn, 1) := by decide +kernel
theorem dX2_mean_0 : decode cX2_mean 0 = .ok (.aload_n 0, 1) := by decide +kernel
theorem dX2_mean_1 : decode cX2_mean 1 = .ok (.getfield 10, 3) := by decide +kernel
theorem dX2_mean_4 : decode cX2_mean 4 = .ok (.invokevirtual 152, 3) := by decide +kernel
theorem dX2_mean_7 : decode cX2_mean 7 = .ok (.dreturn, 1) := by decide +kernel
theorem dX2_digest_0 : decode cX2_digest 0 = .ok (.aload_n 0, 1) := by decide +kernel
theorem dX2_digest_1 : decode cX2_digest 1 = .ok (.getfield 10, 3) := by decide +kernel
theorem dX2_digest_4 : decode cX2_digest 4 = .ok (.invokevirtual 156, 3) := by decide +kernel
theorem dX2_digest_7 : decode cX2_digest 7 = .ok (.lreturn, 1) := by decide +kernel
theorem dX2_isWithin_0 : decode cX2_isWithin 0 = .ok (.iload_n 0, 1) := by decide +kernel
theorem dX2_isWithin_1 : decode cX2_isWithin 1 = .ok (.iload_n 1, 1) := by decide +kernel
theorem dX2_isWithin_2 : decode cX2_isWithin 2 = .ok (.if_icmp .lt 12, 3) := by decide +kernel
theorem dX2_isWithin_5 : decode cX2_isWithin 5 = .ok (.iload_n 0, 1) := by decide +kernel
theorem dX2_isWithin_6 : decode cX2_isWithin 6 = .ok (.iload_n 2, 1) := by decide +kernel
theorem dX2_isWithin_7 : decode cX2_isWithin 7 = .ok (.if_icmp .gt 7, 3) := by decide +kernel
theorem dX2_isWithin_10 : decode cX2_isWithin 10 = .ok (.iconst 1, 1) := by decide +kernel
theorem dX2_isWithin_11 : decode cX2_isWithin 11 = .ok (.goto 4, 3) := by decide +kernel
theorem dX2_isWithin_14 : decode cX2_isWithin 14 = .ok (.iconst 0, 1) := by decide +kernel
theorem dX2_isWithin_15 : decode cX2_isWithin 15 = .ok (.ireturn, 1) := by decide +kernel
theorem dX2_isLength_0 : decode cX2_isLength 0 = .ok (.iload_n 0, 1) := by decide +kernel
theorem dX2_isLength_1 : decode cX2_isLength 1 = .ok (.iconst 4, 1) := by decide +kernel
theorem dX2_isLength_2 : decode cX2_isLength 2 = .ok (.bipush 24, 2) := by decide +kernel
theorem dX2_isLength_4 : decode cX2_isLength 4 = .ok (.invokestatic 27, 3) := by decide +kernel
theorem dX2_isLength_7 : decode cX2_isLength 7 = .ok (.ireturn, 1) := by decide +kernel
theorem dX2_cellOf_0 : decode cX2_cellOf 0 = .ok (.aload_n 0, 1) := by decide +kernel
theorem dX2_cellOf_1 : decode cX2_cellOf 1 = .ok (.iload_n 1, 1) := by decide +kernel
theorem dX2_cellOf_2 : decode cX2_cellOf 2 = .ok (.invokevirtual 48, 3) := by decide +kernel
theorem dX2_cellOf_5 : decode cX2_cellOf 5 = .ok (.invokestatic 51, 3) := by decide +kernel
theorem dX2_cellOf_8 : decode cX2_cellOf 8 = .ok (.aload_n 0, 1) := by decide +kernel
theorem dX2_cellOf_9 : decode cX2_cellOf 9 = .ok (.iload_n 2, 1) := by decide +kernel
theorem dX2_cellOf_10 : decode cX2_cellOf 10 = .ok (.invokevirtual 160, 3) := by decide +kernel
theorem dX2_cellOf_13 : decode cX2_cellOf 13 = .ok (.invokestatic 51, 3) := by decide +kernel
theorem dX2_cellOf_16 : decode cX2_cellOf 16 = .ok (.aload_n 0, 1) := by decide +kernel
theorem dX2_cellOf_17 : decode cX2_cellOf 17 = .ok (.iload_n 1, 1) := by decide +kernel
theorem dX2_cellOf_18 : decode cX2_cellOf 18 = .ok (.iload_n 2, 1) := by decide +kernel
theorem dX2_cellOf_19 : decode cX2_cellOf 19 = .ok (.invokevirtual 54, 3) := by decide +kernel
theorem dX2_cellOf_22 : decode cX2_cellOf 22 = .ok (.ireturn, 1) := by decide +kernel
theorem dX2_requireIndex_0 : decode cX2_requireIndex 0 = .ok (.iload_n 0, 1) := by decide +kernel
theorem dX2_requireIndex_1 : decode cX2_requireIndex 1 = .ok (.ifCond .ne 13, 3) := by decide +kernel
theorem dX2_requireIndex_4 : decode cX2_requireIndex 4 = .ok (.new 163, 3) := by decide +kernel
theorem dX2_requireIndex_7 : decode cX2_requireIndex 7 = .ok (.dup, 1) := by decide +kernel
theorem dX2_requireIndex_8 : decode cX2_requireIndex 8 = .ok (.ldc 165, 2) := by decide +kernel
theorem dX2_requireIndex_10 : decode cX2_requireIndex 10 = .ok (.invokespecial 167, 3) := by decide +kernel
theorem dX2_requireIndex_13 : decode cX2_requireIndex 13 = .ok (.athrow, 1) := by decide +kernel
theorem dX2_requireIndex_14 : decode cX2_requireIndex 14 = .ok (.return_, 1) := by decide +kernel
theorem dX2_requireArgument_0 : decode cX2_requireArgument 0 = .ok (.iload_n 0, 1) := by decide +kernel
theorem dX2_requireArgument_1 : decode cX2_requireArgument 1 = .ok (.ifCond .ne 13, 3) := by decide +kernel
theorem dX2_requireArgument_4 : decode cX2_requireArgument 4 = .ok (.new 170, 3) := by decide +kernel
theorem dX2_requireArgument_7 : decode cX2_requireArgument 7 = .ok (.dup, 1) := by decide +kernel
theorem dX2_requireArgument_8 : decode cX2_requireArgument 8 = .ok (.ldc 172, 2) := by decide +kernel
theorem dX2_requireArgument_10 : decode cX2_requireArgument 10 = .ok (.invokespecial 174, 3) := by decide +kernel
theorem dX2_requireArgument_13 : decode cX2_requireArgument 13 = .ok (.athrow, 1) := by decide +kernel
theorem dX2_requireArgument_14 : decode cX2_requireArgument 14 = .ok (.return_, 1) := by decide +kernel
theorem dX2_requireState_0 : decode cX2_requireState 0 = .ok (.iload_n 0, 1) := by decide +kernel
theorem dX2_requireState_1 : decode cX2_requireState 1 = .ok (.ifCond .ne 13, 3) := by decide +kernel
theorem dX2_requireState_4 : decode cX2_requireState 4 = .ok (.new 175, 3) := by decide +kernel
theorem dX2_requireState_7 : decode cX2_requireState 7 = .ok (.dup, 1) := by decide +kernel
theorem dX2_requireState_8 : decode cX2_requireState 8 = .ok (.ldc 177, 2) := by decide +kernel
theorem dX2_requireState_10 : decode cX2_requireState 10 = .ok (.invokespecial 179, 3) := by decide +kernel
theorem dX2_requireState_13 : decode cX2_requireState 13 = .ok (.athrow, 1) := by decide +kernel
theorem dX2_requireState_14 : decode cX2_requireState 14 = .ok (.return_, 1) := by decide +kernel
