theorem dL_mould_0 : decode cL_mould 0 = .ok (.aload_n 3, 1) := by decide +kernel
theorem dL_mould_1 : decode cL_mould 1 = .ok (.iconst 0, 1) := by decide +kernel
theorem dL_mould_2 : decode cL_mould 2 = .ok (.aload_n 0, 1) := by decide +kernel
theorem dL_mould_3 : decode cL_mould 3 = .ok (.iload_n 1, 1) := by decide +kernel
theorem dL_mould_4 : decode cL_mould 4 = .ok (.iload_n 2, 1) := by decide +kernel
theorem dL_mould_5 : decode cL_mould 5 = .ok (.invokevirtual 7, 3) := by decide +kernel
theorem dL_mould_8 : decode cL_mould 8 = .ok (.i2l, 1) := by decide +kernel
theorem dL_mould_9 : decode cL_mould 9 = .ok (.lastore, 1) := by decide +kernel
theorem dL_mould_10 : decode cL_mould 10 = .ok (.goto 11, 3) := by decide +kernel
theorem dL_mould_13 : decode cL_mould 13 = .ok (.astore 4, 2) := by decide +kernel
theorem dL_mould_15 : decode cL_mould 15 = .ok (.iconst 1, 1) := by decide +kernel
theorem dL_mould_16 : decode cL_mould 16 = .ok (.ireturn, 1) := by decide +kernel
theorem dL_mould_17 : decode cL_mould 17 = .ok (.astore 4, 2) := by decide +kernel
theorem dL_mould_19 : decode cL_mould 19 = .ok (.iconst 2, 1) := by decide +kernel
theorem dL_mould_20 : decode cL_mould 20 = .ok (.ireturn, 1) := by decide +kernel
theorem dL_mould_21 : decode cL_mould 21 = .ok (.iconst 0, 1) := by decide +kernel
theorem dL_mould_22 : decode cL_mould 22 = .ok (.ireturn, 1) := by decide +kernel
theorem dL_refit_0 : decode cL_refit 0 = .ok (.aload_n 2, 1) := by decide +kernel
theorem dL_refit_1 : decode cL_refit 1 = .ok (.iconst 0, 1) := by decide +kernel
theorem dL_refit_2 : decode cL_refit 2 = .ok (.aload_n 0, 1) := by decide +kernel
theorem dL_refit_3 : decode cL_refit 3 = .ok (.iload_n 1, 1) := by decide +kernel
theorem dL_refit_4 : decode cL_refit 4 = .ok (.invokevirtual 17, 3) := by decide +kernel
theorem dL_refit_7 : decode cL_refit 7 = .ok (.i2l, 1) := by decide +kernel
theorem dL_refit_8 : decode cL_refit 8 = .ok (.lastore, 1) := by decide +kernel
theorem dL_refit_9 : decode cL_refit 9 = .ok (.goto 9, 3) := by decide +kernel
theorem dL_refit_12 : decode cL_refit 12 = .ok (.astore_n 3, 1) := by decide +kernel
theorem dL_refit_13 : decode cL_refit 13 = .ok (.iconst 1, 1) := by decide +kernel
theorem dL_refit_14 : decode cL_refit 14 = .ok (.ireturn, 1) := by decide +kernel
theorem dL_refit_15 : decode cL_refit 15 = .ok (.astore_n 3, 1) := by decide +kernel
theorem dL_refit_16 : decode cL_refit 16 = .ok (.iconst 2, 1) := by decide +kernel
theorem dL_refit_17 : decode cL_refit 17 = .ok (.ireturn, 1) := by decide +kernel
theorem dL_refit_18 : decode cL_refit 18 = .ok (.iconst 0, 1) := by decide +kernel
theorem dL_refit_19 : decode cL_refit 19 = .ok (.ireturn, 1) := by decide +kernel
theorem dL_maker_0 : decode cL_maker 0 = .ok (.aload_n 2, 1) := by decide +kernel
theorem dL_maker_1 : decode cL_maker 1 = .ok (.iconst 0, 1) := by decide +kernel
theorem dL_maker_2 : decode cL_maker 2 = .ok (.aload_n 0, 1) := by decide +kernel
theorem dL_maker_3 : decode cL_maker 3 = .ok (.iload_n 1, 1) := by decide +kernel
theorem dL_maker_4 : decode cL_maker 4 = .ok (.invokevirtual 23, 3) := by decide +kernel
theorem dL_maker_7 : decode cL_maker 7 = .ok (.i2l, 1) := by decide +kernel
theorem dL_maker_8 : decode cL_maker 8 = .ok (.lastore, 1) := by decide +kernel
theorem dL_maker_9 : decode cL_maker 9 = .ok (.goto 9, 3) := by decide +kernel
theorem dL_maker_12 : decode cL_maker 12 = .ok (.astore_n 3, 1) := by decide +kernel
theorem dL_maker_13 : decode cL_maker 13 = .ok (.iconst 1, 1) := by decide +kernel
theorem dL_maker_14 : decode cL_maker 14 = .ok (.ireturn, 1) := by decide +kernel
theorem dL_maker_15 : decode cL_maker 15 = .ok (.astore_n 3, 1) := by decide +kernel
theorem dL_maker_16 : decode cL_maker 16 = .ok (.iconst 2, 1) := by decide +kernel
theorem dL_maker_17 : decode cL_maker 17 = .ok (.ireturn, 1) := by decide +kernel
theorem dL_maker_18 : decode cL_maker 18 = .ok (.iconst 0, 1) := by decide +kernel
theorem dL_maker_19 : decode cL_maker 19 = .ok (.ireturn, 1) := by decide +kernel
theorem dL_place_0 : decode cL_place 0 = .ok (.aload_n 3, 1) := by decide +kernel
theorem dL_place_1 : decode cL_place 1 = .ok (.iconst 0, 1) := by decide +kernel
theorem dL_place_2 : decode cL_place 2 = .ok (.aload_n 0, 1) := by decide +kernel
theorem dL_place_3 : decode cL_place 3 = .ok (.iload_n 1, 1) := by decide +kernel
theorem dL_place_4 : decode cL_place 4 = .ok (.iload_n 2, 1) := by decide +kernel
theorem dL_place_5 : decode cL_place 5 = .ok (.invokevirtual 26, 3) := by decide +kernel
theorem dL_place_8 : decode cL_place 8 = .ok (.i2l, 1) := by decide +kernel
theorem dL_place_9 : decode cL_place 9 = .ok (.lastore, 1) := by decide +kernel
theorem dL_place_10 : decode cL_place 10 = .ok (.goto 11, 3) := by decide +kernel
theorem dL_place_13 : decode cL_place 13 = .ok (.astore 4, 2) := by decide +kernel
theorem dL_place_15 : decode cL_place 15 = .ok (.iconst 1, 1) := by decide +kernel
theorem dL_place_16 : decode cL_place 16 = .ok (.ireturn, 1) := by decide +kernel
theorem dL_place_17 : decode cL_place 17 = .ok (.astore 4, 2) := by decide +kernel
theorem dL_place_19 : decode cL_place 19 = .ok (.iconst 2, 1) := by decide +kernel
theorem dL_place_20 : decode cL_place 20 = .ok (.ireturn, 1) := by decide +kernel
theorem dL_place_21 : decode cL_place 21 = .ok (.iconst 0, 1) := by decide +kernel
theorem dL_place_22 : decode cL_place 22 = .ok (.ireturn, 1) := by decide +kernel
theorem dL_buy_0 : decode cL_buy 0 = .ok (.aload_n 3, 1) := by decide +kernel
theorem dL_buy_1 : decode cL_buy 1 = .ok (.iconst 0, 1) := by decide +kernel
theorem dL_buy_2 : decode cL_buy 2 = .ok (.aload_n 0, 1) := by decide +kernel
theorem dL_buy_3 : decode cL_buy 3 = .ok (.iload_n 1, 1) := by decide +kernel
theorem dL_buy_4 : decode cL_buy 4 = .ok (.iload_n 2, 1) := by decide +kernel
theorem dL_buy_5 : decode cL_buy 5 = .ok (.invokevirtual 29, 3) := by decide +kernel
theorem dL_buy_8 : decode cL_buy 8 = .ok (.i2l, 1) := by decide +kernel
theorem dL_buy_9 : decode cL_buy 9 = .ok (.lastore, 1) := by decide +kernel
theorem dL_buy_10 : decode cL_buy 10 = .ok (.goto 15, 3) := by decide +kernel
theorem dL_buy_13 : decode cL_buy 13 = .ok (.astore 4, 2) := by decide +kernel
theorem dL_buy_15 : decode cL_buy 15 = .ok (.iconst 1, 1) := by decide +kernel
theorem dL_buy_16 : decode cL_buy 16 = .ok (.ireturn, 1) := by decide +kernel
theorem dL_buy_17 : decode cL_buy 17 = .ok (.astore 4, 2) := by decide +kernel
theorem dL_buy_19 : decode cL_buy 19 = .ok (.iconst 2, 1) := by decide +kernel
theorem dL_buy_20 : decode cL_buy 20 = .ok (.ireturn, 1) := by decide +kernel
theorem dL_buy_21 : decode cL_buy 21 = .ok (.astore 4, 2) := by decide +kernel
theorem dL_buy_23 : decode cL_buy 23 = .ok (.iconst 3, 1) := by decide +kernel
theorem dL_buy_24 : decode cL_buy 24 = .ok (.ireturn, 1) := by decide +kernel
theorem dL_buy_25 : decode cL_buy 25 = .ok (.iconst 0, 1) := by decide +kernel
theorem dL_buy_26 : decode cL_buy 26 = .ok (.ireturn, 1) := by decide +kernel
theorem dL_setDry_0 : decode cL_setDry 0 = .ok (.aload_n 3, 1) := by decide +kernel
theorem dL_setDry_1 : decode cL_setDry 1 = .ok (.iconst 0, 1) := by decide +kernel
theorem dL_setDry_2 : decode cL_setDry 2 = .ok (.aload_n 0, 1) := by decide +kernel
theorem dL_setDry_3 : decode cL_setDry 3 = .ok (.iload_n 1, 1) := by decide +kernel
theorem dL_setDry_4 : decode cL_setDry 4 = .ok (.iload_n 2, 1) := by decide +kernel
theorem dL_setDry_5 : decode cL_setDry 5 = .ok (.invokevirtual 32, 3) := by decide +kernel
theorem dL_setDry_8 : decode cL_setDry 8 = .ok (.i2l, 1) := by decide +kernel
theorem dL_setDry_9 : decode cL_setDry 9 = .ok (.lastore, 1) := by decide +kernel
theorem dL_setDry_10 : decode cL_setDry 10 = .ok (.goto 11, 3) := by decide +kernel
theorem dL_setDry_13 : decode cL_setDry 13 = .ok (.astore 4, 2) := by decide +kernel
theorem dL_setDry_15 : decode cL_setDry 15 = .ok (.iconst 1, 1) := by decide +kernel
theorem dL_setDry_16 : decode cL_setDry 16 = .ok (.ireturn, 1) := by decide +kernel
theorem dL_setDry_17 : decode cL_setDry 17 = .ok (.astore 4, 2) := by decide +kernel
theorem dL_setDry_19 : decode cL_setDry 19 = .ok (.iconst 2, 1) := by decide +kernel
theorem dL_setDry_20 : decode cL_setDry 20 = .ok (.ireturn, 1) := by decide +kernel
theorem dL_setDry_21 : decode cL_setDry 21 = .ok (.iconst 0, 1) := by decide +kernel
theorem dL_setDry_22 : decode cL_setDry 22 = .ok (.ireturn, 1) := by decide +kernel
theorem dL_pack_0 : decode cL_pack 0 = .ok (.aload 4, 2) := by decide +kernel
theorem dL_pack_2 : decode cL_pack 2 = .ok (.iconst 0, 1) := by decide +kernel
theorem dL_pack_3 : decode cL_pack 3 = .ok (.aload_n 0, 1) := by decide +kernel
theorem dL_pack_4 : decode cL_pack 4 = .ok (.iload_n 1, 1) := by decide +kernel
theorem dL_pack_5 : decode cL_pack 5 = .ok (.iload_n 2, 1) := by decide +kernel
theorem dL_pack_6 : decode cL_pack 6 = .ok (.iload_n 3, 1) := by decide +kernel
theorem dL_pack_7 : decode cL_pack 7 = .ok (.invokevirtual 35, 3) := by decide +kernel
theorem dL_pack_10 : decode cL_pack 10 = .ok (.i2l, 1) := by decide +kernel
theorem dL_pack_11 : decode cL_pack 11 = .ok (.lastore, 1) := by decide +kernel
theorem dL_pack_12 : decode cL_pack 12 = .ok (.goto 15, 3) := by decide +kernel
theorem dL_pack_15 : decode cL_pack 15 = .ok (.astore 5, 2) := by decide +kernel
theorem dL_pack_17 : decode cL_pack 17 = .ok (.iconst 1, 1) := by decide +kernel
theorem dL_pack_18 : decode cL_pack 18 = .ok (.ireturn, 1) := by decide +kernel
theorem dL_pack_19 : decode cL_pack 19 = .ok (.astore 5, 2) := by decide +kernel
theorem dL_pack_21 : decode cL_pack 21 = .ok (.iconst 2, 1) := by decide +kernel
theorem dL_pack_22 : decode cL_pack 22 = .ok (.ireturn, 1) := by decide +kernel
theorem dL_pack_23 : decode cL_pack 23 = .ok (.astore 5, 2) := by decide +kernel
theorem dL_pack_25 : decode cL_pack 25 = .ok (.iconst 3, 1) := by decide +kernel
theorem dL_pack_26 : decode cL_pack 26 = .ok (.ireturn, 1) := by decide +kernel
theorem dL_pack_27 : decode cL_pack 27 = .ok (.iconst 0, 1) := by decide +kernel
theorem dL_pack_28 : decode cL_pack 28 = .ok (.ireturn, 1) := by decide +kernel
theorem dL_fire_0 : decode cL_fire 0 = .ok (.aload_n 2, 1) := by decide +kernel
theorem dL_fire_1 : decode cL_fire 1 = .ok (.iconst 0, 1) := by decide +kernel
theorem dL_fire_2 : decode cL_fire 2 = .ok (.aload_n 0, 1) := by decide +kernel
theorem dL_fire_3 : decode cL_fire 3 = .ok (.iload_n 1, 1) := by decide +kernel
theorem dL_fire_4 : decode cL_fire 4 = .ok (.invokevirtual 39, 3) := by decide +kernel
theorem dL_fire_7 : decode cL_fire 7 = .ok (.i2l, 1) := by decide +kernel
theorem dL_fire_8 : decode cL_fire 8 = .ok (.lastore, 1) := by decide +kernel
theorem dL_fire_9 : decode cL_fire 9 = .ok (.goto 9, 3) := by decide +kernel
theorem dL_fire_12 : decode cL_fire 12 = .ok (.astore_n 3, 1) := by decide +kernel
theorem dL_fire_13 : decode cL_fire 13 = .ok (.iconst 1, 1) := by decide +kernel
theorem dL_fire_14 : decode cL_fire 14 = .ok (.ireturn, 1) := by decide +kernel
theorem dL_fire_15 : decode cL_fire 15 = .ok (.astore_n 3, 1) := by decide +kernel
theorem dL_fire_16 : decode cL_fire 16 = .ok (.iconst 2, 1) := by decide +kernel
theorem dL_fire_17 : decode cL_fire 17 = .ok (.ireturn, 1) := by decide +kernel
theorem dL_fire_18 : decode cL_fire 18 = .ok (.iconst 0, 1) := by decide +kernel
theorem dL_fire_19 : decode cL_fire 19 = .ok (.ireturn, 1) := by decide +kernel
theorem dL_order_0 : decode cL_order 0 = .ok (.aload 5, 2) := by decide +kernel
theorem dL_order_2 : decode cL_order 2 = .ok (.iconst 0, 1) := by decide +kernel
theorem dL_order_3 : decode cL_order 3 = .ok (.aload_n 0, 1) := by decide +kernel
theorem dL_order_4 : decode cL_order 4 = .ok (.iload_n 1, 1) := by decide +kernel
theorem dL_order_5 : decode cL_order 5 = .ok (.iload_n 2, 1) := by decide +kernel
theorem dL_order_6 : decode cL_order 6 = .ok (.iload_n 3, 1) := by decide +kernel
theorem dL_order_7 : decode cL_order 7 = .ok (.iload 4, 2) := by decide +kernel
theorem dL_order_9 : decode cL_order 9 = .ok (.invokevirtual 42, 3) := by decide +kernel
theorem dL_order_12 : decode cL_order 12 = .ok (.i2l, 1) := by decide +kernel
theorem dL_order_13 : decode cL_order 13 = .ok (.lastore, 1) := by decide +kernel
theorem dL_order_14 : decode cL_order 14 = .ok (.goto 11, 3) := by decide +kernel
theorem dL_order_17 : decode cL_order 17 = .ok (.astore 6, 2) := by decide +kernel
theorem dL_order_19 : decode cL_order 19 = .ok (.iconst 1, 1) := by decide +kernel
theorem dL_order_20 : decode cL_order 20 = .ok (.ireturn, 1) := by decide +kernel
theorem dL_order_21 : decode cL_order 21 = .ok (.astore 6, 2) := by decide +kernel
theorem dL_order_23 : decode cL_order 23 = .ok (.iconst 2, 1) := by decide +kernel
theorem dL_order_24 : decode cL_order 24 = .ok (.ireturn, 1) := by decide +kernel
theorem dL_order_25 : decode cL_order 25 = .ok (.iconst 0, 1) := by decide +kernel
theorem dL_order_26 : decode cL_order 26 = .ok (.ireturn, 1) := by decide +kernel
theorem dL_about_0 : decode cL_about 0 = .ok (.aload_n 3, 1) := by decide +kernel
theorem dL_about_1 : decode cL_about 1 = .ok (.iconst 0, 1) := by decide +kernel
theorem dL_about_2 : decode cL_about 2 = .ok (.aload_n 0, 1) := by decide +kernel
theorem dL_about_3 : decode cL_about 3 = .ok (.iload_n 1, 1) := by decide +kernel
theorem dL_about_4 : decode cL_about 4 = .ok (.iload_n 2, 1) := by decide +kernel
theorem dL_about_5 : decode cL_about 5 = .ok (.invokevirtual 46, 3) := by decide +kernel
theorem dL_about_8 : decode cL_about 8 = .ok (.i2l, 1) := by decide +kernel
theorem dL_about_9 : decode cL_about 9 = .ok (.lastore, 1) := by decide +kernel
theorem dL_about_10 : decode cL_about 10 = .ok (.goto 7, 3) := by decide +kernel
theorem dL_about_13 : decode cL_about 13 = .ok (.astore 4, 2) := by decide +kernel
theorem dL_about_15 : decode cL_about 15 = .ok (.iconst 1, 1) := by decide +kernel
theorem dL_about_16 : decode cL_about 16 = .ok (.ireturn, 1) := by decide +kernel
theorem dL_about_17 : decode cL_about 17 = .ok (.iconst 0, 1) := by decide +kernel
theorem dL_about_18 : decode cL_about 18 = .ok (.ireturn, 1) := by decide +kernel
theorem dL_told_0 : decode cL_told 0 = .ok (.aload_n 3, 1) := by decide +kernel
theorem dL_told_1 : decode cL_told 1 = .ok (.iconst 0, 1) := by decide +kernel
theorem dL_told_2 : decode cL_told 2 = .ok (.aload_n 0, 1) := by decide +kernel
theorem dL_told_3 : decode cL_told 3 = .ok (.iload_n 1, 1) := by decide +kernel
theorem dL_told_4 : decode cL_told 4 = .ok (.iload_n 2, 1) := by decide +kernel
theorem dL_told_5 : decode cL_told 5 = .ok (.invokevirtual 49, 3) := by decide +kernel
theorem dL_told_8 : decode cL_told 8 = .ok (.i2l, 1) := by decide +kernel
theorem dL_told_9 : decode cL_told 9 = .ok (.lastore, 1) := by decide +kernel
theorem dL_told_10 : decode cL_told 10 = .ok (.goto 7, 3) := by decide +kernel
theorem dL_told_13 : decode cL_told 13 = .ok (.astore 4, 2) := by decide +kernel
theorem dL_told_15 : decode cL_told 15 = .ok (.iconst 1, 1) := by decide +kernel
theorem dL_told_16 : decode cL_told 16 = .ok (.ireturn, 1) := by decide +kernel
theorem dL_told_17 : decode cL_told 17 = .ok (.iconst 0, 1) := by decide +kernel
theorem dL_told_18 : decode cL_told 18 = .ok (.ireturn, 1) := by decide +kernel
theorem dL_batch_0 : decode cL_batch 0 = .ok (.aload_n 3, 1) := by decide +kernel
theorem dL_batch_1 : decode cL_batch 1 = .ok (.iconst 0, 1) := by decide +kernel
theorem dL_batch_2 : decode cL_batch 2 = .ok (.aload_n 0, 1) := by decide +kernel
theorem dL_batch_3 : decode cL_batch 3 = .ok (.iload_n 1, 1) := by decide +kernel
theorem dL_batch_4 : decode cL_batch 4 = .ok (.iload_n 2, 1) := by decide +kernel
theorem dL_batch_5 : decode cL_batch 5 = .ok (.invokevirtual 52, 3) := by decide +kernel
theorem dL_batch_8 : decode cL_batch 8 = .ok (.i2l, 1) := by decide +kernel
theorem dL_batch_9 : decode cL_batch 9 = .ok (.lastore, 1) := by decide +kernel
theorem dL_batch_10 : decode cL_batch 10 = .ok (.goto 7, 3) := by decide +kernel
theorem dL_batch_13 : decode cL_batch 13 = .ok (.astore 4, 2) := by decide +kernel
theorem dL_batch_15 : decode cL_batch 15 = .ok (.iconst 1, 1) := by decide +kernel
theorem dL_batch_16 : decode cL_batch 16 = .ok (.ireturn, 1) := by decide +kernel
theorem dL_batch_17 : decode cL_batch 17 = .ok (.iconst 0, 1) := by decide +kernel
theorem dL_batch_18 : decode cL_batch 18 = .ok (.ireturn, 1) := by decide +kernel
theorem dL_saggar_0 : decode cL_saggar 0 = .ok (.aload_n 3, 1) := by decide +kernel
theorem dL_saggar_1 : decode cL_saggar 1 = .ok (.iconst 0, 1) := by decide +kernel
theorem dL_saggar_2 : decode cL_saggar 2 = .ok (.aload_n 0, 1) := by decide +kernel
theorem dL_saggar_3 : decode cL_saggar 3 = .ok (.iload_n 1, 1) := by decide +kernel
theorem dL_saggar_4 : decode cL_saggar 4 = .ok (.iload_n 2, 1) := by decide +kernel
theorem dL_saggar_5 : decode cL_saggar 5 = .ok (.invokevirtual 55, 3) := by decide +kernel
theorem dL_saggar_8 : decode cL_saggar 8 = .ok (.i2l, 1) := by decide +kernel
theorem dL_saggar_9 : decode cL_saggar 9 = .ok (.lastore, 1) := by decide +kernel
theorem dL_saggar_10 : decode cL_saggar 10 = .ok (.goto 7, 3) := by decide +kernel
theorem dL_saggar_13 : decode cL_saggar 13 = .ok (.astore 4, 2) := by decide +kernel
theorem dL_saggar_15 : decode cL_saggar 15 = .ok (.iconst 1, 1) := by decide +kernel
theorem dL_saggar_16 : decode cL_saggar 16 = .ok (.ireturn, 1) := by decide +kernel
theorem dL_saggar_17 : decode cL_saggar 17 = .ok (.iconst 0, 1) := by decide +kernel
theorem dL_saggar_18 : decode cL_saggar 18 = .ok (.ireturn, 1) := by decide +kernel
theorem dL_store_0 : decode cL_store 0 = .ok (.aload_n 2, 1) := by decide +kernel
theorem dL_store_1 : decode cL_store 1 = .ok (.iconst 0, 1) := by decide +kernel
theorem dL_store_2 : decode cL_store 2 = .ok (.aload_n 0, 1) := by decide +kernel
theorem dL_store_3 : decode cL_store 3 = .ok (.iload_n 1, 1) := by decide +kernel
theorem dL_store_4 : decode cL_store 4 = .ok (.invokevirtual 58, 3) := by decide +kernel
theorem dL_store_7 : decode cL_store 7 = .ok (.i2l, 1) := by decide +kernel
theorem dL_store_8 : decode cL_store 8 = .ok (.lastore, 1) := by decide +kernel
theorem dL_store_9 : decode cL_store 9 = .ok (.goto 6, 3) := by decide +kernel
theorem dL_store_12 : decode cL_store 12 = .ok (.astore_n 3, 1) := by decide +kernel
theorem dL_store_13 : decode cL_store 13 = .ok (.iconst 1, 1) := by decide +kernel
theorem dL_store_14 : decode cL_store 14 = .ok (.ireturn, 1) := by decide +kernel
theorem dL_store_15 : decode cL_store 15 = .ok (.iconst 0, 1) := by decide +kernel
theorem dL_store_16 : decode cL_store 16 = .ok (.ireturn, 1) := by decide +kernel
theorem dL_waits_0 : decode cL_waits 0 = .ok (.aload_n 3, 1) := by decide +kernel
theorem dL_waits_1 : decode cL_waits 1 = .ok (.iconst 0, 1) := by decide +kernel
theorem dL_waits_2 : decode cL_waits 2 = .ok (.aload_n 0, 1) := by decide +kernel
theorem dL_waits_3 : decode cL_waits 3 = .ok (.iload_n 1, 1) := by decide +kernel
theorem dL_waits_4 : decode cL_waits 4 = .ok (.iload_n 2, 1) := by decide +kernel
theorem dL_waits_5 : decode cL_waits 5 = .ok (.invokevirtual 61, 3) := by decide +kernel
theorem dL_waits_8 : decode cL_waits 8 = .ok (.i2l, 1) := by decide +kernel
theorem dL_waits_9 : decode cL_waits 9 = .ok (.lastore, 1) := by decide +kernel
theorem dL_waits_10 : decode cL_waits 10 = .ok (.goto 7, 3) := by decide +kernel
theorem dL_waits_13 : decode cL_waits 13 = .ok (.astore 4, 2) := by decide +kernel
theorem dL_waits_15 : decode cL_waits 15 = .ok (.iconst 1, 1) := by decide +kernel
theorem dL_waits_16 : decode cL_waits 16 = .ok (.ireturn, 1) := by decide +kernel
theorem dL_waits_17 : decode cL_waits 17 = .ok (.iconst 0, 1) := by decide +kernel
theorem dL_waits_18 : decode cL_waits 18 = .ok (.ireturn, 1) := by decide +kernel
theorem dL_count_0 : decode cL_count 0 = .ok (.aload_n 2, 1) := by decide +kernel
theorem dL_count_1 : decode cL_count 1 = .ok (.iconst 0, 1) := by decide +kernel
theorem dL_count_2 : decode cL_count 2 = .ok (.aload_n 0, 1) := by decide +kernel
theorem dL_count_3 : decode cL_count 3 = .ok (.iload_n 1, 1) := by decide +kernel
theorem dL_count_4 : decode cL_count 4 = .ok (.invokevirtual 64, 3) := by decide +kernel
theorem dL_count_7 : decode cL_count 7 = .ok (.i2l, 1) := by decide +kernel
theorem dL_count_8 : decode cL_count 8 = .ok (.lastore, 1) := by decide +kernel
theorem dL_count_9 : decode cL_count 9 = .ok (.goto 6, 3) := by decide +kernel
theorem dL_count_12 : decode cL_count 12 = .ok (.astore_n 3, 1) := by decide +kernel
theorem dL_count_13 : decode cL_count 13 = .ok (.iconst 1, 1) := by decide +kernel
theorem dL_count_14 : decode cL_count 14 = .ok (.ireturn, 1) := by decide +kernel
theorem dL_count_15 : decode cL_count 15 = .ok (.iconst 0, 1) := by decide +kernel
theorem dL_count_16 : decode cL_count 16 = .ok (.ireturn, 1) := by decide +kernel
theorem dL_pass_0 : decode cL_pass 0 = .ok (.aload_n 2, 1) := by decide +kernel
theorem dL_pass_1 : decode cL_pass 1 = .ok (.iconst 0, 1) := by decide +kernel
theorem dL_pass_2 : decode cL_pass 2 = .ok (.aload_n 0, 1) := by decide +kernel
theorem dL_pass_3 : decode cL_pass 3 = .ok (.iload_n 1, 1) := by decide +kernel
theorem dL_pass_4 : decode cL_pass 4 = .ok (.invokevirtual 67, 3) := by decide +kernel
theorem dL_pass_7 : decode cL_pass 7 = .ok (.i2l, 1) := by decide +kernel
theorem dL_pass_8 : decode cL_pass 8 = .ok (.lastore, 1) := by decide +kernel
theorem dL_pass_9 : decode cL_pass 9 = .ok (.goto 6, 3) := by decide +kernel
theorem dL_pass_12 : decode cL_pass 12 = .ok (.astore_n 3, 1) := by decide +kernel
theorem dL_pass_13 : decode cL_pass 13 = .ok (.iconst 1, 1) := by decide +kernel
theorem dL_pass_14 : decode cL_pass 14 = .ok (.ireturn, 1) := by decide +kernel
theorem dL_pass_15 : decode cL_pass 15 = .ok (.iconst 0, 1) := by decide +kernel
theorem dL_pass_16 : decode cL_pass 16 = .ok (.ireturn, 1) := by decide +kernel
theorem dL_breaks_0 : decode cL_breaks 0 = .ok (.aload_n 3, 1) := by decide +kernel
theorem dL_breaks_1 : decode cL_breaks 1 = .ok (.iconst 0, 1) := by decide +kernel
theorem dL_breaks_2 : decode cL_breaks 2 = .ok (.aload_n 0, 1) := by decide +kernel
theorem dL_breaks_3 : decode cL_breaks 3 = .ok (.iload_n 1, 1) := by decide +kernel
theorem dL_breaks_4 : decode cL_breaks 4 = .ok (.iload_n 2, 1) := by decide +kernel
theorem dL_breaks_5 : decode cL_breaks 5 = .ok (.invokevirtual 70, 3) := by decide +kernel
theorem dL_breaks_8 : decode cL_breaks 8 = .ok (.i2l, 1) := by decide +kernel
theorem dL_breaks_9 : decode cL_breaks 9 = .ok (.lastore, 1) := by decide +kernel
theorem dL_breaks_10 : decode cL_breaks 10 = .ok (.goto 11, 3) := by decide +kernel
theorem dL_breaks_13 : decode cL_breaks 13 = .ok (.astore 4, 2) := by decide +kernel
theorem dL_breaks_15 : decode cL_breaks 15 = .ok (.iconst 1, 1) := by decide +kernel
theorem dL_breaks_16 : decode cL_breaks 16 = .ok (.ireturn, 1) := by decide +kernel
theorem dL_breaks_17 : decode cL_breaks 17 = .ok (.astore 4, 2) := by decide +kernel
theorem dL_breaks_19 : decode cL_breaks 19 = .ok (.iconst 2, 1) := by decide +kernel
theorem dL_breaks_20 : decode cL_breaks 20 = .ok (.ireturn, 1) := by decide +kernel
theorem dL_breaks_21 : decode cL_breaks 21 = .ok (.iconst 0, 1) := by decide +kernel
theorem dL_breaks_22 : decode cL_breaks 22 = .ok (.ireturn, 1) := by decide +kernel
theorem dL_ready_0 : decode cL_ready 0 = .ok (.aload_n 2, 1) := by decide +kernel
theorem dL_ready_1 : decode cL_ready 1 = .ok (.iconst 0, 1) := by decide +kernel
theorem dL_ready_2 : decode cL_ready 2 = .ok (.aload_n 0, 1) := by decide +kernel
theorem dL_ready_3 : decode cL_ready 3 = .ok (.iload_n 1, 1) := by decide +kernel
theorem dL_ready_4 : decode cL_ready 4 = .ok (.invokevirtual 73, 3) := by decide +kernel
theorem dL_ready_7 : decode cL_ready 7 = .ok (.i2l, 1) := by decide +kernel
theorem dL_ready_8 : decode cL_ready 8 = .ok (.lastore, 1) := by decide +kernel
theorem dL_ready_9 : decode cL_ready 9 = .ok (.goto 6, 3) := by decide +kernel
theorem dL_ready_12 : decode cL_ready 12 = .ok (.astore_n 3, 1) := by decide +kernel
theorem dL_ready_13 : decode cL_ready 13 = .ok (.iconst 1, 1) := by decide +kernel
theorem dL_ready_14 : decode cL_ready 14 = .ok (.ireturn, 1) := by decide +kernel
theorem dL_ready_15 : decode cL_ready 15 = .ok (.iconst 0, 1) := by decide +kernel
theorem dL_ready_16 : decode cL_ready 16 = .ok (.ireturn, 1) := by decide +kernel
theorem dL_foresee_0 : decode cL_foresee 0 = .ok (.aload_n 3, 1) := by decide +kernel
theorem dL_foresee_1 : decode cL_foresee 1 = .ok (.iconst 0, 1) := by decide +kernel
theorem dL_foresee_2 : decode cL_foresee 2 = .ok (.aload_n 0, 1) := by decide +kernel
theorem dL_foresee_3 : decode cL_foresee 3 = .ok (.iload_n 1, 1) := by decide +kernel
theorem dL_foresee_4 : decode cL_foresee 4 = .ok (.iload_n 2, 1) := by decide +kernel
theorem dL_foresee_5 : decode cL_foresee 5 = .ok (.invokevirtual 76, 3) := by decide +kernel
theorem dL_foresee_8 : decode cL_foresee 8 = .ok (.i2l, 1) := by decide +kernel
theorem dL_foresee_9 : decode cL_foresee 9 = .ok (.lastore, 1) := by decide +kernel
theorem dL_foresee_10 : decode cL_foresee 10 = .ok (.goto 11, 3) := by decide +kernel
theorem dL_foresee_13 : decode cL_foresee 13 = .ok (.astore 4, 2) := by decide +kernel
theorem dL_foresee_15 : decode cL_foresee 15 = .ok (.iconst 1, 1) := by decide +kernel
theorem dL_foresee_16 : decode cL_foresee 16 = .ok (.ireturn, 1) := by decide +kernel
theorem dL_foresee_17 : decode cL_foresee 17 = .ok (.astore 4, 2) := by decide +kernel
theorem dL_foresee_19 : decode cL_foresee 19 = .ok (.iconst 2, 1) := by decide +kernel
theorem dL_foresee_20 : decode cL_foresee 20 = .ok (.ireturn, 1) := by decide +kernel
theorem dL_foresee_21 : decode cL_foresee 21 = .ok (.iconst 0, 1) := by decide +kernel
theorem dL_foresee_22 : decode cL_foresee 22 = .ok (.ireturn, 1) := by decide +kernel
