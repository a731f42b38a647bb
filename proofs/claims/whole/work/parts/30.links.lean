/-! methods, fields, links: by program out of the tables -/
abbrev mX0_init : MD := (yX0_init, cX0_init, 4, (none : Option FieldType), [])
theorem K_X0_init : MOk mX0_init 3 := ⟨wsAll_of 62 (by decide +kernel) rfl, (wsAll_of 33 (by decide +kernel) rfl), by decide +kernel, by decide +kernel, by decide +kernel, by decide⟩
abbrev mX0_copyFrom : MD := (yX0_copyFrom, cX0_copyFrom, 2, (none : Option FieldType), [])
theorem K_X0_copyFrom : MOk mX0_copyFrom 1 := ⟨wsAll_of 627 (by decide +kernel) rfl, (wsAll_of 33 (by decide +kernel) rfl), by decide +kernel, by decide +kernel, by decide +kernel, by decide⟩
abbrev mX0_size : MD := (yX0_size, cX0_size, 1, (some FieldType.int), [])
theorem K_X0_size : MOk mX0_size 0 := ⟨wsAll_of 188 (by decide +kernel) rfl, (wsAll_of 33 (by decide +kernel) rfl), by decide +kernel, by decide +kernel, by decide +kernel, by decide⟩
abbrev mX0_isFull : MD := (yX0_isFull, cX0_isFull, 1, (some FieldType.boolean), [])
theorem K_X0_isFull : MOk mX0_isFull 0 := ⟨wsAll_of 331 (by decide +kernel) rfl, (wsAll_of 33 (by decide +kernel) rfl), by decide +kernel, by decide +kernel, by decide +kernel, by decide⟩
abbrev mX0_width : MD := (yX0_width, cX0_width, 1, (some FieldType.int), [])
theorem K_X0_width : MOk mX0_width 0 := ⟨wsAll_of 241 (by decide +kernel) rfl, (wsAll_of 33 (by decide +kernel) rfl), by decide +kernel, by decide +kernel, by decide +kernel, by decide⟩
abbrev mX0_hasRow : MD := (yX0_hasRow, cX0_hasRow, 2, (some FieldType.boolean), [])
theorem K_X0_hasRow : MOk mX0_hasRow 1 := ⟨wsAll_of 375 (by decide +kernel) rfl, (wsAll_of 33 (by decide +kernel) rfl), by decide +kernel, by decide +kernel, by decide +kernel, by decide⟩
abbrev mX0_hasColumn : MD := (yX0_hasColumn, cX0_hasColumn, 2, (some FieldType.boolean), [])
theorem K_X0_hasColumn : MOk mX0_hasColumn 1 := ⟨wsAll_of 517 (by decide +kernel) rfl, (wsAll_of 33 (by decide +kernel) rfl), by decide +kernel, by decide +kernel, by decide +kernel, by decide⟩
abbrev mX0_at : MD := (yX0_at, cX0_at, 4, (some FieldType.int), [])
theorem K_X0_at : MOk mX0_at 2 := ⟨wsAll_of 157 (by decide +kernel) rfl, (wsAll_of 33 (by decide +kernel) rfl), by decide +kernel, by decide +kernel, by decide +kernel, by decide⟩
abbrev mX0_put : MD := (yX0_put, cX0_put, 5, (none : Option FieldType), [])
theorem K_X0_put : MOk mX0_put 3 := ⟨wsAll_of 363 (by decide +kernel) rfl, (wsAll_of 33 (by decide +kernel) rfl), by decide +kernel, by decide +kernel, by decide +kernel, by decide⟩
abbrev mX0_addRow : MD := (yX0_addRow, cX0_addRow, 1, (some FieldType.int), [])
theorem K_X0_addRow : MOk mX0_addRow 0 := ⟨wsAll_of 358 (by decide +kernel) rfl, (wsAll_of 33 (by decide +kernel) rfl), by decide +kernel, by decide +kernel, by decide +kernel, by decide⟩
abbrev mX0_removeRow : MD := (yX0_removeRow, cX0_removeRow, 4, (none : Option FieldType), [])
theorem K_X0_removeRow : MOk mX0_removeRow 1 := ⟨wsAll_of 464 (by decide +kernel) rfl, (wsAll_of 33 (by decide +kernel) rfl), by decide +kernel, by decide +kernel, by decide +kernel, by decide⟩
abbrev mX0_sum : MD := (yX0_sum, cX0_sum, 4, (some FieldType.int), [])
theorem K_X0_sum : MOk mX0_sum 1 := ⟨wsAll_of 153 (by decide +kernel) rfl, (wsAll_of 33 (by decide +kernel) rfl), by decide +kernel, by decide +kernel, by decide +kernel, by decide⟩
abbrev mX1_init : MD := (yX1_init, cX1_init, 2, (none : Option FieldType), [])
theorem K_X1_init : MOk mX1_init 0 := ⟨wsAll_of 56 (by decide +kernel) rfl, (wsAll_of 32 (by decide +kernel) rfl), by decide +kernel, by decide +kernel, by decide +kernel, by decide⟩
abbrev mX1_copyFrom : MD := (yX1_copyFrom, cX1_copyFrom, 2, (none : Option FieldType), [])
theorem K_X1_copyFrom : MOk mX1_copyFrom 1 := ⟨wsAll_of 623 (by decide +kernel) rfl, (wsAll_of 32 (by decide +kernel) rfl), by decide +kernel, by decide +kernel, by decide +kernel, by decide⟩
abbrev mX1_addMould : MD := (yX1_addMould, cX1_addMould, 4, (some FieldType.int), [])
theorem K_X1_addMould : MOk mX1_addMould 2 := ⟨wsAll_of 354 (by decide +kernel) rfl, (wsAll_of 32 (by decide +kernel) rfl), by decide +kernel, by decide +kernel, by decide +kernel, by decide⟩
abbrev mX1_addMaker : MD := (yX1_addMaker, cX1_addMaker, 3, (some FieldType.int), [])
theorem K_X1_addMaker : MOk mX1_addMaker 1 := ⟨wsAll_of 411 (by decide +kernel) rfl, (wsAll_of 32 (by decide +kernel) rfl), by decide +kernel, by decide +kernel, by decide +kernel, by decide⟩
abbrev mX1_addOrder : MD := (yX1_addOrder, cX1_addOrder, 6, (some FieldType.int), [])
theorem K_X1_addOrder : MOk mX1_addOrder 4 := ⟨wsAll_of 495 (by decide +kernel) rfl, (wsAll_of 32 (by decide +kernel) rfl), by decide +kernel, by decide +kernel, by decide +kernel, by decide⟩
abbrev mX1_pay : MD := (yX1_pay, cX1_pay, 2, (none : Option FieldType), [])
theorem K_X1_pay : MOk mX1_pay 1 := ⟨wsAll_of 399 (by decide +kernel) rfl, (wsAll_of 32 (by decide +kernel) rfl), by decide +kernel, by decide +kernel, by decide +kernel, by decide⟩
abbrev mX1_addClay : MD := (yX1_addClay, cX1_addClay, 2, (some FieldType.int), [])
theorem K_X1_addClay : MOk mX1_addClay 1 := ⟨wsAll_of 433 (by decide +kernel) rfl, (wsAll_of 32 (by decide +kernel) rfl), by decide +kernel, by decide +kernel, by decide +kernel, by decide⟩
abbrev mX1_addCoals : MD := (yX1_addCoals, cX1_addCoals, 2, (some FieldType.int), [])
theorem K_X1_addCoals : MOk mX1_addCoals 1 := ⟨wsAll_of 437 (by decide +kernel) rfl, (wsAll_of 32 (by decide +kernel) rfl), by decide +kernel, by decide +kernel, by decide +kernel, by decide⟩
abbrev mX1_driesBy : MD := (yX1_driesBy, cX1_driesBy, 2, (some FieldType.int), [])
theorem K_X1_driesBy : MOk mX1_driesBy 1 := ⟨wsAll_of 214 (by decide +kernel) rfl, (wsAll_of 32 (by decide +kernel) rfl), by decide +kernel, by decide +kernel, by decide +kernel, by decide⟩
abbrev mX1_setDrying : MD := (yX1_setDrying, cX1_setDrying, 3, (none : Option FieldType), [])
theorem K_X1_setDrying : MOk mX1_setDrying 2 := ⟨wsAll_of 449 (by decide +kernel) rfl, (wsAll_of 32 (by decide +kernel) rfl), by decide +kernel, by decide +kernel, by decide +kernel, by decide⟩
abbrev mX1_wholeOf : MD := (yX1_wholeOf, cX1_wholeOf, 2, (some FieldType.int), [])
theorem K_X1_wholeOf : MOk mX1_wholeOf 1 := ⟨wsAll_of 210 (by decide +kernel) rfl, (wsAll_of 32 (by decide +kernel) rfl), by decide +kernel, by decide +kernel, by decide +kernel, by decide⟩
abbrev mX1_addWhole : MD := (yX1_addWhole, cX1_addWhole, 3, (none : Option FieldType), [])
theorem K_X1_addWhole : MOk mX1_addWhole 2 := ⟨wsAll_of 484 (by decide +kernel) rfl, (wsAll_of 32 (by decide +kernel) rfl), by decide +kernel, by decide +kernel, by decide +kernel, by decide⟩
abbrev mX1_wholeInAll : MD := (yX1_wholeInAll, cX1_wholeInAll, 3, (some FieldType.int), [])
theorem K_X1_wholeInAll : MOk mX1_wholeInAll 0 := ⟨wsAll_of 206 (by decide +kernel) rfl, (wsAll_of 32 (by decide +kernel) rfl), by decide +kernel, by decide +kernel, by decide +kernel, by decide⟩
abbrev mX1_flawOf : MD := (yX1_flawOf, cX1_flawOf, 2, (some FieldType.int), [])
theorem K_X1_flawOf : MOk mX1_flawOf 1 := ⟨wsAll_of 226 (by decide +kernel) rfl, (wsAll_of 32 (by decide +kernel) rfl), by decide +kernel, by decide +kernel, by decide +kernel, by decide⟩
abbrev mX1_clayOf : MD := (yX1_clayOf, cX1_clayOf, 2, (some FieldType.int), [])
theorem K_X1_clayOf : MOk mX1_clayOf 1 := ⟨wsAll_of 230 (by decide +kernel) rfl, (wsAll_of 32 (by decide +kernel) rfl), by decide +kernel, by decide +kernel, by decide +kernel, by decide⟩
abbrev mX1_makerAt : MD := (yX1_makerAt, cX1_makerAt, 3, (some FieldType.int), [])
theorem K_X1_makerAt : MOk mX1_makerAt 1 := ⟨wsAll_of 234 (by decide +kernel) rfl, (wsAll_of 32 (by decide +kernel) rfl), by decide +kernel, by decide +kernel, by decide +kernel, by decide⟩
abbrev mX1_isAnotherAt : MD := (yX1_isAnotherAt, cX1_isAnotherAt, 4, (some FieldType.boolean), [])
theorem K_X1_isAnotherAt : MOk mX1_isAnotherAt 2 := ⟨wsAll_of 422 (by decide +kernel) rfl, (wsAll_of 32 (by decide +kernel) rfl), by decide +kernel, by decide +kernel, by decide +kernel, by decide⟩
abbrev mX1_aboutMould : MD := (yX1_aboutMould, cX1_aboutMould, 3, (some FieldType.int), [])
theorem K_X1_aboutMould : MOk mX1_aboutMould 2 := ⟨wsAll_of 222 (by decide +kernel) rfl, (wsAll_of 32 (by decide +kernel) rfl), by decide +kernel, by decide +kernel, by decide +kernel, by decide⟩
abbrev mX1_counted : MD := (yX1_counted, cX1_counted, 2, (some FieldType.int), [])
theorem K_X1_counted : MOk mX1_counted 1 := ⟨wsAll_of 202 (by decide +kernel) rfl, (wsAll_of 32 (by decide +kernel) rfl), by decide +kernel, by decide +kernel, by decide +kernel, by decide⟩
abbrev mX1_packPipes : MD := (yX1_packPipes, cX1_packPipes, 6, (some FieldType.int), [])
theorem K_X1_packPipes : MOk mX1_packPipes 3 := ⟨wsAll_of 460 (by decide +kernel) rfl, (wsAll_of 32 (by decide +kernel) rfl), by decide +kernel, by decide +kernel, by decide +kernel, by decide⟩
abbrev mX1_areSaggarsEmpty : MD := (yX1_areSaggarsEmpty, cX1_areSaggarsEmpty, 1, (some FieldType.boolean), [])
theorem K_X1_areSaggarsEmpty : MOk mX1_areSaggarsEmpty 0 := ⟨wsAll_of 149 (by decide +kernel) rfl, (wsAll_of 32 (by decide +kernel) rfl), by decide +kernel, by decide +kernel, by decide +kernel, by decide⟩
abbrev mX1_stemsThatBreak : MD := (yX1_stemsThatBreak, cX1_stemsThatBreak, 7, (some FieldType.int), [])
theorem K_X1_stemsThatBreak : MOk mX1_stemsThatBreak 2 := ⟨wsAll_of 169 (by decide +kernel) rfl, (wsAll_of 32 (by decide +kernel) rfl), by decide +kernel, by decide +kernel, by decide +kernel, by decide⟩
abbrev mX1_stemsThatBreakInAll : MD := (yX1_stemsThatBreakInAll, cX1_stemsThatBreakInAll, 4, (some FieldType.int), [])
theorem K_X1_stemsThatBreakInAll : MOk mX1_stemsThatBreakInAll 1 := ⟨wsAll_of 165 (by decide +kernel) rfl, (wsAll_of 32 (by decide +kernel) rfl), by decide +kernel, by decide +kernel, by decide +kernel, by decide⟩
abbrev mX1_bestCoals : MD := (yX1_bestCoals, cX1_bestCoals, 5, (some FieldType.int), [])
theorem K_X1_bestCoals : MOk mX1_bestCoals 0 := ⟨wsAll_of 161 (by decide +kernel) rfl, (wsAll_of 32 (by decide +kernel) rfl), by decide +kernel, by decide +kernel, by decide +kernel, by decide⟩
abbrev mX1_fireKiln : MD := (yX1_fireKiln, cX1_fireKiln, 4, (some FieldType.int), [])
theorem K_X1_fireKiln : MOk mX1_fireKiln 1 := ⟨wsAll_of 476 (by decide +kernel) rfl, (wsAll_of 32 (by decide +kernel) rfl), by decide +kernel, by decide +kernel, by decide +kernel, by decide⟩
abbrev mX1_unloadFired : MD := (yX1_unloadFired, cX1_unloadFired, 6, (some FieldType.int), [])
theorem K_X1_unloadFired : MOk mX1_unloadFired 2 := ⟨wsAll_of 480 (by decide +kernel) rfl, (wsAll_of 32 (by decide +kernel) rfl), by decide +kernel, by decide +kernel, by decide +kernel, by decide⟩
abbrev mX1_passDays : MD := (yX1_passDays, cX1_passDays, 3, (none : Option FieldType), [])
theorem K_X1_passDays : MOk mX1_passDays 1 := ⟨wsAll_of 565 (by decide +kernel) rfl, (wsAll_of 32 (by decide +kernel) rfl), by decide +kernel, by decide +kernel, by decide +kernel, by decide⟩
abbrev mX1_passDay : MD := (yX1_passDay, cX1_passDay, 2, (none : Option FieldType), [])
theorem K_X1_passDay : MOk mX1_passDay 0 := ⟨wsAll_of 569 (by decide +kernel) rfl, (wsAll_of 32 (by decide +kernel) rfl), by decide +kernel, by decide +kernel, by decide +kernel, by decide⟩
abbrev mX1_letWork : MD := (yX1_letWork, cX1_letWork, 5, (none : Option FieldType), [])
theorem K_X1_letWork : MOk mX1_letWork 1 := ⟨wsAll_of 573 (by decide +kernel) rfl, (wsAll_of 32 (by decide +kernel) rfl), by decide +kernel, by decide +kernel, by decide +kernel, by decide⟩
abbrev mX1_layOnBoards : MD := (yX1_layOnBoards, cX1_layOnBoards, 4, (none : Option FieldType), [])
theorem K_X1_layOnBoards : MOk mX1_layOnBoards 2 := ⟨wsAll_of 582 (by decide +kernel) rfl, (wsAll_of 32 (by decide +kernel) rfl), by decide +kernel, by decide +kernel, by decide +kernel, by decide⟩
abbrev mX1_wearMould : MD := (yX1_wearMould, cX1_wearMould, 5, (none : Option FieldType), [])
theorem K_X1_wearMould : MOk mX1_wearMould 2 := ⟨wsAll_of 586 (by decide +kernel) rfl, (wsAll_of 32 (by decide +kernel) rfl), by decide +kernel, by decide +kernel, by decide +kernel, by decide⟩
abbrev mX1_dry : MD := (yX1_dry, cX1_dry, 3, (none : Option FieldType), [])
theorem K_X1_dry : MOk mX1_dry 2 := ⟨wsAll_of 592 (by decide +kernel) rfl, (wsAll_of 32 (by decide +kernel) rfl), by decide +kernel, by decide +kernel, by decide +kernel, by decide⟩
abbrev mX1_lookAtOrders : MD := (yX1_lookAtOrders, cX1_lookAtOrders, 4, (none : Option FieldType), [])
theorem K_X1_lookAtOrders : MOk mX1_lookAtOrders 0 := ⟨wsAll_of 596 (by decide +kernel) rfl, (wsAll_of 32 (by decide +kernel) rfl), by decide +kernel, by decide +kernel, by decide +kernel, by decide⟩
abbrev mX1_lookAtOrder : MD := (yX1_lookAtOrder, cX1_lookAtOrder, 5, (some FieldType.boolean), [])
theorem K_X1_lookAtOrder : MOk mX1_lookAtOrder 1 := ⟨wsAll_of 600 (by decide +kernel) rfl, (wsAll_of 32 (by decide +kernel) rfl), by decide +kernel, by decide +kernel, by decide +kernel, by decide⟩
abbrev mX1_dismiss : MD := (yX1_dismiss, cX1_dismiss, 3, (none : Option FieldType), [])
theorem K_X1_dismiss : MOk mX1_dismiss 2 := ⟨wsAll_of 604 (by decide +kernel) rfl, (wsAll_of 32 (by decide +kernel) rfl), by decide +kernel, by decide +kernel, by decide +kernel, by decide⟩
abbrev mX1_daysTillServed : MD := (yX1_daysTillServed, cX1_daysTillServed, 3, (some FieldType.int), [])
theorem K_X1_daysTillServed : MOk mX1_daysTillServed 1 := ⟨wsAll_of 635 (by decide +kernel) rfl, (wsAll_of 32 (by decide +kernel) rfl), by decide +kernel, by decide +kernel, by decide +kernel, by decide⟩
abbrev mX1_meanFlaw : MD := (yX1_meanFlaw, cX1_meanFlaw, 4, (some FieldType.double), [])
theorem K_X1_meanFlaw : MOk mX1_meanFlaw 0 := ⟨wsAll_of 184 (by decide +kernel) rfl, (wsAll_of 32 (by decide +kernel) rfl), by decide +kernel, by decide +kernel, by decide +kernel, by decide⟩
abbrev mX1_checksum : MD := (yX1_checksum, cX1_checksum, 4, (some FieldType.long), [])
theorem K_X1_checksum : MOk mX1_checksum 0 := ⟨wsAll_of 196 (by decide +kernel) rfl, (wsAll_of 32 (by decide +kernel) rfl), by decide +kernel, by decide +kernel, by decide +kernel, by decide⟩
abbrev mX1_withMoulds : MD := (yX1_withMoulds, cX1_withMoulds, 7, (some FieldType.long), [])
theorem K_X1_withMoulds : MOk mX1_withMoulds 1 := ⟨wsAll_of 218 (by decide +kernel) rfl, (wsAll_of 32 (by decide +kernel) rfl), by decide +kernel, by decide +kernel, by decide +kernel, by decide⟩
abbrev mX1_withTable : MD := (yX1_withTable, cX1_withTable, 7, (some FieldType.long), [])
theorem K_X1_withTable : MOk mX1_withTable 2 := ⟨wsAll_of 237 (by decide +kernel) rfl, (wsAll_of 32 (by decide +kernel) rfl), by decide +kernel, by decide +kernel, by decide +kernel, by decide⟩
abbrev mX2_init : MD := (yX2_init, cX2_init, 1, (none : Option FieldType), [])
theorem K_X2_init : MOk mX2_init 0 := ⟨wsAll_of 48 (by decide +kernel) rfl, (wsAll_of 31 (by decide +kernel) rfl), by decide +kernel, by decide +kernel, by decide +kernel, by decide⟩
abbrev mX2_mould : MD := (yX2_mould, cX2_mould, 3, (some FieldType.int), [])
theorem K_X2_mould : MOk mX2_mould 2 := ⟨wsAll_of 250 (by decide +kernel) rfl, (wsAll_of 31 (by decide +kernel) rfl), by decide +kernel, by decide +kernel, by decide +kernel, by decide⟩
abbrev mX2_refit : MD := (yX2_refit, cX2_refit, 3, (some FieldType.int), [])
theorem K_X2_refit : MOk mX2_refit 1 := ⟨wsAll_of 371 (by decide +kernel) rfl, (wsAll_of 31 (by decide +kernel) rfl), by decide +kernel, by decide +kernel, by decide +kernel, by decide⟩
abbrev mX2_maker : MD := (yX2_maker, cX2_maker, 2, (some FieldType.int), [])
theorem K_X2_maker : MOk mX2_maker 1 := ⟨wsAll_of 407 (by decide +kernel) rfl, (wsAll_of 31 (by decide +kernel) rfl), by decide +kernel, by decide +kernel, by decide +kernel, by decide⟩
abbrev mX2_place : MD := (yX2_place, cX2_place, 4, (some FieldType.int), [])
theorem K_X2_place : MOk mX2_place 2 := ⟨wsAll_of 418 (by decide +kernel) rfl, (wsAll_of 31 (by decide +kernel) rfl), by decide +kernel, by decide +kernel, by decide +kernel, by decide⟩
abbrev mX2_buy : MD := (yX2_buy, cX2_buy, 4, (some FieldType.int), [])
theorem K_X2_buy : MOk mX2_buy 2 := ⟨wsAll_of 429 (by decide +kernel) rfl, (wsAll_of 31 (by decide +kernel) rfl), by decide +kernel, by decide +kernel, by decide +kernel, by decide⟩
abbrev mX2_setDry : MD := (yX2_setDry, cX2_setDry, 4, (some FieldType.int), [])
theorem K_X2_setDry : MOk mX2_setDry 2 := ⟨wsAll_of 444 (by decide +kernel) rfl, (wsAll_of 31 (by decide +kernel) rfl), by decide +kernel, by decide +kernel, by decide +kernel, by decide⟩
abbrev mX2_pack : MD := (yX2_pack, cX2_pack, 4, (some FieldType.int), [])
theorem K_X2_pack : MOk mX2_pack 3 := ⟨wsAll_of 456 (by decide +kernel) rfl, (wsAll_of 31 (by decide +kernel) rfl), by decide +kernel, by decide +kernel, by decide +kernel, by decide⟩
abbrev mX2_fire : MD := (yX2_fire, cX2_fire, 2, (some FieldType.int), [])
theorem K_X2_fire : MOk mX2_fire 1 := ⟨wsAll_of 472 (by decide +kernel) rfl, (wsAll_of 31 (by decide +kernel) rfl), by decide +kernel, by decide +kernel, by decide +kernel, by decide⟩
abbrev mX2_order : MD := (yX2_order, cX2_order, 5, (some FieldType.int), [])
theorem K_X2_order : MOk mX2_order 4 := ⟨wsAll_of 491 (by decide +kernel) rfl, (wsAll_of 31 (by decide +kernel) rfl), by decide +kernel, by decide +kernel, by decide +kernel, by decide⟩
abbrev mX2_about : MD := (yX2_about, cX2_about, 3, (some FieldType.int), [])
theorem K_X2_about : MOk mX2_about 2 := ⟨wsAll_of 502 (by decide +kernel) rfl, (wsAll_of 31 (by decide +kernel) rfl), by decide +kernel, by decide +kernel, by decide +kernel, by decide⟩
abbrev mX2_told : MD := (yX2_told, cX2_told, 3, (some FieldType.int), [])
theorem K_X2_told : MOk mX2_told 2 := ⟨wsAll_of 510 (by decide +kernel) rfl, (wsAll_of 31 (by decide +kernel) rfl), by decide +kernel, by decide +kernel, by decide +kernel, by decide⟩
abbrev mX2_batch : MD := (yX2_batch, cX2_batch, 3, (some FieldType.int), [])
theorem K_X2_batch : MOk mX2_batch 2 := ⟨wsAll_of 524 (by decide +kernel) rfl, (wsAll_of 31 (by decide +kernel) rfl), by decide +kernel, by decide +kernel, by decide +kernel, by decide⟩
abbrev mX2_saggar : MD := (yX2_saggar, cX2_saggar, 3, (some FieldType.int), [])
theorem K_X2_saggar : MOk mX2_saggar 2 := ⟨wsAll_of 531 (by decide +kernel) rfl, (wsAll_of 31 (by decide +kernel) rfl), by decide +kernel, by decide +kernel, by decide +kernel, by decide⟩
abbrev mX2_store : MD := (yX2_store, cX2_store, 2, (some FieldType.int), [])
theorem K_X2_store : MOk mX2_store 1 := ⟨wsAll_of 538 (by decide +kernel) rfl, (wsAll_of 31 (by decide +kernel) rfl), by decide +kernel, by decide +kernel, by decide +kernel, by decide⟩
abbrev mX2_waits : MD := (yX2_waits, cX2_waits, 3, (some FieldType.int), [])
theorem K_X2_waits : MOk mX2_waits 2 := ⟨wsAll_of 546 (by decide +kernel) rfl, (wsAll_of 31 (by decide +kernel) rfl), by decide +kernel, by decide +kernel, by decide +kernel, by decide⟩
abbrev mX2_count : MD := (yX2_count, cX2_count, 2, (some FieldType.int), [])
theorem K_X2_count : MOk mX2_count 1 := ⟨wsAll_of 553 (by decide +kernel) rfl, (wsAll_of 31 (by decide +kernel) rfl), by decide +kernel, by decide +kernel, by decide +kernel, by decide⟩
abbrev mX2_pass : MD := (yX2_pass, cX2_pass, 3, (some FieldType.int), [])
theorem K_X2_pass : MOk mX2_pass 1 := ⟨wsAll_of 561 (by decide +kernel) rfl, (wsAll_of 31 (by decide +kernel) rfl), by decide +kernel, by decide +kernel, by decide +kernel, by decide⟩
abbrev mX2_breaks : MD := (yX2_breaks, cX2_breaks, 3, (some FieldType.int), [])
theorem K_X2_breaks : MOk mX2_breaks 2 := ⟨wsAll_of 611 (by decide +kernel) rfl, (wsAll_of 31 (by decide +kernel) rfl), by decide +kernel, by decide +kernel, by decide +kernel, by decide⟩
abbrev mX2_advise : MD := (yX2_advise, cX2_advise, 1, (some FieldType.int), [])
theorem K_X2_advise : MOk mX2_advise 0 := ⟨wsAll_of 145 (by decide +kernel) rfl, (wsAll_of 31 (by decide +kernel) rfl), by decide +kernel, by decide +kernel, by decide +kernel, by decide⟩
abbrev mX2_ready : MD := (yX2_ready, cX2_ready, 2, (some FieldType.int), [])
theorem K_X2_ready : MOk mX2_ready 1 := ⟨wsAll_of 619 (by decide +kernel) rfl, (wsAll_of 31 (by decide +kernel) rfl), by decide +kernel, by decide +kernel, by decide +kernel, by decide⟩
abbrev mX2_foresee : MD := (yX2_foresee, cX2_foresee, 3, (some FieldType.int), [])
theorem K_X2_foresee : MOk mX2_foresee 2 := ⟨wsAll_of 642 (by decide +kernel) rfl, (wsAll_of 31 (by decide +kernel) rfl), by decide +kernel, by decide +kernel, by decide +kernel, by decide⟩
abbrev mX2_mean : MD := (yX2_mean, cX2_mean, 1, (some FieldType.double), [])
theorem K_X2_mean : MOk mX2_mean 0 := ⟨wsAll_of 180 (by decide +kernel) rfl, (wsAll_of 31 (by decide +kernel) rfl), by decide +kernel, by decide +kernel, by decide +kernel, by decide⟩
abbrev mX2_digest : MD := (yX2_digest, cX2_digest, 1, (some FieldType.long), [])
theorem K_X2_digest : MOk mX2_digest 0 := ⟨wsAll_of 192 (by decide +kernel) rfl, (wsAll_of 31 (by decide +kernel) rfl), by decide +kernel, by decide +kernel, by decide +kernel, by decide⟩
abbrev mX2_isWithin : MD := (yX2_isWithin, cX2_isWithin, 3, (some FieldType.boolean), [])
theorem K_X2_isWithin : MOk mX2_isWithin 3 := ⟨wsAll_of 256 (by decide +kernel) rfl, (wsAll_of 31 (by decide +kernel) rfl), by decide +kernel, by decide +kernel, by decide +kernel, by decide⟩
abbrev mX2_isLength : MD := (yX2_isLength, cX2_isLength, 1, (some FieldType.boolean), [])
theorem K_X2_isLength : MOk mX2_isLength 1 := ⟨wsAll_of 253 (by decide +kernel) rfl, (wsAll_of 31 (by decide +kernel) rfl), by decide +kernel, by decide +kernel, by decide +kernel, by decide⟩
abbrev mX2_cellOf : MD := (yX2_cellOf, cX2_cellOf, 3, (some FieldType.int), [])
theorem K_X2_cellOf : MOk mX2_cellOf 3 := ⟨wsAll_of 513 (by decide +kernel) rfl, (wsAll_of 31 (by decide +kernel) rfl), by decide +kernel, by decide +kernel, by decide +kernel, by decide⟩
abbrev mX2_requireIndex : MD := (yX2_requireIndex, cX2_requireIndex, 1, (none : Option FieldType), [])
theorem K_X2_requireIndex : MOk mX2_requireIndex 1 := ⟨wsAll_of 378 (by decide +kernel) rfl, (wsAll_of 31 (by decide +kernel) rfl), by decide +kernel, by decide +kernel, by decide +kernel, by decide⟩
abbrev mX2_requireArgument : MD := (yX2_requireArgument, cX2_requireArgument, 1, (none : Option FieldType), [])
theorem K_X2_requireArgument : MOk mX2_requireArgument 1 := ⟨wsAll_of 259 (by decide +kernel) rfl, (wsAll_of 31 (by decide +kernel) rfl), by decide +kernel, by decide +kernel, by decide +kernel, by decide⟩
abbrev mX2_requireState : MD := (yX2_requireState, cX2_requireState, 1, (none : Option FieldType), [])
theorem K_X2_requireState : MOk mX2_requireState 1 := ⟨wsAll_of 334 (by decide +kernel) rfl, (wsAll_of 31 (by decide +kernel) rfl), by decide +kernel, by decide +kernel, by decide +kernel, by decide⟩
abbrev mX3_init : MD := (yX3_init, cX3_init, 2, (none : Option FieldType), [])
theorem K_X3_init : MOk mX3_init 1 := ⟨wsAll_of 653 (by decide +kernel) rfl, (wsAll_of 35 (by decide +kernel) rfl), by decide +kernel, by decide +kernel, by decide +kernel, by decide⟩
abbrev mX3_become : MD := (yX3_become, cX3_become, 3, (some (FieldType.object "PipeMouldsModel$State")), [])
theorem K_X3_become : MOk mX3_become 1 := ⟨wsAll_of 953 (by decide +kernel) rfl, (wsAll_of 35 (by decide +kernel) rfl), by decide +kernel, by decide +kernel, by decide +kernel, by decide⟩
abbrev mX3_flaw : MD := (yX3_flaw, cX3_flaw, 2, (some FieldType.int), [])
theorem K_X3_flaw : MOk mX3_flaw 1 := ⟨wsAll_of 868 (by decide +kernel) rfl, (wsAll_of 35 (by decide +kernel) rfl), by decide +kernel, by decide +kernel, by decide +kernel, by decide⟩
abbrev mX3_saggar : MD := (yX3_saggar, cX3_saggar, 2, (some (FieldType.array FieldType.int)), [])
theorem K_X3_saggar : MOk mX3_saggar 1 := ⟨wsAll_of 823 (by decide +kernel) rfl, (wsAll_of 35 (by decide +kernel) rfl), by decide +kernel, by decide +kernel, by decide +kernel, by decide⟩
abbrev mX3_put : MD := (yX3_put, cX3_put, 6, (none : Option FieldType), [])
theorem K_X3_put : MOk mX3_put 5 := ⟨wsAll_of 827 (by decide +kernel) rfl, (wsAll_of 35 (by decide +kernel) rfl), by decide +kernel, by decide +kernel, by decide +kernel, by decide⟩
abbrev mX3_make : MD := (yX3_make, cX3_make, 5, (none : Option FieldType), [])
theorem K_X3_make : MOk mX3_make 1 := ⟨wsAll_of 929 (by decide +kernel) rfl, (wsAll_of 35 (by decide +kernel) rfl), by decide +kernel, by decide +kernel, by decide +kernel, by decide⟩
abbrev mX3_serve : MD := (yX3_serve, cX3_serve, 5, (none : Option FieldType), [])
theorem K_X3_serve : MOk mX3_serve 0 := ⟨wsAll_of 936 (by decide +kernel) rfl, (wsAll_of 35 (by decide +kernel) rfl), by decide +kernel, by decide +kernel, by decide +kernel, by decide⟩
abbrev mX3_pass : MD := (yX3_pass, cX3_pass, 5, (none : Option FieldType), [])
theorem K_X3_pass : MOk mX3_pass 0 := ⟨wsAll_of 925 (by decide +kernel) rfl, (wsAll_of 35 (by decide +kernel) rfl), by decide +kernel, by decide +kernel, by decide +kernel, by decide⟩
abbrev mX3_pass_ : MD := (yX3_pass_, cX3_pass_, 3, (none : Option FieldType), [])
theorem K_X3_pass_ : MOk mX3_pass_ 1 := ⟨wsAll_of 921 (by decide +kernel) rfl, (wsAll_of 35 (by decide +kernel) rfl), by decide +kernel, by decide +kernel, by decide +kernel, by decide⟩
abbrev mX3_takeBatch : MD := (yX3_takeBatch, cX3_takeBatch, 3, (none : Option FieldType), [])
theorem K_X3_takeBatch : MOk mX3_takeBatch 1 := ⟨wsAll_of 831 (by decide +kernel) rfl, (wsAll_of 35 (by decide +kernel) rfl), by decide +kernel, by decide +kernel, by decide +kernel, by decide⟩
abbrev mX3_breaks : MD := (yX3_breaks, cX3_breaks, 6, (some FieldType.int), [])
theorem K_X3_breaks : MOk mX3_breaks 2 := ⟨wsAll_of 848 (by decide +kernel) rfl, (wsAll_of 35 (by decide +kernel) rfl), by decide +kernel, by decide +kernel, by decide +kernel, by decide⟩
abbrev mX3_pipes : MD := (yX3_pipes, cX3_pipes, 5, (some FieldType.int), [])
theorem K_X3_pipes : MOk mX3_pipes 2 := ⟨wsAll_of 844 (by decide +kernel) rfl, (wsAll_of 35 (by decide +kernel) rfl), by decide +kernel, by decide +kernel, by decide +kernel, by decide⟩
abbrev mX3_inSaggars : MD := (yX3_inSaggars, cX3_inSaggars, 1, (some FieldType.int), [])
theorem K_X3_inSaggars : MOk mX3_inSaggars 0 := ⟨wsAll_of 840 (by decide +kernel) rfl, (wsAll_of 35 (by decide +kernel) rfl), by decide +kernel, by decide +kernel, by decide +kernel, by decide⟩
abbrev mX3_stored : MD := (yX3_stored, cX3_stored, 6, (some FieldType.int), [])
theorem K_X3_stored : MOk mX3_stored 0 := ⟨wsAll_of 913 (by decide +kernel) rfl, (wsAll_of 35 (by decide +kernel) rfl), by decide +kernel, by decide +kernel, by decide +kernel, by decide⟩
abbrev mX3_counted : MD := (yX3_counted, cX3_counted, 3, (some FieldType.int), [])
theorem K_X3_counted : MOk mX3_counted 1 := ⟨wsAll_of 908 (by decide +kernel) rfl, (wsAll_of 35 (by decide +kernel) rfl), by decide +kernel, by decide +kernel, by decide +kernel, by decide⟩
abbrev mX4_init : MD := (yX4_init, cX4_init, 1, (none : Option FieldType), [])
theorem K_X4_init : MOk mX4_init 0 := ⟨wsAll_of 647 (by decide +kernel) rfl, (wsAll_of 34 (by decide +kernel) rfl), by decide +kernel, by decide +kernel, by decide +kernel, by decide⟩
abbrev mX4_thrown : MD := (yX4_thrown, cX4_thrown, 1, (some FieldType.int), [])
theorem K_X4_thrown : MOk mX4_thrown 0 := ⟨wsAll_of 762 (by decide +kernel) rfl, (wsAll_of 34 (by decide +kernel) rfl), by decide +kernel, by decide +kernel, by decide +kernel, by decide⟩
abbrev mX4_no : MD := (yX4_no, cX4_no, 2, (some FieldType.int), [])
theorem K_X4_no : MOk mX4_no 1 := ⟨wsAll_of 776 (by decide +kernel) rfl, (wsAll_of 34 (by decide +kernel) rfl), by decide +kernel, by decide +kernel, by decide +kernel, by decide⟩
abbrev mX4_isIn : MD := (yX4_isIn, cX4_isIn, 3, (some FieldType.boolean), [])
theorem K_X4_isIn : MOk mX4_isIn 3 := ⟨wsAll_of 772 (by decide +kernel) rfl, (wsAll_of 34 (by decide +kernel) rfl), by decide +kernel, by decide +kernel, by decide +kernel, by decide⟩
abbrev mX4_isLength : MD := (yX4_isLength, cX4_isLength, 1, (some FieldType.boolean), [])
theorem K_X4_isLength : MOk mX4_isLength 1 := ⟨wsAll_of 769 (by decide +kernel) rfl, (wsAll_of 34 (by decide +kernel) rfl), by decide +kernel, by decide +kernel, by decide +kernel, by decide⟩
abbrev mX4_isMould : MD := (yX4_isMould, cX4_isMould, 2, (some FieldType.boolean), [])
theorem K_X4_isMould : MOk mX4_isMould 1 := ⟨wsAll_of 784 (by decide +kernel) rfl, (wsAll_of 34 (by decide +kernel) rfl), by decide +kernel, by decide +kernel, by decide +kernel, by decide⟩
abbrev mX4_isMaker : MD := (yX4_isMaker, cX4_isMaker, 2, (some FieldType.boolean), [])
theorem K_X4_isMaker : MOk mX4_isMaker 1 := ⟨wsAll_of 796 (by decide +kernel) rfl, (wsAll_of 34 (by decide +kernel) rfl), by decide +kernel, by decide +kernel, by decide +kernel, by decide⟩
abbrev mX4_isBatch : MD := (yX4_isBatch, cX4_isBatch, 2, (some FieldType.boolean), [])
theorem K_X4_isBatch : MOk mX4_isBatch 1 := ⟨wsAll_of 816 (by decide +kernel) rfl, (wsAll_of 34 (by decide +kernel) rfl), by decide +kernel, by decide +kernel, by decide +kernel, by decide⟩
abbrev mX4_isSaggar : MD := (yX4_isSaggar, cX4_isSaggar, 1, (some FieldType.boolean), [])
theorem K_X4_isSaggar : MOk mX4_isSaggar 1 := ⟨wsAll_of 819 (by decide +kernel) rfl, (wsAll_of 34 (by decide +kernel) rfl), by decide +kernel, by decide +kernel, by decide +kernel, by decide⟩
abbrev mX4_clayOf : MD := (yX4_clayOf, cX4_clayOf, 2, (some FieldType.int), [])
theorem K_X4_clayOf : MOk mX4_clayOf 1 := ⟨wsAll_of 872 (by decide +kernel) rfl, (wsAll_of 34 (by decide +kernel) rfl), by decide +kernel, by decide +kernel, by decide +kernel, by decide⟩
abbrev mX4_mould : MD := (yX4_mould, cX4_mould, 3, (some FieldType.int), [])
theorem K_X4_mould : MOk mX4_mould 2 := ⟨wsAll_of 766 (by decide +kernel) rfl, (wsAll_of 34 (by decide +kernel) rfl), by decide +kernel, by decide +kernel, by decide +kernel, by decide⟩
abbrev mX4_refit : MD := (yX4_refit, cX4_refit, 3, (some FieldType.int), [])
theorem K_X4_refit : MOk mX4_refit 1 := ⟨wsAll_of 780 (by decide +kernel) rfl, (wsAll_of 34 (by decide +kernel) rfl), by decide +kernel, by decide +kernel, by decide +kernel, by decide⟩
abbrev mX4_maker : MD := (yX4_maker, cX4_maker, 2, (some FieldType.int), [])
theorem K_X4_maker : MOk mX4_maker 1 := ⟨wsAll_of 788 (by decide +kernel) rfl, (wsAll_of 34 (by decide +kernel) rfl), by decide +kernel, by decide +kernel, by decide +kernel, by decide⟩
abbrev mX4_makerAt : MD := (yX4_makerAt, cX4_makerAt, 3, (some FieldType.int), [])
theorem K_X4_makerAt : MOk mX4_makerAt 1 := ⟨wsAll_of 800 (by decide +kernel) rfl, (wsAll_of 34 (by decide +kernel) rfl), by decide +kernel, by decide +kernel, by decide +kernel, by decide⟩
abbrev mX4_place : MD := (yX4_place, cX4_place, 4, (some FieldType.int), [])
theorem K_X4_place : MOk mX4_place 2 := ⟨wsAll_of 792 (by decide +kernel) rfl, (wsAll_of 34 (by decide +kernel) rfl), by decide +kernel, by decide +kernel, by decide +kernel, by decide⟩
abbrev mX4_buy : MD := (yX4_buy, cX4_buy, 4, (some FieldType.int), [])
theorem K_X4_buy : MOk mX4_buy 2 := ⟨wsAll_of 804 (by decide +kernel) rfl, (wsAll_of 34 (by decide +kernel) rfl), by decide +kernel, by decide +kernel, by decide +kernel, by decide⟩
abbrev mX4_setDry : MD := (yX4_setDry, cX4_setDry, 4, (some FieldType.int), [])
theorem K_X4_setDry : MOk mX4_setDry 2 := ⟨wsAll_of 808 (by decide +kernel) rfl, (wsAll_of 34 (by decide +kernel) rfl), by decide +kernel, by decide +kernel, by decide +kernel, by decide⟩
abbrev mX4_pack : MD := (yX4_pack, cX4_pack, 6, (some FieldType.int), [])
theorem K_X4_pack : MOk mX4_pack 3 := ⟨wsAll_of 812 (by decide +kernel) rfl, (wsAll_of 34 (by decide +kernel) rfl), by decide +kernel, by decide +kernel, by decide +kernel, by decide⟩
abbrev mX4_fire : MD := (yX4_fire, cX4_fire, 6, (some FieldType.int), [])
theorem K_X4_fire : MOk mX4_fire 1 := ⟨wsAll_of 836 (by decide +kernel) rfl, (wsAll_of 34 (by decide +kernel) rfl), by decide +kernel, by decide +kernel, by decide +kernel, by decide⟩
abbrev mX4_order : MD := (yX4_order, cX4_order, 6, (some FieldType.int), [])
theorem K_X4_order : MOk mX4_order 4 := ⟨wsAll_of 855 (by decide +kernel) rfl, (wsAll_of 34 (by decide +kernel) rfl), by decide +kernel, by decide +kernel, by decide +kernel, by decide⟩
abbrev mX4_mouldTold : MD := (yX4_mouldTold, cX4_mouldTold, 4, (some FieldType.int), [])
theorem K_X4_mouldTold : MOk mX4_mouldTold 2 := ⟨wsAll_of 864 (by decide +kernel) rfl, (wsAll_of 34 (by decide +kernel) rfl), by decide +kernel, by decide +kernel, by decide +kernel, by decide⟩
abbrev mX4_about : MD := (yX4_about, cX4_about, 3, (some FieldType.int), [])
theorem K_X4_about : MOk mX4_about 2 := ⟨wsAll_of 860 (by decide +kernel) rfl, (wsAll_of 34 (by decide +kernel) rfl), by decide +kernel, by decide +kernel, by decide +kernel, by decide⟩
abbrev mX4_makerTold : MD := (yX4_makerTold, cX4_makerTold, 3, (some FieldType.int), [])
theorem K_X4_makerTold : MOk mX4_makerTold 2 := ⟨wsAll_of 880 (by decide +kernel) rfl, (wsAll_of 34 (by decide +kernel) rfl), by decide +kernel, by decide +kernel, by decide +kernel, by decide⟩
abbrev mX4_told : MD := (yX4_told, cX4_told, 3, (some FieldType.int), [])
theorem K_X4_told : MOk mX4_told 2 := ⟨wsAll_of 876 (by decide +kernel) rfl, (wsAll_of 34 (by decide +kernel) rfl), by decide +kernel, by decide +kernel, by decide +kernel, by decide⟩
abbrev mX4_batch : MD := (yX4_batch, cX4_batch, 3, (some FieldType.int), [])
theorem K_X4_batch : MOk mX4_batch 2 := ⟨wsAll_of 884 (by decide +kernel) rfl, (wsAll_of 34 (by decide +kernel) rfl), by decide +kernel, by decide +kernel, by decide +kernel, by decide⟩
abbrev mX4_saggar : MD := (yX4_saggar, cX4_saggar, 3, (some FieldType.int), [])
theorem K_X4_saggar : MOk mX4_saggar 2 := ⟨wsAll_of 888 (by decide +kernel) rfl, (wsAll_of 34 (by decide +kernel) rfl), by decide +kernel, by decide +kernel, by decide +kernel, by decide⟩
abbrev mX4_store : MD := (yX4_store, cX4_store, 2, (some FieldType.int), [])
theorem K_X4_store : MOk mX4_store 1 := ⟨wsAll_of 892 (by decide +kernel) rfl, (wsAll_of 34 (by decide +kernel) rfl), by decide +kernel, by decide +kernel, by decide +kernel, by decide⟩
abbrev mX4_isWaiting : MD := (yX4_isWaiting, cX4_isWaiting, 2, (some FieldType.boolean), [])
theorem K_X4_isWaiting : MOk mX4_isWaiting 1 := ⟨wsAll_of 900 (by decide +kernel) rfl, (wsAll_of 34 (by decide +kernel) rfl), by decide +kernel, by decide +kernel, by decide +kernel, by decide⟩
abbrev mX4_waits : MD := (yX4_waits, cX4_waits, 3, (some FieldType.int), [])
theorem K_X4_waits : MOk mX4_waits 2 := ⟨wsAll_of 896 (by decide +kernel) rfl, (wsAll_of 34 (by decide +kernel) rfl), by decide +kernel, by decide +kernel, by decide +kernel, by decide⟩
abbrev mX4_count : MD := (yX4_count, cX4_count, 2, (some FieldType.int), [])
theorem K_X4_count : MOk mX4_count 1 := ⟨wsAll_of 904 (by decide +kernel) rfl, (wsAll_of 34 (by decide +kernel) rfl), by decide +kernel, by decide +kernel, by decide +kernel, by decide⟩
abbrev mX4_pass : MD := (yX4_pass, cX4_pass, 3, (some FieldType.int), [])
theorem K_X4_pass : MOk mX4_pass 1 := ⟨wsAll_of 917 (by decide +kernel) rfl, (wsAll_of 34 (by decide +kernel) rfl), by decide +kernel, by decide +kernel, by decide +kernel, by decide⟩
abbrev mX4_breaks : MD := (yX4_breaks, cX4_breaks, 3, (some FieldType.int), [])
theorem K_X4_breaks : MOk mX4_breaks 2 := ⟨wsAll_of 940 (by decide +kernel) rfl, (wsAll_of 34 (by decide +kernel) rfl), by decide +kernel, by decide +kernel, by decide +kernel, by decide⟩
abbrev mX4_advise : MD := (yX4_advise, cX4_advise, 6, (some FieldType.int), [])
theorem K_X4_advise : MOk mX4_advise 0 := ⟨wsAll_of 944 (by decide +kernel) rfl, (wsAll_of 34 (by decide +kernel) rfl), by decide +kernel, by decide +kernel, by decide +kernel, by decide⟩
abbrev mX4_ready : MD := (yX4_ready, cX4_ready, 3, (some FieldType.int), [])
theorem K_X4_ready : MOk mX4_ready 1 := ⟨wsAll_of 949 (by decide +kernel) rfl, (wsAll_of 34 (by decide +kernel) rfl), by decide +kernel, by decide +kernel, by decide +kernel, by decide⟩
abbrev mX4_foresee : MD := (yX4_foresee, cX4_foresee, 3, (some FieldType.int), [])
theorem K_X4_foresee : MOk mX4_foresee 2 := ⟨wsAll_of 959 (by decide +kernel) rfl, (wsAll_of 34 (by decide +kernel) rfl), by decide +kernel, by decide +kernel, by decide +kernel, by decide⟩
abbrev mX4_mean : MD := (yX4_mean, cX4_mean, 4, (some FieldType.double), [])
theorem K_X4_mean : MOk mX4_mean 0 := ⟨wsAll_of 963 (by decide +kernel) rfl, (wsAll_of 34 (by decide +kernel) rfl), by decide +kernel, by decide +kernel, by decide +kernel, by decide⟩
abbrev mX4_digest : MD := (yX4_digest, cX4_digest, 7, (some FieldType.long), [])
theorem K_X4_digest : MOk mX4_digest 0 := ⟨wsAll_of 967 (by decide +kernel) rfl, (wsAll_of 34 (by decide +kernel) rfl), by decide +kernel, by decide +kernel, by decide +kernel, by decide⟩
abbrev mL_mould : MD := (yL_mould, cL_mould, 5, (some FieldType.int), [(0, 10, 13, 13), (0, 10, 17, 15)])
theorem K_L_mould : MOk mL_mould 4 := ⟨wsAll_of 244 (by decide +kernel) rfl, (wsAll_of 30 (by decide +kernel) rfl), by decide +kernel, by decide +kernel, by decide +kernel, by decide⟩
abbrev mL_refit : MD := (yL_refit, cL_refit, 4, (some FieldType.int), [(0, 9, 12, 21), (0, 9, 15, 15)])
theorem K_L_refit : MOk mL_refit 3 := ⟨wsAll_of 366 (by decide +kernel) rfl, (wsAll_of 30 (by decide +kernel) rfl), by decide +kernel, by decide +kernel, by decide +kernel, by decide⟩
abbrev mL_maker : MD := (yL_maker, cL_maker, 4, (some FieldType.int), [(0, 9, 12, 13), (0, 9, 15, 15)])
theorem K_L_maker : MOk mL_maker 3 := ⟨wsAll_of 403 (by decide +kernel) rfl, (wsAll_of 30 (by decide +kernel) rfl), by decide +kernel, by decide +kernel, by decide +kernel, by decide⟩
abbrev mL_place : MD := (yL_place, cL_place, 5, (some FieldType.int), [(0, 10, 13, 21), (0, 10, 17, 15)])
theorem K_L_place : MOk mL_place 4 := ⟨wsAll_of 414 (by decide +kernel) rfl, (wsAll_of 30 (by decide +kernel) rfl), by decide +kernel, by decide +kernel, by decide +kernel, by decide⟩
abbrev mL_buy : MD := (yL_buy, cL_buy, 5, (some FieldType.int), [(0, 10, 13, 21), (0, 10, 17, 13), (0, 10, 21, 15)])
theorem K_L_buy : MOk mL_buy 4 := ⟨wsAll_of 425 (by decide +kernel) rfl, (wsAll_of 30 (by decide +kernel) rfl), by decide +kernel, by decide +kernel, by decide +kernel, by decide⟩
abbrev mL_setDry : MD := (yL_setDry, cL_setDry, 5, (some FieldType.int), [(0, 10, 13, 21), (0, 10, 17, 13)])
theorem K_L_setDry : MOk mL_setDry 4 := ⟨wsAll_of 440 (by decide +kernel) rfl, (wsAll_of 30 (by decide +kernel) rfl), by decide +kernel, by decide +kernel, by decide +kernel, by decide⟩
abbrev mL_pack : MD := (yL_pack, cL_pack, 6, (some FieldType.int), [(0, 12, 15, 21), (0, 12, 19, 13), (0, 12, 23, 15)])
theorem K_L_pack : MOk mL_pack 5 := ⟨wsAll_of 452 (by decide +kernel) rfl, (wsAll_of 30 (by decide +kernel) rfl), by decide +kernel, by decide +kernel, by decide +kernel, by decide⟩
abbrev mL_fire : MD := (yL_fire, cL_fire, 4, (some FieldType.int), [(0, 9, 12, 13), (0, 9, 15, 15)])
theorem K_L_fire : MOk mL_fire 3 := ⟨wsAll_of 468 (by decide +kernel) rfl, (wsAll_of 30 (by decide +kernel) rfl), by decide +kernel, by decide +kernel, by decide +kernel, by decide⟩
abbrev mL_order : MD := (yL_order, cL_order, 7, (some FieldType.int), [(0, 14, 17, 13), (0, 14, 21, 15)])
theorem K_L_order : MOk mL_order 6 := ⟨wsAll_of 487 (by decide +kernel) rfl, (wsAll_of 30 (by decide +kernel) rfl), by decide +kernel, by decide +kernel, by decide +kernel, by decide⟩
abbrev mL_about : MD := (yL_about, cL_about, 5, (some FieldType.int), [(0, 10, 13, 21)])
theorem K_L_about : MOk mL_about 4 := ⟨wsAll_of 498 (by decide +kernel) rfl, (wsAll_of 30 (by decide +kernel) rfl), by decide +kernel, by decide +kernel, by decide +kernel, by decide⟩
abbrev mL_told : MD := (yL_told, cL_told, 5, (some FieldType.int), [(0, 10, 13, 21)])
theorem K_L_told : MOk mL_told 4 := ⟨wsAll_of 506 (by decide +kernel) rfl, (wsAll_of 30 (by decide +kernel) rfl), by decide +kernel, by decide +kernel, by decide +kernel, by decide⟩
abbrev mL_batch : MD := (yL_batch, cL_batch, 5, (some FieldType.int), [(0, 10, 13, 21)])
theorem K_L_batch : MOk mL_batch 4 := ⟨wsAll_of 520 (by decide +kernel) rfl, (wsAll_of 30 (by decide +kernel) rfl), by decide +kernel, by decide +kernel, by decide +kernel, by decide⟩
abbrev mL_saggar : MD := (yL_saggar, cL_saggar, 5, (some FieldType.int), [(0, 10, 13, 21)])
theorem K_L_saggar : MOk mL_saggar 4 := ⟨wsAll_of 527 (by decide +kernel) rfl, (wsAll_of 30 (by decide +kernel) rfl), by decide +kernel, by decide +kernel, by decide +kernel, by decide⟩
abbrev mL_store : MD := (yL_store, cL_store, 4, (some FieldType.int), [(0, 9, 12, 21)])
theorem K_L_store : MOk mL_store 3 := ⟨wsAll_of 534 (by decide +kernel) rfl, (wsAll_of 30 (by decide +kernel) rfl), by decide +kernel, by decide +kernel, by decide +kernel, by decide⟩
abbrev mL_waits : MD := (yL_waits, cL_waits, 5, (some FieldType.int), [(0, 10, 13, 21)])
theorem K_L_waits : MOk mL_waits 4 := ⟨wsAll_of 542 (by decide +kernel) rfl, (wsAll_of 30 (by decide +kernel) rfl), by decide +kernel, by decide +kernel, by decide +kernel, by decide⟩
abbrev mL_count : MD := (yL_count, cL_count, 4, (some FieldType.int), [(0, 9, 12, 21)])
theorem K_L_count : MOk mL_count 3 := ⟨wsAll_of 549 (by decide +kernel) rfl, (wsAll_of 30 (by decide +kernel) rfl), by decide +kernel, by decide +kernel, by decide +kernel, by decide⟩
abbrev mL_pass : MD := (yL_pass, cL_pass, 4, (some FieldType.int), [(0, 9, 12, 13)])
theorem K_L_pass : MOk mL_pass 3 := ⟨wsAll_of 557 (by decide +kernel) rfl, (wsAll_of 30 (by decide +kernel) rfl), by decide +kernel, by decide +kernel, by decide +kernel, by decide⟩
abbrev mL_breaks : MD := (yL_breaks, cL_breaks, 5, (some FieldType.int), [(0, 10, 13, 21), (0, 10, 17, 13)])
theorem K_L_breaks : MOk mL_breaks 4 := ⟨wsAll_of 607 (by decide +kernel) rfl, (wsAll_of 30 (by decide +kernel) rfl), by decide +kernel, by decide +kernel, by decide +kernel, by decide⟩
abbrev mL_ready : MD := (yL_ready, cL_ready, 4, (some FieldType.int), [(0, 9, 12, 21)])
theorem K_L_ready : MOk mL_ready 3 := ⟨wsAll_of 615 (by decide +kernel) rfl, (wsAll_of 30 (by decide +kernel) rfl), by decide +kernel, by decide +kernel, by decide +kernel, by decide⟩
abbrev mL_foresee : MD := (yL_foresee, cL_foresee, 5, (some FieldType.int), [(0, 10, 13, 13), (0, 10, 17, 21)])
theorem K_L_foresee : MOk mL_foresee 4 := ⟨wsAll_of 638 (by decide +kernel) rfl, (wsAll_of 30 (by decide +kernel) rfl), by decide +kernel, by decide +kernel, by decide +kernel, by decide⟩
def yM_floorMod : MethodName := ⟨"java/lang/Math", "floorMod", "(II)I"⟩
abbrev mM_floorMod : MD := (yM_floorMod, prog_11_method_50_code, 3, (some FieldType.int), [])
theorem K_M_floorMod : MOk mM_floorMod 2 := ⟨wsAll_of 589 (by decide +kernel) rfl, (wsAll_of 42 (by decide +kernel) rfl), by decide +kernel, by decide +kernel, by decide +kernel, by decide⟩
theorem V_X2_init : Cond.instanceMethod yX2_init ∈ wsAll := wsAll_of 47 (by decide +kernel) rfl
theorem V_X1_init : Cond.instanceMethod yX1_init ∈ wsAll := wsAll_of 55 (by decide +kernel) rfl
theorem V_X0_init : Cond.instanceMethod yX0_init ∈ wsAll := wsAll_of 61 (by decide +kernel) rfl
theorem V_X2_advise : Cond.instanceMethod yX2_advise ∈ wsAll := wsAll_of 143 (by decide +kernel) rfl
theorem S_X2_advise : Cond.selects (mdY mX2_advise).cls (mdY mX2_advise) (mdY mX2_advise) ∈ wsAll := wsAll_of 144 (by decide +kernel) rfl
theorem V_X1_areSaggarsEmpty : Cond.instanceMethod yX1_areSaggarsEmpty ∈ wsAll := wsAll_of 147 (by decide +kernel) rfl
theorem S_X1_areSaggarsEmpty : Cond.selects (mdY mX1_areSaggarsEmpty).cls (mdY mX1_areSaggarsEmpty) (mdY mX1_areSaggarsEmpty) ∈ wsAll := wsAll_of 148 (by decide +kernel) rfl
theorem V_X0_sum : Cond.instanceMethod yX0_sum ∈ wsAll := wsAll_of 151 (by decide +kernel) rfl
theorem S_X0_sum : Cond.selects (mdY mX0_sum).cls (mdY mX0_sum) (mdY mX0_sum) ∈ wsAll := wsAll_of 152 (by decide +kernel) rfl
theorem V_X0_at : Cond.instanceMethod yX0_at ∈ wsAll := wsAll_of 155 (by decide +kernel) rfl
theorem S_X0_at : Cond.selects (mdY mX0_at).cls (mdY mX0_at) (mdY mX0_at) ∈ wsAll := wsAll_of 156 (by decide +kernel) rfl
theorem V_X1_bestCoals : Cond.instanceMethod yX1_bestCoals ∈ wsAll := wsAll_of 159 (by decide +kernel) rfl
theorem S_X1_bestCoals : Cond.selects (mdY mX1_bestCoals).cls (mdY mX1_bestCoals) (mdY mX1_bestCoals) ∈ wsAll := wsAll_of 160 (by decide +kernel) rfl
theorem V_X1_stemsThatBreakInAll : Cond.instanceMethod yX1_stemsThatBreakInAll ∈ wsAll := wsAll_of 164 (by decide +kernel) rfl
theorem V_X1_stemsThatBreak : Cond.instanceMethod yX1_stemsThatBreak ∈ wsAll := wsAll_of 167 (by decide +kernel) rfl
theorem S_X1_stemsThatBreak : Cond.selects (mdY mX1_stemsThatBreak).cls (mdY mX1_stemsThatBreak) (mdY mX1_stemsThatBreak) ∈ wsAll := wsAll_of 168 (by decide +kernel) rfl
theorem V_X2_mean : Cond.instanceMethod yX2_mean ∈ wsAll := wsAll_of 178 (by decide +kernel) rfl
theorem S_X2_mean : Cond.selects (mdY mX2_mean).cls (mdY mX2_mean) (mdY mX2_mean) ∈ wsAll := wsAll_of 179 (by decide +kernel) rfl
theorem V_X1_meanFlaw : Cond.instanceMethod yX1_meanFlaw ∈ wsAll := wsAll_of 182 (by decide +kernel) rfl
theorem S_X1_meanFlaw : Cond.selects (mdY mX1_meanFlaw).cls (mdY mX1_meanFlaw) (mdY mX1_meanFlaw) ∈ wsAll := wsAll_of 183 (by decide +kernel) rfl
theorem V_X0_size : Cond.instanceMethod yX0_size ∈ wsAll := wsAll_of 186 (by decide +kernel) rfl
theorem S_X0_size : Cond.selects (mdY mX0_size).cls (mdY mX0_size) (mdY mX0_size) ∈ wsAll := wsAll_of 187 (by decide +kernel) rfl
theorem V_X2_digest : Cond.instanceMethod yX2_digest ∈ wsAll := wsAll_of 190 (by decide +kernel) rfl
theorem S_X2_digest : Cond.selects (mdY mX2_digest).cls (mdY mX2_digest) (mdY mX2_digest) ∈ wsAll := wsAll_of 191 (by decide +kernel) rfl
theorem V_X1_checksum : Cond.instanceMethod yX1_checksum ∈ wsAll := wsAll_of 194 (by decide +kernel) rfl
theorem S_X1_checksum : Cond.selects (mdY mX1_checksum).cls (mdY mX1_checksum) (mdY mX1_checksum) ∈ wsAll := wsAll_of 195 (by decide +kernel) rfl
theorem V_X1_counted : Cond.instanceMethod yX1_counted ∈ wsAll := wsAll_of 200 (by decide +kernel) rfl
theorem S_X1_counted : Cond.selects (mdY mX1_counted).cls (mdY mX1_counted) (mdY mX1_counted) ∈ wsAll := wsAll_of 201 (by decide +kernel) rfl
theorem V_X1_wholeInAll : Cond.instanceMethod yX1_wholeInAll ∈ wsAll := wsAll_of 205 (by decide +kernel) rfl
theorem V_X1_wholeOf : Cond.instanceMethod yX1_wholeOf ∈ wsAll := wsAll_of 208 (by decide +kernel) rfl
theorem S_X1_wholeOf : Cond.selects (mdY mX1_wholeOf).cls (mdY mX1_wholeOf) (mdY mX1_wholeOf) ∈ wsAll := wsAll_of 209 (by decide +kernel) rfl
theorem V_X1_driesBy : Cond.instanceMethod yX1_driesBy ∈ wsAll := wsAll_of 212 (by decide +kernel) rfl
theorem S_X1_driesBy : Cond.selects (mdY mX1_driesBy).cls (mdY mX1_driesBy) (mdY mX1_driesBy) ∈ wsAll := wsAll_of 213 (by decide +kernel) rfl
theorem V_X1_withMoulds : Cond.instanceMethod yX1_withMoulds ∈ wsAll := wsAll_of 217 (by decide +kernel) rfl
theorem V_X1_aboutMould : Cond.instanceMethod yX1_aboutMould ∈ wsAll := wsAll_of 220 (by decide +kernel) rfl
theorem S_X1_aboutMould : Cond.selects (mdY mX1_aboutMould).cls (mdY mX1_aboutMould) (mdY mX1_aboutMould) ∈ wsAll := wsAll_of 221 (by decide +kernel) rfl
theorem V_X1_flawOf : Cond.instanceMethod yX1_flawOf ∈ wsAll := wsAll_of 225 (by decide +kernel) rfl
theorem V_X1_clayOf : Cond.instanceMethod yX1_clayOf ∈ wsAll := wsAll_of 229 (by decide +kernel) rfl
theorem V_X1_makerAt : Cond.instanceMethod yX1_makerAt ∈ wsAll := wsAll_of 233 (by decide +kernel) rfl
theorem T_X1_withTable : Cond.static yX1_withTable ∈ wsAll := wsAll_of 236 (by decide +kernel) rfl
theorem V_X0_width : Cond.instanceMethod yX0_width ∈ wsAll := wsAll_of 239 (by decide +kernel) rfl
theorem S_X0_width : Cond.selects (mdY mX0_width).cls (mdY mX0_width) (mdY mX0_width) ∈ wsAll := wsAll_of 240 (by decide +kernel) rfl
theorem T_L_mould : Cond.static yL_mould ∈ wsAll := wsAll_of 243 (by decide +kernel) rfl
theorem V_X2_mould : Cond.instanceMethod yX2_mould ∈ wsAll := wsAll_of 248 (by decide +kernel) rfl
theorem S_X2_mould : Cond.selects (mdY mX2_mould).cls (mdY mX2_mould) (mdY mX2_mould) ∈ wsAll := wsAll_of 249 (by decide +kernel) rfl
theorem T_X2_isLength : Cond.static yX2_isLength ∈ wsAll := wsAll_of 252 (by decide +kernel) rfl
theorem T_X2_isWithin : Cond.static yX2_isWithin ∈ wsAll := wsAll_of 255 (by decide +kernel) rfl
theorem T_X2_requireArgument : Cond.static yX2_requireArgument ∈ wsAll := wsAll_of 258 (by decide +kernel) rfl
theorem V_X0_isFull : Cond.instanceMethod yX0_isFull ∈ wsAll := wsAll_of 329 (by decide +kernel) rfl
theorem S_X0_isFull : Cond.selects (mdY mX0_isFull).cls (mdY mX0_isFull) (mdY mX0_isFull) ∈ wsAll := wsAll_of 330 (by decide +kernel) rfl
theorem T_X2_requireState : Cond.static yX2_requireState ∈ wsAll := wsAll_of 333 (by decide +kernel) rfl
theorem V_X1_addMould : Cond.instanceMethod yX1_addMould ∈ wsAll := wsAll_of 352 (by decide +kernel) rfl
theorem S_X1_addMould : Cond.selects (mdY mX1_addMould).cls (mdY mX1_addMould) (mdY mX1_addMould) ∈ wsAll := wsAll_of 353 (by decide +kernel) rfl
theorem V_X0_addRow : Cond.instanceMethod yX0_addRow ∈ wsAll := wsAll_of 356 (by decide +kernel) rfl
theorem S_X0_addRow : Cond.selects (mdY mX0_addRow).cls (mdY mX0_addRow) (mdY mX0_addRow) ∈ wsAll := wsAll_of 357 (by decide +kernel) rfl
theorem V_X0_put : Cond.instanceMethod yX0_put ∈ wsAll := wsAll_of 361 (by decide +kernel) rfl
theorem S_X0_put : Cond.selects (mdY mX0_put).cls (mdY mX0_put) (mdY mX0_put) ∈ wsAll := wsAll_of 362 (by decide +kernel) rfl
theorem T_L_refit : Cond.static yL_refit ∈ wsAll := wsAll_of 365 (by decide +kernel) rfl
theorem V_X2_refit : Cond.instanceMethod yX2_refit ∈ wsAll := wsAll_of 369 (by decide +kernel) rfl
theorem S_X2_refit : Cond.selects (mdY mX2_refit).cls (mdY mX2_refit) (mdY mX2_refit) ∈ wsAll := wsAll_of 370 (by decide +kernel) rfl
theorem V_X0_hasRow : Cond.instanceMethod yX0_hasRow ∈ wsAll := wsAll_of 373 (by decide +kernel) rfl
theorem S_X0_hasRow : Cond.selects (mdY mX0_hasRow).cls (mdY mX0_hasRow) (mdY mX0_hasRow) ∈ wsAll := wsAll_of 374 (by decide +kernel) rfl
theorem T_X2_requireIndex : Cond.static yX2_requireIndex ∈ wsAll := wsAll_of 377 (by decide +kernel) rfl
theorem V_X1_pay : Cond.instanceMethod yX1_pay ∈ wsAll := wsAll_of 397 (by decide +kernel) rfl
theorem S_X1_pay : Cond.selects (mdY mX1_pay).cls (mdY mX1_pay) (mdY mX1_pay) ∈ wsAll := wsAll_of 398 (by decide +kernel) rfl
theorem T_L_maker : Cond.static yL_maker ∈ wsAll := wsAll_of 402 (by decide +kernel) rfl
theorem V_X2_maker : Cond.instanceMethod yX2_maker ∈ wsAll := wsAll_of 405 (by decide +kernel) rfl
theorem S_X2_maker : Cond.selects (mdY mX2_maker).cls (mdY mX2_maker) (mdY mX2_maker) ∈ wsAll := wsAll_of 406 (by decide +kernel) rfl
theorem V_X1_addMaker : Cond.instanceMethod yX1_addMaker ∈ wsAll := wsAll_of 409 (by decide +kernel) rfl
theorem S_X1_addMaker : Cond.selects (mdY mX1_addMaker).cls (mdY mX1_addMaker) (mdY mX1_addMaker) ∈ wsAll := wsAll_of 410 (by decide +kernel) rfl
theorem T_L_place : Cond.static yL_place ∈ wsAll := wsAll_of 413 (by decide +kernel) rfl
theorem V_X2_place : Cond.instanceMethod yX2_place ∈ wsAll := wsAll_of 416 (by decide +kernel) rfl
theorem S_X2_place : Cond.selects (mdY mX2_place).cls (mdY mX2_place) (mdY mX2_place) ∈ wsAll := wsAll_of 417 (by decide +kernel) rfl
theorem V_X1_isAnotherAt : Cond.instanceMethod yX1_isAnotherAt ∈ wsAll := wsAll_of 420 (by decide +kernel) rfl
theorem S_X1_isAnotherAt : Cond.selects (mdY mX1_isAnotherAt).cls (mdY mX1_isAnotherAt) (mdY mX1_isAnotherAt) ∈ wsAll := wsAll_of 421 (by decide +kernel) rfl
theorem T_L_buy : Cond.static yL_buy ∈ wsAll := wsAll_of 424 (by decide +kernel) rfl
theorem V_X2_buy : Cond.instanceMethod yX2_buy ∈ wsAll := wsAll_of 427 (by decide +kernel) rfl
theorem S_X2_buy : Cond.selects (mdY mX2_buy).cls (mdY mX2_buy) (mdY mX2_buy) ∈ wsAll := wsAll_of 428 (by decide +kernel) rfl
theorem V_X1_addClay : Cond.instanceMethod yX1_addClay ∈ wsAll := wsAll_of 431 (by decide +kernel) rfl
theorem S_X1_addClay : Cond.selects (mdY mX1_addClay).cls (mdY mX1_addClay) (mdY mX1_addClay) ∈ wsAll := wsAll_of 432 (by decide +kernel) rfl
theorem V_X1_addCoals : Cond.instanceMethod yX1_addCoals ∈ wsAll := wsAll_of 435 (by decide +kernel) rfl
theorem S_X1_addCoals : Cond.selects (mdY mX1_addCoals).cls (mdY mX1_addCoals) (mdY mX1_addCoals) ∈ wsAll := wsAll_of 436 (by decide +kernel) rfl
theorem T_L_setDry : Cond.static yL_setDry ∈ wsAll := wsAll_of 439 (by decide +kernel) rfl
theorem V_X2_setDry : Cond.instanceMethod yX2_setDry ∈ wsAll := wsAll_of 442 (by decide +kernel) rfl
theorem S_X2_setDry : Cond.selects (mdY mX2_setDry).cls (mdY mX2_setDry) (mdY mX2_setDry) ∈ wsAll := wsAll_of 443 (by decide +kernel) rfl
theorem V_X1_setDrying : Cond.instanceMethod yX1_setDrying ∈ wsAll := wsAll_of 447 (by decide +kernel) rfl
theorem S_X1_setDrying : Cond.selects (mdY mX1_setDrying).cls (mdY mX1_setDrying) (mdY mX1_setDrying) ∈ wsAll := wsAll_of 448 (by decide +kernel) rfl
theorem T_L_pack : Cond.static yL_pack ∈ wsAll := wsAll_of 451 (by decide +kernel) rfl
theorem V_X2_pack : Cond.instanceMethod yX2_pack ∈ wsAll := wsAll_of 454 (by decide +kernel) rfl
theorem S_X2_pack : Cond.selects (mdY mX2_pack).cls (mdY mX2_pack) (mdY mX2_pack) ∈ wsAll := wsAll_of 455 (by decide +kernel) rfl
theorem V_X1_packPipes : Cond.instanceMethod yX1_packPipes ∈ wsAll := wsAll_of 458 (by decide +kernel) rfl
theorem S_X1_packPipes : Cond.selects (mdY mX1_packPipes).cls (mdY mX1_packPipes) (mdY mX1_packPipes) ∈ wsAll := wsAll_of 459 (by decide +kernel) rfl
theorem V_X0_removeRow : Cond.instanceMethod yX0_removeRow ∈ wsAll := wsAll_of 462 (by decide +kernel) rfl
theorem S_X0_removeRow : Cond.selects (mdY mX0_removeRow).cls (mdY mX0_removeRow) (mdY mX0_removeRow) ∈ wsAll := wsAll_of 463 (by decide +kernel) rfl
theorem T_L_fire : Cond.static yL_fire ∈ wsAll := wsAll_of 467 (by decide +kernel) rfl
theorem V_X2_fire : Cond.instanceMethod yX2_fire ∈ wsAll := wsAll_of 470 (by decide +kernel) rfl
theorem S_X2_fire : Cond.selects (mdY mX2_fire).cls (mdY mX2_fire) (mdY mX2_fire) ∈ wsAll := wsAll_of 471 (by decide +kernel) rfl
theorem V_X1_fireKiln : Cond.instanceMethod yX1_fireKiln ∈ wsAll := wsAll_of 474 (by decide +kernel) rfl
theorem S_X1_fireKiln : Cond.selects (mdY mX1_fireKiln).cls (mdY mX1_fireKiln) (mdY mX1_fireKiln) ∈ wsAll := wsAll_of 475 (by decide +kernel) rfl
theorem V_X1_unloadFired : Cond.instanceMethod yX1_unloadFired ∈ wsAll := wsAll_of 479 (by decide +kernel) rfl
theorem V_X1_addWhole : Cond.instanceMethod yX1_addWhole ∈ wsAll := wsAll_of 483 (by decide +kernel) rfl
theorem T_L_order : Cond.static yL_order ∈ wsAll := wsAll_of 486 (by decide +kernel) rfl
theorem V_X2_order : Cond.instanceMethod yX2_order ∈ wsAll := wsAll_of 489 (by decide +kernel) rfl
theorem S_X2_order : Cond.selects (mdY mX2_order).cls (mdY mX2_order) (mdY mX2_order) ∈ wsAll := wsAll_of 490 (by decide +kernel) rfl
theorem V_X1_addOrder : Cond.instanceMethod yX1_addOrder ∈ wsAll := wsAll_of 493 (by decide +kernel) rfl
theorem S_X1_addOrder : Cond.selects (mdY mX1_addOrder).cls (mdY mX1_addOrder) (mdY mX1_addOrder) ∈ wsAll := wsAll_of 494 (by decide +kernel) rfl
theorem T_L_about : Cond.static yL_about ∈ wsAll := wsAll_of 497 (by decide +kernel) rfl
theorem V_X2_about : Cond.instanceMethod yX2_about ∈ wsAll := wsAll_of 500 (by decide +kernel) rfl
theorem S_X2_about : Cond.selects (mdY mX2_about).cls (mdY mX2_about) (mdY mX2_about) ∈ wsAll := wsAll_of 501 (by decide +kernel) rfl
theorem T_L_told : Cond.static yL_told ∈ wsAll := wsAll_of 505 (by decide +kernel) rfl
theorem V_X2_told : Cond.instanceMethod yX2_told ∈ wsAll := wsAll_of 508 (by decide +kernel) rfl
theorem S_X2_told : Cond.selects (mdY mX2_told).cls (mdY mX2_told) (mdY mX2_told) ∈ wsAll := wsAll_of 509 (by decide +kernel) rfl
theorem T_X2_cellOf : Cond.static yX2_cellOf ∈ wsAll := wsAll_of 512 (by decide +kernel) rfl
theorem V_X0_hasColumn : Cond.instanceMethod yX0_hasColumn ∈ wsAll := wsAll_of 515 (by decide +kernel) rfl
theorem S_X0_hasColumn : Cond.selects (mdY mX0_hasColumn).cls (mdY mX0_hasColumn) (mdY mX0_hasColumn) ∈ wsAll := wsAll_of 516 (by decide +kernel) rfl
theorem T_L_batch : Cond.static yL_batch ∈ wsAll := wsAll_of 519 (by decide +kernel) rfl
theorem V_X2_batch : Cond.instanceMethod yX2_batch ∈ wsAll := wsAll_of 522 (by decide +kernel) rfl
theorem S_X2_batch : Cond.selects (mdY mX2_batch).cls (mdY mX2_batch) (mdY mX2_batch) ∈ wsAll := wsAll_of 523 (by decide +kernel) rfl
theorem T_L_saggar : Cond.static yL_saggar ∈ wsAll := wsAll_of 526 (by decide +kernel) rfl
theorem V_X2_saggar : Cond.instanceMethod yX2_saggar ∈ wsAll := wsAll_of 529 (by decide +kernel) rfl
theorem S_X2_saggar : Cond.selects (mdY mX2_saggar).cls (mdY mX2_saggar) (mdY mX2_saggar) ∈ wsAll := wsAll_of 530 (by decide +kernel) rfl
theorem T_L_store : Cond.static yL_store ∈ wsAll := wsAll_of 533 (by decide +kernel) rfl
theorem V_X2_store : Cond.instanceMethod yX2_store ∈ wsAll := wsAll_of 536 (by decide +kernel) rfl
theorem S_X2_store : Cond.selects (mdY mX2_store).cls (mdY mX2_store) (mdY mX2_store) ∈ wsAll := wsAll_of 537 (by decide +kernel) rfl
theorem T_L_waits : Cond.static yL_waits ∈ wsAll := wsAll_of 541 (by decide +kernel) rfl
theorem V_X2_waits : Cond.instanceMethod yX2_waits ∈ wsAll := wsAll_of 544 (by decide +kernel) rfl
theorem S_X2_waits : Cond.selects (mdY mX2_waits).cls (mdY mX2_waits) (mdY mX2_waits) ∈ wsAll := wsAll_of 545 (by decide +kernel) rfl
theorem T_L_count : Cond.static yL_count ∈ wsAll := wsAll_of 548 (by decide +kernel) rfl
theorem V_X2_count : Cond.instanceMethod yX2_count ∈ wsAll := wsAll_of 551 (by decide +kernel) rfl
theorem S_X2_count : Cond.selects (mdY mX2_count).cls (mdY mX2_count) (mdY mX2_count) ∈ wsAll := wsAll_of 552 (by decide +kernel) rfl
theorem T_L_pass : Cond.static yL_pass ∈ wsAll := wsAll_of 556 (by decide +kernel) rfl
theorem V_X2_pass : Cond.instanceMethod yX2_pass ∈ wsAll := wsAll_of 559 (by decide +kernel) rfl
theorem S_X2_pass : Cond.selects (mdY mX2_pass).cls (mdY mX2_pass) (mdY mX2_pass) ∈ wsAll := wsAll_of 560 (by decide +kernel) rfl
theorem V_X1_passDays : Cond.instanceMethod yX1_passDays ∈ wsAll := wsAll_of 563 (by decide +kernel) rfl
theorem S_X1_passDays : Cond.selects (mdY mX1_passDays).cls (mdY mX1_passDays) (mdY mX1_passDays) ∈ wsAll := wsAll_of 564 (by decide +kernel) rfl
theorem V_X1_passDay : Cond.instanceMethod yX1_passDay ∈ wsAll := wsAll_of 568 (by decide +kernel) rfl
theorem V_X1_letWork : Cond.instanceMethod yX1_letWork ∈ wsAll := wsAll_of 572 (by decide +kernel) rfl
theorem V_X1_layOnBoards : Cond.instanceMethod yX1_layOnBoards ∈ wsAll := wsAll_of 581 (by decide +kernel) rfl
theorem V_X1_wearMould : Cond.instanceMethod yX1_wearMould ∈ wsAll := wsAll_of 585 (by decide +kernel) rfl
theorem T_M_floorMod : Cond.static yM_floorMod ∈ wsAll := wsAll_of 588 (by decide +kernel) rfl
theorem T_X1_dry : Cond.static yX1_dry ∈ wsAll := wsAll_of 591 (by decide +kernel) rfl
theorem V_X1_lookAtOrders : Cond.instanceMethod yX1_lookAtOrders ∈ wsAll := wsAll_of 595 (by decide +kernel) rfl
theorem V_X1_lookAtOrder : Cond.instanceMethod yX1_lookAtOrder ∈ wsAll := wsAll_of 599 (by decide +kernel) rfl
theorem V_X1_dismiss : Cond.instanceMethod yX1_dismiss ∈ wsAll := wsAll_of 603 (by decide +kernel) rfl
theorem T_L_breaks : Cond.static yL_breaks ∈ wsAll := wsAll_of 606 (by decide +kernel) rfl
theorem V_X2_breaks : Cond.instanceMethod yX2_breaks ∈ wsAll := wsAll_of 609 (by decide +kernel) rfl
theorem S_X2_breaks : Cond.selects (mdY mX2_breaks).cls (mdY mX2_breaks) (mdY mX2_breaks) ∈ wsAll := wsAll_of 610 (by decide +kernel) rfl
theorem T_L_ready : Cond.static yL_ready ∈ wsAll := wsAll_of 614 (by decide +kernel) rfl
theorem V_X2_ready : Cond.instanceMethod yX2_ready ∈ wsAll := wsAll_of 617 (by decide +kernel) rfl
theorem S_X2_ready : Cond.selects (mdY mX2_ready).cls (mdY mX2_ready) (mdY mX2_ready) ∈ wsAll := wsAll_of 618 (by decide +kernel) rfl
theorem V_X1_copyFrom : Cond.instanceMethod yX1_copyFrom ∈ wsAll := wsAll_of 621 (by decide +kernel) rfl
theorem S_X1_copyFrom : Cond.selects (mdY mX1_copyFrom).cls (mdY mX1_copyFrom) (mdY mX1_copyFrom) ∈ wsAll := wsAll_of 622 (by decide +kernel) rfl
theorem V_X0_copyFrom : Cond.instanceMethod yX0_copyFrom ∈ wsAll := wsAll_of 625 (by decide +kernel) rfl
theorem S_X0_copyFrom : Cond.selects (mdY mX0_copyFrom).cls (mdY mX0_copyFrom) (mdY mX0_copyFrom) ∈ wsAll := wsAll_of 626 (by decide +kernel) rfl
theorem V_X1_daysTillServed : Cond.instanceMethod yX1_daysTillServed ∈ wsAll := wsAll_of 633 (by decide +kernel) rfl
theorem S_X1_daysTillServed : Cond.selects (mdY mX1_daysTillServed).cls (mdY mX1_daysTillServed) (mdY mX1_daysTillServed) ∈ wsAll := wsAll_of 634 (by decide +kernel) rfl
theorem T_L_foresee : Cond.static yL_foresee ∈ wsAll := wsAll_of 637 (by decide +kernel) rfl
theorem V_X2_foresee : Cond.instanceMethod yX2_foresee ∈ wsAll := wsAll_of 640 (by decide +kernel) rfl
theorem S_X2_foresee : Cond.selects (mdY mX2_foresee).cls (mdY mX2_foresee) (mdY mX2_foresee) ∈ wsAll := wsAll_of 641 (by decide +kernel) rfl
theorem V_X4_init : Cond.instanceMethod yX4_init ∈ wsAll := wsAll_of 646 (by decide +kernel) rfl
theorem V_X3_init : Cond.instanceMethod yX3_init ∈ wsAll := wsAll_of 652 (by decide +kernel) rfl
theorem V_X4_thrown : Cond.instanceMethod yX4_thrown ∈ wsAll := wsAll_of 760 (by decide +kernel) rfl
theorem S_X4_thrown : Cond.selects (mdY mX4_thrown).cls (mdY mX4_thrown) (mdY mX4_thrown) ∈ wsAll := wsAll_of 761 (by decide +kernel) rfl
theorem V_X4_mould : Cond.instanceMethod yX4_mould ∈ wsAll := wsAll_of 764 (by decide +kernel) rfl
theorem S_X4_mould : Cond.selects (mdY mX4_mould).cls (mdY mX4_mould) (mdY mX4_mould) ∈ wsAll := wsAll_of 765 (by decide +kernel) rfl
theorem T_X4_isLength : Cond.static yX4_isLength ∈ wsAll := wsAll_of 768 (by decide +kernel) rfl
theorem T_X4_isIn : Cond.static yX4_isIn ∈ wsAll := wsAll_of 771 (by decide +kernel) rfl
theorem V_X4_no : Cond.instanceMethod yX4_no ∈ wsAll := wsAll_of 775 (by decide +kernel) rfl
theorem V_X4_refit : Cond.instanceMethod yX4_refit ∈ wsAll := wsAll_of 778 (by decide +kernel) rfl
theorem S_X4_refit : Cond.selects (mdY mX4_refit).cls (mdY mX4_refit) (mdY mX4_refit) ∈ wsAll := wsAll_of 779 (by decide +kernel) rfl
theorem V_X4_isMould : Cond.instanceMethod yX4_isMould ∈ wsAll := wsAll_of 783 (by decide +kernel) rfl
theorem V_X4_maker : Cond.instanceMethod yX4_maker ∈ wsAll := wsAll_of 786 (by decide +kernel) rfl
theorem S_X4_maker : Cond.selects (mdY mX4_maker).cls (mdY mX4_maker) (mdY mX4_maker) ∈ wsAll := wsAll_of 787 (by decide +kernel) rfl
theorem V_X4_place : Cond.instanceMethod yX4_place ∈ wsAll := wsAll_of 790 (by decide +kernel) rfl
theorem S_X4_place : Cond.selects (mdY mX4_place).cls (mdY mX4_place) (mdY mX4_place) ∈ wsAll := wsAll_of 791 (by decide +kernel) rfl
theorem V_X4_isMaker : Cond.instanceMethod yX4_isMaker ∈ wsAll := wsAll_of 795 (by decide +kernel) rfl
theorem V_X4_makerAt : Cond.instanceMethod yX4_makerAt ∈ wsAll := wsAll_of 799 (by decide +kernel) rfl
theorem V_X4_buy : Cond.instanceMethod yX4_buy ∈ wsAll := wsAll_of 802 (by decide +kernel) rfl
theorem S_X4_buy : Cond.selects (mdY mX4_buy).cls (mdY mX4_buy) (mdY mX4_buy) ∈ wsAll := wsAll_of 803 (by decide +kernel) rfl
theorem V_X4_setDry : Cond.instanceMethod yX4_setDry ∈ wsAll := wsAll_of 806 (by decide +kernel) rfl
theorem S_X4_setDry : Cond.selects (mdY mX4_setDry).cls (mdY mX4_setDry) (mdY mX4_setDry) ∈ wsAll := wsAll_of 807 (by decide +kernel) rfl
theorem V_X4_pack : Cond.instanceMethod yX4_pack ∈ wsAll := wsAll_of 810 (by decide +kernel) rfl
theorem S_X4_pack : Cond.selects (mdY mX4_pack).cls (mdY mX4_pack) (mdY mX4_pack) ∈ wsAll := wsAll_of 811 (by decide +kernel) rfl
theorem V_X4_isBatch : Cond.instanceMethod yX4_isBatch ∈ wsAll := wsAll_of 815 (by decide +kernel) rfl
theorem T_X4_isSaggar : Cond.static yX4_isSaggar ∈ wsAll := wsAll_of 818 (by decide +kernel) rfl
theorem V_X3_saggar : Cond.instanceMethod yX3_saggar ∈ wsAll := wsAll_of 821 (by decide +kernel) rfl
theorem S_X3_saggar : Cond.selects (mdY mX3_saggar).cls (mdY mX3_saggar) (mdY mX3_saggar) ∈ wsAll := wsAll_of 822 (by decide +kernel) rfl
theorem V_X3_put : Cond.instanceMethod yX3_put ∈ wsAll := wsAll_of 826 (by decide +kernel) rfl
theorem V_X3_takeBatch : Cond.instanceMethod yX3_takeBatch ∈ wsAll := wsAll_of 829 (by decide +kernel) rfl
theorem S_X3_takeBatch : Cond.selects (mdY mX3_takeBatch).cls (mdY mX3_takeBatch) (mdY mX3_takeBatch) ∈ wsAll := wsAll_of 830 (by decide +kernel) rfl
theorem V_X4_fire : Cond.instanceMethod yX4_fire ∈ wsAll := wsAll_of 834 (by decide +kernel) rfl
theorem S_X4_fire : Cond.selects (mdY mX4_fire).cls (mdY mX4_fire) (mdY mX4_fire) ∈ wsAll := wsAll_of 835 (by decide +kernel) rfl
theorem V_X3_inSaggars : Cond.instanceMethod yX3_inSaggars ∈ wsAll := wsAll_of 838 (by decide +kernel) rfl
theorem S_X3_inSaggars : Cond.selects (mdY mX3_inSaggars).cls (mdY mX3_inSaggars) (mdY mX3_inSaggars) ∈ wsAll := wsAll_of 839 (by decide +kernel) rfl
theorem V_X3_pipes : Cond.instanceMethod yX3_pipes ∈ wsAll := wsAll_of 843 (by decide +kernel) rfl
theorem V_X3_breaks : Cond.instanceMethod yX3_breaks ∈ wsAll := wsAll_of 846 (by decide +kernel) rfl
theorem S_X3_breaks : Cond.selects (mdY mX3_breaks).cls (mdY mX3_breaks) (mdY mX3_breaks) ∈ wsAll := wsAll_of 847 (by decide +kernel) rfl
theorem V_X4_order : Cond.instanceMethod yX4_order ∈ wsAll := wsAll_of 853 (by decide +kernel) rfl
theorem S_X4_order : Cond.selects (mdY mX4_order).cls (mdY mX4_order) (mdY mX4_order) ∈ wsAll := wsAll_of 854 (by decide +kernel) rfl
theorem V_X4_about : Cond.instanceMethod yX4_about ∈ wsAll := wsAll_of 858 (by decide +kernel) rfl
theorem S_X4_about : Cond.selects (mdY mX4_about).cls (mdY mX4_about) (mdY mX4_about) ∈ wsAll := wsAll_of 859 (by decide +kernel) rfl
theorem V_X4_mouldTold : Cond.instanceMethod yX4_mouldTold ∈ wsAll := wsAll_of 863 (by decide +kernel) rfl
theorem V_X3_flaw : Cond.instanceMethod yX3_flaw ∈ wsAll := wsAll_of 866 (by decide +kernel) rfl
theorem S_X3_flaw : Cond.selects (mdY mX3_flaw).cls (mdY mX3_flaw) (mdY mX3_flaw) ∈ wsAll := wsAll_of 867 (by decide +kernel) rfl
theorem V_X4_clayOf : Cond.instanceMethod yX4_clayOf ∈ wsAll := wsAll_of 871 (by decide +kernel) rfl
theorem V_X4_told : Cond.instanceMethod yX4_told ∈ wsAll := wsAll_of 874 (by decide +kernel) rfl
theorem S_X4_told : Cond.selects (mdY mX4_told).cls (mdY mX4_told) (mdY mX4_told) ∈ wsAll := wsAll_of 875 (by decide +kernel) rfl
theorem V_X4_makerTold : Cond.instanceMethod yX4_makerTold ∈ wsAll := wsAll_of 879 (by decide +kernel) rfl
theorem V_X4_batch : Cond.instanceMethod yX4_batch ∈ wsAll := wsAll_of 882 (by decide +kernel) rfl
theorem S_X4_batch : Cond.selects (mdY mX4_batch).cls (mdY mX4_batch) (mdY mX4_batch) ∈ wsAll := wsAll_of 883 (by decide +kernel) rfl
theorem V_X4_saggar : Cond.instanceMethod yX4_saggar ∈ wsAll := wsAll_of 886 (by decide +kernel) rfl
theorem S_X4_saggar : Cond.selects (mdY mX4_saggar).cls (mdY mX4_saggar) (mdY mX4_saggar) ∈ wsAll := wsAll_of 887 (by decide +kernel) rfl
theorem V_X4_store : Cond.instanceMethod yX4_store ∈ wsAll := wsAll_of 890 (by decide +kernel) rfl
theorem S_X4_store : Cond.selects (mdY mX4_store).cls (mdY mX4_store) (mdY mX4_store) ∈ wsAll := wsAll_of 891 (by decide +kernel) rfl
theorem V_X4_waits : Cond.instanceMethod yX4_waits ∈ wsAll := wsAll_of 894 (by decide +kernel) rfl
theorem S_X4_waits : Cond.selects (mdY mX4_waits).cls (mdY mX4_waits) (mdY mX4_waits) ∈ wsAll := wsAll_of 895 (by decide +kernel) rfl
theorem V_X4_isWaiting : Cond.instanceMethod yX4_isWaiting ∈ wsAll := wsAll_of 899 (by decide +kernel) rfl
theorem V_X4_count : Cond.instanceMethod yX4_count ∈ wsAll := wsAll_of 902 (by decide +kernel) rfl
theorem S_X4_count : Cond.selects (mdY mX4_count).cls (mdY mX4_count) (mdY mX4_count) ∈ wsAll := wsAll_of 903 (by decide +kernel) rfl
theorem V_X3_counted : Cond.instanceMethod yX3_counted ∈ wsAll := wsAll_of 906 (by decide +kernel) rfl
theorem S_X3_counted : Cond.selects (mdY mX3_counted).cls (mdY mX3_counted) (mdY mX3_counted) ∈ wsAll := wsAll_of 907 (by decide +kernel) rfl
theorem V_X3_stored : Cond.instanceMethod yX3_stored ∈ wsAll := wsAll_of 912 (by decide +kernel) rfl
theorem V_X4_pass : Cond.instanceMethod yX4_pass ∈ wsAll := wsAll_of 915 (by decide +kernel) rfl
theorem S_X4_pass : Cond.selects (mdY mX4_pass).cls (mdY mX4_pass) (mdY mX4_pass) ∈ wsAll := wsAll_of 916 (by decide +kernel) rfl
theorem V_X3_pass_ : Cond.instanceMethod yX3_pass_ ∈ wsAll := wsAll_of 919 (by decide +kernel) rfl
theorem S_X3_pass_ : Cond.selects (mdY mX3_pass_).cls (mdY mX3_pass_) (mdY mX3_pass_) ∈ wsAll := wsAll_of 920 (by decide +kernel) rfl
theorem V_X3_pass : Cond.instanceMethod yX3_pass ∈ wsAll := wsAll_of 923 (by decide +kernel) rfl
theorem S_X3_pass : Cond.selects (mdY mX3_pass).cls (mdY mX3_pass) (mdY mX3_pass) ∈ wsAll := wsAll_of 924 (by decide +kernel) rfl
theorem V_X3_make : Cond.instanceMethod yX3_make ∈ wsAll := wsAll_of 928 (by decide +kernel) rfl
theorem V_X3_serve : Cond.instanceMethod yX3_serve ∈ wsAll := wsAll_of 935 (by decide +kernel) rfl
theorem V_X4_breaks : Cond.instanceMethod yX4_breaks ∈ wsAll := wsAll_of 938 (by decide +kernel) rfl
theorem S_X4_breaks : Cond.selects (mdY mX4_breaks).cls (mdY mX4_breaks) (mdY mX4_breaks) ∈ wsAll := wsAll_of 939 (by decide +kernel) rfl
theorem V_X4_advise : Cond.instanceMethod yX4_advise ∈ wsAll := wsAll_of 942 (by decide +kernel) rfl
theorem S_X4_advise : Cond.selects (mdY mX4_advise).cls (mdY mX4_advise) (mdY mX4_advise) ∈ wsAll := wsAll_of 943 (by decide +kernel) rfl
theorem V_X4_ready : Cond.instanceMethod yX4_ready ∈ wsAll := wsAll_of 947 (by decide +kernel) rfl
theorem S_X4_ready : Cond.selects (mdY mX4_ready).cls (mdY mX4_ready) (mdY mX4_ready) ∈ wsAll := wsAll_of 948 (by decide +kernel) rfl
theorem V_X3_become : Cond.instanceMethod yX3_become ∈ wsAll := wsAll_of 951 (by decide +kernel) rfl
theorem S_X3_become : Cond.selects (mdY mX3_become).cls (mdY mX3_become) (mdY mX3_become) ∈ wsAll := wsAll_of 952 (by decide +kernel) rfl
theorem V_X4_foresee : Cond.instanceMethod yX4_foresee ∈ wsAll := wsAll_of 957 (by decide +kernel) rfl
theorem S_X4_foresee : Cond.selects (mdY mX4_foresee).cls (mdY mX4_foresee) (mdY mX4_foresee) ∈ wsAll := wsAll_of 958 (by decide +kernel) rfl
theorem V_X4_mean : Cond.instanceMethod yX4_mean ∈ wsAll := wsAll_of 961 (by decide +kernel) rfl
theorem S_X4_mean : Cond.selects (mdY mX4_mean).cls (mdY mX4_mean) (mdY mX4_mean) ∈ wsAll := wsAll_of 962 (by decide +kernel) rfl
theorem V_X4_digest : Cond.instanceMethod yX4_digest ∈ wsAll := wsAll_of 965 (by decide +kernel) rfl
theorem S_X4_digest : Cond.selects (mdY mX4_digest).cls (mdY mX4_digest) (mdY mX4_digest) ∈ wsAll := wsAll_of 966 (by decide +kernel) rfl
theorem S_X1_stemsThatBreakInAll : Cond.selects (mdY mX1_stemsThatBreakInAll).cls (mdY mX1_stemsThatBreakInAll) (mdY mX1_stemsThatBreakInAll) ∈ wsAll := wsAll_of 0 (by decide +kernel) rfl
theorem S_X1_wholeInAll : Cond.selects (mdY mX1_wholeInAll).cls (mdY mX1_wholeInAll) (mdY mX1_wholeInAll) ∈ wsAll := wsAll_of 1 (by decide +kernel) rfl
theorem S_X1_withMoulds : Cond.selects (mdY mX1_withMoulds).cls (mdY mX1_withMoulds) (mdY mX1_withMoulds) ∈ wsAll := wsAll_of 2 (by decide +kernel) rfl
theorem S_X1_flawOf : Cond.selects (mdY mX1_flawOf).cls (mdY mX1_flawOf) (mdY mX1_flawOf) ∈ wsAll := wsAll_of 3 (by decide +kernel) rfl
theorem S_X1_clayOf : Cond.selects (mdY mX1_clayOf).cls (mdY mX1_clayOf) (mdY mX1_clayOf) ∈ wsAll := wsAll_of 4 (by decide +kernel) rfl
theorem S_X1_makerAt : Cond.selects (mdY mX1_makerAt).cls (mdY mX1_makerAt) (mdY mX1_makerAt) ∈ wsAll := wsAll_of 5 (by decide +kernel) rfl
theorem S_X1_unloadFired : Cond.selects (mdY mX1_unloadFired).cls (mdY mX1_unloadFired) (mdY mX1_unloadFired) ∈ wsAll := wsAll_of 7 (by decide +kernel) rfl
theorem S_X1_addWhole : Cond.selects (mdY mX1_addWhole).cls (mdY mX1_addWhole) (mdY mX1_addWhole) ∈ wsAll := wsAll_of 8 (by decide +kernel) rfl
theorem S_X1_passDay : Cond.selects (mdY mX1_passDay).cls (mdY mX1_passDay) (mdY mX1_passDay) ∈ wsAll := wsAll_of 9 (by decide +kernel) rfl
theorem S_X1_letWork : Cond.selects (mdY mX1_letWork).cls (mdY mX1_letWork) (mdY mX1_letWork) ∈ wsAll := wsAll_of 10 (by decide +kernel) rfl
theorem S_X1_layOnBoards : Cond.selects (mdY mX1_layOnBoards).cls (mdY mX1_layOnBoards) (mdY mX1_layOnBoards) ∈ wsAll := wsAll_of 11 (by decide +kernel) rfl
theorem S_X1_wearMould : Cond.selects (mdY mX1_wearMould).cls (mdY mX1_wearMould) (mdY mX1_wearMould) ∈ wsAll := wsAll_of 12 (by decide +kernel) rfl
theorem S_X1_lookAtOrders : Cond.selects (mdY mX1_lookAtOrders).cls (mdY mX1_lookAtOrders) (mdY mX1_lookAtOrders) ∈ wsAll := wsAll_of 13 (by decide +kernel) rfl
theorem S_X1_lookAtOrder : Cond.selects (mdY mX1_lookAtOrder).cls (mdY mX1_lookAtOrder) (mdY mX1_lookAtOrder) ∈ wsAll := wsAll_of 14 (by decide +kernel) rfl
theorem S_X1_dismiss : Cond.selects (mdY mX1_dismiss).cls (mdY mX1_dismiss) (mdY mX1_dismiss) ∈ wsAll := wsAll_of 15 (by decide +kernel) rfl
theorem S_X4_no : Cond.selects (mdY mX4_no).cls (mdY mX4_no) (mdY mX4_no) ∈ wsAll := wsAll_of 16 (by decide +kernel) rfl
theorem S_X4_isMould : Cond.selects (mdY mX4_isMould).cls (mdY mX4_isMould) (mdY mX4_isMould) ∈ wsAll := wsAll_of 17 (by decide +kernel) rfl
theorem S_X4_isMaker : Cond.selects (mdY mX4_isMaker).cls (mdY mX4_isMaker) (mdY mX4_isMaker) ∈ wsAll := wsAll_of 18 (by decide +kernel) rfl
theorem S_X4_makerAt : Cond.selects (mdY mX4_makerAt).cls (mdY mX4_makerAt) (mdY mX4_makerAt) ∈ wsAll := wsAll_of 19 (by decide +kernel) rfl
theorem S_X4_isBatch : Cond.selects (mdY mX4_isBatch).cls (mdY mX4_isBatch) (mdY mX4_isBatch) ∈ wsAll := wsAll_of 20 (by decide +kernel) rfl
theorem S_X3_put : Cond.selects (mdY mX3_put).cls (mdY mX3_put) (mdY mX3_put) ∈ wsAll := wsAll_of 21 (by decide +kernel) rfl
theorem S_X3_pipes : Cond.selects (mdY mX3_pipes).cls (mdY mX3_pipes) (mdY mX3_pipes) ∈ wsAll := wsAll_of 22 (by decide +kernel) rfl
theorem S_X4_mouldTold : Cond.selects (mdY mX4_mouldTold).cls (mdY mX4_mouldTold) (mdY mX4_mouldTold) ∈ wsAll := wsAll_of 23 (by decide +kernel) rfl
theorem S_X4_clayOf : Cond.selects (mdY mX4_clayOf).cls (mdY mX4_clayOf) (mdY mX4_clayOf) ∈ wsAll := wsAll_of 24 (by decide +kernel) rfl
theorem S_X4_makerTold : Cond.selects (mdY mX4_makerTold).cls (mdY mX4_makerTold) (mdY mX4_makerTold) ∈ wsAll := wsAll_of 25 (by decide +kernel) rfl
theorem S_X4_isWaiting : Cond.selects (mdY mX4_isWaiting).cls (mdY mX4_isWaiting) (mdY mX4_isWaiting) ∈ wsAll := wsAll_of 26 (by decide +kernel) rfl
theorem S_X3_stored : Cond.selects (mdY mX3_stored).cls (mdY mX3_stored) (mdY mX3_stored) ∈ wsAll := wsAll_of 27 (by decide +kernel) rfl
theorem S_X3_make : Cond.selects (mdY mX3_make).cls (mdY mX3_make) (mdY mX3_make) ∈ wsAll := wsAll_of 28 (by decide +kernel) rfl
theorem S_X3_serve : Cond.selects (mdY mX3_serve).cls (mdY mX3_serve) (mdY mX3_serve) ∈ wsAll := wsAll_of 29 (by decide +kernel) rfl
theorem NL_8 : NewOk RL 8 2 [.null, .null] := ⟨_, rfl, (wsAll_of 44 (by decide +kernel) rfl), (wsAll_of 45 (by decide +kernel) rfl), (wsAll_of 31 (by decide +kernel) rfl), rfl, by decide +kernel, by decide +kernel⟩
theorem LL_79 : Cond.methodLink RL 79 yX2_init ∈ wsAll := wsAll_of 46 (by decide +kernel) rfl
theorem LX2_1 : Cond.methodLink RX2 1 Lib.objectInit ∈ wsAll := wsAll_of 49 (by decide +kernel) rfl
theorem NX2_7 : NewOk RX2 7 1 [.null, .null, .null, .null, .null, .null, .null, .int 0, .int 0, .int 0, .int 0, .int 0, .int 0, .int 0, .int 0, .int 0, .int 0] := ⟨_, rfl, (wsAll_of 52 (by decide +kernel) rfl), (wsAll_of 53 (by decide +kernel) rfl), (wsAll_of 32 (by decide +kernel) rfl), rfl, by decide +kernel, by decide +kernel⟩
theorem LX2_9 : Cond.methodLink RX2 9 yX1_init ∈ wsAll := wsAll_of 54 (by decide +kernel) rfl
theorem LX1_3 : Cond.methodLink RX1 3 Lib.objectInit ∈ wsAll := wsAll_of 57 (by decide +kernel) rfl
theorem NX1_9 : NewOk RX1 9 0 [.null, .int 0, .int 0] := ⟨_, rfl, (wsAll_of 58 (by decide +kernel) rfl), (wsAll_of 59 (by decide +kernel) rfl), (wsAll_of 33 (by decide +kernel) rfl), rfl, by decide +kernel, by decide +kernel⟩
theorem LX1_11 : Cond.methodLink RX1 11 yX0_init ∈ wsAll := wsAll_of 60 (by decide +kernel) rfl
theorem LX0_3 : Cond.methodLink RX0 3 Lib.objectInit ∈ wsAll := wsAll_of 63 (by decide +kernel) rfl
theorem FX0_9 : FG RX0 9 0 0 := ⟨_, rfl, by decide, Or.inl (wsAll_of 64 (by decide +kernel) rfl)⟩
theorem UX0_9 : FPu RX0 9 0 0 true (.array .int) := ⟨_, rfl, by decide, Or.inl (wsAll_of 64 (by decide +kernel) rfl), rfl, fun _ => rfl, by decide +kernel⟩
theorem FX0_15 : FG RX0 15 0 1 := ⟨_, rfl, by decide, Or.inl (wsAll_of 65 (by decide +kernel) rfl)⟩
theorem UX0_15 : FPu RX0 15 0 1 true .int := ⟨_, rfl, by decide, Or.inl (wsAll_of 65 (by decide +kernel) rfl), rfl, fun _ => rfl, by decide +kernel⟩
theorem FX0_19 : FG RX0 19 0 2 := ⟨_, rfl, by decide, Or.inl (wsAll_of 66 (by decide +kernel) rfl)⟩
theorem UX0_19 : FPu RX0 19 0 2 false .int := ⟨_, rfl, by decide, Or.inl (wsAll_of 66 (by decide +kernel) rfl), rfl, fun q => (by cases q), by decide +kernel⟩
theorem FX1_14 : FG RX1 14 1 0 := ⟨_, rfl, by decide, Or.inl (wsAll_of 75 (by decide +kernel) rfl)⟩
theorem UX1_14 : FPu RX1 14 1 0 true (.object "PipeMoulds$Table") := ⟨_, rfl, by decide, Or.inl (wsAll_of 75 (by decide +kernel) rfl), rfl, fun _ => rfl, by decide +kernel⟩
theorem FX2_31 : FG RX2 31 1 0 := ⟨_, rfl, by decide, Or.inr ⟨"PipeMoulds", List.mem_filter.mpr ⟨List.mem_of_getElem? (i := 76) (by decide +kernel), rfl⟩⟩⟩
theorem FX1_20 : FG RX1 20 1 1 := ⟨_, rfl, by decide, Or.inl (wsAll_of 77 (by decide +kernel) rfl)⟩
theorem UX1_20 : FPu RX1 20 1 1 true (.object "PipeMoulds$Table") := ⟨_, rfl, by decide, Or.inl (wsAll_of 77 (by decide +kernel) rfl), rfl, fun _ => rfl, by decide +kernel⟩
theorem FX2_69 : FG RX2 69 1 1 := ⟨_, rfl, by decide, Or.inr ⟨"PipeMoulds", List.mem_filter.mpr ⟨List.mem_of_getElem? (i := 78) (by decide +kernel), rfl⟩⟩⟩
theorem FX1_23 : FG RX1 23 1 2 := ⟨_, rfl, by decide, Or.inl (wsAll_of 79 (by decide +kernel) rfl)⟩
theorem UX1_23 : FPu RX1 23 1 2 true (.object "PipeMoulds$Table") := ⟨_, rfl, by decide, Or.inl (wsAll_of 79 (by decide +kernel) rfl), rfl, fun _ => rfl, by decide +kernel⟩
theorem FX2_93 : FG RX2 93 1 2 := ⟨_, rfl, by decide, Or.inr ⟨"PipeMoulds", List.mem_filter.mpr ⟨List.mem_of_getElem? (i := 80) (by decide +kernel), rfl⟩⟩⟩
theorem FX1_26 : FG RX1 26 1 3 := ⟨_, rfl, by decide, Or.inl (wsAll_of 81 (by decide +kernel) rfl)⟩
theorem UX1_26 : FPu RX1 26 1 3 true (.object "PipeMoulds$Table") := ⟨_, rfl, by decide, Or.inl (wsAll_of 81 (by decide +kernel) rfl), rfl, fun _ => rfl, by decide +kernel⟩
theorem FX2_96 : FG RX2 96 1 3 := ⟨_, rfl, by decide, Or.inr ⟨"PipeMoulds", List.mem_filter.mpr ⟨List.mem_of_getElem? (i := 82) (by decide +kernel), rfl⟩⟩⟩
theorem FX1_29 : FG RX1 29 1 4 := ⟨_, rfl, by decide, Or.inl (wsAll_of 83 (by decide +kernel) rfl)⟩
theorem UX1_29 : FPu RX1 29 1 4 true (.object "PipeMoulds$Table") := ⟨_, rfl, by decide, Or.inl (wsAll_of 83 (by decide +kernel) rfl), rfl, fun _ => rfl, by decide +kernel⟩
theorem FX2_112 : FG RX2 112 1 4 := ⟨_, rfl, by decide, Or.inr ⟨"PipeMoulds", List.mem_filter.mpr ⟨List.mem_of_getElem? (i := 84) (by decide +kernel), rfl⟩⟩⟩
theorem FX1_32 : FG RX1 32 1 5 := ⟨_, rfl, by decide, Or.inl (wsAll_of 85 (by decide +kernel) rfl)⟩
theorem UX1_32 : FPu RX1 32 1 5 true (.array .int) := ⟨_, rfl, by decide, Or.inl (wsAll_of 85 (by decide +kernel) rfl), rfl, fun _ => rfl, by decide +kernel⟩
theorem FX1_36 : FG RX1 36 1 6 := ⟨_, rfl, by decide, Or.inl (wsAll_of 86 (by decide +kernel) rfl)⟩
theorem UX1_36 : FPu RX1 36 1 6 true (.array .int) := ⟨_, rfl, by decide, Or.inl (wsAll_of 86 (by decide +kernel) rfl), rfl, fun _ => rfl, by decide +kernel⟩
theorem FX1_62 : FG RX1 62 1 7 := ⟨_, rfl, by decide, Or.inl (wsAll_of 87 (by decide +kernel) rfl)⟩
theorem UX1_62 : FPu RX1 62 1 7 false .int := ⟨_, rfl, by decide, Or.inl (wsAll_of 87 (by decide +kernel) rfl), rfl, fun q => (by cases q), by decide +kernel⟩
theorem FX1_39 : FG RX1 39 1 8 := ⟨_, rfl, by decide, Or.inl (wsAll_of 88 (by decide +kernel) rfl)⟩
theorem UX1_39 : FPu RX1 39 1 8 false .int := ⟨_, rfl, by decide, Or.inl (wsAll_of 88 (by decide +kernel) rfl), rfl, fun q => (by cases q), by decide +kernel⟩
theorem FX1_43 : FG RX1 43 1 9 := ⟨_, rfl, by decide, Or.inl (wsAll_of 89 (by decide +kernel) rfl)⟩
theorem UX1_43 : FPu RX1 43 1 9 false .int := ⟨_, rfl, by decide, Or.inl (wsAll_of 89 (by decide +kernel) rfl), rfl, fun q => (by cases q), by decide +kernel⟩
theorem FX2_103 : FG RX2 103 1 9 := ⟨_, rfl, by decide, Or.inr ⟨"PipeMoulds", List.mem_filter.mpr ⟨List.mem_of_getElem? (i := 90) (by decide +kernel), rfl⟩⟩⟩
theorem UX2_103 : FPu RX2 103 1 9 false .int := ⟨_, rfl, by decide, Or.inr ⟨rfl, "PipeMoulds", List.mem_filter.mpr ⟨List.mem_of_getElem? (i := 90) (by decide +kernel), rfl⟩⟩, rfl, fun q => (by cases q), by decide +kernel⟩
theorem FX1_46 : FG RX1 46 1 10 := ⟨_, rfl, by decide, Or.inl (wsAll_of 91 (by decide +kernel) rfl)⟩
theorem UX1_46 : FPu RX1 46 1 10 false .int := ⟨_, rfl, by decide, Or.inl (wsAll_of 91 (by decide +kernel) rfl), rfl, fun q => (by cases q), by decide +kernel⟩
theorem FX2_57 : FG RX2 57 1 10 := ⟨_, rfl, by decide, Or.inr ⟨"PipeMoulds", List.mem_filter.mpr ⟨List.mem_of_getElem? (i := 92) (by decide +kernel), rfl⟩⟩⟩
theorem UX2_57 : FPu RX2 57 1 10 false .int := ⟨_, rfl, by decide, Or.inr ⟨rfl, "PipeMoulds", List.mem_filter.mpr ⟨List.mem_of_getElem? (i := 92) (by decide +kernel), rfl⟩⟩, rfl, fun q => (by cases q), by decide +kernel⟩
theorem FX1_65 : FG RX1 65 1 11 := ⟨_, rfl, by decide, Or.inl (wsAll_of 93 (by decide +kernel) rfl)⟩
theorem UX1_65 : FPu RX1 65 1 11 false .int := ⟨_, rfl, by decide, Or.inl (wsAll_of 93 (by decide +kernel) rfl), rfl, fun q => (by cases q), by decide +kernel⟩
theorem FX2_132 : FG RX2 132 1 11 := ⟨_, rfl, by decide, Or.inr ⟨"PipeMoulds", List.mem_filter.mpr ⟨List.mem_of_getElem? (i := 94) (by decide +kernel), rfl⟩⟩⟩
theorem UX2_132 : FPu RX2 132 1 11 false .int := ⟨_, rfl, by decide, Or.inr ⟨rfl, "PipeMoulds", List.mem_filter.mpr ⟨List.mem_of_getElem? (i := 94) (by decide +kernel), rfl⟩⟩, rfl, fun q => (by cases q), by decide +kernel⟩
theorem FX1_68 : FG RX1 68 1 12 := ⟨_, rfl, by decide, Or.inl (wsAll_of 95 (by decide +kernel) rfl)⟩
theorem UX1_68 : FPu RX1 68 1 12 false .int := ⟨_, rfl, by decide, Or.inl (wsAll_of 95 (by decide +kernel) rfl), rfl, fun q => (by cases q), by decide +kernel⟩
theorem FX1_71 : FG RX1 71 1 13 := ⟨_, rfl, by decide, Or.inl (wsAll_of 96 (by decide +kernel) rfl)⟩
theorem UX1_71 : FPu RX1 71 1 13 false .int := ⟨_, rfl, by decide, Or.inl (wsAll_of 96 (by decide +kernel) rfl), rfl, fun q => (by cases q), by decide +kernel⟩
theorem FX1_74 : FG RX1 74 1 14 := ⟨_, rfl, by decide, Or.inl (wsAll_of 97 (by decide +kernel) rfl)⟩
theorem UX1_74 : FPu RX1 74 1 14 false .int := ⟨_, rfl, by decide, Or.inl (wsAll_of 97 (by decide +kernel) rfl), rfl, fun q => (by cases q), by decide +kernel⟩
theorem FX1_49 : FG RX1 49 1 15 := ⟨_, rfl, by decide, Or.inl (wsAll_of 98 (by decide +kernel) rfl)⟩
theorem UX1_49 : FPu RX1 49 1 15 false .int := ⟨_, rfl, by decide, Or.inl (wsAll_of 98 (by decide +kernel) rfl), rfl, fun q => (by cases q), by decide +kernel⟩
theorem FX1_77 : FG RX1 77 1 16 := ⟨_, rfl, by decide, Or.inl (wsAll_of 99 (by decide +kernel) rfl)⟩
theorem UX1_77 : FPu RX1 77 1 16 false .boolean := ⟨_, rfl, by decide, Or.inl (wsAll_of 99 (by decide +kernel) rfl), rfl, fun q => (by cases q), by decide +kernel⟩
theorem FX2_10 : FG RX2 10 2 0 := ⟨_, rfl, by decide, Or.inl (wsAll_of 135 (by decide +kernel) rfl)⟩
theorem UX2_10 : FPu RX2 10 2 0 true (.object "PipeMoulds$Works") := ⟨_, rfl, by decide, Or.inl (wsAll_of 135 (by decide +kernel) rfl), rfl, fun _ => rfl, by decide +kernel⟩
theorem FX2_16 : FG RX2 16 2 1 := ⟨_, rfl, by decide, Or.inl (wsAll_of 136 (by decide +kernel) rfl)⟩
theorem UX2_16 : FPu RX2 16 2 1 true (.object "PipeMoulds$Works") := ⟨_, rfl, by decide, Or.inl (wsAll_of 136 (by decide +kernel) rfl), rfl, fun _ => rfl, by decide +kernel⟩
theorem LL_147 : Cond.methodLink RL 147 yX2_advise ∈ wsAll := wsAll_of 142 (by decide +kernel) rfl
theorem LX2_106 : Cond.methodLink RX2 106 yX1_areSaggarsEmpty ∈ wsAll := wsAll_of 146 (by decide +kernel) rfl
theorem LX1_109 : Cond.methodLink RX1 109 yX0_sum ∈ wsAll := wsAll_of 150 (by decide +kernel) rfl
theorem LX0_38 : Cond.methodLink RX0 38 yX0_at ∈ wsAll := wsAll_of 154 (by decide +kernel) rfl
theorem LX2_141 : Cond.methodLink RX2 141 yX1_bestCoals ∈ wsAll := wsAll_of 158 (by decide +kernel) rfl
theorem LX1_130 : Cond.methodLink RX1 130 yX1_stemsThatBreakInAll ∈ wsAll := wsAll_of 162 (by decide +kernel) rfl
theorem LX1_127 : Cond.methodLink RX1 127 yX1_stemsThatBreak ∈ wsAll := wsAll_of 166 (by decide +kernel) rfl
theorem LX1_96 : Cond.methodLink RX1 96 yX0_at ∈ wsAll := wsAll_of 170 (by decide +kernel) rfl
theorem LX1_119 : Cond.methodLink RX1 119 Lib.Math.abs.name ∈ wsAll := wsAll_of 171 (by decide +kernel) rfl
theorem LX1_124 : Cond.methodLink RX1 124 Lib.Math.min.name ∈ wsAll := wsAll_of 174 (by decide +kernel) rfl
theorem LL_157 : Cond.methodLink RL 157 yX2_mean ∈ wsAll := wsAll_of 177 (by decide +kernel) rfl
theorem LX2_152 : Cond.methodLink RX2 152 yX1_meanFlaw ∈ wsAll := wsAll_of 181 (by decide +kernel) rfl
theorem LX1_89 : Cond.methodLink RX1 89 yX0_size ∈ wsAll := wsAll_of 185 (by decide +kernel) rfl
theorem LL_162 : Cond.methodLink RL 162 yX2_digest ∈ wsAll := wsAll_of 189 (by decide +kernel) rfl
theorem LX2_156 : Cond.methodLink RX2 156 yX1_checksum ∈ wsAll := wsAll_of 193 (by decide +kernel) rfl
theorem CX1_183 : Cond.constantLong RX1 183 1423 ∈ wsAll := wsAll_of 197 (by decide +kernel) rfl
theorem CX1_185 : Cond.constantLong RX1 185 31 ∈ wsAll := wsAll_of 198 (by decide +kernel) rfl
theorem LX1_187 : Cond.methodLink RX1 187 yX1_counted ∈ wsAll := wsAll_of 199 (by decide +kernel) rfl
theorem LX1_112 : Cond.methodLink RX1 112 yX1_wholeInAll ∈ wsAll := wsAll_of 203 (by decide +kernel) rfl
theorem LX1_92 : Cond.methodLink RX1 92 yX1_wholeOf ∈ wsAll := wsAll_of 207 (by decide +kernel) rfl
theorem LX1_149 : Cond.methodLink RX1 149 yX1_driesBy ∈ wsAll := wsAll_of 211 (by decide +kernel) rfl
theorem LX1_190 : Cond.methodLink RX1 190 yX1_withMoulds ∈ wsAll := wsAll_of 215 (by decide +kernel) rfl
theorem LX1_198 : Cond.methodLink RX1 198 yX1_aboutMould ∈ wsAll := wsAll_of 219 (by decide +kernel) rfl
theorem LX1_103 : Cond.methodLink RX1 103 yX1_flawOf ∈ wsAll := wsAll_of 223 (by decide +kernel) rfl
theorem LX1_106 : Cond.methodLink RX1 106 yX1_clayOf ∈ wsAll := wsAll_of 227 (by decide +kernel) rfl
theorem LX1_100 : Cond.methodLink RX1 100 yX1_makerAt ∈ wsAll := wsAll_of 231 (by decide +kernel) rfl
theorem LX1_194 : Cond.methodLink RX1 194 yX1_withTable ∈ wsAll := wsAll_of 235 (by decide +kernel) rfl
theorem LX1_201 : Cond.methodLink RX1 201 yX0_width ∈ wsAll := wsAll_of 238 (by decide +kernel) rfl
theorem LL_83 : Cond.methodLink RL 83 yL_mould ∈ wsAll := wsAll_of 242 (by decide +kernel) rfl
theorem QL_13 : Cond.classLink RL 13 "java/lang/IllegalArgumentException" ∈ wsAll := wsAll_of 245 (by decide +kernel) rfl
theorem QL_15 : Cond.classLink RL 15 "java/lang/IllegalStateException" ∈ wsAll := wsAll_of 246 (by decide +kernel) rfl
theorem LL_7 : Cond.methodLink RL 7 yX2_mould ∈ wsAll := wsAll_of 247 (by decide +kernel) rfl
theorem LX2_19 : Cond.methodLink RX2 19 yX2_isLength ∈ wsAll := wsAll_of 251 (by decide +kernel) rfl
theorem LX2_27 : Cond.methodLink RX2 27 yX2_isWithin ∈ wsAll := wsAll_of 254 (by decide +kernel) rfl
theorem LX2_23 : Cond.methodLink RX2 23 yX2_requireArgument ∈ wsAll := wsAll_of 257 (by decide +kernel) rfl
theorem QX2_170 : Cond.classLink RX2 170 "java/lang/IllegalArgumentException" ∈ wsAll := wsAll_of 260 (by decide +kernel) rfl
theorem LX2_35 : Cond.methodLink RX2 35 yX0_isFull ∈ wsAll := wsAll_of 328 (by decide +kernel) rfl
theorem LX2_41 : Cond.methodLink RX2 41 yX2_requireState ∈ wsAll := wsAll_of 332 (by decide +kernel) rfl
theorem QX2_175 : Cond.classLink RX2 175 "java/lang/IllegalStateException" ∈ wsAll := wsAll_of 335 (by decide +kernel) rfl
theorem LX2_44 : Cond.methodLink RX2 44 yX1_addMould ∈ wsAll := wsAll_of 351 (by decide +kernel) rfl
theorem LX1_81 : Cond.methodLink RX1 81 yX0_addRow ∈ wsAll := wsAll_of 355 (by decide +kernel) rfl
theorem LX0_34 : Cond.methodLink RX0 34 yX0_isFull ∈ wsAll := wsAll_of 359 (by decide +kernel) rfl
theorem LX1_85 : Cond.methodLink RX1 85 yX0_put ∈ wsAll := wsAll_of 360 (by decide +kernel) rfl
theorem LL_93 : Cond.methodLink RL 93 yL_refit ∈ wsAll := wsAll_of 364 (by decide +kernel) rfl
theorem QL_21 : Cond.classLink RL 21 "java/lang/IndexOutOfBoundsException" ∈ wsAll := wsAll_of 367 (by decide +kernel) rfl
theorem LL_17 : Cond.methodLink RL 17 yX2_refit ∈ wsAll := wsAll_of 368 (by decide +kernel) rfl
theorem LX2_48 : Cond.methodLink RX2 48 yX0_hasRow ∈ wsAll := wsAll_of 372 (by decide +kernel) rfl
theorem LX2_51 : Cond.methodLink RX2 51 yX2_requireIndex ∈ wsAll := wsAll_of 376 (by decide +kernel) rfl
theorem QX2_163 : Cond.classLink RX2 163 "java/lang/IndexOutOfBoundsException" ∈ wsAll := wsAll_of 379 (by decide +kernel) rfl
theorem LX2_54 : Cond.methodLink RX2 54 yX0_at ∈ wsAll := wsAll_of 395 (by decide +kernel) rfl
theorem LX2_61 : Cond.methodLink RX2 61 yX1_pay ∈ wsAll := wsAll_of 396 (by decide +kernel) rfl
theorem LX2_65 : Cond.methodLink RX2 65 yX0_put ∈ wsAll := wsAll_of 400 (by decide +kernel) rfl
theorem LL_97 : Cond.methodLink RL 97 yL_maker ∈ wsAll := wsAll_of 401 (by decide +kernel) rfl
theorem LL_23 : Cond.methodLink RL 23 yX2_maker ∈ wsAll := wsAll_of 404 (by decide +kernel) rfl
theorem LX2_72 : Cond.methodLink RX2 72 yX1_addMaker ∈ wsAll := wsAll_of 408 (by decide +kernel) rfl
theorem LL_100 : Cond.methodLink RL 100 yL_place ∈ wsAll := wsAll_of 412 (by decide +kernel) rfl
theorem LL_26 : Cond.methodLink RL 26 yX2_place ∈ wsAll := wsAll_of 415 (by decide +kernel) rfl
theorem LX2_76 : Cond.methodLink RX2 76 yX1_isAnotherAt ∈ wsAll := wsAll_of 419 (by decide +kernel) rfl
theorem LL_103 : Cond.methodLink RL 103 yL_buy ∈ wsAll := wsAll_of 423 (by decide +kernel) rfl
theorem LL_29 : Cond.methodLink RL 29 yX2_buy ∈ wsAll := wsAll_of 426 (by decide +kernel) rfl
theorem LX2_80 : Cond.methodLink RX2 80 yX1_addClay ∈ wsAll := wsAll_of 430 (by decide +kernel) rfl
theorem LX2_83 : Cond.methodLink RX2 83 yX1_addCoals ∈ wsAll := wsAll_of 434 (by decide +kernel) rfl
theorem LL_106 : Cond.methodLink RL 106 yL_setDry ∈ wsAll := wsAll_of 438 (by decide +kernel) rfl
theorem LL_32 : Cond.methodLink RL 32 yX2_setDry ∈ wsAll := wsAll_of 441 (by decide +kernel) rfl
theorem LX2_86 : Cond.methodLink RX2 86 yX1_driesBy ∈ wsAll := wsAll_of 445 (by decide +kernel) rfl
theorem LX2_89 : Cond.methodLink RX2 89 yX1_setDrying ∈ wsAll := wsAll_of 446 (by decide +kernel) rfl
theorem LL_109 : Cond.methodLink RL 109 yL_pack ∈ wsAll := wsAll_of 450 (by decide +kernel) rfl
theorem LL_35 : Cond.methodLink RL 35 yX2_pack ∈ wsAll := wsAll_of 453 (by decide +kernel) rfl
theorem LX2_99 : Cond.methodLink RX2 99 yX1_packPipes ∈ wsAll := wsAll_of 457 (by decide +kernel) rfl
theorem LX1_115 : Cond.methodLink RX1 115 yX0_removeRow ∈ wsAll := wsAll_of 461 (by decide +kernel) rfl
theorem LX0_22 : Cond.methodLink RX0 22 Lib.Math.min.name ∈ wsAll := wsAll_of 465 (by decide +kernel) rfl
theorem LL_113 : Cond.methodLink RL 113 yL_fire ∈ wsAll := wsAll_of 466 (by decide +kernel) rfl
theorem LL_39 : Cond.methodLink RL 39 yX2_fire ∈ wsAll := wsAll_of 469 (by decide +kernel) rfl
theorem LX2_109 : Cond.methodLink RX2 109 yX1_fireKiln ∈ wsAll := wsAll_of 473 (by decide +kernel) rfl
theorem LX1_133 : Cond.methodLink RX1 133 yX1_unloadFired ∈ wsAll := wsAll_of 477 (by decide +kernel) rfl
theorem LX1_136 : Cond.methodLink RX1 136 yX1_addWhole ∈ wsAll := wsAll_of 481 (by decide +kernel) rfl
theorem LL_116 : Cond.methodLink RL 116 yL_order ∈ wsAll := wsAll_of 485 (by decide +kernel) rfl
theorem LL_42 : Cond.methodLink RL 42 yX2_order ∈ wsAll := wsAll_of 488 (by decide +kernel) rfl
theorem LX2_115 : Cond.methodLink RX2 115 yX1_addOrder ∈ wsAll := wsAll_of 492 (by decide +kernel) rfl
theorem LL_120 : Cond.methodLink RL 120 yL_about ∈ wsAll := wsAll_of 496 (by decide +kernel) rfl
theorem LL_46 : Cond.methodLink RL 46 yX2_about ∈ wsAll := wsAll_of 499 (by decide +kernel) rfl
theorem LX2_119 : Cond.methodLink RX2 119 yX1_aboutMould ∈ wsAll := wsAll_of 503 (by decide +kernel) rfl
theorem LL_123 : Cond.methodLink RL 123 yL_told ∈ wsAll := wsAll_of 504 (by decide +kernel) rfl
theorem LL_49 : Cond.methodLink RL 49 yX2_told ∈ wsAll := wsAll_of 507 (by decide +kernel) rfl
theorem LX2_122 : Cond.methodLink RX2 122 yX2_cellOf ∈ wsAll := wsAll_of 511 (by decide +kernel) rfl
theorem LX2_160 : Cond.methodLink RX2 160 yX0_hasColumn ∈ wsAll := wsAll_of 514 (by decide +kernel) rfl
theorem LL_126 : Cond.methodLink RL 126 yL_batch ∈ wsAll := wsAll_of 518 (by decide +kernel) rfl
theorem LL_52 : Cond.methodLink RL 52 yX2_batch ∈ wsAll := wsAll_of 521 (by decide +kernel) rfl
theorem LL_129 : Cond.methodLink RL 129 yL_saggar ∈ wsAll := wsAll_of 525 (by decide +kernel) rfl
theorem LL_55 : Cond.methodLink RL 55 yX2_saggar ∈ wsAll := wsAll_of 528 (by decide +kernel) rfl
theorem LL_132 : Cond.methodLink RL 132 yL_store ∈ wsAll := wsAll_of 532 (by decide +kernel) rfl
theorem LL_58 : Cond.methodLink RL 58 yX2_store ∈ wsAll := wsAll_of 535 (by decide +kernel) rfl
theorem LX2_126 : Cond.methodLink RX2 126 yX1_wholeOf ∈ wsAll := wsAll_of 539 (by decide +kernel) rfl
theorem LL_135 : Cond.methodLink RL 135 yL_waits ∈ wsAll := wsAll_of 540 (by decide +kernel) rfl
theorem LL_61 : Cond.methodLink RL 61 yX2_waits ∈ wsAll := wsAll_of 543 (by decide +kernel) rfl
theorem LL_138 : Cond.methodLink RL 138 yL_count ∈ wsAll := wsAll_of 547 (by decide +kernel) rfl
theorem LL_64 : Cond.methodLink RL 64 yX2_count ∈ wsAll := wsAll_of 550 (by decide +kernel) rfl
theorem LX2_129 : Cond.methodLink RX2 129 yX1_counted ∈ wsAll := wsAll_of 554 (by decide +kernel) rfl
theorem LL_141 : Cond.methodLink RL 141 yL_pass ∈ wsAll := wsAll_of 555 (by decide +kernel) rfl
theorem LL_67 : Cond.methodLink RL 67 yX2_pass ∈ wsAll := wsAll_of 558 (by decide +kernel) rfl
theorem LX2_135 : Cond.methodLink RX2 135 yX1_passDays ∈ wsAll := wsAll_of 562 (by decide +kernel) rfl
theorem LX1_140 : Cond.methodLink RX1 140 yX1_passDay ∈ wsAll := wsAll_of 566 (by decide +kernel) rfl
theorem LX1_143 : Cond.methodLink RX1 143 yX1_letWork ∈ wsAll := wsAll_of 570 (by decide +kernel) rfl
theorem LX1_159 : Cond.methodLink RX1 159 yX0_hasRow ∈ wsAll := wsAll_of 574 (by decide +kernel) rfl
theorem LX1_163 : Cond.methodLink RX1 163 yX0_isFull ∈ wsAll := wsAll_of 575 (by decide +kernel) rfl
theorem LX1_167 : Cond.methodLink RX1 167 Lib.Math.max.name ∈ wsAll := wsAll_of 576 (by decide +kernel) rfl
theorem LX1_170 : Cond.methodLink RX1 170 yX1_layOnBoards ∈ wsAll := wsAll_of 579 (by decide +kernel) rfl
theorem LX1_173 : Cond.methodLink RX1 173 yX1_wearMould ∈ wsAll := wsAll_of 583 (by decide +kernel) rfl
theorem LX1_146 : Cond.methodLink RX1 146 yM_floorMod ∈ wsAll := wsAll_of 587 (by decide +kernel) rfl
theorem LX1_152 : Cond.methodLink RX1 152 yX1_dry ∈ wsAll := wsAll_of 590 (by decide +kernel) rfl
theorem LX1_156 : Cond.methodLink RX1 156 yX1_lookAtOrders ∈ wsAll := wsAll_of 593 (by decide +kernel) rfl
theorem LX1_176 : Cond.methodLink RX1 176 yX1_lookAtOrder ∈ wsAll := wsAll_of 597 (by decide +kernel) rfl
theorem LX1_179 : Cond.methodLink RX1 179 yX1_dismiss ∈ wsAll := wsAll_of 601 (by decide +kernel) rfl
theorem LL_144 : Cond.methodLink RL 144 yL_breaks ∈ wsAll := wsAll_of 605 (by decide +kernel) rfl
theorem LL_70 : Cond.methodLink RL 70 yX2_breaks ∈ wsAll := wsAll_of 608 (by decide +kernel) rfl
theorem LX2_138 : Cond.methodLink RX2 138 yX1_stemsThatBreak ∈ wsAll := wsAll_of 612 (by decide +kernel) rfl
theorem LL_151 : Cond.methodLink RL 151 yL_ready ∈ wsAll := wsAll_of 613 (by decide +kernel) rfl
theorem LL_73 : Cond.methodLink RL 73 yX2_ready ∈ wsAll := wsAll_of 616 (by decide +kernel) rfl
theorem LX2_145 : Cond.methodLink RX2 145 yX1_copyFrom ∈ wsAll := wsAll_of 620 (by decide +kernel) rfl
theorem LX1_52 : Cond.methodLink RX1 52 yX0_copyFrom ∈ wsAll := wsAll_of 624 (by decide +kernel) rfl
theorem LX0_28 : Cond.methodLink RX0 28 arraycopyName ∈ wsAll := wsAll_of 628 (by decide +kernel) rfl
theorem LX1_56 : Cond.methodLink RX1 56 arraycopyName ∈ wsAll := wsAll_of 631 (by decide +kernel) rfl
theorem LX2_149 : Cond.methodLink RX2 149 yX1_daysTillServed ∈ wsAll := wsAll_of 632 (by decide +kernel) rfl
theorem LL_154 : Cond.methodLink RL 154 yL_foresee ∈ wsAll := wsAll_of 636 (by decide +kernel) rfl
theorem LL_76 : Cond.methodLink RL 76 yX2_foresee ∈ wsAll := wsAll_of 639 (by decide +kernel) rfl
theorem NL_80 : NewOk RL 80 4 [.int 0, .null, .int 0, .null, .int 0, .null, .null, .null, .null] := ⟨_, rfl, (wsAll_of 643 (by decide +kernel) rfl), (wsAll_of 644 (by decide +kernel) rfl), (wsAll_of 34 (by decide +kernel) rfl), rfl, by decide +kernel, by decide +kernel⟩
theorem LL_82 : Cond.methodLink RL 82 yX4_init ∈ wsAll := wsAll_of 645 (by decide +kernel) rfl
theorem LX4_1 : Cond.methodLink RX4 1 Lib.objectInit ∈ wsAll := wsAll_of 648 (by decide +kernel) rfl
theorem NX4_22 : NewOk RX4 22 3 [.int 0, .int 0, .int 0, .int 0, .int 0, .int 0, .int 0, .int 0, .null, .null, .int 0, .null, .null, .int 0, .null, .int 0, .int 0, .null] := ⟨_, rfl, (wsAll_of 649 (by decide +kernel) rfl), (wsAll_of 650 (by decide +kernel) rfl), (wsAll_of 35 (by decide +kernel) rfl), rfl, by decide +kernel, by decide +kernel⟩
theorem LX4_24 : Cond.methodLinkNest RX4 24 yX3_init "PipeMouldsModel" ∈ nestW := List.mem_filter.mpr ⟨List.mem_of_getElem? (i := 651) (by decide +kernel), rfl⟩
theorem LX3_9 : Cond.methodLink RX3 9 Lib.objectInit ∈ wsAll := wsAll_of 654 (by decide +kernel) rfl
theorem QX3_32 : Cond.classLink RX3 32 "[[I" ∈ wsAll := wsAll_of 655 (by decide +kernel) rfl
theorem FX3_46 : FG RX3 46 3 0 := ⟨_, rfl, by decide, Or.inl (wsAll_of 657 (by decide +kernel) rfl)⟩
theorem UX3_46 : FPu RX3 46 3 0 false .int := ⟨_, rfl, by decide, Or.inl (wsAll_of 657 (by decide +kernel) rfl), rfl, fun q => (by cases q), by decide +kernel⟩
theorem FX3_15 : FG RX3 15 3 1 := ⟨_, rfl, by decide, Or.inl (wsAll_of 658 (by decide +kernel) rfl)⟩
theorem UX3_15 : FPu RX3 15 3 1 false .int := ⟨_, rfl, by decide, Or.inl (wsAll_of 658 (by decide +kernel) rfl), rfl, fun q => (by cases q), by decide +kernel⟩
theorem FX4_74 : FG RX4 74 3 1 := ⟨_, rfl, by decide, Or.inr ⟨"PipeMouldsModel", List.mem_filter.mpr ⟨List.mem_of_getElem? (i := 659) (by decide +kernel), rfl⟩⟩⟩
theorem UX4_74 : FPu RX4 74 3 1 false .int := ⟨_, rfl, by decide, Or.inr ⟨rfl, "PipeMouldsModel", List.mem_filter.mpr ⟨List.mem_of_getElem? (i := 659) (by decide +kernel), rfl⟩⟩, rfl, fun q => (by cases q), by decide +kernel⟩
theorem FX3_19 : FG RX3 19 3 2 := ⟨_, rfl, by decide, Or.inl (wsAll_of 660 (by decide +kernel) rfl)⟩
theorem UX3_19 : FPu RX3 19 3 2 false .int := ⟨_, rfl, by decide, Or.inl (wsAll_of 660 (by decide +kernel) rfl), rfl, fun q => (by cases q), by decide +kernel⟩
theorem FX4_77 : FG RX4 77 3 2 := ⟨_, rfl, by decide, Or.inr ⟨"PipeMouldsModel", List.mem_filter.mpr ⟨List.mem_of_getElem? (i := 661) (by decide +kernel), rfl⟩⟩⟩
theorem UX4_77 : FPu RX4 77 3 2 false .int := ⟨_, rfl, by decide, Or.inr ⟨rfl, "PipeMouldsModel", List.mem_filter.mpr ⟨List.mem_of_getElem? (i := 661) (by decide +kernel), rfl⟩⟩, rfl, fun q => (by cases q), by decide +kernel⟩
theorem FX3_22 : FG RX3 22 3 3 := ⟨_, rfl, by decide, Or.inl (wsAll_of 662 (by decide +kernel) rfl)⟩
theorem UX3_22 : FPu RX3 22 3 3 false .int := ⟨_, rfl, by decide, Or.inl (wsAll_of 662 (by decide +kernel) rfl), rfl, fun q => (by cases q), by decide +kernel⟩
theorem FX4_65 : FG RX4 65 3 3 := ⟨_, rfl, by decide, Or.inr ⟨"PipeMouldsModel", List.mem_filter.mpr ⟨List.mem_of_getElem? (i := 663) (by decide +kernel), rfl⟩⟩⟩
theorem UX4_65 : FPu RX4 65 3 3 false .int := ⟨_, rfl, by decide, Or.inr ⟨rfl, "PipeMouldsModel", List.mem_filter.mpr ⟨List.mem_of_getElem? (i := 663) (by decide +kernel), rfl⟩⟩, rfl, fun q => (by cases q), by decide +kernel⟩
theorem FX3_49 : FG RX3 49 3 4 := ⟨_, rfl, by decide, Or.inl (wsAll_of 664 (by decide +kernel) rfl)⟩
theorem UX3_49 : FPu RX3 49 3 4 false .int := ⟨_, rfl, by decide, Or.inl (wsAll_of 664 (by decide +kernel) rfl), rfl, fun q => (by cases q), by decide +kernel⟩
theorem FX4_149 : FG RX4 149 3 4 := ⟨_, rfl, by decide, Or.inr ⟨"PipeMouldsModel", List.mem_filter.mpr ⟨List.mem_of_getElem? (i := 665) (by decide +kernel), rfl⟩⟩⟩
theorem UX4_149 : FPu RX4 149 3 4 false .int := ⟨_, rfl, by decide, Or.inr ⟨rfl, "PipeMouldsModel", List.mem_filter.mpr ⟨List.mem_of_getElem? (i := 665) (by decide +kernel), rfl⟩⟩, rfl, fun q => (by cases q), by decide +kernel⟩
theorem FX3_52 : FG RX3 52 3 5 := ⟨_, rfl, by decide, Or.inl (wsAll_of 666 (by decide +kernel) rfl)⟩
theorem UX3_52 : FPu RX3 52 3 5 false .int := ⟨_, rfl, by decide, Or.inl (wsAll_of 666 (by decide +kernel) rfl), rfl, fun q => (by cases q), by decide +kernel⟩
theorem FX4_110 : FG RX4 110 3 5 := ⟨_, rfl, by decide, Or.inr ⟨"PipeMouldsModel", List.mem_filter.mpr ⟨List.mem_of_getElem? (i := 667) (by decide +kernel), rfl⟩⟩⟩
theorem UX4_110 : FPu RX4 110 3 5 false .int := ⟨_, rfl, by decide, Or.inr ⟨rfl, "PipeMouldsModel", List.mem_filter.mpr ⟨List.mem_of_getElem? (i := 667) (by decide +kernel), rfl⟩⟩, rfl, fun q => (by cases q), by decide +kernel⟩
theorem FX3_55 : FG RX3 55 3 6 := ⟨_, rfl, by decide, Or.inl (wsAll_of 668 (by decide +kernel) rfl)⟩
theorem UX3_55 : FPu RX3 55 3 6 false .int := ⟨_, rfl, by decide, Or.inl (wsAll_of 668 (by decide +kernel) rfl), rfl, fun q => (by cases q), by decide +kernel⟩
theorem FX3_58 : FG RX3 58 3 7 := ⟨_, rfl, by decide, Or.inl (wsAll_of 669 (by decide +kernel) rfl)⟩
theorem UX3_58 : FPu RX3 58 3 7 false .int := ⟨_, rfl, by decide, Or.inl (wsAll_of 669 (by decide +kernel) rfl), rfl, fun q => (by cases q), by decide +kernel⟩
theorem FX3_25 : FG RX3 25 3 8 := ⟨_, rfl, by decide, Or.inl (wsAll_of 670 (by decide +kernel) rfl)⟩
theorem UX3_25 : FPu RX3 25 3 8 true (.array .int) := ⟨_, rfl, by decide, Or.inl (wsAll_of 670 (by decide +kernel) rfl), rfl, fun _ => rfl, by decide +kernel⟩
theorem FX4_59 : FG RX4 59 3 8 := ⟨_, rfl, by decide, Or.inr ⟨"PipeMouldsModel", List.mem_filter.mpr ⟨List.mem_of_getElem? (i := 671) (by decide +kernel), rfl⟩⟩⟩
theorem FX3_29 : FG RX3 29 3 9 := ⟨_, rfl, by decide, Or.inl (wsAll_of 672 (by decide +kernel) rfl)⟩
theorem UX3_29 : FPu RX3 29 3 9 true (.array .int) := ⟨_, rfl, by decide, Or.inl (wsAll_of 672 (by decide +kernel) rfl), rfl, fun _ => rfl, by decide +kernel⟩
theorem FX4_128 : FG RX4 128 3 9 := ⟨_, rfl, by decide, Or.inr ⟨"PipeMouldsModel", List.mem_filter.mpr ⟨List.mem_of_getElem? (i := 673) (by decide +kernel), rfl⟩⟩⟩
theorem FX3_61 : FG RX3 61 3 10 := ⟨_, rfl, by decide, Or.inl (wsAll_of 674 (by decide +kernel) rfl)⟩
theorem UX3_61 : FPu RX3 61 3 10 false .int := ⟨_, rfl, by decide, Or.inl (wsAll_of 674 (by decide +kernel) rfl), rfl, fun q => (by cases q), by decide +kernel⟩
theorem FX4_48 : FG RX4 48 3 10 := ⟨_, rfl, by decide, Or.inr ⟨"PipeMouldsModel", List.mem_filter.mpr ⟨List.mem_of_getElem? (i := 675) (by decide +kernel), rfl⟩⟩⟩
theorem UX4_48 : FPu RX4 48 3 10 false .int := ⟨_, rfl, by decide, Or.inr ⟨rfl, "PipeMouldsModel", List.mem_filter.mpr ⟨List.mem_of_getElem? (i := 675) (by decide +kernel), rfl⟩⟩, rfl, fun q => (by cases q), by decide +kernel⟩
theorem FX3_34 : FG RX3 34 3 11 := ⟨_, rfl, by decide, Or.inl (wsAll_of 676 (by decide +kernel) rfl)⟩
theorem UX3_34 : FPu RX3 34 3 11 true (.array (.array .int)) := ⟨_, rfl, by decide, Or.inl (wsAll_of 676 (by decide +kernel) rfl), rfl, fun _ => rfl, by decide +kernel⟩
theorem FX4_86 : FG RX4 86 3 11 := ⟨_, rfl, by decide, Or.inr ⟨"PipeMouldsModel", List.mem_filter.mpr ⟨List.mem_of_getElem? (i := 677) (by decide +kernel), rfl⟩⟩⟩
theorem FX3_37 : FG RX3 37 3 12 := ⟨_, rfl, by decide, Or.inl (wsAll_of 678 (by decide +kernel) rfl)⟩
theorem UX3_37 : FPu RX3 37 3 12 true (.array .int) := ⟨_, rfl, by decide, Or.inl (wsAll_of 678 (by decide +kernel) rfl), rfl, fun _ => rfl, by decide +kernel⟩
theorem FX4_113 : FG RX4 113 3 12 := ⟨_, rfl, by decide, Or.inr ⟨"PipeMouldsModel", List.mem_filter.mpr ⟨List.mem_of_getElem? (i := 679) (by decide +kernel), rfl⟩⟩⟩
theorem FX3_64 : FG RX3 64 3 13 := ⟨_, rfl, by decide, Or.inl (wsAll_of 680 (by decide +kernel) rfl)⟩
theorem UX3_64 : FPu RX3 64 3 13 false .int := ⟨_, rfl, by decide, Or.inl (wsAll_of 680 (by decide +kernel) rfl), rfl, fun q => (by cases q), by decide +kernel⟩
theorem FX4_116 : FG RX4 116 3 13 := ⟨_, rfl, by decide, Or.inr ⟨"PipeMouldsModel", List.mem_filter.mpr ⟨List.mem_of_getElem? (i := 681) (by decide +kernel), rfl⟩⟩⟩
theorem UX4_116 : FPu RX4 116 3 13 false .int := ⟨_, rfl, by decide, Or.inr ⟨rfl, "PipeMouldsModel", List.mem_filter.mpr ⟨List.mem_of_getElem? (i := 681) (by decide +kernel), rfl⟩⟩, rfl, fun q => (by cases q), by decide +kernel⟩
theorem FX3_40 : FG RX3 40 3 14 := ⟨_, rfl, by decide, Or.inl (wsAll_of 682 (by decide +kernel) rfl)⟩
theorem UX3_40 : FPu RX3 40 3 14 true (.array (.array .int)) := ⟨_, rfl, by decide, Or.inl (wsAll_of 682 (by decide +kernel) rfl), rfl, fun _ => rfl, by decide +kernel⟩
theorem FX4_119 : FG RX4 119 3 14 := ⟨_, rfl, by decide, Or.inr ⟨"PipeMouldsModel", List.mem_filter.mpr ⟨List.mem_of_getElem? (i := 683) (by decide +kernel), rfl⟩⟩⟩
theorem FX3_43 : FG RX3 43 3 15 := ⟨_, rfl, by decide, Or.inl (wsAll_of 684 (by decide +kernel) rfl)⟩
theorem UX3_43 : FPu RX3 43 3 15 false .int := ⟨_, rfl, by decide, Or.inl (wsAll_of 684 (by decide +kernel) rfl), rfl, fun q => (by cases q), by decide +kernel⟩
theorem FX4_162 : FG RX4 162 3 15 := ⟨_, rfl, by decide, Or.inr ⟨"PipeMouldsModel", List.mem_filter.mpr ⟨List.mem_of_getElem? (i := 685) (by decide +kernel), rfl⟩⟩⟩
theorem UX4_162 : FPu RX4 162 3 15 false .int := ⟨_, rfl, by decide, Or.inr ⟨rfl, "PipeMouldsModel", List.mem_filter.mpr ⟨List.mem_of_getElem? (i := 685) (by decide +kernel), rfl⟩⟩, rfl, fun q => (by cases q), by decide +kernel⟩
theorem FX3_67 : FG RX3 67 3 16 := ⟨_, rfl, by decide, Or.inl (wsAll_of 686 (by decide +kernel) rfl)⟩
theorem UX3_67 : FPu RX3 67 3 16 false .int := ⟨_, rfl, by decide, Or.inl (wsAll_of 686 (by decide +kernel) rfl), rfl, fun q => (by cases q), by decide +kernel⟩
theorem FX4_165 : FG RX4 165 3 16 := ⟨_, rfl, by decide, Or.inr ⟨"PipeMouldsModel", List.mem_filter.mpr ⟨List.mem_of_getElem? (i := 687) (by decide +kernel), rfl⟩⟩⟩
theorem UX4_165 : FPu RX4 165 3 16 false .int := ⟨_, rfl, by decide, Or.inr ⟨rfl, "PipeMouldsModel", List.mem_filter.mpr ⟨List.mem_of_getElem? (i := 687) (by decide +kernel), rfl⟩⟩, rfl, fun q => (by cases q), by decide +kernel⟩
theorem FX3_3 : FG RX3 3 3 17 := ⟨_, rfl, by decide, Or.inl (wsAll_of 688 (by decide +kernel) rfl)⟩
theorem UX3_3 : FPu RX3 3 3 17 true (.object "PipeMouldsModel") := ⟨_, rfl, by decide, Or.inl (wsAll_of 688 (by decide +kernel) rfl), rfl, fun _ => rfl, by decide +kernel⟩
theorem FX4_34 : FG RX4 34 4 0 := ⟨_, rfl, by decide, Or.inl (wsAll_of 726 (by decide +kernel) rfl)⟩
theorem UX4_34 : FPu RX4 34 4 0 false .int := ⟨_, rfl, by decide, Or.inl (wsAll_of 726 (by decide +kernel) rfl), rfl, fun q => (by cases q), by decide +kernel⟩
theorem FX4_7 : FG RX4 7 4 1 := ⟨_, rfl, by decide, Or.inl (wsAll_of 727 (by decide +kernel) rfl)⟩
theorem UX4_7 : FPu RX4 7 4 1 true (.array .int) := ⟨_, rfl, by decide, Or.inl (wsAll_of 727 (by decide +kernel) rfl), rfl, fun _ => rfl, by decide +kernel⟩
theorem FX3_112 : FG RX3 112 4 1 := ⟨_, rfl, by decide, Or.inr ⟨"PipeMouldsModel", List.mem_filter.mpr ⟨List.mem_of_getElem? (i := 728) (by decide +kernel), rfl⟩⟩⟩
theorem FX4_42 : FG RX4 42 4 2 := ⟨_, rfl, by decide, Or.inl (wsAll_of 729 (by decide +kernel) rfl)⟩
theorem UX4_42 : FPu RX4 42 4 2 false .int := ⟨_, rfl, by decide, Or.inl (wsAll_of 729 (by decide +kernel) rfl), rfl, fun q => (by cases q), by decide +kernel⟩
theorem FX4_13 : FG RX4 13 4 3 := ⟨_, rfl, by decide, Or.inl (wsAll_of 730 (by decide +kernel) rfl)⟩
theorem UX4_13 : FPu RX4 13 4 3 true (.array .int) := ⟨_, rfl, by decide, Or.inl (wsAll_of 730 (by decide +kernel) rfl), rfl, fun _ => rfl, by decide +kernel⟩
theorem FX3_92 : FG RX3 92 4 3 := ⟨_, rfl, by decide, Or.inr ⟨"PipeMouldsModel", List.mem_filter.mpr ⟨List.mem_of_getElem? (i := 731) (by decide +kernel), rfl⟩⟩⟩
theorem FX4_45 : FG RX4 45 4 4 := ⟨_, rfl, by decide, Or.inl (wsAll_of 732 (by decide +kernel) rfl)⟩
theorem UX4_45 : FPu RX4 45 4 4 false .int := ⟨_, rfl, by decide, Or.inl (wsAll_of 732 (by decide +kernel) rfl), rfl, fun q => (by cases q), by decide +kernel⟩
theorem FX3_105 : FG RX3 105 4 4 := ⟨_, rfl, by decide, Or.inr ⟨"PipeMouldsModel", List.mem_filter.mpr ⟨List.mem_of_getElem? (i := 733) (by decide +kernel), rfl⟩⟩⟩
theorem UX3_105 : FPu RX3 105 4 4 false .int := ⟨_, rfl, by decide, Or.inr ⟨rfl, "PipeMouldsModel", List.mem_filter.mpr ⟨List.mem_of_getElem? (i := 733) (by decide +kernel), rfl⟩⟩, rfl, fun q => (by cases q), by decide +kernel⟩
theorem FX4_16 : FG RX4 16 4 5 := ⟨_, rfl, by decide, Or.inl (wsAll_of 734 (by decide +kernel) rfl)⟩
theorem UX4_16 : FPu RX4 16 4 5 true (.array .int) := ⟨_, rfl, by decide, Or.inl (wsAll_of 734 (by decide +kernel) rfl), rfl, fun _ => rfl, by decide +kernel⟩
theorem FX3_79 : FG RX3 79 4 5 := ⟨_, rfl, by decide, Or.inr ⟨"PipeMouldsModel", List.mem_filter.mpr ⟨List.mem_of_getElem? (i := 735) (by decide +kernel), rfl⟩⟩⟩
theorem FX4_19 : FG RX4 19 4 6 := ⟨_, rfl, by decide, Or.inl (wsAll_of 736 (by decide +kernel) rfl)⟩
theorem UX4_19 : FPu RX4 19 4 6 true (.array .int) := ⟨_, rfl, by decide, Or.inl (wsAll_of 736 (by decide +kernel) rfl), rfl, fun _ => rfl, by decide +kernel⟩
theorem FX3_76 : FG RX3 76 4 6 := ⟨_, rfl, by decide, Or.inr ⟨"PipeMouldsModel", List.mem_filter.mpr ⟨List.mem_of_getElem? (i := 737) (by decide +kernel), rfl⟩⟩⟩
theorem FX4_27 : FG RX4 27 4 7 := ⟨_, rfl, by decide, Or.inl (wsAll_of 738 (by decide +kernel) rfl)⟩
theorem UX4_27 : FPu RX4 27 4 7 true (.object "PipeMouldsModel$State") := ⟨_, rfl, by decide, Or.inl (wsAll_of 738 (by decide +kernel) rfl), rfl, fun _ => rfl, by decide +kernel⟩
theorem FX4_31 : FG RX4 31 4 8 := ⟨_, rfl, by decide, Or.inl (wsAll_of 739 (by decide +kernel) rfl)⟩
theorem UX4_31 : FPu RX4 31 4 8 true (.object "PipeMouldsModel$State") := ⟨_, rfl, by decide, Or.inl (wsAll_of 739 (by decide +kernel) rfl), rfl, fun _ => rfl, by decide +kernel⟩
theorem LL_89 : Cond.methodLink RL 89 yX4_thrown ∈ wsAll := wsAll_of 759 (by decide +kernel) rfl
theorem LL_88 : Cond.methodLink RL 88 yX4_mould ∈ wsAll := wsAll_of 763 (by decide +kernel) rfl
theorem LX4_51 : Cond.methodLink RX4 51 yX4_isLength ∈ wsAll := wsAll_of 767 (by decide +kernel) rfl
theorem LX4_38 : Cond.methodLink RX4 38 yX4_isIn ∈ wsAll := wsAll_of 770 (by decide +kernel) rfl
theorem LX4_55 : Cond.methodLink RX4 55 yX4_no ∈ wsAll := wsAll_of 773 (by decide +kernel) rfl
theorem LL_96 : Cond.methodLink RL 96 yX4_refit ∈ wsAll := wsAll_of 777 (by decide +kernel) rfl
theorem LX4_62 : Cond.methodLink RX4 62 yX4_isMould ∈ wsAll := wsAll_of 781 (by decide +kernel) rfl
theorem LL_99 : Cond.methodLink RL 99 yX4_maker ∈ wsAll := wsAll_of 785 (by decide +kernel) rfl
theorem LL_102 : Cond.methodLink RL 102 yX4_place ∈ wsAll := wsAll_of 789 (by decide +kernel) rfl
theorem LX4_68 : Cond.methodLink RX4 68 yX4_isMaker ∈ wsAll := wsAll_of 793 (by decide +kernel) rfl
theorem LX4_71 : Cond.methodLink RX4 71 yX4_makerAt ∈ wsAll := wsAll_of 797 (by decide +kernel) rfl
theorem LL_105 : Cond.methodLink RL 105 yX4_buy ∈ wsAll := wsAll_of 801 (by decide +kernel) rfl
theorem LL_108 : Cond.methodLink RL 108 yX4_setDry ∈ wsAll := wsAll_of 805 (by decide +kernel) rfl
theorem LL_112 : Cond.methodLink RL 112 yX4_pack ∈ wsAll := wsAll_of 809 (by decide +kernel) rfl
theorem LX4_80 : Cond.methodLink RX4 80 yX4_isBatch ∈ wsAll := wsAll_of 813 (by decide +kernel) rfl
theorem LX4_83 : Cond.methodLink RX4 83 yX4_isSaggar ∈ wsAll := wsAll_of 817 (by decide +kernel) rfl
theorem LX4_90 : Cond.methodLink RX4 90 yX3_saggar ∈ wsAll := wsAll_of 820 (by decide +kernel) rfl
theorem LX4_94 : Cond.methodLinkNest RX4 94 yX3_put "PipeMouldsModel" ∈ nestW := List.mem_filter.mpr ⟨List.mem_of_getElem? (i := 824) (by decide +kernel), rfl⟩
theorem LX4_98 : Cond.methodLink RX4 98 yX3_takeBatch ∈ wsAll := wsAll_of 828 (by decide +kernel) rfl
theorem LX3_98 : Cond.methodLink RX3 98 yX3_put ∈ wsAll := wsAll_of 832 (by decide +kernel) rfl
theorem LL_115 : Cond.methodLink RL 115 yX4_fire ∈ wsAll := wsAll_of 833 (by decide +kernel) rfl
theorem LX4_102 : Cond.methodLink RX4 102 yX3_inSaggars ∈ wsAll := wsAll_of 837 (by decide +kernel) rfl
theorem LX3_128 : Cond.methodLink RX3 128 yX3_pipes ∈ wsAll := wsAll_of 841 (by decide +kernel) rfl
theorem LX4_106 : Cond.methodLink RX4 106 yX3_breaks ∈ wsAll := wsAll_of 845 (by decide +kernel) rfl
theorem LX3_121 : Cond.methodLink RX3 121 yX3_saggar ∈ wsAll := wsAll_of 849 (by decide +kernel) rfl
theorem LX3_125 : Cond.methodLink RX3 125 Lib.Math.abs.name ∈ wsAll := wsAll_of 850 (by decide +kernel) rfl
theorem LX3_86 : Cond.methodLink RX3 86 Lib.Math.min.name ∈ wsAll := wsAll_of 851 (by decide +kernel) rfl
theorem LL_119 : Cond.methodLink RL 119 yX4_order ∈ wsAll := wsAll_of 852 (by decide +kernel) rfl
theorem LX4_122 : Cond.methodLink RX4 122 arraycopyName ∈ wsAll := wsAll_of 856 (by decide +kernel) rfl
theorem LL_122 : Cond.methodLink RL 122 yX4_about ∈ wsAll := wsAll_of 857 (by decide +kernel) rfl
theorem LX4_137 : Cond.methodLink RX4 137 yX4_mouldTold ∈ wsAll := wsAll_of 861 (by decide +kernel) rfl
theorem LX4_131 : Cond.methodLink RX4 131 yX3_flaw ∈ wsAll := wsAll_of 865 (by decide +kernel) rfl
theorem LX4_134 : Cond.methodLink RX4 134 yX4_clayOf ∈ wsAll := wsAll_of 869 (by decide +kernel) rfl
theorem LL_125 : Cond.methodLink RL 125 yX4_told ∈ wsAll := wsAll_of 873 (by decide +kernel) rfl
theorem LX4_140 : Cond.methodLink RX4 140 yX4_makerTold ∈ wsAll := wsAll_of 877 (by decide +kernel) rfl
theorem LL_128 : Cond.methodLink RL 128 yX4_batch ∈ wsAll := wsAll_of 881 (by decide +kernel) rfl
theorem LL_131 : Cond.methodLink RL 131 yX4_saggar ∈ wsAll := wsAll_of 885 (by decide +kernel) rfl
theorem LL_134 : Cond.methodLink RL 134 yX4_store ∈ wsAll := wsAll_of 889 (by decide +kernel) rfl
theorem LL_137 : Cond.methodLink RL 137 yX4_waits ∈ wsAll := wsAll_of 893 (by decide +kernel) rfl
theorem LX4_143 : Cond.methodLink RX4 143 yX4_isWaiting ∈ wsAll := wsAll_of 897 (by decide +kernel) rfl
theorem LL_140 : Cond.methodLink RL 140 yX4_count ∈ wsAll := wsAll_of 901 (by decide +kernel) rfl
theorem LX4_146 : Cond.methodLink RX4 146 yX3_counted ∈ wsAll := wsAll_of 905 (by decide +kernel) rfl
theorem LX3_131 : Cond.methodLink RX3 131 yX3_inSaggars ∈ wsAll := wsAll_of 909 (by decide +kernel) rfl
theorem LX3_135 : Cond.methodLink RX3 135 yX3_stored ∈ wsAll := wsAll_of 910 (by decide +kernel) rfl
theorem LL_143 : Cond.methodLink RL 143 yX4_pass ∈ wsAll := wsAll_of 914 (by decide +kernel) rfl
theorem LX4_152 : Cond.methodLink RX4 152 yX3_pass_ ∈ wsAll := wsAll_of 918 (by decide +kernel) rfl
theorem LX3_118 : Cond.methodLink RX3 118 yX3_pass ∈ wsAll := wsAll_of 922 (by decide +kernel) rfl
theorem LX3_108 : Cond.methodLink RX3 108 yX3_make ∈ wsAll := wsAll_of 926 (by decide +kernel) rfl
theorem LX3_82 : Cond.methodLinkNest RX3 82 yX4_clayOf "PipeMouldsModel" ∈ nestW := List.mem_filter.mpr ⟨List.mem_of_getElem? (i := 930) (by decide +kernel), rfl⟩
theorem LX3_95 : Cond.methodLink RX3 95 yX3_flaw ∈ wsAll := wsAll_of 931 (by decide +kernel) rfl
theorem LX3_102 : Cond.methodLink RX3 102 Lib.Math.max.name ∈ wsAll := wsAll_of 932 (by decide +kernel) rfl
theorem LX3_115 : Cond.methodLink RX3 115 yX3_serve ∈ wsAll := wsAll_of 933 (by decide +kernel) rfl
theorem LL_146 : Cond.methodLink RL 146 yX4_breaks ∈ wsAll := wsAll_of 937 (by decide +kernel) rfl
theorem LL_150 : Cond.methodLink RL 150 yX4_advise ∈ wsAll := wsAll_of 941 (by decide +kernel) rfl
theorem CX4_157 : Cond.constant RX4 157 2147483647 ∈ wsAll := wsAll_of 945 (by decide +kernel) rfl
theorem LL_153 : Cond.methodLink RL 153 yX4_ready ∈ wsAll := wsAll_of 946 (by decide +kernel) rfl
theorem LX4_158 : Cond.methodLink RX4 158 yX3_become ∈ wsAll := wsAll_of 950 (by decide +kernel) rfl
theorem LX3_70 : Cond.methodLink RX3 70 arraycopyName ∈ wsAll := wsAll_of 954 (by decide +kernel) rfl
theorem LX4_168 : Cond.methodLink RX4 168 yX3_pass ∈ wsAll := wsAll_of 955 (by decide +kernel) rfl
theorem LL_156 : Cond.methodLink RL 156 yX4_foresee ∈ wsAll := wsAll_of 956 (by decide +kernel) rfl
theorem LL_161 : Cond.methodLink RL 161 yX4_mean ∈ wsAll := wsAll_of 960 (by decide +kernel) rfl
theorem LL_166 : Cond.methodLink RL 166 yX4_digest ∈ wsAll := wsAll_of 964 (by decide +kernel) rfl
theorem CX4_170 : Cond.constantLong RX4 170 1423 ∈ wsAll := wsAll_of 968 (by decide +kernel) rfl
theorem CX4_172 : Cond.constantLong RX4 172 31 ∈ wsAll := wsAll_of 969 (by decide +kernel) rfl
