abbrev md_X0_keep : Md := (RX0, yX0_keep, cX0_keep, 2, none, 3, 91)
abbrev md_X0_bringBack : Md := (RX0, yX0_bringBack, cX0_bringBack, 2, none, 3, 91)
abbrev md_X0_forget : Md := (RX0, yX0_forget, cX0_forget, 1, none, 0, 0)
abbrev md_X1_make : Md := (RX1, yX1_make, cX1_make, 4, none, 3, 70)
abbrev md_X1_grantOf : Md := (RX1, yX1_grantOf, cX1_grantOf, 5, some .int, 1, 22)
abbrev md_X1_shareOf : Md := (RX1, yX1_shareOf, cX1_shareOf, 5, some .int, 1, 22)
abbrev md_X1_sumRestTo : Md := (RX1, yX1_sumRestTo, cX1_sumRestTo, 4, some .int, 0, 0)
abbrev md_X1_reserveAll : Md := (RX1, yX1_reserveAll, cX1_reserveAll, 6, some .int, 2, 45)
abbrev md_X1_cell : Md := (RX1, yX1_cell, cX1_cell, 2, some .int, 0, 0)
abbrev md_X1_turnOf : Md := (RX1, yX1_turnOf, cX1_turnOf, 3, some .int, 0, 0)
abbrev md_X1_gatherLots : Md := (RX1, yX1_gatherLots, cX1_gatherLots, 3, none, 1, 22)
abbrev md_X1_insertLot : Md := (RX1, yX1_insertLot, cX1_insertLot, 3, none, 0, 0)
abbrev md_X1_gatherOrders : Md := (RX1, yX1_gatherOrders, cX1_gatherOrders, 3, none, 2, 42)
abbrev md_X1_insertOrder : Md := (RX1, yX1_insertOrder, cX1_insertOrder, 3, none, 0, 0)
abbrev md_X1_serve : Md := (RX1, yX1_serve, cX1_serve, 6, none, 2, 45)
abbrev md_X2_clear : Md := (RX2, yX2_clear, cX2_clear, 2, none, 0, 0)
abbrev md_X2_copyFrom : Md := (RX2, yX2_copyFrom, cX2_copyFrom, 2, none, 2, 70)
abbrev md_X2_copyRow : Md := (RX2, yX2_copyRow, cX2_copyRow, 2, none, 1, 49)
abbrev md_X2_hasGood : Md := (RX2, yX2_hasGood, cX2_hasGood, 2, some .boolean, 0, 0)
abbrev md_X2_hasCustomer : Md := (RX2, yX2_hasCustomer, cX2_hasCustomer, 2, some .boolean, 0, 0)
abbrev md_X2_hasLot : Md := (RX2, yX2_hasLot, cX2_hasLot, 2, some .boolean, 0, 0)
abbrev md_X2_hasOrder : Md := (RX2, yX2_hasOrder, cX2_hasOrder, 2, some .boolean, 0, 0)
abbrev md_X2_isOpen : Md := (RX2, yX2_isOpen, cX2_isOpen, 2, some .boolean, 1, 21)
abbrev md_X2_isAhead : Md := (RX2, yX2_isAhead, cX2_isAhead, 2, some .boolean, 0, 0)
abbrev md_X2_addCustomer : Md := (RX2, yX2_addCustomer, cX2_addCustomer, 2, none, 0, 0)
abbrev md_X2_addLot : Md := (RX2, yX2_addLot, cX2_addLot, 5, some .int, 0, 0)
abbrev md_X2_addOrder : Md := (RX2, yX2_addOrder, cX2_addOrder, 5, some .int, 0, 0)
abbrev md_X2_countOpen : Md := (RX2, yX2_countOpen, cX2_countOpen, 3, some .int, 0, 0)
abbrev md_X2_sumLeft : Md := (RX2, yX2_sumLeft, cX2_sumLeft, 3, some .int, 0, 0)
abbrev md_X2_sumReserved : Md := (RX2, yX2_sumReserved, cX2_sumReserved, 3, some .int, 1, 23)
abbrev md_X2_openOrder : Md := (RX2, yX2_openOrder, cX2_openOrder, 4, some .int, 0, 0)
abbrev md_X2_latestOf : Md := (RX2, yX2_latestOf, cX2_latestOf, 3, some .int, 0, 0)
abbrev md_X2_fits : Md := (RX2, yX2_fits, cX2_fits, 4, some .boolean, 1, 22)
abbrev md_X2_reservedFor : Md := (RX2, yX2_reservedFor, cX2_reservedFor, 3, some .int, 1, 22)
abbrev md_X2_setReserved : Md := (RX2, yX2_setReserved, cX2_setReserved, 4, none, 1, 22)
abbrev md_X2_cell : Md := (RX2, yX2_cell, cX2_cell, 3, some .int, 0, 0)
abbrev md_X2_reservedOfLot : Md := (RX2, yX2_reservedOfLot, cX2_reservedOfLot, 4, some .int, 0, 0)
abbrev md_X2_reservedForOrder : Md := (RX2, yX2_reservedForOrder, cX2_reservedForOrder, 4, some .int, 2, 44)
abbrev md_X2_close : Md := (RX2, yX2_close, cX2_close, 5, some .int, 3, 68)
abbrev md_X2_release : Md := (RX2, yX2_release, cX2_release, 4, some .int, 2, 45)
abbrev md_X2_releaseUnfit : Md := (RX2, yX2_releaseUnfit, cX2_releaseUnfit, 4, some .int, 3, 68)
abbrev md_X2_handOut : Md := (RX2, yX2_handOut, cX2_handOut, 5, some .int, 4, 92)
abbrev md_X2_endDay : Md := (RX2, yX2_endDay, cX2_endDay, 2, none, 4, 92)
abbrev md_X2_writeOff : Md := (RX2, yX2_writeOff, cX2_writeOff, 3, none, 0, 0)
abbrev md_X3_put : Md := (RX3, yX3_put, cX3_put, 3, none, 0, 0)
abbrev md_X4_readAll : Md := (RX4, yX4_readAll, cX4_readAll, 2, some .boolean, 11, 334)
abbrev md_X4_start : Md := (RX4, yX4_start, cX4_start, 1, none, 1, 21)
abbrev md_X4_takeToken : Md := (RX4, yX4_takeToken, cX4_takeToken, 1, some .int, 4, 85)
abbrev md_X4_takeWord : Md := (RX4, yX4_takeWord, cX4_takeWord, 2, some .int, 1, 20)
abbrev md_X4_isRoomForLine : Md := (RX4, yX4_isRoomForLine, cX4_isRoomForLine, 1, some .boolean, 0, 0)
abbrev md_X4_numbersOfLine : Md := (RX4, yX4_numbersOfLine, cX4_numbersOfLine, 1, some .int, 0, 0)
abbrev md_X4_takeNumber : Md := (RX4, yX4_takeNumber, cX4_takeNumber, 1, some .int, 3, 65)
abbrev md_X4_isAsTold : Md := (RX4, yX4_isAsTold, cX4_isAsTold, 2, some .boolean, 2, 44)
abbrev md_X4_isAsToldOfLot : Md := (RX4, yX4_isAsToldOfLot, cX4_isAsToldOfLot, 2, some .boolean, 1, 21)
abbrev md_X4_isAsToldOfOrder : Md := (RX4, yX4_isAsToldOfOrder, cX4_isAsToldOfOrder, 2, some .boolean, 1, 23)
abbrev md_X4_takeStop : Md := (RX4, yX4_takeStop, cX4_takeStop, 1, some .int, 2, 44)
abbrev md_X4_addLine : Md := (RX4, yX4_addLine, cX4_addLine, 1, none, 1, 24)
abbrev md_X5_rewind : Md := (RX5, yX5_rewind, cX5_rewind, 1, none, 0, 0)
abbrev md_X5_advance : Md := (RX5, yX5_advance, cX5_advance, 1, none, 10, 314)
abbrev md_X5_skipBlanks : Md := (RX5, yX5_skipBlanks, cX5_skipBlanks, 1, none, 0, 0)
abbrev md_X5_readRun : Md := (RX5, yX5_readRun, cX5_readRun, 3, none, 9, 292)
abbrev md_X5_wordKind : Md := (RX5, yX5_wordKind, cX5_wordKind, 1, some .int, 8, 272)
abbrev md_X5_spells : Md := (RX5, yX5_spells, cX5_spells, 3, some .boolean, 7, 250)
abbrev md_X5_isLetter : Md := (RX5, yX5_isLetter, cX5_isLetter, 1, some .boolean, 0, 0)
abbrev md_X5_isDigit : Md := (RX5, yX5_isDigit, cX5_isDigit, 1, some .boolean, 0, 0)
abbrev md_X6_feed : Md := (RX6, yX6_feed, cX6_feed, 6, some .int, 1, 22)
abbrev md_X6_end : Md := (RX6, yX6_end, cX6_end, 2, some .boolean, 0, 0)
abbrev md_X6_text : Md := (RX6, yX6_text, cX6_text, 2, some .int, 12, 355)
abbrev md_X6_fault : Md := (RX6, yX6_fault, cX6_fault, 1, some .int, 0, 0)
abbrev md_X6_now : Md := (RX6, yX6_now, cX6_now, 2, some .int, 2, 45)
abbrev md_X6_reserved : Md := (RX6, yX6_reserved, cX6_reserved, 3, some .int, 2, 44)
abbrev md_X6_customer : Md := (RX6, yX6_customer, cX6_customer, 3, some .int, 1, 22)
abbrev md_X6_suits : Md := (RX6, yX6_suits, cX6_suits, 3, some .boolean, 2, 45)
abbrev md_X6_plan : Md := (RX6, yX6_plan, cX6_plan, 4, some .int, 4, 93)
abbrev md_X6_waste : Md := (RX6, yX6_waste, cX6_waste, 5, some .int, 1, 23)
abbrev md_X6_least : Md := (RX6, yX6_least, cX6_least, 3, some .int, 4, 93)
abbrev md_X6_would : Md := (RX6, yX6_would, cX6_would, 6, some .int, 4, 93)
abbrev md_X6_slack : Md := (RX6, yX6_slack, cX6_slack, 6, some .int, 5, 116)
abbrev md_X6_comes : Md := (RX6, yX6_comes, cX6_comes, 5, some .int, 4, 112)
abbrev md_X6_asks : Md := (RX6, yX6_asks, cX6_asks, 5, some .int, 4, 112)
abbrev md_X6_reserve : Md := (RX6, yX6_reserve, cX6_reserve, 2, some .int, 4, 112)
abbrev md_X6_cancel : Md := (RX6, yX6_cancel, cX6_cancel, 2, some .int, 4, 112)
abbrev md_X6_hold : Md := (RX6, yX6_hold, cX6_hold, 3, some .int, 4, 112)
abbrev md_X6_deliver : Md := (RX6, yX6_deliver, cX6_deliver, 2, some .int, 5, 116)
abbrev md_X6_pass : Md := (RX6, yX6_pass, cX6_pass, 3, some .int, 5, 113)
abbrev md_X6_undo : Md := (RX6, yX6_undo, cX6_undo, 1, some .int, 4, 112)
abbrev md_X6_isSum : Md := (RX6, yX6_isSum, cX6_isSum, 1, some .boolean, 0, 0)
abbrev md_X6_isHold : Md := (RX6, yX6_isHold, cX6_isHold, 1, some .boolean, 0, 0)
abbrev md_X6_isOrder : Md := (RX6, yX6_isOrder, cX6_isOrder, 5, some .boolean, 1, 21)
abbrev md_X6_isFilledWith : Md := (RX6, yX6_isFilledWith, cX6_isFilledWith, 4, some .boolean, 4, 93)
abbrev md_X7_thrown : Md := (RX7, yX7_thrown, cX7_thrown, 1, some .int, 0, 0)
abbrev md_X7_refuse : Md := (RX7, yX7_refuse, cX7_refuse, 1, some .int, 0, 0)
abbrev md_X7_isIn : Md := (RX7, yX7_isIn, cX7_isIn, 3, some .boolean, 0, 0)
abbrev md_X7_lays : Md := (RX7, yX7_lays, cX7_lays, 3, none, 0, 0)
abbrev md_X7_feed : Md := (RX7, yX7_feed, cX7_feed, 6, some .int, 1, 22)
abbrev md_X7_end : Md := (RX7, yX7_end, cX7_end, 2, some .boolean, 0, 0)
abbrev md_X7_tapeAt : Md := (RX7, yX7_tapeAt, cX7_tapeAt, 2, some .int, 0, 0)
abbrev md_X7_isDigit : Md := (RX7, yX7_isDigit, cX7_isDigit, 1, some .boolean, 0, 0)
abbrev md_X7_isLetter : Md := (RX7, yX7_isLetter, cX7_isLetter, 1, some .boolean, 0, 0)
abbrev md_X7_go : Md := (RX7, yX7_go, cX7_go, 5, none, 1, 21)
abbrev md_X7_three : Md := (RX7, yX7_three, cX7_three, 3, some .long, 0, 0)
abbrev md_X7_isWord : Md := (RX7, yX7_isWord, cX7_isWord, 3, some .boolean, 0, 0)
abbrev md_X7_bad : Md := (RX7, yX7_bad, cX7_bad, 2, some .boolean, 0, 0)
abbrev md_X7_told : Md := (RX7, yX7_told, cX7_told, 4, some .boolean, 2, 45)
abbrev md_X7_readEnd : Md := (RX7, yX7_readEnd, cX7_readEnd, 1, some .boolean, 2, 45)
abbrev md_X7_readGoods : Md := (RX7, yX7_readGoods, cX7_readGoods, 1, some .boolean, 3, 68)
abbrev md_X7_readCustomer : Md := (RX7, yX7_readCustomer, cX7_readCustomer, 1, some .boolean, 3, 68)
abbrev md_X7_readLot : Md := (RX7, yX7_readLot, cX7_readLot, 2, some .boolean, 3, 68)
abbrev md_X7_isAskedFor : Md := (RX7, yX7_isAskedFor, cX7_isAskedFor, 5, some .boolean, 0, 0)
abbrev md_X7_readOrder : Md := (RX7, yX7_readOrder, cX7_readOrder, 2, some .boolean, 3, 68)
abbrev md_X7_isSort : Md := (RX7, yX7_isSort, cX7_isSort, 2, some .boolean, 1, 22)
abbrev md_X7_readAll : Md := (RX7, yX7_readAll, cX7_readAll, 2, some .boolean, 4, 89)
abbrev md_X7_readWhole : Md := (RX7, yX7_readWhole, cX7_readWhole, 1, some .boolean, 5, 110)
abbrev md_X7_text : Md := (RX7, yX7_text, cX7_text, 2, some .int, 6, 130)
abbrev md_X7_fault : Md := (RX7, yX7_fault, cX7_fault, 1, some .int, 0, 0)
abbrev md_X7_today : Md := (RX7, yX7_today, cX7_today, 1, some .int, 0, 0)
abbrev md_X7_isGood : Md := (RX7, yX7_isGood, cX7_isGood, 2, some .boolean, 1, 22)
abbrev md_X7_isLot : Md := (RX7, yX7_isLot, cX7_isLot, 2, some .boolean, 1, 22)
abbrev md_X7_isOrder : Md := (RX7, yX7_isOrder, cX7_isOrder, 2, some .boolean, 1, 22)
abbrev md_X7_isOpen : Md := (RX7, yX7_isOpen, cX7_isOpen, 2, some .boolean, 2, 43)
abbrev md_X7_isCustomerThere : Md := (RX7, yX7_isCustomerThere, cX7_isCustomerThere, 2, some .boolean, 1, 22)
abbrev md_X7_lies : Md := (RX7, yX7_lies, cX7_lies, 3, some .int, 0, 0)
abbrev md_X7_ordered : Md := (RX7, yX7_ordered, cX7_ordered, 3, some .int, 0, 0)
abbrev md_X7_cell : Md := (RX7, yX7_cell, cX7_cell, 3, some .int, 0, 0)
abbrev md_X7_ofLot : Md := (RX7, yX7_ofLot, cX7_ofLot, 4, some .int, 1, 22)
abbrev md_X7_forOrder : Md := (RX7, yX7_forOrder, cX7_forOrder, 4, some .int, 1, 22)
abbrev md_X7_isFor : Md := (RX7, yX7_isFor, cX7_isFor, 6, some .boolean, 1, 22)
abbrev md_X7_lifeOf : Md := (RX7, yX7_lifeOf, cX7_lifeOf, 2, some .int, 0, 0)
abbrev md_X7_isFit : Md := (RX7, yX7_isFit, cX7_isFit, 3, some .boolean, 2, 47)
abbrev md_X7_sumOf : Md := (RX7, yX7_sumOf, cX7_sumOf, 4, some .int, 2, 45)
abbrev md_X7_openMany : Md := (RX7, yX7_openMany, cX7_openMany, 3, some .int, 3, 64)
abbrev md_X7_now : Md := (RX7, yX7_now, cX7_now, 2, some .int, 4, 86)
abbrev md_X7_lot : Md := (RX7, yX7_lot, cX7_lot, 3, some .int, 2, 45)
abbrev md_X7_order : Md := (RX7, yX7_order, cX7_order, 3, some .int, 2, 45)
abbrev md_X7_reserved : Md := (RX7, yX7_reserved, cX7_reserved, 3, some .int, 2, 43)
abbrev md_X7_customer : Md := (RX7, yX7_customer, cX7_customer, 3, some .int, 2, 43)
abbrev md_X7_suits : Md := (RX7, yX7_suits, cX7_suits, 3, some .boolean, 3, 69)
abbrev md_X7_laysRows : Md := (RX7, yX7_laysRows, cX7_laysRows, 11, none, 3, 69)
abbrev md_X7_dayOf : Md := (RX7, yX7_dayOf, cX7_dayOf, 2, some .int, 1, 22)
abbrev md_X7_puts : Md := (RX7, yX7_puts, cX7_puts, 4, none, 2, 43)
abbrev md_X7_putsLot : Md := (RX7, yX7_putsLot, cX7_putsLot, 3, none, 1, 22)
abbrev md_X7_usedOf : Md := (RX7, yX7_usedOf, cX7_usedOf, 4, some .int, 0, 0)
abbrev md_X7_hasGot : Md := (RX7, yX7_hasGot, cX7_hasGot, 4, some .int, 0, 0)
abbrev md_X7_spareOf : Md := (RX7, yX7_spareOf, cX7_spareOf, 2, some .int, 1, 23)
abbrev md_X7_starts : Md := (RX7, yX7_starts, cX7_starts, 2, none, 0, 0)
abbrev md_X7_reachesLots : Md := (RX7, yX7_reachesLots, cX7_reachesLots, 3, none, 0, 0)
abbrev md_X7_getsOne : Md := (RX7, yX7_getsOne, cX7_getsOne, 5, some .boolean, 2, 44)
abbrev md_X7_passesOn : Md := (RX7, yX7_passesOn, cX7_passesOn, 5, none, 0, 0)
abbrev md_X7_usesOne : Md := (RX7, yX7_usesOne, cX7_usesOne, 6, some .boolean, 2, 44)
abbrev md_X7_givesUp : Md := (RX7, yX7_givesUp, cX7_givesUp, 5, none, 0, 0)
abbrev md_X7_turnsOne : Md := (RX7, yX7_turnsOne, cX7_turnsOne, 7, some .boolean, 1, 24)
abbrev md_X7_closes : Md := (RX7, yX7_closes, cX7_closes, 5, none, 0, 0)
abbrev md_X7_laysGots : Md := (RX7, yX7_laysGots, cX7_laysGots, 10, none, 4, 99)
abbrev md_X7_plansNow : Md := (RX7, yX7_plansNow, cX7_plansNow, 5, none, 5, 128)
abbrev md_X7_turnOf : Md := (RX7, yX7_turnOf, cX7_turnOf, 3, some .int, 0, 0)
abbrev md_X7_ageOf : Md := (RX7, yX7_ageOf, cX7_ageOf, 3, some .int, 0, 0)
abbrev md_X7_plan : Md := (RX7, yX7_plan, cX7_plan, 3, some .int, 6, 152)
abbrev md_X7_canWaste : Md := (RX7, yX7_canWaste, cX7_canWaste, 3, some .boolean, 2, 43)
abbrev md_X7_waste : Md := (RX7, yX7_waste, cX7_waste, 5, some .int, 3, 65)
abbrev md_X7_least : Md := (RX7, yX7_least, cX7_least, 5, some .int, 6, 152)
abbrev md_X7_canAsk : Md := (RX7, yX7_canAsk, cX7_canAsk, 5, some .boolean, 2, 43)
abbrev md_X7_would : Md := (RX7, yX7_would, cX7_would, 5, some .int, 5, 128)
abbrev md_X7_slack : Md := (RX7, yX7_slack, cX7_slack, 4, some .int, 5, 128)
abbrev md_X7_snap : Md := (RX7, yX7_snap, cX7_snap, 2, none, 0, 0)
abbrev md_X7_comes : Md := (RX7, yX7_comes, cX7_comes, 6, some .int, 2, 43)
abbrev md_X7_asks : Md := (RX7, yX7_asks, cX7_asks, 6, some .int, 3, 67)
abbrev md_X7_reserve : Md := (RX7, yX7_reserve, cX7_reserve, 7, some .int, 6, 152)
abbrev md_X7_frees : Md := (RX7, yX7_frees, cX7_frees, 4, some .int, 2, 45)
abbrev md_X7_cancel : Md := (RX7, yX7_cancel, cX7_cancel, 2, some .int, 3, 68)
abbrev md_X7_hold : Md := (RX7, yX7_hold, cX7_hold, 5, some .int, 3, 69)
abbrev md_X7_deliver : Md := (RX7, yX7_deliver, cX7_deliver, 4, some .int, 3, 68)
abbrev md_X7_ends : Md := (RX7, yX7_ends, cX7_ends, 3, none, 3, 68)
abbrev md_X7_pass : Md := (RX7, yX7_pass, cX7_pass, 3, some .int, 4, 90)
abbrev md_X7_undo : Md := (RX7, yX7_undo, cX7_undo, 2, some .int, 0, 0)
theorem fX0_11 : FK RX0 11 0 0 := ⟨RX0, TX0, 3, tyX0, rfl, by decide, ulX0, (wa_2 (List.mem_of_getElem? (i := 1) (by decide +kernel)) (by decide +kernel)), tyX0_ok, nmX0⟩
theorem fX0_18 : FK RX0 18 0 1 := ⟨RX0, TX0, 3, tyX0, rfl, by decide, ulX0, (wa_2 (List.mem_of_getElem? (i := 2) (by decide +kernel)) (by decide +kernel)), tyX0_ok, nmX0⟩
theorem pX0_1 : PK 0 1 .int := fun C T N h => by cases h; exact ⟨rfl, by decide +kernel⟩
theorem fX0_26 : FK RX0 26 0 2 := ⟨RX0, TX0, 3, tyX0, rfl, by decide, ulX0, (wa_2 (List.mem_of_getElem? (i := 3) (by decide +kernel)) (by decide +kernel)), tyX0_ok, nmX0⟩
theorem pX0_2 : PK 0 2 .int := fun C T N h => by cases h; exact ⟨rfl, by decide +kernel⟩
theorem fX1_24 : FK RX1 24 1 0 := ⟨RX1, TX1, 7, tyX1, rfl, by decide, ulX1, (wa_1 (List.mem_of_getElem? (i := 210) (by decide +kernel)) (by decide +kernel)), tyX1_ok, nmX1⟩
theorem pX1_0 : PK 1 0 (.object "FreshAllotter$Stock") := fun C T N h => by cases h; exact ⟨rfl, by decide +kernel⟩
theorem fX1_35 : FK RX1 35 1 2 := ⟨RX1, TX1, 7, tyX1, rfl, by decide, ulX1, (wa_1 (List.mem_of_getElem? (i := 212) (by decide +kernel)) (by decide +kernel)), tyX1_ok, nmX1⟩
theorem fX1_46 : FK RX1 46 1 1 := ⟨RX1, TX1, 7, tyX1, rfl, by decide, ulX1, (wa_1 (List.mem_of_getElem? (i := 211) (by decide +kernel)) (by decide +kernel)), tyX1_ok, nmX1⟩
theorem fX1_21 : FK RX1 21 1 6 := ⟨RX1, TX1, 7, tyX1, rfl, by decide, ulX1, (wa_1 (List.mem_of_getElem? (i := 216) (by decide +kernel)) (by decide +kernel)), tyX1_ok, nmX1⟩
theorem fX1_9 : FK RX1 9 1 3 := ⟨RX1, TX1, 7, tyX1, rfl, by decide, ulX1, (wa_1 (List.mem_of_getElem? (i := 213) (by decide +kernel)) (by decide +kernel)), tyX1_ok, nmX1⟩
theorem fX1_53 : FK RX1 53 2 10 := ⟨RX2, TX2, 20, tyX2, rfl, by decide, ulX2, (wa_1 (List.mem_of_getElem? (i := 77) (by decide +kernel)) (by decide +kernel)), tyX2_ok, nmX2⟩
theorem fX1_15 : FK RX1 15 1 4 := ⟨RX1, TX1, 7, tyX1, rfl, by decide, ulX1, (wa_1 (List.mem_of_getElem? (i := 214) (by decide +kernel)) (by decide +kernel)), tyX1_ok, nmX1⟩
theorem fX1_18 : FK RX1 18 1 5 := ⟨RX1, TX1, 7, tyX1, rfl, by decide, ulX1, (wa_1 (List.mem_of_getElem? (i := 215) (by decide +kernel)) (by decide +kernel)), tyX1_ok, nmX1⟩
theorem pX1_1 : PK 1 1 .int := fun C T N h => by cases h; exact ⟨rfl, by decide +kernel⟩
theorem fX1_70 : FK RX1 70 2 3 := ⟨RX2, TX2, 20, tyX2, rfl, by decide, ulX2, (wa_1 (List.mem_of_getElem? (i := 61) (by decide +kernel)) (by decide +kernel)), tyX2_ok, nmX2⟩
theorem fX1_71 : FK RX1 71 2 9 := ⟨RX2, TX2, 20, tyX2, rfl, by decide, ulX2, (wa_1 (List.mem_of_getElem? (i := 75) (by decide +kernel)) (by decide +kernel)), tyX2_ok, nmX2⟩
theorem fX1_77 : FK RX1 77 2 11 := ⟨RX2, TX2, 20, tyX2, rfl, by decide, ulX2, (wa_1 (List.mem_of_getElem? (i := 81) (by decide +kernel)) (by decide +kernel)), tyX2_ok, nmX2⟩
theorem pX1_2 : PK 1 2 .int := fun C T N h => by cases h; exact ⟨rfl, by decide +kernel⟩
theorem fX1_80 : FK RX1 80 2 4 := ⟨RX2, TX2, 20, tyX2, rfl, by decide, ulX2, (wa_1 (List.mem_of_getElem? (i := 65) (by decide +kernel)) (by decide +kernel)), tyX2_ok, nmX2⟩
theorem fX1_81 : FK RX1 81 2 14 := ⟨RX2, TX2, 20, tyX2, rfl, by decide, ulX2, (wa_1 (List.mem_of_getElem? (i := 88) (by decide +kernel)) (by decide +kernel)), tyX2_ok, nmX2⟩
theorem fX1_91 : FK RX1 91 2 16 := ⟨RX2, TX2, 20, tyX2, rfl, by decide, ulX2, (wa_1 (List.mem_of_getElem? (i := 94) (by decide +kernel)) (by decide +kernel)), tyX2_ok, nmX2⟩
theorem fX1_94 : FK RX1 94 2 15 := ⟨RX2, TX2, 20, tyX2, rfl, by decide, ulX2, (wa_1 (List.mem_of_getElem? (i := 91) (by decide +kernel)) (by decide +kernel)), tyX2_ok, nmX2⟩
theorem fX2_51 : FK RX2 51 2 0 := ⟨RX2, TX2, 20, tyX2, rfl, by decide, ulX2, (wa_1 (List.mem_of_getElem? (i := 50) (by decide +kernel)) (by decide +kernel)), tyX2_ok, nmX2⟩
theorem pX2_0 : PK 2 0 .int := fun C T N h => by cases h; exact ⟨rfl, by decide +kernel⟩
theorem fX2_55 : FK RX2 55 2 1 := ⟨RX2, TX2, 20, tyX2, rfl, by decide, ulX2, (wa_1 (List.mem_of_getElem? (i := 53) (by decide +kernel)) (by decide +kernel)), tyX2_ok, nmX2⟩
theorem pX2_1 : PK 2 1 .int := fun C T N h => by cases h; exact ⟨rfl, by decide +kernel⟩
theorem fX2_58 : FK RX2 58 2 2 := ⟨RX2, TX2, 20, tyX2, rfl, by decide, ulX2, (wa_1 (List.mem_of_getElem? (i := 55) (by decide +kernel)) (by decide +kernel)), tyX2_ok, nmX2⟩
theorem pX2_2 : PK 2 2 .int := fun C T N h => by cases h; exact ⟨rfl, by decide +kernel⟩
theorem fX2_61 : FK RX2 61 2 3 := ⟨RX2, TX2, 20, tyX2, rfl, by decide, ulX2, (wa_1 (List.mem_of_getElem? (i := 58) (by decide +kernel)) (by decide +kernel)), tyX2_ok, nmX2⟩
theorem pX2_3 : PK 2 3 .int := fun C T N h => by cases h; exact ⟨rfl, by decide +kernel⟩
theorem fX2_64 : FK RX2 64 2 4 := ⟨RX2, TX2, 20, tyX2, rfl, by decide, ulX2, (wa_1 (List.mem_of_getElem? (i := 62) (by decide +kernel)) (by decide +kernel)), tyX2_ok, nmX2⟩
theorem pX2_4 : PK 2 4 .int := fun C T N h => by cases h; exact ⟨rfl, by decide +kernel⟩
theorem fX2_67 : FK RX2 67 2 5 := ⟨RX2, TX2, 20, tyX2, rfl, by decide, ulX2, (wa_1 (List.mem_of_getElem? (i := 66) (by decide +kernel)) (by decide +kernel)), tyX2_ok, nmX2⟩
theorem pX2_5 : PK 2 5 .int := fun C T N h => by cases h; exact ⟨rfl, by decide +kernel⟩
theorem fX2_70 : FK RX2 70 2 6 := ⟨RX2, TX2, 20, tyX2, rfl, by decide, ulX2, (wa_1 (List.mem_of_getElem? (i := 68) (by decide +kernel)) (by decide +kernel)), tyX2_ok, nmX2⟩
theorem pX2_6 : PK 2 6 .int := fun C T N h => by cases h; exact ⟨rfl, by decide +kernel⟩
theorem fX2_15 : FK RX2 15 2 8 := ⟨RX2, TX2, 20, tyX2, rfl, by decide, ulX2, (wa_1 (List.mem_of_getElem? (i := 72) (by decide +kernel)) (by decide +kernel)), tyX2_ok, nmX2⟩
theorem fX2_48 : FK RX2 48 2 19 := ⟨RX2, TX2, 20, tyX2, rfl, by decide, ulX2, (wa_1 (List.mem_of_getElem? (i := 99) (by decide +kernel)) (by decide +kernel)), tyX2_ok, nmX2⟩
theorem fX2_9 : FK RX2 9 2 7 := ⟨RX2, TX2, 20, tyX2, rfl, by decide, ulX2, (wa_1 (List.mem_of_getElem? (i := 70) (by decide +kernel)) (by decide +kernel)), tyX2_ok, nmX2⟩
theorem fX2_18 : FK RX2 18 2 9 := ⟨RX2, TX2, 20, tyX2, rfl, by decide, ulX2, (wa_1 (List.mem_of_getElem? (i := 73) (by decide +kernel)) (by decide +kernel)), tyX2_ok, nmX2⟩
theorem fX2_21 : FK RX2 21 2 10 := ⟨RX2, TX2, 20, tyX2, rfl, by decide, ulX2, (wa_1 (List.mem_of_getElem? (i := 76) (by decide +kernel)) (by decide +kernel)), tyX2_ok, nmX2⟩
theorem fX2_24 : FK RX2 24 2 11 := ⟨RX2, TX2, 20, tyX2, rfl, by decide, ulX2, (wa_1 (List.mem_of_getElem? (i := 79) (by decide +kernel)) (by decide +kernel)), tyX2_ok, nmX2⟩
theorem fX2_27 : FK RX2 27 2 12 := ⟨RX2, TX2, 20, tyX2, rfl, by decide, ulX2, (wa_1 (List.mem_of_getElem? (i := 82) (by decide +kernel)) (by decide +kernel)), tyX2_ok, nmX2⟩
theorem fX2_30 : FK RX2 30 2 13 := ⟨RX2, TX2, 20, tyX2, rfl, by decide, ulX2, (wa_1 (List.mem_of_getElem? (i := 84) (by decide +kernel)) (by decide +kernel)), tyX2_ok, nmX2⟩
theorem fX2_33 : FK RX2 33 2 14 := ⟨RX2, TX2, 20, tyX2, rfl, by decide, ulX2, (wa_1 (List.mem_of_getElem? (i := 86) (by decide +kernel)) (by decide +kernel)), tyX2_ok, nmX2⟩
theorem fX2_36 : FK RX2 36 2 15 := ⟨RX2, TX2, 20, tyX2, rfl, by decide, ulX2, (wa_1 (List.mem_of_getElem? (i := 89) (by decide +kernel)) (by decide +kernel)), tyX2_ok, nmX2⟩
theorem fX2_39 : FK RX2 39 2 16 := ⟨RX2, TX2, 20, tyX2, rfl, by decide, ulX2, (wa_1 (List.mem_of_getElem? (i := 92) (by decide +kernel)) (by decide +kernel)), tyX2_ok, nmX2⟩
theorem fX2_42 : FK RX2 42 2 17 := ⟨RX2, TX2, 20, tyX2, rfl, by decide, ulX2, (wa_1 (List.mem_of_getElem? (i := 95) (by decide +kernel)) (by decide +kernel)), tyX2_ok, nmX2⟩
theorem fX2_45 : FK RX2 45 2 18 := ⟨RX2, TX2, 20, tyX2, rfl, by decide, ulX2, (wa_1 (List.mem_of_getElem? (i := 97) (by decide +kernel)) (by decide +kernel)), tyX2_ok, nmX2⟩
theorem fX3_15 : FK RX3 15 3 1 := ⟨RX3, TX3, 2, tyX3, rfl, by decide, ulX3, (wa_1 (List.mem_of_getElem? (i := 36) (by decide +kernel)) (by decide +kernel)), tyX3_ok, nmX3⟩
theorem fX3_9 : FK RX3 9 3 0 := ⟨RX3, TX3, 2, tyX3, rfl, by decide, ulX3, (wa_1 (List.mem_of_getElem? (i := 33) (by decide +kernel)) (by decide +kernel)), tyX3_ok, nmX3⟩
theorem pX3_1 : PK 3 1 .int := fun C T N h => by cases h; exact ⟨rfl, by decide +kernel⟩
theorem fX4_31 : FK RX4 31 4 7 := ⟨RX4, TX4, 9, tyX4, rfl, by decide, ulX4, (wa_1 (List.mem_of_getElem? (i := 181) (by decide +kernel)) (by decide +kernel)), tyX4_ok, nmX4⟩
theorem fX4_20 : FK RX4 20 4 0 := ⟨RX4, TX4, 9, tyX4, rfl, by decide, ulX4, (wa_1 (List.mem_of_getElem? (i := 173) (by decide +kernel)) (by decide +kernel)), tyX4_ok, nmX4⟩
theorem fX4_38 : FK RX4 38 5 2 := ⟨RX5, TX5, 5, tyX5, rfl, by decide, ulX5, (wa_1 (List.mem_of_getElem? (i := 156) (by decide +kernel)) (by decide +kernel)), tyX5_ok, nmX5⟩
theorem fX4_41 : FK RX4 41 4 6 := ⟨RX4, TX4, 9, tyX4, rfl, by decide, ulX4, (wa_1 (List.mem_of_getElem? (i := 179) (by decide +kernel)) (by decide +kernel)), tyX4_ok, nmX4⟩
theorem fX4_44 : FK RX4 44 4 4 := ⟨RX4, TX4, 9, tyX4, rfl, by decide, ulX4, (wa_1 (List.mem_of_getElem? (i := 177) (by decide +kernel)) (by decide +kernel)), tyX4_ok, nmX4⟩
theorem pX4_7 : PK 4 7 .int := fun C T N h => by cases h; exact ⟨rfl, by decide +kernel⟩
theorem fX4_52 : FK RX4 52 5 3 := ⟨RX5, TX5, 5, tyX5, rfl, by decide, ulX5, (wa_1 (List.mem_of_getElem? (i := 158) (by decide +kernel)) (by decide +kernel)), tyX5_ok, nmX5⟩
theorem fX4_55 : FK RX4 55 4 8 := ⟨RX4, TX4, 9, tyX4, rfl, by decide, ulX4, (wa_1 (List.mem_of_getElem? (i := 183) (by decide +kernel)) (by decide +kernel)), tyX4_ok, nmX4⟩
theorem pX4_8 : PK 4 8 .int := fun C T N h => by cases h; exact ⟨rfl, by decide +kernel⟩
theorem fX4_24 : FK RX4 24 4 1 := ⟨RX4, TX4, 9, tyX4, rfl, by decide, ulX4, (wa_1 (List.mem_of_getElem? (i := 174) (by decide +kernel)) (by decide +kernel)), tyX4_ok, nmX4⟩
theorem pX4_4 : PK 4 4 .boolean := fun C T N h => by cases h; exact ⟨rfl, by decide +kernel⟩
theorem pX4_6 : PK 4 6 .int := fun C T N h => by cases h; exact ⟨rfl, by decide +kernel⟩
theorem fX4_69 : FK RX4 69 4 3 := ⟨RX4, TX4, 9, tyX4, rfl, by decide, ulX4, (wa_1 (List.mem_of_getElem? (i := 176) (by decide +kernel)) (by decide +kernel)), tyX4_ok, nmX4⟩
theorem fX4_81 : FK RX4 81 4 2 := ⟨RX4, TX4, 9, tyX4, rfl, by decide, ulX4, (wa_1 (List.mem_of_getElem? (i := 175) (by decide +kernel)) (by decide +kernel)), tyX4_ok, nmX4⟩
theorem pX4_2 : PK 4 2 .int := fun C T N h => by cases h; exact ⟨rfl, by decide +kernel⟩
theorem pX4_3 : PK 4 3 .int := fun C T N h => by cases h; exact ⟨rfl, by decide +kernel⟩
theorem fX4_88 : FK RX4 88 2 2 := ⟨RX2, TX2, 20, tyX2, rfl, by decide, ulX2, (wa_1 (List.mem_of_getElem? (i := 56) (by decide +kernel)) (by decide +kernel)), tyX2_ok, nmX2⟩
theorem fX4_91 : FK RX4 91 2 3 := ⟨RX2, TX2, 20, tyX2, rfl, by decide, ulX2, (wa_1 (List.mem_of_getElem? (i := 59) (by decide +kernel)) (by decide +kernel)), tyX2_ok, nmX2⟩
theorem fX4_94 : FK RX4 94 2 4 := ⟨RX2, TX2, 20, tyX2, rfl, by decide, ulX2, (wa_1 (List.mem_of_getElem? (i := 63) (by decide +kernel)) (by decide +kernel)), tyX2_ok, nmX2⟩
theorem fX4_97 : FK RX4 97 5 4 := ⟨RX5, TX5, 5, tyX5, rfl, by decide, ulX5, (wa_1 (List.mem_of_getElem? (i := 161) (by decide +kernel)) (by decide +kernel)), tyX5_ok, nmX5⟩
theorem fX4_11 : FK RX4 11 4 5 := ⟨RX4, TX4, 9, tyX4, rfl, by decide, ulX4, (wa_1 (List.mem_of_getElem? (i := 178) (by decide +kernel)) (by decide +kernel)), tyX4_ok, nmX4⟩
theorem fX4_137 : FK RX4 137 2 1 := ⟨RX2, TX2, 20, tyX2, rfl, by decide, ulX2, (wa_1 (List.mem_of_getElem? (i := 54) (by decide +kernel)) (by decide +kernel)), tyX2_ok, nmX2⟩
theorem fX5_15 : FK RX5 15 5 1 := ⟨RX5, TX5, 5, tyX5, rfl, by decide, ulX5, (wa_1 (List.mem_of_getElem? (i := 155) (by decide +kernel)) (by decide +kernel)), tyX5_ok, nmX5⟩
theorem pX5_1 : PK 5 1 .int := fun C T N h => by cases h; exact ⟨rfl, by decide +kernel⟩
theorem fX5_22 : FK RX5 22 5 3 := ⟨RX5, TX5, 5, tyX5, rfl, by decide, ulX5, (wa_1 (List.mem_of_getElem? (i := 159) (by decide +kernel)) (by decide +kernel)), tyX5_ok, nmX5⟩
theorem pX5_3 : PK 5 3 .int := fun C T N h => by cases h; exact ⟨rfl, by decide +kernel⟩
theorem fX5_9 : FK RX5 9 5 0 := ⟨RX5, TX5, 5, tyX5, rfl, by decide, ulX5, (wa_1 (List.mem_of_getElem? (i := 154) (by decide +kernel)) (by decide +kernel)), tyX5_ok, nmX5⟩
theorem fX5_25 : FK RX5 25 3 1 := ⟨RX3, TX3, 2, tyX3, rfl, by decide, ulX3, (wa_1 (List.mem_of_getElem? (i := 37) (by decide +kernel)) (by decide +kernel)), tyX3_ok, nmX3⟩
theorem fX5_30 : FK RX5 30 5 2 := ⟨RX5, TX5, 5, tyX5, rfl, by decide, ulX5, (wa_1 (List.mem_of_getElem? (i := 157) (by decide +kernel)) (by decide +kernel)), tyX5_ok, nmX5⟩
theorem pX5_2 : PK 5 2 .int := fun C T N h => by cases h; exact ⟨rfl, by decide +kernel⟩
theorem fX5_33 : FK RX5 33 3 0 := ⟨RX3, TX3, 2, tyX3, rfl, by decide, ulX3, (wa_1 (List.mem_of_getElem? (i := 34) (by decide +kernel)) (by decide +kernel)), tyX3_ok, nmX3⟩
theorem fX5_40 : FK RX5 40 5 4 := ⟨RX5, TX5, 5, tyX5, rfl, by decide, ulX5, (wa_1 (List.mem_of_getElem? (i := 160) (by decide +kernel)) (by decide +kernel)), tyX5_ok, nmX5⟩
theorem pX5_4 : PK 5 4 .int := fun C T N h => by cases h; exact ⟨rfl, by decide +kernel⟩
theorem fX6_10 : FK RX6 10 6 0 := ⟨RX6, TX6, 6, tyX6, rfl, by decide, ulX6, (wa_2 (List.mem_of_getElem? (i := 16) (by decide +kernel)) (by decide +kernel)), tyX6_ok, nmX6⟩
theorem fX6_58 : FK RX6 58 3 1 := ⟨RX3, TX3, 2, tyX3, rfl, by decide, ulX3, (wa_1 (List.mem_of_getElem? (i := 35) (by decide +kernel)) (by decide +kernel)), tyX3_ok, nmX3⟩
theorem fX6_31 : FK RX6 31 6 3 := ⟨RX6, TX6, 6, tyX6, rfl, by decide, ulX6, (wa_2 (List.mem_of_getElem? (i := 19) (by decide +kernel)) (by decide +kernel)), tyX6_ok, nmX6⟩
theorem fX6_69 : FK RX6 69 4 8 := ⟨RX4, TX4, 9, tyX4, rfl, by decide, ulX4, (wa_1 (List.mem_of_getElem? (i := 184) (by decide +kernel)) (by decide +kernel)), tyX4_ok, nmX4⟩
theorem fX6_19 : FK RX6 19 6 1 := ⟨RX6, TX6, 6, tyX6, rfl, by decide, ulX6, (wa_2 (List.mem_of_getElem? (i := 17) (by decide +kernel)) (by decide +kernel)), tyX6_ok, nmX6⟩
theorem fX6_23 : FK RX6 23 6 2 := ⟨RX6, TX6, 6, tyX6, rfl, by decide, ulX6, (wa_2 (List.mem_of_getElem? (i := 18) (by decide +kernel)) (by decide +kernel)), tyX6_ok, nmX6⟩
theorem fX6_47 : FK RX6 47 6 5 := ⟨RX6, TX6, 6, tyX6, rfl, by decide, ulX6, (wa_2 (List.mem_of_getElem? (i := 21) (by decide +kernel)) (by decide +kernel)), tyX6_ok, nmX6⟩
theorem fX6_78 : FK RX6 78 4 6 := ⟨RX4, TX4, 9, tyX4, rfl, by decide, ulX4, (wa_1 (List.mem_of_getElem? (i := 180) (by decide +kernel)) (by decide +kernel)), tyX4_ok, nmX4⟩
theorem fX6_81 : FK RX6 81 4 7 := ⟨RX4, TX4, 9, tyX4, rfl, by decide, ulX4, (wa_1 (List.mem_of_getElem? (i := 182) (by decide +kernel)) (by decide +kernel)), tyX4_ok, nmX4⟩
theorem fX6_84 : FK RX6 84 2 0 := ⟨RX2, TX2, 20, tyX2, rfl, by decide, ulX2, (wa_1 (List.mem_of_getElem? (i := 51) (by decide +kernel)) (by decide +kernel)), tyX2_ok, nmX2⟩
theorem fX6_54 : FK RX6 54 2 1 := ⟨RX2, TX2, 20, tyX2, rfl, by decide, ulX2, (wa_1 (List.mem_of_getElem? (i := 52) (by decide +kernel)) (by decide +kernel)), tyX2_ok, nmX2⟩
theorem fX6_87 : FK RX6 87 2 2 := ⟨RX2, TX2, 20, tyX2, rfl, by decide, ulX2, (wa_1 (List.mem_of_getElem? (i := 57) (by decide +kernel)) (by decide +kernel)), tyX2_ok, nmX2⟩
theorem fX6_90 : FK RX6 90 2 3 := ⟨RX2, TX2, 20, tyX2, rfl, by decide, ulX2, (wa_1 (List.mem_of_getElem? (i := 60) (by decide +kernel)) (by decide +kernel)), tyX2_ok, nmX2⟩
theorem fX6_93 : FK RX6 93 2 4 := ⟨RX2, TX2, 20, tyX2, rfl, by decide, ulX2, (wa_1 (List.mem_of_getElem? (i := 64) (by decide +kernel)) (by decide +kernel)), tyX2_ok, nmX2⟩
theorem fX6_106 : FK RX6 106 2 5 := ⟨RX2, TX2, 20, tyX2, rfl, by decide, ulX2, (wa_1 (List.mem_of_getElem? (i := 67) (by decide +kernel)) (by decide +kernel)), tyX2_ok, nmX2⟩
theorem fX6_109 : FK RX6 109 2 6 := ⟨RX2, TX2, 20, tyX2, rfl, by decide, ulX2, (wa_1 (List.mem_of_getElem? (i := 69) (by decide +kernel)) (by decide +kernel)), tyX2_ok, nmX2⟩
theorem fX6_112 : FK RX6 112 0 2 := ⟨RX0, TX0, 3, tyX0, rfl, by decide, ulX0, (wa_2 (List.mem_of_getElem? (i := 4) (by decide +kernel)) (by decide +kernel)), tyX0_ok, nmX0⟩
theorem fX6_180 : FK RX6 180 2 7 := ⟨RX2, TX2, 20, tyX2, rfl, by decide, ulX2, (wa_1 (List.mem_of_getElem? (i := 71) (by decide +kernel)) (by decide +kernel)), tyX2_ok, nmX2⟩
theorem fX6_40 : FK RX6 40 6 4 := ⟨RX6, TX6, 6, tyX6, rfl, by decide, ulX6, (wa_2 (List.mem_of_getElem? (i := 20) (by decide +kernel)) (by decide +kernel)), tyX6_ok, nmX6⟩
theorem fX6_153 : FK RX6 153 2 14 := ⟨RX2, TX2, 20, tyX2, rfl, by decide, ulX2, (wa_1 (List.mem_of_getElem? (i := 87) (by decide +kernel)) (by decide +kernel)), tyX2_ok, nmX2⟩
theorem fX6_126 : FK RX6 126 2 9 := ⟨RX2, TX2, 20, tyX2, rfl, by decide, ulX2, (wa_1 (List.mem_of_getElem? (i := 74) (by decide +kernel)) (by decide +kernel)), tyX2_ok, nmX2⟩
theorem fX6_130 : FK RX6 130 2 10 := ⟨RX2, TX2, 20, tyX2, rfl, by decide, ulX2, (wa_1 (List.mem_of_getElem? (i := 78) (by decide +kernel)) (by decide +kernel)), tyX2_ok, nmX2⟩
theorem fX6_133 : FK RX6 133 2 11 := ⟨RX2, TX2, 20, tyX2, rfl, by decide, ulX2, (wa_1 (List.mem_of_getElem? (i := 80) (by decide +kernel)) (by decide +kernel)), tyX2_ok, nmX2⟩
theorem fX6_150 : FK RX6 150 2 13 := ⟨RX2, TX2, 20, tyX2, rfl, by decide, ulX2, (wa_1 (List.mem_of_getElem? (i := 85) (by decide +kernel)) (by decide +kernel)), tyX2_ok, nmX2⟩
theorem fX6_136 : FK RX6 136 2 12 := ⟨RX2, TX2, 20, tyX2, rfl, by decide, ulX2, (wa_1 (List.mem_of_getElem? (i := 83) (by decide +kernel)) (by decide +kernel)), tyX2_ok, nmX2⟩
theorem fX6_159 : FK RX6 159 2 16 := ⟨RX2, TX2, 20, tyX2, rfl, by decide, ulX2, (wa_1 (List.mem_of_getElem? (i := 93) (by decide +kernel)) (by decide +kernel)), tyX2_ok, nmX2⟩
theorem fX6_156 : FK RX6 156 2 15 := ⟨RX2, TX2, 20, tyX2, rfl, by decide, ulX2, (wa_1 (List.mem_of_getElem? (i := 90) (by decide +kernel)) (by decide +kernel)), tyX2_ok, nmX2⟩
theorem fX7_1 : FK RX7 1 7 0 := ⟨RX7, TX7, 28, tyX7, rfl, by decide, ulX7, (wa_4 (List.mem_of_getElem? (i := 92) (by decide +kernel)) (by decide +kernel)), tyX7_ok, nmX7⟩
theorem pX7_0 : PK 7 0 .int := fun C T N h => by cases h; exact ⟨rfl, by decide +kernel⟩
theorem fX7_7 : FK RX7 7 7 1 := ⟨RX7, TX7, 28, tyX7, rfl, by decide, ulX7, (wa_4 (List.mem_of_getElem? (i := 93) (by decide +kernel)) (by decide +kernel)), tyX7_ok, nmX7⟩
theorem fX7_11 : FK RX7 11 7 2 := ⟨RX7, TX7, 28, tyX7, rfl, by decide, ulX7, (wa_4 (List.mem_of_getElem? (i := 94) (by decide +kernel)) (by decide +kernel)), tyX7_ok, nmX7⟩
theorem pX7_2 : PK 7 2 .int := fun C T N h => by cases h; exact ⟨rfl, by decide +kernel⟩
theorem fX7_18 : FK RX7 18 7 3 := ⟨RX7, TX7, 28, tyX7, rfl, by decide, ulX7, (wa_4 (List.mem_of_getElem? (i := 95) (by decide +kernel)) (by decide +kernel)), tyX7_ok, nmX7⟩
theorem fX7_21 : FK RX7 21 7 4 := ⟨RX7, TX7, 28, tyX7, rfl, by decide, ulX7, (wa_4 (List.mem_of_getElem? (i := 96) (by decide +kernel)) (by decide +kernel)), tyX7_ok, nmX7⟩
theorem pX7_4 : PK 7 4 .int := fun C T N h => by cases h; exact ⟨rfl, by decide +kernel⟩
theorem fX7_24 : FK RX7 24 7 5 := ⟨RX7, TX7, 28, tyX7, rfl, by decide, ulX7, (wa_4 (List.mem_of_getElem? (i := 97) (by decide +kernel)) (by decide +kernel)), tyX7_ok, nmX7⟩
theorem pX7_5 : PK 7 5 .int := fun C T N h => by cases h; exact ⟨rfl, by decide +kernel⟩
theorem fX7_27 : FK RX7 27 7 6 := ⟨RX7, TX7, 28, tyX7, rfl, by decide, ulX7, (wa_4 (List.mem_of_getElem? (i := 98) (by decide +kernel)) (by decide +kernel)), tyX7_ok, nmX7⟩
theorem pX7_6 : PK 7 6 .int := fun C T N h => by cases h; exact ⟨rfl, by decide +kernel⟩
theorem fX7_37 : FK RX7 37 7 10 := ⟨RX7, TX7, 28, tyX7, rfl, by decide, ulX7, (wa_4 (List.mem_of_getElem? (i := 102) (by decide +kernel)) (by decide +kernel)), tyX7_ok, nmX7⟩
theorem pX7_10 : PK 7 10 .long := fun C T N h => by cases h; exact ⟨rfl, by decide +kernel⟩
theorem fX7_41 : FK RX7 41 7 7 := ⟨RX7, TX7, 28, tyX7, rfl, by decide, ulX7, (wa_4 (List.mem_of_getElem? (i := 99) (by decide +kernel)) (by decide +kernel)), tyX7_ok, nmX7⟩
theorem pX7_7 : PK 7 7 .int := fun C T N h => by cases h; exact ⟨rfl, by decide +kernel⟩
theorem lX7_48 : Jvm.Cond.constantLong RX7 48 (27) ∈ wsA := (wa_4 (List.mem_of_getElem? (i := 196) (by decide +kernel)) (by decide +kernel))
theorem lX7_50 : Jvm.Cond.constantLong RX7 50 (96) ∈ wsA := (wa_4 (List.mem_of_getElem? (i := 197) (by decide +kernel)) (by decide +kernel))
theorem fX7_52 : FK RX7 52 7 8 := ⟨RX7, TX7, 28, tyX7, rfl, by decide, ulX7, (wa_4 (List.mem_of_getElem? (i := 100) (by decide +kernel)) (by decide +kernel)), tyX7_ok, nmX7⟩
theorem pX7_8 : PK 7 8 .int := fun C T N h => by cases h; exact ⟨rfl, by decide +kernel⟩
theorem fX7_55 : FK RX7 55 7 9 := ⟨RX7, TX7, 28, tyX7, rfl, by decide, ulX7, (wa_4 (List.mem_of_getElem? (i := 101) (by decide +kernel)) (by decide +kernel)), tyX7_ok, nmX7⟩
theorem pX7_9 : PK 7 9 .int := fun C T N h => by cases h; exact ⟨rfl, by decide +kernel⟩
theorem fX7_67 : FK RX7 67 7 12 := ⟨RX7, TX7, 28, tyX7, rfl, by decide, ulX7, (wa_4 (List.mem_of_getElem? (i := 104) (by decide +kernel)) (by decide +kernel)), tyX7_ok, nmX7⟩
theorem lX7_108 : Jvm.Cond.constantLong RX7 108 (729) ∈ wsA := (wa_4 (List.mem_of_getElem? (i := 206) (by decide +kernel)) (by decide +kernel))
theorem lX7_114 : Jvm.Cond.constantLong RX7 114 (108) ∈ wsA := (wa_4 (List.mem_of_getElem? (i := 210) (by decide +kernel)) (by decide +kernel))
theorem lX7_116 : Jvm.Cond.constantLong RX7 116 (19) ∈ wsA := (wa_4 (List.mem_of_getElem? (i := 211) (by decide +kernel)) (by decide +kernel))
theorem lX7_133 : Jvm.Cond.constantLong RX7 133 (14348907) ∈ wsA := (wa_4 (List.mem_of_getElem? (i := 239) (by decide +kernel)) (by decide +kernel))
theorem lX7_135 : Jvm.Cond.constantLong RX7 135 (135) ∈ wsA := (wa_5 (List.mem_of_getElem? (i := 0) (by decide +kernel)) (by decide +kernel))
theorem lX7_137 : Jvm.Cond.constantLong RX7 137 (18) ∈ wsA := (wa_5 (List.mem_of_getElem? (i := 1) (by decide +kernel)) (by decide +kernel))
theorem fX7_151 : FK RX7 151 7 15 := ⟨RX7, TX7, 28, tyX7, rfl, by decide, ulX7, (wa_4 (List.mem_of_getElem? (i := 107) (by decide +kernel)) (by decide +kernel)), tyX7_ok, nmX7⟩
theorem pX7_15 : PK 7 15 .int := fun C T N h => by cases h; exact ⟨rfl, by decide +kernel⟩
theorem pX7_3 : PK 7 3 .int := fun C T N h => by cases h; exact ⟨rfl, by decide +kernel⟩
theorem fX7_64 : FK RX7 64 7 11 := ⟨RX7, TX7, 28, tyX7, rfl, by decide, ulX7, (wa_4 (List.mem_of_getElem? (i := 103) (by decide +kernel)) (by decide +kernel)), tyX7_ok, nmX7⟩
theorem fX7_163 : FK RX7 163 7 14 := ⟨RX7, TX7, 28, tyX7, rfl, by decide, ulX7, (wa_4 (List.mem_of_getElem? (i := 106) (by decide +kernel)) (by decide +kernel)), tyX7_ok, nmX7⟩
theorem pX7_14 : PK 7 14 .int := fun C T N h => by cases h; exact ⟨rfl, by decide +kernel⟩
theorem fX7_221 : FK RX7 221 7 24 := ⟨RX7, TX7, 28, tyX7, rfl, by decide, ulX7, (wa_4 (List.mem_of_getElem? (i := 116) (by decide +kernel)) (by decide +kernel)), tyX7_ok, nmX7⟩
theorem pX7_24 : PK 7 24 .int := fun C T N h => by cases h; exact ⟨rfl, by decide +kernel⟩
theorem fX7_224 : FK RX7 224 7 25 := ⟨RX7, TX7, 28, tyX7, rfl, by decide, ulX7, (wa_4 (List.mem_of_getElem? (i := 117) (by decide +kernel)) (by decide +kernel)), tyX7_ok, nmX7⟩
theorem pX7_25 : PK 7 25 .int := fun C T N h => by cases h; exact ⟨rfl, by decide +kernel⟩
theorem fX7_73 : FK RX7 73 7 16 := ⟨RX7, TX7, 28, tyX7, rfl, by decide, ulX7, (wa_4 (List.mem_of_getElem? (i := 108) (by decide +kernel)) (by decide +kernel)), tyX7_ok, nmX7⟩
theorem fX7_79 : FK RX7 79 7 18 := ⟨RX7, TX7, 28, tyX7, rfl, by decide, ulX7, (wa_4 (List.mem_of_getElem? (i := 110) (by decide +kernel)) (by decide +kernel)), tyX7_ok, nmX7⟩
theorem fX7_82 : FK RX7 82 7 19 := ⟨RX7, TX7, 28, tyX7, rfl, by decide, ulX7, (wa_4 (List.mem_of_getElem? (i := 111) (by decide +kernel)) (by decide +kernel)), tyX7_ok, nmX7⟩
theorem fX7_94 : FK RX7 94 7 23 := ⟨RX7, TX7, 28, tyX7, rfl, by decide, ulX7, (wa_4 (List.mem_of_getElem? (i := 115) (by decide +kernel)) (by decide +kernel)), tyX7_ok, nmX7⟩
theorem fX7_76 : FK RX7 76 7 17 := ⟨RX7, TX7, 28, tyX7, rfl, by decide, ulX7, (wa_4 (List.mem_of_getElem? (i := 109) (by decide +kernel)) (by decide +kernel)), tyX7_ok, nmX7⟩
theorem fX7_234 : FK RX7 234 7 26 := ⟨RX7, TX7, 28, tyX7, rfl, by decide, ulX7, (wa_4 (List.mem_of_getElem? (i := 118) (by decide +kernel)) (by decide +kernel)), tyX7_ok, nmX7⟩
theorem pX7_26 : PK 7 26 .int := fun C T N h => by cases h; exact ⟨rfl, by decide +kernel⟩
theorem fX7_243 : FK RX7 243 7 27 := ⟨RX7, TX7, 28, tyX7, rfl, by decide, ulX7, (wa_4 (List.mem_of_getElem? (i := 119) (by decide +kernel)) (by decide +kernel)), tyX7_ok, nmX7⟩
theorem pX7_27 : PK 7 27 .int := fun C T N h => by cases h; exact ⟨rfl, by decide +kernel⟩
theorem fX7_85 : FK RX7 85 7 20 := ⟨RX7, TX7, 28, tyX7, rfl, by decide, ulX7, (wa_4 (List.mem_of_getElem? (i := 112) (by decide +kernel)) (by decide +kernel)), tyX7_ok, nmX7⟩
theorem fX7_88 : FK RX7 88 7 21 := ⟨RX7, TX7, 28, tyX7, rfl, by decide, ulX7, (wa_4 (List.mem_of_getElem? (i := 113) (by decide +kernel)) (by decide +kernel)), tyX7_ok, nmX7⟩
theorem fX7_91 : FK RX7 91 7 22 := ⟨RX7, TX7, 28, tyX7, rfl, by decide, ulX7, (wa_4 (List.mem_of_getElem? (i := 114) (by decide +kernel)) (by decide +kernel)), tyX7_ok, nmX7⟩
theorem fX7_70 : FK RX7 70 7 13 := ⟨RX7, TX7, 28, tyX7, rfl, by decide, ulX7, (wa_4 (List.mem_of_getElem? (i := 105) (by decide +kernel)) (by decide +kernel)), tyX7_ok, nmX7⟩
theorem fX6_162 : FK RX6 162 2 17 := ⟨RX2, TX2, 20, tyX2, rfl, by decide, ulX2, (wa_1 (List.mem_of_getElem? (i := 96) (by decide +kernel)) (by decide +kernel)), tyX2_ok, nmX2⟩
theorem fX6_168 : FK RX6 168 2 18 := ⟨RX2, TX2, 20, tyX2, rfl, by decide, ulX2, (wa_1 (List.mem_of_getElem? (i := 98) (by decide +kernel)) (by decide +kernel)), tyX2_ok, nmX2⟩
theorem im_X2_copyFrom : Cond.instanceMethod yX2_copyFrom ∈ wsA := (wa_2 (List.mem_of_getElem? (i := 210) (by decide +kernel)) (by decide +kernel))
theorem se_X2_copyFrom : Cond.selects RX2 yX2_copyFrom yX2_copyFrom ∈ wsA := (wa_2 (List.mem_of_getElem? (i := 211) (by decide +kernel)) (by decide +kernel))
theorem co_X2_copyFrom : Cond.code yX2_copyFrom cX2_copyFrom 2 (none) ∈ wsA := (wa_2 (List.mem_of_getElem? (i := 212) rfl) (by decide +kernel))
theorem yy_X2_copyFrom : yX2_copyFrom.cls = RX2 ∧ yX2_copyFrom.cls ≠ "java/lang/invoke/MethodHandle" ∧ yX2_copyFrom.cls ≠ "java/lang/invoke/VarHandle" ∧ (parseMethodDescriptor yX2_copyFrom.desc).map (fun d => d.parameters.length) = some 1 := by decide +kernel
theorem e_X0_keep_22 : EV md_X0_keep md_X2_copyFrom 22 2 1 := ⟨(wa_3 (List.mem_of_getElem? (i := 147) (by decide +kernel)) (by decide +kernel)), im_X2_copyFrom, se_X2_copyFrom, (wa_1 (List.mem_of_getElem? (i := 3) (by decide +kernel)) (by decide +kernel)), co_X2_copyFrom, yy_X2_copyFrom, ⟨by decide, by decide⟩, _, rfl, rfl⟩
theorem e_X0_bringBack_22 : EV md_X0_bringBack md_X2_copyFrom 22 2 1 := ⟨(wa_3 (List.mem_of_getElem? (i := 147) (by decide +kernel)) (by decide +kernel)), im_X2_copyFrom, se_X2_copyFrom, (wa_1 (List.mem_of_getElem? (i := 3) (by decide +kernel)) (by decide +kernel)), co_X2_copyFrom, yy_X2_copyFrom, ⟨by decide, by decide⟩, _, rfl, rfl⟩
theorem im_X1_gatherLots : Cond.instanceMethod yX1_gatherLots ∈ wsA := (wa_3 (List.mem_of_getElem? (i := 64) (by decide +kernel)) (by decide +kernel))
theorem se_X1_gatherLots : Cond.selects RX1 yX1_gatherLots yX1_gatherLots ∈ wsA := (wa_p (List.mem_of_getElem? (i := 16) (by decide +kernel)) (by decide +kernel))
theorem co_X1_gatherLots : Cond.code yX1_gatherLots cX1_gatherLots 3 (none) ∈ wsA := (wa_3 (List.mem_of_getElem? (i := 65) rfl) (by decide +kernel))
theorem yy_X1_gatherLots : yX1_gatherLots.cls = RX1 ∧ yX1_gatherLots.cls ≠ "java/lang/invoke/MethodHandle" ∧ yX1_gatherLots.cls ≠ "java/lang/invoke/VarHandle" ∧ (parseMethodDescriptor yX1_gatherLots.desc).map (fun d => d.parameters.length) = some 1 := by decide +kernel
theorem e_X1_make_28 : EV md_X1_make md_X1_gatherLots 28 1 1 := ⟨(wa_3 (List.mem_of_getElem? (i := 62) (by decide +kernel)) (by decide +kernel)), im_X1_gatherLots, se_X1_gatherLots, (wa_1 (List.mem_of_getElem? (i := 6) (by decide +kernel)) (by decide +kernel)), co_X1_gatherLots, yy_X1_gatherLots, ⟨by decide, by decide⟩, _, rfl, rfl⟩
theorem im_X1_gatherOrders : Cond.instanceMethod yX1_gatherOrders ∈ wsA := (wa_3 (List.mem_of_getElem? (i := 72) (by decide +kernel)) (by decide +kernel))
theorem se_X1_gatherOrders : Cond.selects RX1 yX1_gatherOrders yX1_gatherOrders ∈ wsA := (wa_p (List.mem_of_getElem? (i := 18) (by decide +kernel)) (by decide +kernel))
theorem co_X1_gatherOrders : Cond.code yX1_gatherOrders cX1_gatherOrders 3 (none) ∈ wsA := (wa_3 (List.mem_of_getElem? (i := 73) rfl) (by decide +kernel))
theorem yy_X1_gatherOrders : yX1_gatherOrders.cls = RX1 ∧ yX1_gatherOrders.cls ≠ "java/lang/invoke/MethodHandle" ∧ yX1_gatherOrders.cls ≠ "java/lang/invoke/VarHandle" ∧ (parseMethodDescriptor yX1_gatherOrders.desc).map (fun d => d.parameters.length) = some 1 := by decide +kernel
theorem e_X1_make_32 : EV md_X1_make md_X1_gatherOrders 32 1 1 := ⟨(wa_3 (List.mem_of_getElem? (i := 70) (by decide +kernel)) (by decide +kernel)), im_X1_gatherOrders, se_X1_gatherOrders, (wa_1 (List.mem_of_getElem? (i := 6) (by decide +kernel)) (by decide +kernel)), co_X1_gatherOrders, yy_X1_gatherOrders, ⟨by decide, by decide⟩, _, rfl, rfl⟩
theorem im_X1_serve : Cond.instanceMethod yX1_serve ∈ wsA := (wa_3 (List.mem_of_getElem? (i := 81) (by decide +kernel)) (by decide +kernel))
theorem se_X1_serve : Cond.selects RX1 yX1_serve yX1_serve ∈ wsA := (wa_p (List.mem_of_getElem? (i := 20) (by decide +kernel)) (by decide +kernel))
theorem co_X1_serve : Cond.code yX1_serve cX1_serve 6 (none) ∈ wsA := (wa_3 (List.mem_of_getElem? (i := 82) rfl) (by decide +kernel))
theorem yy_X1_serve : yX1_serve.cls = RX1 ∧ yX1_serve.cls ≠ "java/lang/invoke/MethodHandle" ∧ yX1_serve.cls ≠ "java/lang/invoke/VarHandle" ∧ (parseMethodDescriptor yX1_serve.desc).map (fun d => d.parameters.length) = some 1 := by decide +kernel
theorem e_X1_make_39 : EV md_X1_make md_X1_serve 39 1 1 := ⟨(wa_3 (List.mem_of_getElem? (i := 79) (by decide +kernel)) (by decide +kernel)), im_X1_serve, se_X1_serve, (wa_1 (List.mem_of_getElem? (i := 6) (by decide +kernel)) (by decide +kernel)), co_X1_serve, yy_X1_serve, ⟨by decide, by decide⟩, _, rfl, rfl⟩
theorem im_X1_turnOf : Cond.instanceMethod yX1_turnOf ∈ wsA := (wa_3 (List.mem_of_getElem? (i := 94) (by decide +kernel)) (by decide +kernel))
theorem se_X1_turnOf : Cond.selects RX1 yX1_turnOf yX1_turnOf ∈ wsA := (wa_p (List.mem_of_getElem? (i := 21) (by decide +kernel)) (by decide +kernel))
theorem co_X1_turnOf : Cond.code yX1_turnOf cX1_turnOf 3 (some .int) ∈ wsA := (wa_3 (List.mem_of_getElem? (i := 95) rfl) (by decide +kernel))
theorem yy_X1_turnOf : yX1_turnOf.cls = RX1 ∧ yX1_turnOf.cls ≠ "java/lang/invoke/MethodHandle" ∧ yX1_turnOf.cls ≠ "java/lang/invoke/VarHandle" ∧ (parseMethodDescriptor yX1_turnOf.desc).map (fun d => d.parameters.length) = some 1 := by decide +kernel
theorem e_X1_grantOf_42 : EV md_X1_grantOf md_X1_turnOf 42 1 1 := ⟨(wa_3 (List.mem_of_getElem? (i := 92) (by decide +kernel)) (by decide +kernel)), im_X1_turnOf, se_X1_turnOf, (wa_1 (List.mem_of_getElem? (i := 6) (by decide +kernel)) (by decide +kernel)), co_X1_turnOf, yy_X1_turnOf, ⟨by decide, by decide⟩, _, rfl, rfl⟩
theorem st_X1_cell : Cond.static yX1_cell ∈ wsA := (wa_3 (List.mem_of_getElem? (i := 86) (by decide +kernel)) (by decide +kernel))
theorem co_X1_cell : Cond.code yX1_cell cX1_cell 2 (some .int) ∈ wsA := (wa_3 (List.mem_of_getElem? (i := 87) rfl) (by decide +kernel))
theorem yy_X1_cell : yX1_cell.cls = RX1 ∧ yX1_cell.cls ≠ "java/lang/invoke/MethodHandle" ∧ yX1_cell.cls ≠ "java/lang/invoke/VarHandle" ∧ (parseMethodDescriptor yX1_cell.desc).map (fun d => d.parameters.length) = some 2 := by decide +kernel
theorem e_X1_grantOf_49 : ES md_X1_grantOf md_X1_cell 49 2 := ⟨(wa_3 (List.mem_of_getElem? (i := 85) (by decide +kernel)) (by decide +kernel)), st_X1_cell, (wa_1 (List.mem_of_getElem? (i := 6) (by decide +kernel)) (by decide +kernel)), co_X1_cell, yy_X1_cell, ⟨by decide, by decide⟩⟩
theorem e_X1_shareOf_42 : EV md_X1_shareOf md_X1_turnOf 42 1 1 := ⟨(wa_3 (List.mem_of_getElem? (i := 92) (by decide +kernel)) (by decide +kernel)), im_X1_turnOf, se_X1_turnOf, (wa_1 (List.mem_of_getElem? (i := 6) (by decide +kernel)) (by decide +kernel)), co_X1_turnOf, yy_X1_turnOf, ⟨by decide, by decide⟩, _, rfl, rfl⟩
theorem e_X1_shareOf_49 : ES md_X1_shareOf md_X1_cell 49 2 := ⟨(wa_3 (List.mem_of_getElem? (i := 85) (by decide +kernel)) (by decide +kernel)), st_X1_cell, (wa_1 (List.mem_of_getElem? (i := 6) (by decide +kernel)) (by decide +kernel)), co_X1_cell, yy_X1_cell, ⟨by decide, by decide⟩⟩
theorem e_X1_reserveAll_49 : ES md_X1_reserveAll md_X1_cell 49 2 := ⟨(wa_3 (List.mem_of_getElem? (i := 85) (by decide +kernel)) (by decide +kernel)), st_X1_cell, (wa_1 (List.mem_of_getElem? (i := 6) (by decide +kernel)) (by decide +kernel)), co_X1_cell, yy_X1_cell, ⟨by decide, by decide⟩⟩
theorem im_X2_reservedFor : Cond.instanceMethod yX2_reservedFor ∈ wsA := (wa_3 (List.mem_of_getElem? (i := 23) (by decide +kernel)) (by decide +kernel))
theorem se_X2_reservedFor : Cond.selects RX2 yX2_reservedFor yX2_reservedFor ∈ wsA := (wa_3 (List.mem_of_getElem? (i := 24) (by decide +kernel)) (by decide +kernel))
theorem co_X2_reservedFor : Cond.code yX2_reservedFor cX2_reservedFor 3 (some .int) ∈ wsA := (wa_3 (List.mem_of_getElem? (i := 25) rfl) (by decide +kernel))
theorem yy_X2_reservedFor : yX2_reservedFor.cls = RX2 ∧ yX2_reservedFor.cls ≠ "java/lang/invoke/MethodHandle" ∧ yX2_reservedFor.cls ≠ "java/lang/invoke/VarHandle" ∧ (parseMethodDescriptor yX2_reservedFor.desc).map (fun d => d.parameters.length) = some 2 := by decide +kernel
theorem e_X1_reserveAll_58 : EV md_X1_reserveAll md_X2_reservedFor 58 2 2 := ⟨(wa_3 (List.mem_of_getElem? (i := 162) (by decide +kernel)) (by decide +kernel)), im_X2_reservedFor, se_X2_reservedFor, (wa_1 (List.mem_of_getElem? (i := 3) (by decide +kernel)) (by decide +kernel)), co_X2_reservedFor, yy_X2_reservedFor, ⟨by decide, by decide⟩, _, rfl, rfl⟩
theorem im_X2_setReserved : Cond.instanceMethod yX2_setReserved ∈ wsA := (wa_3 (List.mem_of_getElem? (i := 167) (by decide +kernel)) (by decide +kernel))
theorem se_X2_setReserved : Cond.selects RX2 yX2_setReserved yX2_setReserved ∈ wsA := (wa_3 (List.mem_of_getElem? (i := 168) (by decide +kernel)) (by decide +kernel))
theorem co_X2_setReserved : Cond.code yX2_setReserved cX2_setReserved 4 (none) ∈ wsA := (wa_3 (List.mem_of_getElem? (i := 169) rfl) (by decide +kernel))
theorem yy_X2_setReserved : yX2_setReserved.cls = RX2 ∧ yX2_setReserved.cls ≠ "java/lang/invoke/MethodHandle" ∧ yX2_setReserved.cls ≠ "java/lang/invoke/VarHandle" ∧ (parseMethodDescriptor yX2_setReserved.desc).map (fun d => d.parameters.length) = some 3 := by decide +kernel
theorem e_X1_reserveAll_66 : EV md_X1_reserveAll md_X2_setReserved 66 2 3 := ⟨(wa_3 (List.mem_of_getElem? (i := 166) (by decide +kernel)) (by decide +kernel)), im_X2_setReserved, se_X2_setReserved, (wa_1 (List.mem_of_getElem? (i := 3) (by decide +kernel)) (by decide +kernel)), co_X2_setReserved, yy_X2_setReserved, ⟨by decide, by decide⟩, _, rfl, rfl⟩
theorem im_X1_insertLot : Cond.instanceMethod yX1_insertLot ∈ wsA := (wa_3 (List.mem_of_getElem? (i := 68) (by decide +kernel)) (by decide +kernel))
theorem se_X1_insertLot : Cond.selects RX1 yX1_insertLot yX1_insertLot ∈ wsA := (wa_p (List.mem_of_getElem? (i := 17) (by decide +kernel)) (by decide +kernel))
theorem co_X1_insertLot : Cond.code yX1_insertLot cX1_insertLot 3 (none) ∈ wsA := (wa_3 (List.mem_of_getElem? (i := 69) rfl) (by decide +kernel))
theorem yy_X1_insertLot : yX1_insertLot.cls = RX1 ∧ yX1_insertLot.cls ≠ "java/lang/invoke/MethodHandle" ∧ yX1_insertLot.cls ≠ "java/lang/invoke/VarHandle" ∧ (parseMethodDescriptor yX1_insertLot.desc).map (fun d => d.parameters.length) = some 1 := by decide +kernel
theorem e_X1_gatherLots_74 : EV md_X1_gatherLots md_X1_insertLot 74 1 1 := ⟨(wa_3 (List.mem_of_getElem? (i := 66) (by decide +kernel)) (by decide +kernel)), im_X1_insertLot, se_X1_insertLot, (wa_1 (List.mem_of_getElem? (i := 6) (by decide +kernel)) (by decide +kernel)), co_X1_insertLot, yy_X1_insertLot, ⟨by decide, by decide⟩, _, rfl, rfl⟩
theorem im_X2_isOpen : Cond.instanceMethod yX2_isOpen ∈ wsA := (wa_3 (List.mem_of_getElem? (i := 45) (by decide +kernel)) (by decide +kernel))
theorem se_X2_isOpen : Cond.selects RX2 yX2_isOpen yX2_isOpen ∈ wsA := (wa_3 (List.mem_of_getElem? (i := 46) (by decide +kernel)) (by decide +kernel))
theorem co_X2_isOpen : Cond.code yX2_isOpen cX2_isOpen 2 (some .boolean) ∈ wsA := (wa_3 (List.mem_of_getElem? (i := 47) rfl) (by decide +kernel))
theorem yy_X2_isOpen : yX2_isOpen.cls = RX2 ∧ yX2_isOpen.cls ≠ "java/lang/invoke/MethodHandle" ∧ yX2_isOpen.cls ≠ "java/lang/invoke/VarHandle" ∧ (parseMethodDescriptor yX2_isOpen.desc).map (fun d => d.parameters.length) = some 1 := by decide +kernel
theorem e_X1_gatherOrders_84 : EV md_X1_gatherOrders md_X2_isOpen 84 2 1 := ⟨(wa_3 (List.mem_of_getElem? (i := 74) (by decide +kernel)) (by decide +kernel)), im_X2_isOpen, se_X2_isOpen, (wa_1 (List.mem_of_getElem? (i := 3) (by decide +kernel)) (by decide +kernel)), co_X2_isOpen, yy_X2_isOpen, ⟨by decide, by decide⟩, _, rfl, rfl⟩
theorem im_X1_insertOrder : Cond.instanceMethod yX1_insertOrder ∈ wsA := (wa_3 (List.mem_of_getElem? (i := 77) (by decide +kernel)) (by decide +kernel))
theorem se_X1_insertOrder : Cond.selects RX1 yX1_insertOrder yX1_insertOrder ∈ wsA := (wa_p (List.mem_of_getElem? (i := 19) (by decide +kernel)) (by decide +kernel))
theorem co_X1_insertOrder : Cond.code yX1_insertOrder cX1_insertOrder 3 (none) ∈ wsA := (wa_3 (List.mem_of_getElem? (i := 78) rfl) (by decide +kernel))
theorem yy_X1_insertOrder : yX1_insertOrder.cls = RX1 ∧ yX1_insertOrder.cls ≠ "java/lang/invoke/MethodHandle" ∧ yX1_insertOrder.cls ≠ "java/lang/invoke/VarHandle" ∧ (parseMethodDescriptor yX1_insertOrder.desc).map (fun d => d.parameters.length) = some 1 := by decide +kernel
theorem e_X1_gatherOrders_88 : EV md_X1_gatherOrders md_X1_insertOrder 88 1 1 := ⟨(wa_3 (List.mem_of_getElem? (i := 75) (by decide +kernel)) (by decide +kernel)), im_X1_insertOrder, se_X1_insertOrder, (wa_1 (List.mem_of_getElem? (i := 6) (by decide +kernel)) (by decide +kernel)), co_X1_insertOrder, yy_X1_insertOrder, ⟨by decide, by decide⟩, _, rfl, rfl⟩
theorem im_X2_fits : Cond.instanceMethod yX2_fits ∈ wsA := (wa_3 (List.mem_of_getElem? (i := 50) (by decide +kernel)) (by decide +kernel))
theorem se_X2_fits : Cond.selects RX2 yX2_fits yX2_fits ∈ wsA := (wa_3 (List.mem_of_getElem? (i := 51) (by decide +kernel)) (by decide +kernel))
theorem co_X2_fits : Cond.code yX2_fits cX2_fits 4 (some .boolean) ∈ wsA := (wa_3 (List.mem_of_getElem? (i := 52) rfl) (by decide +kernel))
theorem yy_X2_fits : yX2_fits.cls = RX2 ∧ yX2_fits.cls ≠ "java/lang/invoke/MethodHandle" ∧ yX2_fits.cls ≠ "java/lang/invoke/VarHandle" ∧ (parseMethodDescriptor yX2_fits.desc).map (fun d => d.parameters.length) = some 2 := by decide +kernel
theorem e_X1_serve_97 : EV md_X1_serve md_X2_fits 97 2 2 := ⟨(wa_3 (List.mem_of_getElem? (i := 83) (by decide +kernel)) (by decide +kernel)), im_X2_fits, se_X2_fits, (wa_1 (List.mem_of_getElem? (i := 3) (by decide +kernel)) (by decide +kernel)), co_X2_fits, yy_X2_fits, ⟨by decide, by decide⟩, _, rfl, rfl⟩
theorem e_X1_serve_49 : ES md_X1_serve md_X1_cell 49 2 := ⟨(wa_3 (List.mem_of_getElem? (i := 85) (by decide +kernel)) (by decide +kernel)), st_X1_cell, (wa_1 (List.mem_of_getElem? (i := 6) (by decide +kernel)) (by decide +kernel)), co_X1_cell, yy_X1_cell, ⟨by decide, by decide⟩⟩
theorem st_X2_copyRow : Cond.static yX2_copyRow ∈ wsA := (wa_2 (List.mem_of_getElem? (i := 214) (by decide +kernel)) (by decide +kernel))
theorem co_X2_copyRow : Cond.code yX2_copyRow cX2_copyRow 2 (none) ∈ wsA := (wa_2 (List.mem_of_getElem? (i := 215) rfl) (by decide +kernel))
theorem yy_X2_copyRow : yX2_copyRow.cls = RX2 ∧ yX2_copyRow.cls ≠ "java/lang/invoke/MethodHandle" ∧ yX2_copyRow.cls ≠ "java/lang/invoke/VarHandle" ∧ (parseMethodDescriptor yX2_copyRow.desc).map (fun d => d.parameters.length) = some 2 := by decide +kernel
theorem e_X2_copyFrom_73 : ES md_X2_copyFrom md_X2_copyRow 73 2 := ⟨(wa_2 (List.mem_of_getElem? (i := 213) (by decide +kernel)) (by decide +kernel)), st_X2_copyRow, (wa_1 (List.mem_of_getElem? (i := 3) (by decide +kernel)) (by decide +kernel)), co_X2_copyRow, yy_X2_copyRow, ⟨by decide, by decide⟩⟩
theorem im_X2_hasOrder : Cond.instanceMethod yX2_hasOrder ∈ wsA := (wa_3 (List.mem_of_getElem? (i := 19) (by decide +kernel)) (by decide +kernel))
theorem se_X2_hasOrder : Cond.selects RX2 yX2_hasOrder yX2_hasOrder ∈ wsA := (wa_3 (List.mem_of_getElem? (i := 20) (by decide +kernel)) (by decide +kernel))
theorem co_X2_hasOrder : Cond.code yX2_hasOrder cX2_hasOrder 2 (some .boolean) ∈ wsA := (wa_3 (List.mem_of_getElem? (i := 21) rfl) (by decide +kernel))
theorem yy_X2_hasOrder : yX2_hasOrder.cls = RX2 ∧ yX2_hasOrder.cls ≠ "java/lang/invoke/MethodHandle" ∧ yX2_hasOrder.cls ≠ "java/lang/invoke/VarHandle" ∧ (parseMethodDescriptor yX2_hasOrder.desc).map (fun d => d.parameters.length) = some 1 := by decide +kernel
theorem e_X2_isOpen_89 : EV md_X2_isOpen md_X2_hasOrder 89 2 1 := ⟨(wa_3 (List.mem_of_getElem? (i := 48) (by decide +kernel)) (by decide +kernel)), im_X2_hasOrder, se_X2_hasOrder, (wa_1 (List.mem_of_getElem? (i := 3) (by decide +kernel)) (by decide +kernel)), co_X2_hasOrder, yy_X2_hasOrder, ⟨by decide, by decide⟩, _, rfl, rfl⟩
theorem im_X2_reservedOfLot : Cond.instanceMethod yX2_reservedOfLot ∈ wsA := (wa_3 (List.mem_of_getElem? (i := 7) (by decide +kernel)) (by decide +kernel))
theorem se_X2_reservedOfLot : Cond.selects RX2 yX2_reservedOfLot yX2_reservedOfLot ∈ wsA := (wa_3 (List.mem_of_getElem? (i := 8) (by decide +kernel)) (by decide +kernel))
theorem co_X2_reservedOfLot : Cond.code yX2_reservedOfLot cX2_reservedOfLot 4 (some .int) ∈ wsA := (wa_3 (List.mem_of_getElem? (i := 9) rfl) (by decide +kernel))
theorem yy_X2_reservedOfLot : yX2_reservedOfLot.cls = RX2 ∧ yX2_reservedOfLot.cls ≠ "java/lang/invoke/MethodHandle" ∧ yX2_reservedOfLot.cls ≠ "java/lang/invoke/VarHandle" ∧ (parseMethodDescriptor yX2_reservedOfLot.desc).map (fun d => d.parameters.length) = some 1 := by decide +kernel
theorem e_X2_sumReserved_93 : EV md_X2_sumReserved md_X2_reservedOfLot 93 2 1 := ⟨(wa_3 (List.mem_of_getElem? (i := 6) (by decide +kernel)) (by decide +kernel)), im_X2_reservedOfLot, se_X2_reservedOfLot, (wa_1 (List.mem_of_getElem? (i := 3) (by decide +kernel)) (by decide +kernel)), co_X2_reservedOfLot, yy_X2_reservedOfLot, ⟨by decide, by decide⟩, _, rfl, rfl⟩
theorem im_X2_latestOf : Cond.instanceMethod yX2_latestOf ∈ wsA := (wa_3 (List.mem_of_getElem? (i := 37) (by decide +kernel)) (by decide +kernel))
theorem se_X2_latestOf : Cond.selects RX2 yX2_latestOf yX2_latestOf ∈ wsA := (wa_3 (List.mem_of_getElem? (i := 38) (by decide +kernel)) (by decide +kernel))
theorem co_X2_latestOf : Cond.code yX2_latestOf cX2_latestOf 3 (some .int) ∈ wsA := (wa_3 (List.mem_of_getElem? (i := 39) rfl) (by decide +kernel))
theorem yy_X2_latestOf : yX2_latestOf.cls = RX2 ∧ yX2_latestOf.cls ≠ "java/lang/invoke/MethodHandle" ∧ yX2_latestOf.cls ≠ "java/lang/invoke/VarHandle" ∧ (parseMethodDescriptor yX2_latestOf.desc).map (fun d => d.parameters.length) = some 2 := by decide +kernel
theorem e_X2_fits_97 : EV md_X2_fits md_X2_latestOf 97 2 2 := ⟨(wa_3 (List.mem_of_getElem? (i := 53) (by decide +kernel)) (by decide +kernel)), im_X2_latestOf, se_X2_latestOf, (wa_1 (List.mem_of_getElem? (i := 3) (by decide +kernel)) (by decide +kernel)), co_X2_latestOf, yy_X2_latestOf, ⟨by decide, by decide⟩, _, rfl, rfl⟩
theorem im_X2_cell : Cond.instanceMethod yX2_cell ∈ wsA := (wa_3 (List.mem_of_getElem? (i := 28) (by decide +kernel)) (by decide +kernel))
theorem se_X2_cell : Cond.selects RX2 yX2_cell yX2_cell ∈ wsA := (wa_p (List.mem_of_getElem? (i := 15) (by decide +kernel)) (by decide +kernel))
theorem co_X2_cell : Cond.code yX2_cell cX2_cell 3 (some .int) ∈ wsA := (wa_3 (List.mem_of_getElem? (i := 29) rfl) (by decide +kernel))
theorem yy_X2_cell : yX2_cell.cls = RX2 ∧ yX2_cell.cls ≠ "java/lang/invoke/MethodHandle" ∧ yX2_cell.cls ≠ "java/lang/invoke/VarHandle" ∧ (parseMethodDescriptor yX2_cell.desc).map (fun d => d.parameters.length) = some 2 := by decide +kernel
theorem e_X2_reservedFor_100 : EV md_X2_reservedFor md_X2_cell 100 2 2 := ⟨(wa_3 (List.mem_of_getElem? (i := 26) (by decide +kernel)) (by decide +kernel)), im_X2_cell, se_X2_cell, (wa_1 (List.mem_of_getElem? (i := 3) (by decide +kernel)) (by decide +kernel)), co_X2_cell, yy_X2_cell, ⟨by decide, by decide⟩, _, rfl, rfl⟩
theorem e_X2_setReserved_100 : EV md_X2_setReserved md_X2_cell 100 2 2 := ⟨(wa_3 (List.mem_of_getElem? (i := 26) (by decide +kernel)) (by decide +kernel)), im_X2_cell, se_X2_cell, (wa_1 (List.mem_of_getElem? (i := 3) (by decide +kernel)) (by decide +kernel)), co_X2_cell, yy_X2_cell, ⟨by decide, by decide⟩, _, rfl, rfl⟩
theorem e_X2_reservedForOrder_103 : EV md_X2_reservedForOrder md_X2_reservedFor 103 2 2 := ⟨(wa_3 (List.mem_of_getElem? (i := 182) (by decide +kernel)) (by decide +kernel)), im_X2_reservedFor, se_X2_reservedFor, (wa_1 (List.mem_of_getElem? (i := 3) (by decide +kernel)) (by decide +kernel)), co_X2_reservedFor, yy_X2_reservedFor, ⟨by decide, by decide⟩, _, rfl, rfl⟩
theorem im_X2_release : Cond.instanceMethod yX2_release ∈ wsA := (wa_3 (List.mem_of_getElem? (i := 180) (by decide +kernel)) (by decide +kernel))
theorem se_X2_release : Cond.selects RX2 yX2_release yX2_release ∈ wsA := (wa_p (List.mem_of_getElem? (i := 24) (by decide +kernel)) (by decide +kernel))
theorem co_X2_release : Cond.code yX2_release cX2_release 4 (some .int) ∈ wsA := (wa_3 (List.mem_of_getElem? (i := 181) rfl) (by decide +kernel))
theorem yy_X2_release : yX2_release.cls = RX2 ∧ yX2_release.cls ≠ "java/lang/invoke/MethodHandle" ∧ yX2_release.cls ≠ "java/lang/invoke/VarHandle" ∧ (parseMethodDescriptor yX2_release.desc).map (fun d => d.parameters.length) = some 2 := by decide +kernel
theorem e_X2_close_106 : EV md_X2_close md_X2_release 106 2 2 := ⟨(wa_3 (List.mem_of_getElem? (i := 178) (by decide +kernel)) (by decide +kernel)), im_X2_release, se_X2_release, (wa_1 (List.mem_of_getElem? (i := 3) (by decide +kernel)) (by decide +kernel)), co_X2_release, yy_X2_release, ⟨by decide, by decide⟩, _, rfl, rfl⟩
theorem e_X2_release_103 : EV md_X2_release md_X2_reservedFor 103 2 2 := ⟨(wa_3 (List.mem_of_getElem? (i := 182) (by decide +kernel)) (by decide +kernel)), im_X2_reservedFor, se_X2_reservedFor, (wa_1 (List.mem_of_getElem? (i := 3) (by decide +kernel)) (by decide +kernel)), co_X2_reservedFor, yy_X2_reservedFor, ⟨by decide, by decide⟩, _, rfl, rfl⟩
theorem e_X2_release_109 : EV md_X2_release md_X2_setReserved 109 2 3 := ⟨(wa_3 (List.mem_of_getElem? (i := 183) (by decide +kernel)) (by decide +kernel)), im_X2_setReserved, se_X2_setReserved, (wa_1 (List.mem_of_getElem? (i := 3) (by decide +kernel)) (by decide +kernel)), co_X2_setReserved, yy_X2_setReserved, ⟨by decide, by decide⟩, _, rfl, rfl⟩
theorem e_X2_releaseUnfit_113 : EV md_X2_releaseUnfit md_X2_fits 113 2 2 := ⟨(wa_3 (List.mem_of_getElem? (i := 192) (by decide +kernel)) (by decide +kernel)), im_X2_fits, se_X2_fits, (wa_1 (List.mem_of_getElem? (i := 3) (by decide +kernel)) (by decide +kernel)), co_X2_fits, yy_X2_fits, ⟨by decide, by decide⟩, _, rfl, rfl⟩
theorem e_X2_releaseUnfit_106 : EV md_X2_releaseUnfit md_X2_release 106 2 2 := ⟨(wa_3 (List.mem_of_getElem? (i := 178) (by decide +kernel)) (by decide +kernel)), im_X2_release, se_X2_release, (wa_1 (List.mem_of_getElem? (i := 3) (by decide +kernel)) (by decide +kernel)), co_X2_release, yy_X2_release, ⟨by decide, by decide⟩, _, rfl, rfl⟩
theorem e_X2_handOut_103 : EV md_X2_handOut md_X2_reservedFor 103 2 2 := ⟨(wa_3 (List.mem_of_getElem? (i := 182) (by decide +kernel)) (by decide +kernel)), im_X2_reservedFor, se_X2_reservedFor, (wa_1 (List.mem_of_getElem? (i := 3) (by decide +kernel)) (by decide +kernel)), co_X2_reservedFor, yy_X2_reservedFor, ⟨by decide, by decide⟩, _, rfl, rfl⟩
theorem im_X2_close : Cond.instanceMethod yX2_close ∈ wsA := (wa_3 (List.mem_of_getElem? (i := 175) (by decide +kernel)) (by decide +kernel))
theorem se_X2_close : Cond.selects RX2 yX2_close yX2_close ∈ wsA := (wa_3 (List.mem_of_getElem? (i := 176) (by decide +kernel)) (by decide +kernel))
theorem co_X2_close : Cond.code yX2_close cX2_close 5 (some .int) ∈ wsA := (wa_3 (List.mem_of_getElem? (i := 177) rfl) (by decide +kernel))
theorem yy_X2_close : yX2_close.cls = RX2 ∧ yX2_close.cls ≠ "java/lang/invoke/MethodHandle" ∧ yX2_close.cls ≠ "java/lang/invoke/VarHandle" ∧ (parseMethodDescriptor yX2_close.desc).map (fun d => d.parameters.length) = some 2 := by decide +kernel
theorem e_X2_handOut_120 : EV md_X2_handOut md_X2_close 120 2 2 := ⟨(wa_3 (List.mem_of_getElem? (i := 206) (by decide +kernel)) (by decide +kernel)), im_X2_close, se_X2_close, (wa_1 (List.mem_of_getElem? (i := 3) (by decide +kernel)) (by decide +kernel)), co_X2_close, yy_X2_close, ⟨by decide, by decide⟩, _, rfl, rfl⟩
theorem e_X2_endDay_120 : EV md_X2_endDay md_X2_close 120 2 2 := ⟨(wa_3 (List.mem_of_getElem? (i := 206) (by decide +kernel)) (by decide +kernel)), im_X2_close, se_X2_close, (wa_1 (List.mem_of_getElem? (i := 3) (by decide +kernel)) (by decide +kernel)), co_X2_close, yy_X2_close, ⟨by decide, by decide⟩, _, rfl, rfl⟩
theorem im_X2_writeOff : Cond.instanceMethod yX2_writeOff ∈ wsA := (wa_3 (List.mem_of_getElem? (i := 217) (by decide +kernel)) (by decide +kernel))
theorem se_X2_writeOff : Cond.selects RX2 yX2_writeOff yX2_writeOff ∈ wsA := (wa_p (List.mem_of_getElem? (i := 25) (by decide +kernel)) (by decide +kernel))
theorem co_X2_writeOff : Cond.code yX2_writeOff cX2_writeOff 3 (none) ∈ wsA := (wa_3 (List.mem_of_getElem? (i := 218) rfl) (by decide +kernel))
theorem yy_X2_writeOff : yX2_writeOff.cls = RX2 ∧ yX2_writeOff.cls ≠ "java/lang/invoke/MethodHandle" ∧ yX2_writeOff.cls ≠ "java/lang/invoke/VarHandle" ∧ (parseMethodDescriptor yX2_writeOff.desc).map (fun d => d.parameters.length) = some 1 := by decide +kernel
theorem e_X2_endDay_123 : EV md_X2_endDay md_X2_writeOff 123 2 1 := ⟨(wa_3 (List.mem_of_getElem? (i := 215) (by decide +kernel)) (by decide +kernel)), im_X2_writeOff, se_X2_writeOff, (wa_1 (List.mem_of_getElem? (i := 3) (by decide +kernel)) (by decide +kernel)), co_X2_writeOff, yy_X2_writeOff, ⟨by decide, by decide⟩, _, rfl, rfl⟩
theorem im_X4_start : Cond.instanceMethod yX4_start ∈ wsA := (wa_2 (List.mem_of_getElem? (i := 57) (by decide +kernel)) (by decide +kernel))
theorem se_X4_start : Cond.selects RX4 yX4_start yX4_start ∈ wsA := (wa_p (List.mem_of_getElem? (i := 0) (by decide +kernel)) (by decide +kernel))
theorem co_X4_start : Cond.code yX4_start cX4_start 1 (none) ∈ wsA := (wa_2 (List.mem_of_getElem? (i := 58) rfl) (by decide +kernel))
theorem yy_X4_start : yX4_start.cls = RX4 ∧ yX4_start.cls ≠ "java/lang/invoke/MethodHandle" ∧ yX4_start.cls ≠ "java/lang/invoke/VarHandle" ∧ (parseMethodDescriptor yX4_start.desc).map (fun d => d.parameters.length) = some 0 := by decide +kernel
theorem e_X4_readAll_28 : EV md_X4_readAll md_X4_start 28 4 0 := ⟨(wa_2 (List.mem_of_getElem? (i := 55) (by decide +kernel)) (by decide +kernel)), im_X4_start, se_X4_start, (wa_1 (List.mem_of_getElem? (i := 4) (by decide +kernel)) (by decide +kernel)), co_X4_start, yy_X4_start, ⟨by decide, by decide⟩, _, rfl, rfl⟩
theorem im_X5_advance : Cond.instanceMethod yX5_advance ∈ wsA := (wa_2 (List.mem_of_getElem? (i := 65) (by decide +kernel)) (by decide +kernel))
theorem se_X5_advance : Cond.selects RX5 yX5_advance yX5_advance ∈ wsA := (wa_2 (List.mem_of_getElem? (i := 66) (by decide +kernel)) (by decide +kernel))
theorem co_X5_advance : Cond.code yX5_advance cX5_advance 1 (none) ∈ wsA := (wa_2 (List.mem_of_getElem? (i := 67) rfl) (by decide +kernel))
theorem yy_X5_advance : yX5_advance.cls = RX5 ∧ yX5_advance.cls ≠ "java/lang/invoke/MethodHandle" ∧ yX5_advance.cls ≠ "java/lang/invoke/VarHandle" ∧ (parseMethodDescriptor yX5_advance.desc).map (fun d => d.parameters.length) = some 0 := by decide +kernel
theorem e_X4_readAll_35 : EV md_X4_readAll md_X5_advance 35 5 0 := ⟨(wa_2 (List.mem_of_getElem? (i := 64) (by decide +kernel)) (by decide +kernel)), im_X5_advance, se_X5_advance, (wa_1 (List.mem_of_getElem? (i := 5) (by decide +kernel)) (by decide +kernel)), co_X5_advance, yy_X5_advance, ⟨by decide, by decide⟩, _, rfl, rfl⟩
theorem im_X4_takeToken : Cond.instanceMethod yX4_takeToken ∈ wsA := (wa_2 (List.mem_of_getElem? (i := 144) (by decide +kernel)) (by decide +kernel))
theorem se_X4_takeToken : Cond.selects RX4 yX4_takeToken yX4_takeToken ∈ wsA := (wa_p (List.mem_of_getElem? (i := 5) (by decide +kernel)) (by decide +kernel))
theorem co_X4_takeToken : Cond.code yX4_takeToken cX4_takeToken 1 (some .int) ∈ wsA := (wa_2 (List.mem_of_getElem? (i := 145) rfl) (by decide +kernel))
theorem yy_X4_takeToken : yX4_takeToken.cls = RX4 ∧ yX4_takeToken.cls ≠ "java/lang/invoke/MethodHandle" ∧ yX4_takeToken.cls ≠ "java/lang/invoke/VarHandle" ∧ (parseMethodDescriptor yX4_takeToken.desc).map (fun d => d.parameters.length) = some 0 := by decide +kernel
theorem e_X4_readAll_48 : EV md_X4_readAll md_X4_takeToken 48 4 0 := ⟨(wa_2 (List.mem_of_getElem? (i := 142) (by decide +kernel)) (by decide +kernel)), im_X4_takeToken, se_X4_takeToken, (wa_1 (List.mem_of_getElem? (i := 4) (by decide +kernel)) (by decide +kernel)), co_X4_takeToken, yy_X4_takeToken, ⟨by decide, by decide⟩, _, rfl, rfl⟩
theorem im_X2_clear : Cond.instanceMethod yX2_clear ∈ wsA := (wa_2 (List.mem_of_getElem? (i := 13) (by decide +kernel)) (by decide +kernel))
theorem se_X2_clear : Cond.selects RX2 yX2_clear yX2_clear ∈ wsA := (wa_2 (List.mem_of_getElem? (i := 14) (by decide +kernel)) (by decide +kernel))
theorem co_X2_clear : Cond.code yX2_clear cX2_clear 2 (none) ∈ wsA := (wa_2 (List.mem_of_getElem? (i := 15) rfl) (by decide +kernel))
theorem yy_X2_clear : yX2_clear.cls = RX2 ∧ yX2_clear.cls ≠ "java/lang/invoke/MethodHandle" ∧ yX2_clear.cls ≠ "java/lang/invoke/VarHandle" ∧ (parseMethodDescriptor yX2_clear.desc).map (fun d => d.parameters.length) = some 0 := by decide +kernel
theorem e_X4_start_58 : EV md_X4_start md_X2_clear 58 2 0 := ⟨(wa_2 (List.mem_of_getElem? (i := 59) (by decide +kernel)) (by decide +kernel)), im_X2_clear, se_X2_clear, (wa_1 (List.mem_of_getElem? (i := 3) (by decide +kernel)) (by decide +kernel)), co_X2_clear, yy_X2_clear, ⟨by decide, by decide⟩, _, rfl, rfl⟩
theorem im_X5_rewind : Cond.instanceMethod yX5_rewind ∈ wsA := (wa_2 (List.mem_of_getElem? (i := 61) (by decide +kernel)) (by decide +kernel))
theorem se_X5_rewind : Cond.selects RX5 yX5_rewind yX5_rewind ∈ wsA := (wa_2 (List.mem_of_getElem? (i := 62) (by decide +kernel)) (by decide +kernel))
theorem co_X5_rewind : Cond.code yX5_rewind cX5_rewind 1 (none) ∈ wsA := (wa_2 (List.mem_of_getElem? (i := 63) rfl) (by decide +kernel))
theorem yy_X5_rewind : yX5_rewind.cls = RX5 ∧ yX5_rewind.cls ≠ "java/lang/invoke/MethodHandle" ∧ yX5_rewind.cls ≠ "java/lang/invoke/VarHandle" ∧ (parseMethodDescriptor yX5_rewind.desc).map (fun d => d.parameters.length) = some 0 := by decide +kernel
theorem e_X4_start_63 : EV md_X4_start md_X5_rewind 63 5 0 := ⟨(wa_2 (List.mem_of_getElem? (i := 60) (by decide +kernel)) (by decide +kernel)), im_X5_rewind, se_X5_rewind, (wa_1 (List.mem_of_getElem? (i := 5) (by decide +kernel)) (by decide +kernel)), co_X5_rewind, yy_X5_rewind, ⟨by decide, by decide⟩, _, rfl, rfl⟩
theorem im_X4_takeWord : Cond.instanceMethod yX4_takeWord ∈ wsA := (wa_2 (List.mem_of_getElem? (i := 148) (by decide +kernel)) (by decide +kernel))
theorem se_X4_takeWord : Cond.selects RX4 yX4_takeWord yX4_takeWord ∈ wsA := (wa_p (List.mem_of_getElem? (i := 6) (by decide +kernel)) (by decide +kernel))
theorem co_X4_takeWord : Cond.code yX4_takeWord cX4_takeWord 2 (some .int) ∈ wsA := (wa_2 (List.mem_of_getElem? (i := 149) rfl) (by decide +kernel))
theorem yy_X4_takeWord : yX4_takeWord.cls = RX4 ∧ yX4_takeWord.cls ≠ "java/lang/invoke/MethodHandle" ∧ yX4_takeWord.cls ≠ "java/lang/invoke/VarHandle" ∧ (parseMethodDescriptor yX4_takeWord.desc).map (fun d => d.parameters.length) = some 0 := by decide +kernel
theorem e_X4_takeToken_66 : EV md_X4_takeToken md_X4_takeWord 66 4 0 := ⟨(wa_2 (List.mem_of_getElem? (i := 146) (by decide +kernel)) (by decide +kernel)), im_X4_takeWord, se_X4_takeWord, (wa_1 (List.mem_of_getElem? (i := 4) (by decide +kernel)) (by decide +kernel)), co_X4_takeWord, yy_X4_takeWord, ⟨by decide, by decide⟩, _, rfl, rfl⟩
theorem im_X4_numbersOfLine : Cond.instanceMethod yX4_numbersOfLine ∈ wsA := (wa_2 (List.mem_of_getElem? (i := 156) (by decide +kernel)) (by decide +kernel))
theorem se_X4_numbersOfLine : Cond.selects RX4 yX4_numbersOfLine yX4_numbersOfLine ∈ wsA := (wa_p (List.mem_of_getElem? (i := 8) (by decide +kernel)) (by decide +kernel))
theorem co_X4_numbersOfLine : Cond.code yX4_numbersOfLine cX4_numbersOfLine 1 (some .int) ∈ wsA := (wa_2 (List.mem_of_getElem? (i := 157) rfl) (by decide +kernel))
theorem yy_X4_numbersOfLine : yX4_numbersOfLine.cls = RX4 ∧ yX4_numbersOfLine.cls ≠ "java/lang/invoke/MethodHandle" ∧ yX4_numbersOfLine.cls ≠ "java/lang/invoke/VarHandle" ∧ (parseMethodDescriptor yX4_numbersOfLine.desc).map (fun d => d.parameters.length) = some 0 := by decide +kernel
theorem e_X4_takeToken_72 : EV md_X4_takeToken md_X4_numbersOfLine 72 4 0 := ⟨(wa_2 (List.mem_of_getElem? (i := 154) (by decide +kernel)) (by decide +kernel)), im_X4_numbersOfLine, se_X4_numbersOfLine, (wa_1 (List.mem_of_getElem? (i := 4) (by decide +kernel)) (by decide +kernel)), co_X4_numbersOfLine, yy_X4_numbersOfLine, ⟨by decide, by decide⟩, _, rfl, rfl⟩
theorem im_X4_takeNumber : Cond.instanceMethod yX4_takeNumber ∈ wsA := (wa_2 (List.mem_of_getElem? (i := 160) (by decide +kernel)) (by decide +kernel))
theorem se_X4_takeNumber : Cond.selects RX4 yX4_takeNumber yX4_takeNumber ∈ wsA := (wa_p (List.mem_of_getElem? (i := 9) (by decide +kernel)) (by decide +kernel))
theorem co_X4_takeNumber : Cond.code yX4_takeNumber cX4_takeNumber 1 (some .int) ∈ wsA := (wa_2 (List.mem_of_getElem? (i := 161) rfl) (by decide +kernel))
theorem yy_X4_takeNumber : yX4_takeNumber.cls = RX4 ∧ yX4_takeNumber.cls ≠ "java/lang/invoke/MethodHandle" ∧ yX4_takeNumber.cls ≠ "java/lang/invoke/VarHandle" ∧ (parseMethodDescriptor yX4_takeNumber.desc).map (fun d => d.parameters.length) = some 0 := by decide +kernel
theorem e_X4_takeToken_75 : EV md_X4_takeToken md_X4_takeNumber 75 4 0 := ⟨(wa_2 (List.mem_of_getElem? (i := 158) (by decide +kernel)) (by decide +kernel)), im_X4_takeNumber, se_X4_takeNumber, (wa_1 (List.mem_of_getElem? (i := 4) (by decide +kernel)) (by decide +kernel)), co_X4_takeNumber, yy_X4_takeNumber, ⟨by decide, by decide⟩, _, rfl, rfl⟩
theorem im_X4_takeStop : Cond.instanceMethod yX4_takeStop ∈ wsA := (wa_2 (List.mem_of_getElem? (i := 191) (by decide +kernel)) (by decide +kernel))
theorem se_X4_takeStop : Cond.selects RX4 yX4_takeStop yX4_takeStop ∈ wsA := (wa_p (List.mem_of_getElem? (i := 13) (by decide +kernel)) (by decide +kernel))
theorem co_X4_takeStop : Cond.code yX4_takeStop cX4_takeStop 1 (some .int) ∈ wsA := (wa_2 (List.mem_of_getElem? (i := 192) rfl) (by decide +kernel))
theorem yy_X4_takeStop : yX4_takeStop.cls = RX4 ∧ yX4_takeStop.cls ≠ "java/lang/invoke/MethodHandle" ∧ yX4_takeStop.cls ≠ "java/lang/invoke/VarHandle" ∧ (parseMethodDescriptor yX4_takeStop.desc).map (fun d => d.parameters.length) = some 0 := by decide +kernel
theorem e_X4_takeToken_78 : EV md_X4_takeToken md_X4_takeStop 78 4 0 := ⟨(wa_2 (List.mem_of_getElem? (i := 189) (by decide +kernel)) (by decide +kernel)), im_X4_takeStop, se_X4_takeStop, (wa_1 (List.mem_of_getElem? (i := 4) (by decide +kernel)) (by decide +kernel)), co_X4_takeStop, yy_X4_takeStop, ⟨by decide, by decide⟩, _, rfl, rfl⟩
theorem im_X4_isRoomForLine : Cond.instanceMethod yX4_isRoomForLine ∈ wsA := (wa_2 (List.mem_of_getElem? (i := 152) (by decide +kernel)) (by decide +kernel))
theorem se_X4_isRoomForLine : Cond.selects RX4 yX4_isRoomForLine yX4_isRoomForLine ∈ wsA := (wa_p (List.mem_of_getElem? (i := 7) (by decide +kernel)) (by decide +kernel))
theorem co_X4_isRoomForLine : Cond.code yX4_isRoomForLine cX4_isRoomForLine 1 (some .boolean) ∈ wsA := (wa_2 (List.mem_of_getElem? (i := 153) rfl) (by decide +kernel))
theorem yy_X4_isRoomForLine : yX4_isRoomForLine.cls = RX4 ∧ yX4_isRoomForLine.cls ≠ "java/lang/invoke/MethodHandle" ∧ yX4_isRoomForLine.cls ≠ "java/lang/invoke/VarHandle" ∧ (parseMethodDescriptor yX4_isRoomForLine.desc).map (fun d => d.parameters.length) = some 0 := by decide +kernel
theorem e_X4_takeWord_84 : EV md_X4_takeWord md_X4_isRoomForLine 84 4 0 := ⟨(wa_2 (List.mem_of_getElem? (i := 150) (by decide +kernel)) (by decide +kernel)), im_X4_isRoomForLine, se_X4_isRoomForLine, (wa_1 (List.mem_of_getElem? (i := 4) (by decide +kernel)) (by decide +kernel)), co_X4_isRoomForLine, yy_X4_isRoomForLine, ⟨by decide, by decide⟩, _, rfl, rfl⟩
theorem im_X4_isAsTold : Cond.instanceMethod yX4_isAsTold ∈ wsA := (wa_2 (List.mem_of_getElem? (i := 164) (by decide +kernel)) (by decide +kernel))
theorem se_X4_isAsTold : Cond.selects RX4 yX4_isAsTold yX4_isAsTold ∈ wsA := (wa_p (List.mem_of_getElem? (i := 10) (by decide +kernel)) (by decide +kernel))
theorem co_X4_isAsTold : Cond.code yX4_isAsTold cX4_isAsTold 2 (some .boolean) ∈ wsA := (wa_2 (List.mem_of_getElem? (i := 165) rfl) (by decide +kernel))
theorem yy_X4_isAsTold : yX4_isAsTold.cls = RX4 ∧ yX4_isAsTold.cls ≠ "java/lang/invoke/MethodHandle" ∧ yX4_isAsTold.cls ≠ "java/lang/invoke/VarHandle" ∧ (parseMethodDescriptor yX4_isAsTold.desc).map (fun d => d.parameters.length) = some 1 := by decide +kernel
theorem e_X4_takeNumber_100 : EV md_X4_takeNumber md_X4_isAsTold 100 4 1 := ⟨(wa_2 (List.mem_of_getElem? (i := 162) (by decide +kernel)) (by decide +kernel)), im_X4_isAsTold, se_X4_isAsTold, (wa_1 (List.mem_of_getElem? (i := 4) (by decide +kernel)) (by decide +kernel)), co_X4_isAsTold, yy_X4_isAsTold, ⟨by decide, by decide⟩, _, rfl, rfl⟩
theorem im_X4_isAsToldOfLot : Cond.instanceMethod yX4_isAsToldOfLot ∈ wsA := (wa_2 (List.mem_of_getElem? (i := 168) (by decide +kernel)) (by decide +kernel))
theorem se_X4_isAsToldOfLot : Cond.selects RX4 yX4_isAsToldOfLot yX4_isAsToldOfLot ∈ wsA := (wa_p (List.mem_of_getElem? (i := 11) (by decide +kernel)) (by decide +kernel))
theorem co_X4_isAsToldOfLot : Cond.code yX4_isAsToldOfLot cX4_isAsToldOfLot 2 (some .boolean) ∈ wsA := (wa_2 (List.mem_of_getElem? (i := 169) rfl) (by decide +kernel))
theorem yy_X4_isAsToldOfLot : yX4_isAsToldOfLot.cls = RX4 ∧ yX4_isAsToldOfLot.cls ≠ "java/lang/invoke/MethodHandle" ∧ yX4_isAsToldOfLot.cls ≠ "java/lang/invoke/VarHandle" ∧ (parseMethodDescriptor yX4_isAsToldOfLot.desc).map (fun d => d.parameters.length) = some 1 := by decide +kernel
theorem e_X4_isAsTold_104 : EV md_X4_isAsTold md_X4_isAsToldOfLot 104 4 1 := ⟨(wa_2 (List.mem_of_getElem? (i := 166) (by decide +kernel)) (by decide +kernel)), im_X4_isAsToldOfLot, se_X4_isAsToldOfLot, (wa_1 (List.mem_of_getElem? (i := 4) (by decide +kernel)) (by decide +kernel)), co_X4_isAsToldOfLot, yy_X4_isAsToldOfLot, ⟨by decide, by decide⟩, _, rfl, rfl⟩
theorem im_X4_isAsToldOfOrder : Cond.instanceMethod yX4_isAsToldOfOrder ∈ wsA := (wa_2 (List.mem_of_getElem? (i := 179) (by decide +kernel)) (by decide +kernel))
theorem se_X4_isAsToldOfOrder : Cond.selects RX4 yX4_isAsToldOfOrder yX4_isAsToldOfOrder ∈ wsA := (wa_p (List.mem_of_getElem? (i := 12) (by decide +kernel)) (by decide +kernel))
theorem co_X4_isAsToldOfOrder : Cond.code yX4_isAsToldOfOrder cX4_isAsToldOfOrder 2 (some .boolean) ∈ wsA := (wa_2 (List.mem_of_getElem? (i := 180) rfl) (by decide +kernel))
theorem yy_X4_isAsToldOfOrder : yX4_isAsToldOfOrder.cls = RX4 ∧ yX4_isAsToldOfOrder.cls ≠ "java/lang/invoke/MethodHandle" ∧ yX4_isAsToldOfOrder.cls ≠ "java/lang/invoke/VarHandle" ∧ (parseMethodDescriptor yX4_isAsToldOfOrder.desc).map (fun d => d.parameters.length) = some 1 := by decide +kernel
theorem e_X4_isAsTold_107 : EV md_X4_isAsTold md_X4_isAsToldOfOrder 107 4 1 := ⟨(wa_2 (List.mem_of_getElem? (i := 177) (by decide +kernel)) (by decide +kernel)), im_X4_isAsToldOfOrder, se_X4_isAsToldOfOrder, (wa_1 (List.mem_of_getElem? (i := 4) (by decide +kernel)) (by decide +kernel)), co_X4_isAsToldOfOrder, yy_X4_isAsToldOfOrder, ⟨by decide, by decide⟩, _, rfl, rfl⟩
theorem im_X2_hasGood : Cond.instanceMethod yX2_hasGood ∈ wsA := (wa_2 (List.mem_of_getElem? (i := 171) (by decide +kernel)) (by decide +kernel))
theorem se_X2_hasGood : Cond.selects RX2 yX2_hasGood yX2_hasGood ∈ wsA := (wa_2 (List.mem_of_getElem? (i := 172) (by decide +kernel)) (by decide +kernel))
theorem co_X2_hasGood : Cond.code yX2_hasGood cX2_hasGood 2 (some .boolean) ∈ wsA := (wa_2 (List.mem_of_getElem? (i := 173) rfl) (by decide +kernel))
theorem yy_X2_hasGood : yX2_hasGood.cls = RX2 ∧ yX2_hasGood.cls ≠ "java/lang/invoke/MethodHandle" ∧ yX2_hasGood.cls ≠ "java/lang/invoke/VarHandle" ∧ (parseMethodDescriptor yX2_hasGood.desc).map (fun d => d.parameters.length) = some 1 := by decide +kernel
theorem e_X4_isAsToldOfLot_110 : EV md_X4_isAsToldOfLot md_X2_hasGood 110 2 1 := ⟨(wa_2 (List.mem_of_getElem? (i := 170) (by decide +kernel)) (by decide +kernel)), im_X2_hasGood, se_X2_hasGood, (wa_1 (List.mem_of_getElem? (i := 3) (by decide +kernel)) (by decide +kernel)), co_X2_hasGood, yy_X2_hasGood, ⟨by decide, by decide⟩, _, rfl, rfl⟩
theorem st_X6_isSum : Cond.static yX6_isSum ∈ wsA := (wa_2 (List.mem_of_getElem? (i := 175) (by decide +kernel)) (by decide +kernel))
theorem co_X6_isSum : Cond.code yX6_isSum cX6_isSum 1 (some .boolean) ∈ wsA := (wa_2 (List.mem_of_getElem? (i := 176) rfl) (by decide +kernel))
theorem yy_X6_isSum : yX6_isSum.cls = RX6 ∧ yX6_isSum.cls ≠ "java/lang/invoke/MethodHandle" ∧ yX6_isSum.cls ≠ "java/lang/invoke/VarHandle" ∧ (parseMethodDescriptor yX6_isSum.desc).map (fun d => d.parameters.length) = some 1 := by decide +kernel
theorem e_X4_isAsToldOfLot_113 : ESN md_X4_isAsToldOfLot md_X6_isSum 113 1 := ⟨rfl, st_X6_isSum, (wa_1 (List.mem_of_getElem? (i := 1) (by decide +kernel)) (by decide +kernel)), co_X6_isSum, yy_X6_isSum, ⟨by decide, by decide⟩⟩
theorem im_X2_hasCustomer : Cond.instanceMethod yX2_hasCustomer ∈ wsA := (wa_2 (List.mem_of_getElem? (i := 182) (by decide +kernel)) (by decide +kernel))
theorem se_X2_hasCustomer : Cond.selects RX2 yX2_hasCustomer yX2_hasCustomer ∈ wsA := (wa_2 (List.mem_of_getElem? (i := 183) (by decide +kernel)) (by decide +kernel))
theorem co_X2_hasCustomer : Cond.code yX2_hasCustomer cX2_hasCustomer 2 (some .boolean) ∈ wsA := (wa_2 (List.mem_of_getElem? (i := 184) rfl) (by decide +kernel))
theorem yy_X2_hasCustomer : yX2_hasCustomer.cls = RX2 ∧ yX2_hasCustomer.cls ≠ "java/lang/invoke/MethodHandle" ∧ yX2_hasCustomer.cls ≠ "java/lang/invoke/VarHandle" ∧ (parseMethodDescriptor yX2_hasCustomer.desc).map (fun d => d.parameters.length) = some 1 := by decide +kernel
theorem e_X4_isAsToldOfOrder_116 : EV md_X4_isAsToldOfOrder md_X2_hasCustomer 116 2 1 := ⟨(wa_2 (List.mem_of_getElem? (i := 181) (by decide +kernel)) (by decide +kernel)), im_X2_hasCustomer, se_X2_hasCustomer, (wa_1 (List.mem_of_getElem? (i := 3) (by decide +kernel)) (by decide +kernel)), co_X2_hasCustomer, yy_X2_hasCustomer, ⟨by decide, by decide⟩, _, rfl, rfl⟩
theorem e_X4_isAsToldOfOrder_110 : EV md_X4_isAsToldOfOrder md_X2_hasGood 110 2 1 := ⟨(wa_2 (List.mem_of_getElem? (i := 170) (by decide +kernel)) (by decide +kernel)), im_X2_hasGood, se_X2_hasGood, (wa_1 (List.mem_of_getElem? (i := 3) (by decide +kernel)) (by decide +kernel)), co_X2_hasGood, yy_X2_hasGood, ⟨by decide, by decide⟩, _, rfl, rfl⟩
theorem im_X2_openOrder : Cond.instanceMethod yX2_openOrder ∈ wsA := (wa_2 (List.mem_of_getElem? (i := 186) (by decide +kernel)) (by decide +kernel))
theorem se_X2_openOrder : Cond.selects RX2 yX2_openOrder yX2_openOrder ∈ wsA := (wa_2 (List.mem_of_getElem? (i := 187) (by decide +kernel)) (by decide +kernel))
theorem co_X2_openOrder : Cond.code yX2_openOrder cX2_openOrder 4 (some .int) ∈ wsA := (wa_2 (List.mem_of_getElem? (i := 188) rfl) (by decide +kernel))
theorem yy_X2_openOrder : yX2_openOrder.cls = RX2 ∧ yX2_openOrder.cls ≠ "java/lang/invoke/MethodHandle" ∧ yX2_openOrder.cls ≠ "java/lang/invoke/VarHandle" ∧ (parseMethodDescriptor yX2_openOrder.desc).map (fun d => d.parameters.length) = some 2 := by decide +kernel
theorem e_X4_isAsToldOfOrder_119 : EV md_X4_isAsToldOfOrder md_X2_openOrder 119 2 2 := ⟨(wa_2 (List.mem_of_getElem? (i := 185) (by decide +kernel)) (by decide +kernel)), im_X2_openOrder, se_X2_openOrder, (wa_1 (List.mem_of_getElem? (i := 3) (by decide +kernel)) (by decide +kernel)), co_X2_openOrder, yy_X2_openOrder, ⟨by decide, by decide⟩, _, rfl, rfl⟩
theorem e_X4_isAsToldOfOrder_113 : ESN md_X4_isAsToldOfOrder md_X6_isSum 113 1 := ⟨rfl, st_X6_isSum, (wa_1 (List.mem_of_getElem? (i := 1) (by decide +kernel)) (by decide +kernel)), co_X6_isSum, yy_X6_isSum, ⟨by decide, by decide⟩⟩
theorem im_X4_addLine : Cond.instanceMethod yX4_addLine ∈ wsA := (wa_2 (List.mem_of_getElem? (i := 195) (by decide +kernel)) (by decide +kernel))
theorem se_X4_addLine : Cond.selects RX4 yX4_addLine yX4_addLine ∈ wsA := (wa_p (List.mem_of_getElem? (i := 14) (by decide +kernel)) (by decide +kernel))
theorem co_X4_addLine : Cond.code yX4_addLine cX4_addLine 1 (none) ∈ wsA := (wa_2 (List.mem_of_getElem? (i := 196) rfl) (by decide +kernel))
theorem yy_X4_addLine : yX4_addLine.cls = RX4 ∧ yX4_addLine.cls ≠ "java/lang/invoke/MethodHandle" ∧ yX4_addLine.cls ≠ "java/lang/invoke/VarHandle" ∧ (parseMethodDescriptor yX4_addLine.desc).map (fun d => d.parameters.length) = some 0 := by decide +kernel
theorem e_X4_takeStop_123 : EV md_X4_takeStop md_X4_addLine 123 4 0 := ⟨(wa_2 (List.mem_of_getElem? (i := 193) (by decide +kernel)) (by decide +kernel)), im_X4_addLine, se_X4_addLine, (wa_1 (List.mem_of_getElem? (i := 4) (by decide +kernel)) (by decide +kernel)), co_X4_addLine, yy_X4_addLine, ⟨by decide, by decide⟩, _, rfl, rfl⟩
theorem im_X2_addCustomer : Cond.instanceMethod yX2_addCustomer ∈ wsA := (wa_2 (List.mem_of_getElem? (i := 198) (by decide +kernel)) (by decide +kernel))
theorem se_X2_addCustomer : Cond.selects RX2 yX2_addCustomer yX2_addCustomer ∈ wsA := (wa_2 (List.mem_of_getElem? (i := 199) (by decide +kernel)) (by decide +kernel))
theorem co_X2_addCustomer : Cond.code yX2_addCustomer cX2_addCustomer 2 (none) ∈ wsA := (wa_2 (List.mem_of_getElem? (i := 200) rfl) (by decide +kernel))
theorem yy_X2_addCustomer : yX2_addCustomer.cls = RX2 ∧ yX2_addCustomer.cls ≠ "java/lang/invoke/MethodHandle" ∧ yX2_addCustomer.cls ≠ "java/lang/invoke/VarHandle" ∧ (parseMethodDescriptor yX2_addCustomer.desc).map (fun d => d.parameters.length) = some 1 := by decide +kernel
theorem e_X4_addLine_126 : EV md_X4_addLine md_X2_addCustomer 126 2 1 := ⟨(wa_2 (List.mem_of_getElem? (i := 197) (by decide +kernel)) (by decide +kernel)), im_X2_addCustomer, se_X2_addCustomer, (wa_1 (List.mem_of_getElem? (i := 3) (by decide +kernel)) (by decide +kernel)), co_X2_addCustomer, yy_X2_addCustomer, ⟨by decide, by decide⟩, _, rfl, rfl⟩
theorem im_X2_addLot : Cond.instanceMethod yX2_addLot ∈ wsA := (wa_2 (List.mem_of_getElem? (i := 202) (by decide +kernel)) (by decide +kernel))
theorem se_X2_addLot : Cond.selects RX2 yX2_addLot yX2_addLot ∈ wsA := (wa_2 (List.mem_of_getElem? (i := 203) (by decide +kernel)) (by decide +kernel))
theorem co_X2_addLot : Cond.code yX2_addLot cX2_addLot 5 (some .int) ∈ wsA := (wa_2 (List.mem_of_getElem? (i := 204) rfl) (by decide +kernel))
theorem yy_X2_addLot : yX2_addLot.cls = RX2 ∧ yX2_addLot.cls ≠ "java/lang/invoke/MethodHandle" ∧ yX2_addLot.cls ≠ "java/lang/invoke/VarHandle" ∧ (parseMethodDescriptor yX2_addLot.desc).map (fun d => d.parameters.length) = some 4 := by decide +kernel
theorem e_X4_addLine_130 : EV md_X4_addLine md_X2_addLot 130 2 4 := ⟨(wa_2 (List.mem_of_getElem? (i := 201) (by decide +kernel)) (by decide +kernel)), im_X2_addLot, se_X2_addLot, (wa_1 (List.mem_of_getElem? (i := 3) (by decide +kernel)) (by decide +kernel)), co_X2_addLot, yy_X2_addLot, ⟨by decide, by decide⟩, _, rfl, rfl⟩
theorem im_X2_addOrder : Cond.instanceMethod yX2_addOrder ∈ wsA := (wa_2 (List.mem_of_getElem? (i := 206) (by decide +kernel)) (by decide +kernel))
theorem se_X2_addOrder : Cond.selects RX2 yX2_addOrder yX2_addOrder ∈ wsA := (wa_2 (List.mem_of_getElem? (i := 207) (by decide +kernel)) (by decide +kernel))
theorem co_X2_addOrder : Cond.code yX2_addOrder cX2_addOrder 5 (some .int) ∈ wsA := (wa_2 (List.mem_of_getElem? (i := 208) rfl) (by decide +kernel))
theorem yy_X2_addOrder : yX2_addOrder.cls = RX2 ∧ yX2_addOrder.cls ≠ "java/lang/invoke/MethodHandle" ∧ yX2_addOrder.cls ≠ "java/lang/invoke/VarHandle" ∧ (parseMethodDescriptor yX2_addOrder.desc).map (fun d => d.parameters.length) = some 4 := by decide +kernel
theorem e_X4_addLine_134 : EV md_X4_addLine md_X2_addOrder 134 2 4 := ⟨(wa_2 (List.mem_of_getElem? (i := 205) (by decide +kernel)) (by decide +kernel)), im_X2_addOrder, se_X2_addOrder, (wa_1 (List.mem_of_getElem? (i := 3) (by decide +kernel)) (by decide +kernel)), co_X2_addOrder, yy_X2_addOrder, ⟨by decide, by decide⟩, _, rfl, rfl⟩
theorem im_X5_skipBlanks : Cond.instanceMethod yX5_skipBlanks ∈ wsA := (wa_2 (List.mem_of_getElem? (i := 70) (by decide +kernel)) (by decide +kernel))
theorem se_X5_skipBlanks : Cond.selects RX5 yX5_skipBlanks yX5_skipBlanks ∈ wsA := (wa_p (List.mem_of_getElem? (i := 1) (by decide +kernel)) (by decide +kernel))
theorem co_X5_skipBlanks : Cond.code yX5_skipBlanks cX5_skipBlanks 1 (none) ∈ wsA := (wa_2 (List.mem_of_getElem? (i := 71) rfl) (by decide +kernel))
theorem yy_X5_skipBlanks : yX5_skipBlanks.cls = RX5 ∧ yX5_skipBlanks.cls ≠ "java/lang/invoke/MethodHandle" ∧ yX5_skipBlanks.cls ≠ "java/lang/invoke/VarHandle" ∧ (parseMethodDescriptor yX5_skipBlanks.desc).map (fun d => d.parameters.length) = some 0 := by decide +kernel
theorem e_X5_advance_19 : EV md_X5_advance md_X5_skipBlanks 19 5 0 := ⟨(wa_2 (List.mem_of_getElem? (i := 68) (by decide +kernel)) (by decide +kernel)), im_X5_skipBlanks, se_X5_skipBlanks, (wa_1 (List.mem_of_getElem? (i := 5) (by decide +kernel)) (by decide +kernel)), co_X5_skipBlanks, yy_X5_skipBlanks, ⟨by decide, by decide⟩, _, rfl, rfl⟩
theorem im_X5_readRun : Cond.instanceMethod yX5_readRun ∈ wsA := (wa_2 (List.mem_of_getElem? (i := 74) (by decide +kernel)) (by decide +kernel))
theorem se_X5_readRun : Cond.selects RX5 yX5_readRun yX5_readRun ∈ wsA := (wa_p (List.mem_of_getElem? (i := 2) (by decide +kernel)) (by decide +kernel))
theorem co_X5_readRun : Cond.code yX5_readRun cX5_readRun 3 (none) ∈ wsA := (wa_2 (List.mem_of_getElem? (i := 75) rfl) (by decide +kernel))
theorem yy_X5_readRun : yX5_readRun.cls = RX5 ∧ yX5_readRun.cls ≠ "java/lang/invoke/MethodHandle" ∧ yX5_readRun.cls ≠ "java/lang/invoke/VarHandle" ∧ (parseMethodDescriptor yX5_readRun.desc).map (fun d => d.parameters.length) = some 0 := by decide +kernel
theorem e_X5_advance_37 : EV md_X5_advance md_X5_readRun 37 5 0 := ⟨(wa_2 (List.mem_of_getElem? (i := 72) (by decide +kernel)) (by decide +kernel)), im_X5_readRun, se_X5_readRun, (wa_1 (List.mem_of_getElem? (i := 5) (by decide +kernel)) (by decide +kernel)), co_X5_readRun, yy_X5_readRun, ⟨by decide, by decide⟩, _, rfl, rfl⟩
theorem st_X5_isLetter : Cond.static yX5_isLetter ∈ wsA := (wa_2 (List.mem_of_getElem? (i := 77) (by decide +kernel)) (by decide +kernel))
theorem co_X5_isLetter : Cond.code yX5_isLetter cX5_isLetter 1 (some .boolean) ∈ wsA := (wa_2 (List.mem_of_getElem? (i := 78) rfl) (by decide +kernel))
theorem yy_X5_isLetter : yX5_isLetter.cls = RX5 ∧ yX5_isLetter.cls ≠ "java/lang/invoke/MethodHandle" ∧ yX5_isLetter.cls ≠ "java/lang/invoke/VarHandle" ∧ (parseMethodDescriptor yX5_isLetter.desc).map (fun d => d.parameters.length) = some 1 := by decide +kernel
theorem e_X5_readRun_43 : ES md_X5_readRun md_X5_isLetter 43 1 := ⟨(wa_2 (List.mem_of_getElem? (i := 76) (by decide +kernel)) (by decide +kernel)), st_X5_isLetter, (wa_1 (List.mem_of_getElem? (i := 5) (by decide +kernel)) (by decide +kernel)), co_X5_isLetter, yy_X5_isLetter, ⟨by decide, by decide⟩⟩
theorem st_X5_isDigit : Cond.static yX5_isDigit ∈ wsA := (wa_2 (List.mem_of_getElem? (i := 80) (by decide +kernel)) (by decide +kernel))
theorem co_X5_isDigit : Cond.code yX5_isDigit cX5_isDigit 1 (some .boolean) ∈ wsA := (wa_2 (List.mem_of_getElem? (i := 81) rfl) (by decide +kernel))
theorem yy_X5_isDigit : yX5_isDigit.cls = RX5 ∧ yX5_isDigit.cls ≠ "java/lang/invoke/MethodHandle" ∧ yX5_isDigit.cls ≠ "java/lang/invoke/VarHandle" ∧ (parseMethodDescriptor yX5_isDigit.desc).map (fun d => d.parameters.length) = some 1 := by decide +kernel
theorem e_X5_readRun_47 : ES md_X5_readRun md_X5_isDigit 47 1 := ⟨(wa_2 (List.mem_of_getElem? (i := 79) (by decide +kernel)) (by decide +kernel)), st_X5_isDigit, (wa_1 (List.mem_of_getElem? (i := 5) (by decide +kernel)) (by decide +kernel)), co_X5_isDigit, yy_X5_isDigit, ⟨by decide, by decide⟩⟩
theorem im_X5_wordKind : Cond.instanceMethod yX5_wordKind ∈ wsA := (wa_2 (List.mem_of_getElem? (i := 84) (by decide +kernel)) (by decide +kernel))
theorem se_X5_wordKind : Cond.selects RX5 yX5_wordKind yX5_wordKind ∈ wsA := (wa_p (List.mem_of_getElem? (i := 3) (by decide +kernel)) (by decide +kernel))
theorem co_X5_wordKind : Cond.code yX5_wordKind cX5_wordKind 1 (some .int) ∈ wsA := (wa_2 (List.mem_of_getElem? (i := 85) rfl) (by decide +kernel))
theorem yy_X5_wordKind : yX5_wordKind.cls = RX5 ∧ yX5_wordKind.cls ≠ "java/lang/invoke/MethodHandle" ∧ yX5_wordKind.cls ≠ "java/lang/invoke/VarHandle" ∧ (parseMethodDescriptor yX5_wordKind.desc).map (fun d => d.parameters.length) = some 0 := by decide +kernel
theorem e_X5_readRun_50 : EV md_X5_readRun md_X5_wordKind 50 5 0 := ⟨(wa_2 (List.mem_of_getElem? (i := 82) (by decide +kernel)) (by decide +kernel)), im_X5_wordKind, se_X5_wordKind, (wa_1 (List.mem_of_getElem? (i := 5) (by decide +kernel)) (by decide +kernel)), co_X5_wordKind, yy_X5_wordKind, ⟨by decide, by decide⟩, _, rfl, rfl⟩
theorem im_X5_spells : Cond.instanceMethod yX5_spells ∈ wsA := (wa_2 (List.mem_of_getElem? (i := 89) (by decide +kernel)) (by decide +kernel))
theorem se_X5_spells : Cond.selects RX5 yX5_spells yX5_spells ∈ wsA := (wa_p (List.mem_of_getElem? (i := 4) (by decide +kernel)) (by decide +kernel))
theorem co_X5_spells : Cond.code yX5_spells cX5_spells 3 (some .boolean) ∈ wsA := (wa_2 (List.mem_of_getElem? (i := 90) rfl) (by decide +kernel))
theorem yy_X5_spells : yX5_spells.cls = RX5 ∧ yX5_spells.cls ≠ "java/lang/invoke/MethodHandle" ∧ yX5_spells.cls ≠ "java/lang/invoke/VarHandle" ∧ (parseMethodDescriptor yX5_spells.desc).map (fun d => d.parameters.length) = some 1 := by decide +kernel
theorem e_X5_wordKind_56 : EV md_X5_wordKind md_X5_spells 56 5 1 := ⟨(wa_2 (List.mem_of_getElem? (i := 87) (by decide +kernel)) (by decide +kernel)), im_X5_spells, se_X5_spells, (wa_1 (List.mem_of_getElem? (i := 5) (by decide +kernel)) (by decide +kernel)), co_X5_spells, yy_X5_spells, ⟨by decide, by decide⟩, _, rfl, rfl⟩
theorem im_X3_put : Cond.instanceMethod yX3_put ∈ wsA := (wa_2 (List.mem_of_getElem? (i := 40) (by decide +kernel)) (by decide +kernel))
theorem se_X3_put : Cond.selects RX3 yX3_put yX3_put ∈ wsA := (wa_2 (List.mem_of_getElem? (i := 41) (by decide +kernel)) (by decide +kernel))
theorem co_X3_put : Cond.code yX3_put cX3_put 3 (none) ∈ wsA := (wa_2 (List.mem_of_getElem? (i := 42) rfl) (by decide +kernel))
theorem yy_X3_put : yX3_put.cls = RX3 ∧ yX3_put.cls ≠ "java/lang/invoke/MethodHandle" ∧ yX3_put.cls ≠ "java/lang/invoke/VarHandle" ∧ (parseMethodDescriptor yX3_put.desc).map (fun d => d.parameters.length) = some 1 := by decide +kernel
theorem e_X6_feed_61 : EV md_X6_feed md_X3_put 61 3 1 := ⟨(wa_2 (List.mem_of_getElem? (i := 39) (by decide +kernel)) (by decide +kernel)), im_X3_put, se_X3_put, (wa_1 (List.mem_of_getElem? (i := 2) (by decide +kernel)) (by decide +kernel)), co_X3_put, yy_X3_put, ⟨by decide, by decide⟩, _, rfl, rfl⟩
theorem im_X4_readAll : Cond.instanceMethod yX4_readAll ∈ wsA := (wa_2 (List.mem_of_getElem? (i := 52) (by decide +kernel)) (by decide +kernel))
theorem se_X4_readAll : Cond.selects RX4 yX4_readAll yX4_readAll ∈ wsA := (wa_2 (List.mem_of_getElem? (i := 53) (by decide +kernel)) (by decide +kernel))
theorem co_X4_readAll : Cond.code yX4_readAll cX4_readAll 2 (some .boolean) ∈ wsA := (wa_2 (List.mem_of_getElem? (i := 54) rfl) (by decide +kernel))
theorem yy_X4_readAll : yX4_readAll.cls = RX4 ∧ yX4_readAll.cls ≠ "java/lang/invoke/MethodHandle" ∧ yX4_readAll.cls ≠ "java/lang/invoke/VarHandle" ∧ (parseMethodDescriptor yX4_readAll.desc).map (fun d => d.parameters.length) = some 0 := by decide +kernel
theorem e_X6_text_65 : EV md_X6_text md_X4_readAll 65 4 0 := ⟨(wa_2 (List.mem_of_getElem? (i := 51) (by decide +kernel)) (by decide +kernel)), im_X4_readAll, se_X4_readAll, (wa_1 (List.mem_of_getElem? (i := 4) (by decide +kernel)) (by decide +kernel)), co_X4_readAll, yy_X4_readAll, ⟨by decide, by decide⟩, _, rfl, rfl⟩
theorem e_X6_text_72 : EV md_X6_text md_X2_copyFrom 72 2 1 := ⟨(wa_2 (List.mem_of_getElem? (i := 209) (by decide +kernel)) (by decide +kernel)), im_X2_copyFrom, se_X2_copyFrom, (wa_1 (List.mem_of_getElem? (i := 3) (by decide +kernel)) (by decide +kernel)), co_X2_copyFrom, yy_X2_copyFrom, ⟨by decide, by decide⟩, _, rfl, rfl⟩
theorem im_X0_forget : Cond.instanceMethod yX0_forget ∈ wsA := (wa_2 (List.mem_of_getElem? (i := 223) (by decide +kernel)) (by decide +kernel))
theorem se_X0_forget : Cond.selects RX0 yX0_forget yX0_forget ∈ wsA := (wa_2 (List.mem_of_getElem? (i := 224) (by decide +kernel)) (by decide +kernel))
theorem co_X0_forget : Cond.code yX0_forget cX0_forget 1 (none) ∈ wsA := (wa_2 (List.mem_of_getElem? (i := 225) rfl) (by decide +kernel))
theorem yy_X0_forget : yX0_forget.cls = RX0 ∧ yX0_forget.cls ≠ "java/lang/invoke/MethodHandle" ∧ yX0_forget.cls ≠ "java/lang/invoke/VarHandle" ∧ (parseMethodDescriptor yX0_forget.desc).map (fun d => d.parameters.length) = some 0 := by decide +kernel
theorem e_X6_text_75 : EV md_X6_text md_X0_forget 75 0 0 := ⟨(wa_2 (List.mem_of_getElem? (i := 222) (by decide +kernel)) (by decide +kernel)), im_X0_forget, se_X0_forget, (wa_1 (List.mem_of_getElem? (i := 7) (by decide +kernel)) (by decide +kernel)), co_X0_forget, yy_X0_forget, ⟨by decide, by decide⟩, _, rfl, rfl⟩
theorem im_X2_countOpen : Cond.instanceMethod yX2_countOpen ∈ wsA := (wa_2 (List.mem_of_getElem? (i := 235) (by decide +kernel)) (by decide +kernel))
theorem se_X2_countOpen : Cond.selects RX2 yX2_countOpen yX2_countOpen ∈ wsA := (wa_2 (List.mem_of_getElem? (i := 236) (by decide +kernel)) (by decide +kernel))
theorem co_X2_countOpen : Cond.code yX2_countOpen cX2_countOpen 3 (some .int) ∈ wsA := (wa_2 (List.mem_of_getElem? (i := 237) rfl) (by decide +kernel))
theorem yy_X2_countOpen : yX2_countOpen.cls = RX2 ∧ yX2_countOpen.cls ≠ "java/lang/invoke/MethodHandle" ∧ yX2_countOpen.cls ≠ "java/lang/invoke/VarHandle" ∧ (parseMethodDescriptor yX2_countOpen.desc).map (fun d => d.parameters.length) = some 0 := by decide +kernel
theorem e_X6_now_96 : EV md_X6_now md_X2_countOpen 96 2 0 := ⟨(wa_2 (List.mem_of_getElem? (i := 234) (by decide +kernel)) (by decide +kernel)), im_X2_countOpen, se_X2_countOpen, (wa_1 (List.mem_of_getElem? (i := 3) (by decide +kernel)) (by decide +kernel)), co_X2_countOpen, yy_X2_countOpen, ⟨by decide, by decide⟩, _, rfl, rfl⟩
theorem im_X2_sumLeft : Cond.instanceMethod yX2_sumLeft ∈ wsA := (wa_2 (List.mem_of_getElem? (i := 239) (by decide +kernel)) (by decide +kernel))
theorem se_X2_sumLeft : Cond.selects RX2 yX2_sumLeft yX2_sumLeft ∈ wsA := (wa_3 (List.mem_of_getElem? (i := 0) (by decide +kernel)) (by decide +kernel))
theorem co_X2_sumLeft : Cond.code yX2_sumLeft cX2_sumLeft 3 (some .int) ∈ wsA := (wa_3 (List.mem_of_getElem? (i := 1) rfl) (by decide +kernel))
theorem yy_X2_sumLeft : yX2_sumLeft.cls = RX2 ∧ yX2_sumLeft.cls ≠ "java/lang/invoke/MethodHandle" ∧ yX2_sumLeft.cls ≠ "java/lang/invoke/VarHandle" ∧ (parseMethodDescriptor yX2_sumLeft.desc).map (fun d => d.parameters.length) = some 0 := by decide +kernel
theorem e_X6_now_100 : EV md_X6_now md_X2_sumLeft 100 2 0 := ⟨(wa_2 (List.mem_of_getElem? (i := 238) (by decide +kernel)) (by decide +kernel)), im_X2_sumLeft, se_X2_sumLeft, (wa_1 (List.mem_of_getElem? (i := 3) (by decide +kernel)) (by decide +kernel)), co_X2_sumLeft, yy_X2_sumLeft, ⟨by decide, by decide⟩, _, rfl, rfl⟩
theorem im_X2_sumReserved : Cond.instanceMethod yX2_sumReserved ∈ wsA := (wa_3 (List.mem_of_getElem? (i := 3) (by decide +kernel)) (by decide +kernel))
theorem se_X2_sumReserved : Cond.selects RX2 yX2_sumReserved yX2_sumReserved ∈ wsA := (wa_3 (List.mem_of_getElem? (i := 4) (by decide +kernel)) (by decide +kernel))
theorem co_X2_sumReserved : Cond.code yX2_sumReserved cX2_sumReserved 3 (some .int) ∈ wsA := (wa_3 (List.mem_of_getElem? (i := 5) rfl) (by decide +kernel))
theorem yy_X2_sumReserved : yX2_sumReserved.cls = RX2 ∧ yX2_sumReserved.cls ≠ "java/lang/invoke/MethodHandle" ∧ yX2_sumReserved.cls ≠ "java/lang/invoke/VarHandle" ∧ (parseMethodDescriptor yX2_sumReserved.desc).map (fun d => d.parameters.length) = some 0 := by decide +kernel
theorem e_X6_now_103 : EV md_X6_now md_X2_sumReserved 103 2 0 := ⟨(wa_3 (List.mem_of_getElem? (i := 2) (by decide +kernel)) (by decide +kernel)), im_X2_sumReserved, se_X2_sumReserved, (wa_1 (List.mem_of_getElem? (i := 3) (by decide +kernel)) (by decide +kernel)), co_X2_sumReserved, yy_X2_sumReserved, ⟨by decide, by decide⟩, _, rfl, rfl⟩
theorem im_X2_hasLot : Cond.instanceMethod yX2_hasLot ∈ wsA := (wa_3 (List.mem_of_getElem? (i := 15) (by decide +kernel)) (by decide +kernel))
theorem se_X2_hasLot : Cond.selects RX2 yX2_hasLot yX2_hasLot ∈ wsA := (wa_3 (List.mem_of_getElem? (i := 16) (by decide +kernel)) (by decide +kernel))
theorem co_X2_hasLot : Cond.code yX2_hasLot cX2_hasLot 2 (some .boolean) ∈ wsA := (wa_3 (List.mem_of_getElem? (i := 17) rfl) (by decide +kernel))
theorem yy_X2_hasLot : yX2_hasLot.cls = RX2 ∧ yX2_hasLot.cls ≠ "java/lang/invoke/MethodHandle" ∧ yX2_hasLot.cls ≠ "java/lang/invoke/VarHandle" ∧ (parseMethodDescriptor yX2_hasLot.desc).map (fun d => d.parameters.length) = some 1 := by decide +kernel
theorem e_X6_reserved_115 : EV md_X6_reserved md_X2_hasLot 115 2 1 := ⟨(wa_3 (List.mem_of_getElem? (i := 14) (by decide +kernel)) (by decide +kernel)), im_X2_hasLot, se_X2_hasLot, (wa_1 (List.mem_of_getElem? (i := 3) (by decide +kernel)) (by decide +kernel)), co_X2_hasLot, yy_X2_hasLot, ⟨by decide, by decide⟩, _, rfl, rfl⟩
theorem e_X6_reserved_145 : EV md_X6_reserved md_X2_hasOrder 145 2 1 := ⟨(wa_3 (List.mem_of_getElem? (i := 18) (by decide +kernel)) (by decide +kernel)), im_X2_hasOrder, se_X2_hasOrder, (wa_1 (List.mem_of_getElem? (i := 3) (by decide +kernel)) (by decide +kernel)), co_X2_hasOrder, yy_X2_hasOrder, ⟨by decide, by decide⟩, _, rfl, rfl⟩
theorem e_X6_reserved_173 : EV md_X6_reserved md_X2_reservedFor 173 2 2 := ⟨(wa_3 (List.mem_of_getElem? (i := 22) (by decide +kernel)) (by decide +kernel)), im_X2_reservedFor, se_X2_reservedFor, (wa_1 (List.mem_of_getElem? (i := 3) (by decide +kernel)) (by decide +kernel)), co_X2_reservedFor, yy_X2_reservedFor, ⟨by decide, by decide⟩, _, rfl, rfl⟩
theorem e_X6_customer_177 : EV md_X6_customer md_X2_hasCustomer 177 2 1 := ⟨(wa_3 (List.mem_of_getElem? (i := 34) (by decide +kernel)) (by decide +kernel)), im_X2_hasCustomer, se_X2_hasCustomer, (wa_1 (List.mem_of_getElem? (i := 3) (by decide +kernel)) (by decide +kernel)), co_X2_hasCustomer, yy_X2_hasCustomer, ⟨by decide, by decide⟩, _, rfl, rfl⟩
theorem e_X6_customer_183 : EV md_X6_customer md_X2_hasGood 183 2 1 := ⟨(wa_3 (List.mem_of_getElem? (i := 35) (by decide +kernel)) (by decide +kernel)), im_X2_hasGood, se_X2_hasGood, (wa_1 (List.mem_of_getElem? (i := 3) (by decide +kernel)) (by decide +kernel)), co_X2_hasGood, yy_X2_hasGood, ⟨by decide, by decide⟩, _, rfl, rfl⟩
theorem e_X6_customer_186 : EV md_X6_customer md_X2_latestOf 186 2 2 := ⟨(wa_3 (List.mem_of_getElem? (i := 36) (by decide +kernel)) (by decide +kernel)), im_X2_latestOf, se_X2_latestOf, (wa_1 (List.mem_of_getElem? (i := 3) (by decide +kernel)) (by decide +kernel)), co_X2_latestOf, yy_X2_latestOf, ⟨by decide, by decide⟩, _, rfl, rfl⟩
theorem e_X6_suits_115 : EV md_X6_suits md_X2_hasLot 115 2 1 := ⟨(wa_3 (List.mem_of_getElem? (i := 14) (by decide +kernel)) (by decide +kernel)), im_X2_hasLot, se_X2_hasLot, (wa_1 (List.mem_of_getElem? (i := 3) (by decide +kernel)) (by decide +kernel)), co_X2_hasLot, yy_X2_hasLot, ⟨by decide, by decide⟩, _, rfl, rfl⟩
theorem e_X6_suits_189 : EV md_X6_suits md_X2_isOpen 189 2 1 := ⟨(wa_3 (List.mem_of_getElem? (i := 44) (by decide +kernel)) (by decide +kernel)), im_X2_isOpen, se_X2_isOpen, (wa_1 (List.mem_of_getElem? (i := 3) (by decide +kernel)) (by decide +kernel)), co_X2_isOpen, yy_X2_isOpen, ⟨by decide, by decide⟩, _, rfl, rfl⟩
theorem e_X6_suits_192 : EV md_X6_suits md_X2_fits 192 2 2 := ⟨(wa_3 (List.mem_of_getElem? (i := 49) (by decide +kernel)) (by decide +kernel)), im_X2_fits, se_X2_fits, (wa_1 (List.mem_of_getElem? (i := 3) (by decide +kernel)) (by decide +kernel)), co_X2_fits, yy_X2_fits, ⟨by decide, by decide⟩, _, rfl, rfl⟩
theorem e_X6_plan_189 : EV md_X6_plan md_X2_isOpen 189 2 1 := ⟨(wa_3 (List.mem_of_getElem? (i := 44) (by decide +kernel)) (by decide +kernel)), im_X2_isOpen, se_X2_isOpen, (wa_1 (List.mem_of_getElem? (i := 3) (by decide +kernel)) (by decide +kernel)), co_X2_isOpen, yy_X2_isOpen, ⟨by decide, by decide⟩, _, rfl, rfl⟩
theorem e_X6_plan_115 : EV md_X6_plan md_X2_hasLot 115 2 1 := ⟨(wa_3 (List.mem_of_getElem? (i := 14) (by decide +kernel)) (by decide +kernel)), im_X2_hasLot, se_X2_hasLot, (wa_1 (List.mem_of_getElem? (i := 3) (by decide +kernel)) (by decide +kernel)), co_X2_hasLot, yy_X2_hasLot, ⟨by decide, by decide⟩, _, rfl, rfl⟩
theorem im_X1_make : Cond.instanceMethod yX1_make ∈ wsA := (wa_3 (List.mem_of_getElem? (i := 59) (by decide +kernel)) (by decide +kernel))
theorem se_X1_make : Cond.selects RX1 yX1_make yX1_make ∈ wsA := (wa_3 (List.mem_of_getElem? (i := 60) (by decide +kernel)) (by decide +kernel))
theorem co_X1_make : Cond.code yX1_make cX1_make 4 (none) ∈ wsA := (wa_3 (List.mem_of_getElem? (i := 61) rfl) (by decide +kernel))
theorem yy_X1_make : yX1_make.cls = RX1 ∧ yX1_make.cls ≠ "java/lang/invoke/MethodHandle" ∧ yX1_make.cls ≠ "java/lang/invoke/VarHandle" ∧ (parseMethodDescriptor yX1_make.desc).map (fun d => d.parameters.length) = some 2 := by decide +kernel
theorem e_X6_plan_196 : EV md_X6_plan md_X1_make 196 1 2 := ⟨(wa_3 (List.mem_of_getElem? (i := 58) (by decide +kernel)) (by decide +kernel)), im_X1_make, se_X1_make, (wa_1 (List.mem_of_getElem? (i := 6) (by decide +kernel)) (by decide +kernel)), co_X1_make, yy_X1_make, ⟨by decide, by decide⟩, _, rfl, rfl⟩
theorem im_X1_grantOf : Cond.instanceMethod yX1_grantOf ∈ wsA := (wa_3 (List.mem_of_getElem? (i := 89) (by decide +kernel)) (by decide +kernel))
theorem se_X1_grantOf : Cond.selects RX1 yX1_grantOf yX1_grantOf ∈ wsA := (wa_3 (List.mem_of_getElem? (i := 90) (by decide +kernel)) (by decide +kernel))
theorem co_X1_grantOf : Cond.code yX1_grantOf cX1_grantOf 5 (some .int) ∈ wsA := (wa_3 (List.mem_of_getElem? (i := 91) rfl) (by decide +kernel))
theorem yy_X1_grantOf : yX1_grantOf.cls = RX1 ∧ yX1_grantOf.cls ≠ "java/lang/invoke/MethodHandle" ∧ yX1_grantOf.cls ≠ "java/lang/invoke/VarHandle" ∧ (parseMethodDescriptor yX1_grantOf.desc).map (fun d => d.parameters.length) = some 1 := by decide +kernel
theorem e_X6_plan_200 : EV md_X6_plan md_X1_grantOf 200 1 1 := ⟨(wa_3 (List.mem_of_getElem? (i := 88) (by decide +kernel)) (by decide +kernel)), im_X1_grantOf, se_X1_grantOf, (wa_1 (List.mem_of_getElem? (i := 6) (by decide +kernel)) (by decide +kernel)), co_X1_grantOf, yy_X1_grantOf, ⟨by decide, by decide⟩, _, rfl, rfl⟩
theorem im_X1_shareOf : Cond.instanceMethod yX1_shareOf ∈ wsA := (wa_3 (List.mem_of_getElem? (i := 97) (by decide +kernel)) (by decide +kernel))
theorem se_X1_shareOf : Cond.selects RX1 yX1_shareOf yX1_shareOf ∈ wsA := (wa_3 (List.mem_of_getElem? (i := 98) (by decide +kernel)) (by decide +kernel))
theorem co_X1_shareOf : Cond.code yX1_shareOf cX1_shareOf 5 (some .int) ∈ wsA := (wa_3 (List.mem_of_getElem? (i := 99) rfl) (by decide +kernel))
theorem yy_X1_shareOf : yX1_shareOf.cls = RX1 ∧ yX1_shareOf.cls ≠ "java/lang/invoke/MethodHandle" ∧ yX1_shareOf.cls ≠ "java/lang/invoke/VarHandle" ∧ (parseMethodDescriptor yX1_shareOf.desc).map (fun d => d.parameters.length) = some 2 := by decide +kernel
theorem e_X6_plan_203 : EV md_X6_plan md_X1_shareOf 203 1 2 := ⟨(wa_3 (List.mem_of_getElem? (i := 96) (by decide +kernel)) (by decide +kernel)), im_X1_shareOf, se_X1_shareOf, (wa_1 (List.mem_of_getElem? (i := 6) (by decide +kernel)) (by decide +kernel)), co_X1_shareOf, yy_X1_shareOf, ⟨by decide, by decide⟩, _, rfl, rfl⟩
theorem e_X6_waste_183 : EV md_X6_waste md_X2_hasGood 183 2 1 := ⟨(wa_3 (List.mem_of_getElem? (i := 35) (by decide +kernel)) (by decide +kernel)), im_X2_hasGood, se_X2_hasGood, (wa_1 (List.mem_of_getElem? (i := 3) (by decide +kernel)) (by decide +kernel)), co_X2_hasGood, yy_X2_hasGood, ⟨by decide, by decide⟩, _, rfl, rfl⟩
theorem im_X2_isAhead : Cond.instanceMethod yX2_isAhead ∈ wsA := (wa_3 (List.mem_of_getElem? (i := 105) (by decide +kernel)) (by decide +kernel))
theorem se_X2_isAhead : Cond.selects RX2 yX2_isAhead yX2_isAhead ∈ wsA := (wa_3 (List.mem_of_getElem? (i := 106) (by decide +kernel)) (by decide +kernel))
theorem co_X2_isAhead : Cond.code yX2_isAhead cX2_isAhead 2 (some .boolean) ∈ wsA := (wa_3 (List.mem_of_getElem? (i := 107) rfl) (by decide +kernel))
theorem yy_X2_isAhead : yX2_isAhead.cls = RX2 ∧ yX2_isAhead.cls ≠ "java/lang/invoke/MethodHandle" ∧ yX2_isAhead.cls ≠ "java/lang/invoke/VarHandle" ∧ (parseMethodDescriptor yX2_isAhead.desc).map (fun d => d.parameters.length) = some 1 := by decide +kernel
theorem e_X6_waste_206 : EV md_X6_waste md_X2_isAhead 206 2 1 := ⟨(wa_3 (List.mem_of_getElem? (i := 104) (by decide +kernel)) (by decide +kernel)), im_X2_isAhead, se_X2_isAhead, (wa_1 (List.mem_of_getElem? (i := 3) (by decide +kernel)) (by decide +kernel)), co_X2_isAhead, yy_X2_isAhead, ⟨by decide, by decide⟩, _, rfl, rfl⟩
theorem e_X6_waste_139 : EV md_X6_waste md_X2_reservedOfLot 139 2 1 := ⟨(wa_3 (List.mem_of_getElem? (i := 108) (by decide +kernel)) (by decide +kernel)), im_X2_reservedOfLot, se_X2_reservedOfLot, (wa_1 (List.mem_of_getElem? (i := 3) (by decide +kernel)) (by decide +kernel)), co_X2_reservedOfLot, yy_X2_reservedOfLot, ⟨by decide, by decide⟩, _, rfl, rfl⟩
theorem e_X6_least_183 : EV md_X6_least md_X2_hasGood 183 2 1 := ⟨(wa_3 (List.mem_of_getElem? (i := 35) (by decide +kernel)) (by decide +kernel)), im_X2_hasGood, se_X2_hasGood, (wa_1 (List.mem_of_getElem? (i := 3) (by decide +kernel)) (by decide +kernel)), co_X2_hasGood, yy_X2_hasGood, ⟨by decide, by decide⟩, _, rfl, rfl⟩
theorem e_X6_least_206 : EV md_X6_least md_X2_isAhead 206 2 1 := ⟨(wa_3 (List.mem_of_getElem? (i := 104) (by decide +kernel)) (by decide +kernel)), im_X2_isAhead, se_X2_isAhead, (wa_1 (List.mem_of_getElem? (i := 3) (by decide +kernel)) (by decide +kernel)), co_X2_isAhead, yy_X2_isAhead, ⟨by decide, by decide⟩, _, rfl, rfl⟩
theorem e_X6_least_196 : EV md_X6_least md_X1_make 196 1 2 := ⟨(wa_3 (List.mem_of_getElem? (i := 58) (by decide +kernel)) (by decide +kernel)), im_X1_make, se_X1_make, (wa_1 (List.mem_of_getElem? (i := 6) (by decide +kernel)) (by decide +kernel)), co_X1_make, yy_X1_make, ⟨by decide, by decide⟩, _, rfl, rfl⟩
theorem im_X1_sumRestTo : Cond.instanceMethod yX1_sumRestTo ∈ wsA := (wa_3 (List.mem_of_getElem? (i := 114) (by decide +kernel)) (by decide +kernel))
theorem se_X1_sumRestTo : Cond.selects RX1 yX1_sumRestTo yX1_sumRestTo ∈ wsA := (wa_3 (List.mem_of_getElem? (i := 115) (by decide +kernel)) (by decide +kernel))
theorem co_X1_sumRestTo : Cond.code yX1_sumRestTo cX1_sumRestTo 4 (some .int) ∈ wsA := (wa_3 (List.mem_of_getElem? (i := 116) rfl) (by decide +kernel))
theorem yy_X1_sumRestTo : yX1_sumRestTo.cls = RX1 ∧ yX1_sumRestTo.cls ≠ "java/lang/invoke/MethodHandle" ∧ yX1_sumRestTo.cls ≠ "java/lang/invoke/VarHandle" ∧ (parseMethodDescriptor yX1_sumRestTo.desc).map (fun d => d.parameters.length) = some 1 := by decide +kernel
theorem e_X6_least_209 : EV md_X6_least md_X1_sumRestTo 209 1 1 := ⟨(wa_3 (List.mem_of_getElem? (i := 113) (by decide +kernel)) (by decide +kernel)), im_X1_sumRestTo, se_X1_sumRestTo, (wa_1 (List.mem_of_getElem? (i := 6) (by decide +kernel)) (by decide +kernel)), co_X1_sumRestTo, yy_X1_sumRestTo, ⟨by decide, by decide⟩, _, rfl, rfl⟩
theorem im_X6_isOrder : Cond.instanceMethod yX6_isOrder ∈ wsA := (wa_3 (List.mem_of_getElem? (i := 123) (by decide +kernel)) (by decide +kernel))
theorem se_X6_isOrder : Cond.selects RX6 yX6_isOrder yX6_isOrder ∈ wsA := (wa_p (List.mem_of_getElem? (i := 22) (by decide +kernel)) (by decide +kernel))
theorem co_X6_isOrder : Cond.code yX6_isOrder cX6_isOrder 5 (some .boolean) ∈ wsA := (wa_3 (List.mem_of_getElem? (i := 124) rfl) (by decide +kernel))
theorem yy_X6_isOrder : yX6_isOrder.cls = RX6 ∧ yX6_isOrder.cls ≠ "java/lang/invoke/MethodHandle" ∧ yX6_isOrder.cls ≠ "java/lang/invoke/VarHandle" ∧ (parseMethodDescriptor yX6_isOrder.desc).map (fun d => d.parameters.length) = some 4 := by decide +kernel
theorem e_X6_would_212 : EV md_X6_would md_X6_isOrder 212 6 4 := ⟨(wa_3 (List.mem_of_getElem? (i := 121) (by decide +kernel)) (by decide +kernel)), im_X6_isOrder, se_X6_isOrder, (wa_1 (List.mem_of_getElem? (i := 1) (by decide +kernel)) (by decide +kernel)), co_X6_isOrder, yy_X6_isOrder, ⟨by decide, by decide⟩, _, rfl, rfl⟩
theorem e_X6_would_216 : EV md_X6_would md_X2_openOrder 216 2 2 := ⟨(wa_3 (List.mem_of_getElem? (i := 126) (by decide +kernel)) (by decide +kernel)), im_X2_openOrder, se_X2_openOrder, (wa_1 (List.mem_of_getElem? (i := 3) (by decide +kernel)) (by decide +kernel)), co_X2_openOrder, yy_X2_openOrder, ⟨by decide, by decide⟩, _, rfl, rfl⟩
theorem e_X6_would_72 : EV md_X6_would md_X2_copyFrom 72 2 1 := ⟨(wa_2 (List.mem_of_getElem? (i := 209) (by decide +kernel)) (by decide +kernel)), im_X2_copyFrom, se_X2_copyFrom, (wa_1 (List.mem_of_getElem? (i := 3) (by decide +kernel)) (by decide +kernel)), co_X2_copyFrom, yy_X2_copyFrom, ⟨by decide, by decide⟩, _, rfl, rfl⟩
theorem e_X6_would_219 : EV md_X6_would md_X2_addOrder 219 2 4 := ⟨(wa_3 (List.mem_of_getElem? (i := 127) (by decide +kernel)) (by decide +kernel)), im_X2_addOrder, se_X2_addOrder, (wa_1 (List.mem_of_getElem? (i := 3) (by decide +kernel)) (by decide +kernel)), co_X2_addOrder, yy_X2_addOrder, ⟨by decide, by decide⟩, _, rfl, rfl⟩
theorem e_X6_would_196 : EV md_X6_would md_X1_make 196 1 2 := ⟨(wa_3 (List.mem_of_getElem? (i := 58) (by decide +kernel)) (by decide +kernel)), im_X1_make, se_X1_make, (wa_1 (List.mem_of_getElem? (i := 6) (by decide +kernel)) (by decide +kernel)), co_X1_make, yy_X1_make, ⟨by decide, by decide⟩, _, rfl, rfl⟩
theorem e_X6_would_200 : EV md_X6_would md_X1_grantOf 200 1 1 := ⟨(wa_3 (List.mem_of_getElem? (i := 88) (by decide +kernel)) (by decide +kernel)), im_X1_grantOf, se_X1_grantOf, (wa_1 (List.mem_of_getElem? (i := 6) (by decide +kernel)) (by decide +kernel)), co_X1_grantOf, yy_X1_grantOf, ⟨by decide, by decide⟩, _, rfl, rfl⟩
theorem e_X6_slack_189 : EV md_X6_slack md_X2_isOpen 189 2 1 := ⟨(wa_3 (List.mem_of_getElem? (i := 44) (by decide +kernel)) (by decide +kernel)), im_X2_isOpen, se_X2_isOpen, (wa_1 (List.mem_of_getElem? (i := 3) (by decide +kernel)) (by decide +kernel)), co_X2_isOpen, yy_X2_isOpen, ⟨by decide, by decide⟩, _, rfl, rfl⟩
theorem e_X6_slack_72 : EV md_X6_slack md_X2_copyFrom 72 2 1 := ⟨(wa_2 (List.mem_of_getElem? (i := 209) (by decide +kernel)) (by decide +kernel)), im_X2_copyFrom, se_X2_copyFrom, (wa_1 (List.mem_of_getElem? (i := 3) (by decide +kernel)) (by decide +kernel)), co_X2_copyFrom, yy_X2_copyFrom, ⟨by decide, by decide⟩, _, rfl, rfl⟩
theorem im_X6_isFilledWith : Cond.instanceMethod yX6_isFilledWith ∈ wsA := (wa_3 (List.mem_of_getElem? (i := 134) (by decide +kernel)) (by decide +kernel))
theorem se_X6_isFilledWith : Cond.selects RX6 yX6_isFilledWith yX6_isFilledWith ∈ wsA := (wa_p (List.mem_of_getElem? (i := 23) (by decide +kernel)) (by decide +kernel))
theorem co_X6_isFilledWith : Cond.code yX6_isFilledWith cX6_isFilledWith 4 (some .boolean) ∈ wsA := (wa_3 (List.mem_of_getElem? (i := 135) rfl) (by decide +kernel))
theorem yy_X6_isFilledWith : yX6_isFilledWith.cls = RX6 ∧ yX6_isFilledWith.cls ≠ "java/lang/invoke/MethodHandle" ∧ yX6_isFilledWith.cls ≠ "java/lang/invoke/VarHandle" ∧ (parseMethodDescriptor yX6_isFilledWith.desc).map (fun d => d.parameters.length) = some 2 := by decide +kernel
theorem e_X6_slack_223 : EV md_X6_slack md_X6_isFilledWith 223 6 2 := ⟨(wa_3 (List.mem_of_getElem? (i := 132) (by decide +kernel)) (by decide +kernel)), im_X6_isFilledWith, se_X6_isFilledWith, (wa_1 (List.mem_of_getElem? (i := 1) (by decide +kernel)) (by decide +kernel)), co_X6_isFilledWith, yy_X6_isFilledWith, ⟨by decide, by decide⟩, _, rfl, rfl⟩
theorem e_X6_comes_183 : EV md_X6_comes md_X2_hasGood 183 2 1 := ⟨(wa_3 (List.mem_of_getElem? (i := 35) (by decide +kernel)) (by decide +kernel)), im_X2_hasGood, se_X2_hasGood, (wa_1 (List.mem_of_getElem? (i := 3) (by decide +kernel)) (by decide +kernel)), co_X2_hasGood, yy_X2_hasGood, ⟨by decide, by decide⟩, _, rfl, rfl⟩
theorem e_X6_comes_206 : EV md_X6_comes md_X2_isAhead 206 2 1 := ⟨(wa_3 (List.mem_of_getElem? (i := 104) (by decide +kernel)) (by decide +kernel)), im_X2_isAhead, se_X2_isAhead, (wa_1 (List.mem_of_getElem? (i := 3) (by decide +kernel)) (by decide +kernel)), co_X2_isAhead, yy_X2_isAhead, ⟨by decide, by decide⟩, _, rfl, rfl⟩
theorem e_X6_comes_226 : ES md_X6_comes md_X6_isSum 226 1 := ⟨(wa_3 (List.mem_of_getElem? (i := 125) (by decide +kernel)) (by decide +kernel)), st_X6_isSum, (wa_1 (List.mem_of_getElem? (i := 1) (by decide +kernel)) (by decide +kernel)), co_X6_isSum, yy_X6_isSum, ⟨by decide, by decide⟩⟩
theorem st_X6_isHold : Cond.static yX6_isHold ∈ wsA := (wa_3 (List.mem_of_getElem? (i := 141) (by decide +kernel)) (by decide +kernel))
theorem co_X6_isHold : Cond.code yX6_isHold cX6_isHold 1 (some .boolean) ∈ wsA := (wa_3 (List.mem_of_getElem? (i := 142) rfl) (by decide +kernel))
theorem yy_X6_isHold : yX6_isHold.cls = RX6 ∧ yX6_isHold.cls ≠ "java/lang/invoke/MethodHandle" ∧ yX6_isHold.cls ≠ "java/lang/invoke/VarHandle" ∧ (parseMethodDescriptor yX6_isHold.desc).map (fun d => d.parameters.length) = some 1 := by decide +kernel
theorem e_X6_comes_229 : ES md_X6_comes md_X6_isHold 229 1 := ⟨(wa_3 (List.mem_of_getElem? (i := 140) (by decide +kernel)) (by decide +kernel)), st_X6_isHold, (wa_1 (List.mem_of_getElem? (i := 1) (by decide +kernel)) (by decide +kernel)), co_X6_isHold, yy_X6_isHold, ⟨by decide, by decide⟩⟩
theorem im_X0_keep : Cond.instanceMethod yX0_keep ∈ wsA := (wa_3 (List.mem_of_getElem? (i := 144) (by decide +kernel)) (by decide +kernel))
theorem se_X0_keep : Cond.selects RX0 yX0_keep yX0_keep ∈ wsA := (wa_3 (List.mem_of_getElem? (i := 145) (by decide +kernel)) (by decide +kernel))
theorem co_X0_keep : Cond.code yX0_keep cX0_keep 2 (none) ∈ wsA := (wa_3 (List.mem_of_getElem? (i := 146) rfl) (by decide +kernel))
theorem yy_X0_keep : yX0_keep.cls = RX0 ∧ yX0_keep.cls ≠ "java/lang/invoke/MethodHandle" ∧ yX0_keep.cls ≠ "java/lang/invoke/VarHandle" ∧ (parseMethodDescriptor yX0_keep.desc).map (fun d => d.parameters.length) = some 1 := by decide +kernel
theorem e_X6_comes_232 : EV md_X6_comes md_X0_keep 232 0 1 := ⟨(wa_3 (List.mem_of_getElem? (i := 143) (by decide +kernel)) (by decide +kernel)), im_X0_keep, se_X0_keep, (wa_1 (List.mem_of_getElem? (i := 7) (by decide +kernel)) (by decide +kernel)), co_X0_keep, yy_X0_keep, ⟨by decide, by decide⟩, _, rfl, rfl⟩
theorem e_X6_comes_235 : EV md_X6_comes md_X2_addLot 235 2 4 := ⟨(wa_3 (List.mem_of_getElem? (i := 149) (by decide +kernel)) (by decide +kernel)), im_X2_addLot, se_X2_addLot, (wa_1 (List.mem_of_getElem? (i := 3) (by decide +kernel)) (by decide +kernel)), co_X2_addLot, yy_X2_addLot, ⟨by decide, by decide⟩, _, rfl, rfl⟩
theorem e_X6_asks_212 : EV md_X6_asks md_X6_isOrder 212 6 4 := ⟨(wa_3 (List.mem_of_getElem? (i := 121) (by decide +kernel)) (by decide +kernel)), im_X6_isOrder, se_X6_isOrder, (wa_1 (List.mem_of_getElem? (i := 1) (by decide +kernel)) (by decide +kernel)), co_X6_isOrder, yy_X6_isOrder, ⟨by decide, by decide⟩, _, rfl, rfl⟩
theorem e_X6_asks_216 : EV md_X6_asks md_X2_openOrder 216 2 2 := ⟨(wa_3 (List.mem_of_getElem? (i := 126) (by decide +kernel)) (by decide +kernel)), im_X2_openOrder, se_X2_openOrder, (wa_1 (List.mem_of_getElem? (i := 3) (by decide +kernel)) (by decide +kernel)), co_X2_openOrder, yy_X2_openOrder, ⟨by decide, by decide⟩, _, rfl, rfl⟩
theorem e_X6_asks_232 : EV md_X6_asks md_X0_keep 232 0 1 := ⟨(wa_3 (List.mem_of_getElem? (i := 143) (by decide +kernel)) (by decide +kernel)), im_X0_keep, se_X0_keep, (wa_1 (List.mem_of_getElem? (i := 7) (by decide +kernel)) (by decide +kernel)), co_X0_keep, yy_X0_keep, ⟨by decide, by decide⟩, _, rfl, rfl⟩
theorem e_X6_asks_219 : EV md_X6_asks md_X2_addOrder 219 2 4 := ⟨(wa_3 (List.mem_of_getElem? (i := 127) (by decide +kernel)) (by decide +kernel)), im_X2_addOrder, se_X2_addOrder, (wa_1 (List.mem_of_getElem? (i := 3) (by decide +kernel)) (by decide +kernel)), co_X2_addOrder, yy_X2_addOrder, ⟨by decide, by decide⟩, _, rfl, rfl⟩
theorem e_X6_reserve_183 : EV md_X6_reserve md_X2_hasGood 183 2 1 := ⟨(wa_3 (List.mem_of_getElem? (i := 35) (by decide +kernel)) (by decide +kernel)), im_X2_hasGood, se_X2_hasGood, (wa_1 (List.mem_of_getElem? (i := 3) (by decide +kernel)) (by decide +kernel)), co_X2_hasGood, yy_X2_hasGood, ⟨by decide, by decide⟩, _, rfl, rfl⟩
theorem e_X6_reserve_232 : EV md_X6_reserve md_X0_keep 232 0 1 := ⟨(wa_3 (List.mem_of_getElem? (i := 143) (by decide +kernel)) (by decide +kernel)), im_X0_keep, se_X0_keep, (wa_1 (List.mem_of_getElem? (i := 7) (by decide +kernel)) (by decide +kernel)), co_X0_keep, yy_X0_keep, ⟨by decide, by decide⟩, _, rfl, rfl⟩
theorem e_X6_reserve_196 : EV md_X6_reserve md_X1_make 196 1 2 := ⟨(wa_3 (List.mem_of_getElem? (i := 58) (by decide +kernel)) (by decide +kernel)), im_X1_make, se_X1_make, (wa_1 (List.mem_of_getElem? (i := 6) (by decide +kernel)) (by decide +kernel)), co_X1_make, yy_X1_make, ⟨by decide, by decide⟩, _, rfl, rfl⟩
theorem im_X1_reserveAll : Cond.instanceMethod yX1_reserveAll ∈ wsA := (wa_3 (List.mem_of_getElem? (i := 159) (by decide +kernel)) (by decide +kernel))
theorem se_X1_reserveAll : Cond.selects RX1 yX1_reserveAll yX1_reserveAll ∈ wsA := (wa_3 (List.mem_of_getElem? (i := 160) (by decide +kernel)) (by decide +kernel))
theorem co_X1_reserveAll : Cond.code yX1_reserveAll cX1_reserveAll 6 (some .int) ∈ wsA := (wa_3 (List.mem_of_getElem? (i := 161) rfl) (by decide +kernel))
theorem yy_X1_reserveAll : yX1_reserveAll.cls = RX1 ∧ yX1_reserveAll.cls ≠ "java/lang/invoke/MethodHandle" ∧ yX1_reserveAll.cls ≠ "java/lang/invoke/VarHandle" ∧ (parseMethodDescriptor yX1_reserveAll.desc).map (fun d => d.parameters.length) = some 0 := by decide +kernel
theorem e_X6_reserve_238 : EV md_X6_reserve md_X1_reserveAll 238 1 0 := ⟨(wa_3 (List.mem_of_getElem? (i := 158) (by decide +kernel)) (by decide +kernel)), im_X1_reserveAll, se_X1_reserveAll, (wa_1 (List.mem_of_getElem? (i := 6) (by decide +kernel)) (by decide +kernel)), co_X1_reserveAll, yy_X1_reserveAll, ⟨by decide, by decide⟩, _, rfl, rfl⟩
theorem e_X6_cancel_189 : EV md_X6_cancel md_X2_isOpen 189 2 1 := ⟨(wa_3 (List.mem_of_getElem? (i := 44) (by decide +kernel)) (by decide +kernel)), im_X2_isOpen, se_X2_isOpen, (wa_1 (List.mem_of_getElem? (i := 3) (by decide +kernel)) (by decide +kernel)), co_X2_isOpen, yy_X2_isOpen, ⟨by decide, by decide⟩, _, rfl, rfl⟩
theorem e_X6_cancel_232 : EV md_X6_cancel md_X0_keep 232 0 1 := ⟨(wa_3 (List.mem_of_getElem? (i := 143) (by decide +kernel)) (by decide +kernel)), im_X0_keep, se_X0_keep, (wa_1 (List.mem_of_getElem? (i := 7) (by decide +kernel)) (by decide +kernel)), co_X0_keep, yy_X0_keep, ⟨by decide, by decide⟩, _, rfl, rfl⟩
theorem e_X6_cancel_241 : EV md_X6_cancel md_X2_close 241 2 2 := ⟨(wa_3 (List.mem_of_getElem? (i := 174) (by decide +kernel)) (by decide +kernel)), im_X2_close, se_X2_close, (wa_1 (List.mem_of_getElem? (i := 3) (by decide +kernel)) (by decide +kernel)), co_X2_close, yy_X2_close, ⟨by decide, by decide⟩, _, rfl, rfl⟩
theorem e_X6_hold_115 : EV md_X6_hold md_X2_hasLot 115 2 1 := ⟨(wa_3 (List.mem_of_getElem? (i := 14) (by decide +kernel)) (by decide +kernel)), im_X2_hasLot, se_X2_hasLot, (wa_1 (List.mem_of_getElem? (i := 3) (by decide +kernel)) (by decide +kernel)), co_X2_hasLot, yy_X2_hasLot, ⟨by decide, by decide⟩, _, rfl, rfl⟩
theorem e_X6_hold_229 : ES md_X6_hold md_X6_isHold 229 1 := ⟨(wa_3 (List.mem_of_getElem? (i := 140) (by decide +kernel)) (by decide +kernel)), st_X6_isHold, (wa_1 (List.mem_of_getElem? (i := 1) (by decide +kernel)) (by decide +kernel)), co_X6_isHold, yy_X6_isHold, ⟨by decide, by decide⟩⟩
theorem e_X6_hold_232 : EV md_X6_hold md_X0_keep 232 0 1 := ⟨(wa_3 (List.mem_of_getElem? (i := 143) (by decide +kernel)) (by decide +kernel)), im_X0_keep, se_X0_keep, (wa_1 (List.mem_of_getElem? (i := 7) (by decide +kernel)) (by decide +kernel)), co_X0_keep, yy_X0_keep, ⟨by decide, by decide⟩, _, rfl, rfl⟩
theorem im_X2_releaseUnfit : Cond.instanceMethod yX2_releaseUnfit ∈ wsA := (wa_3 (List.mem_of_getElem? (i := 189) (by decide +kernel)) (by decide +kernel))
theorem se_X2_releaseUnfit : Cond.selects RX2 yX2_releaseUnfit yX2_releaseUnfit ∈ wsA := (wa_3 (List.mem_of_getElem? (i := 190) (by decide +kernel)) (by decide +kernel))
theorem co_X2_releaseUnfit : Cond.code yX2_releaseUnfit cX2_releaseUnfit 4 (some .int) ∈ wsA := (wa_3 (List.mem_of_getElem? (i := 191) rfl) (by decide +kernel))
theorem yy_X2_releaseUnfit : yX2_releaseUnfit.cls = RX2 ∧ yX2_releaseUnfit.cls ≠ "java/lang/invoke/MethodHandle" ∧ yX2_releaseUnfit.cls ≠ "java/lang/invoke/VarHandle" ∧ (parseMethodDescriptor yX2_releaseUnfit.desc).map (fun d => d.parameters.length) = some 1 := by decide +kernel
theorem e_X6_hold_244 : EV md_X6_hold md_X2_releaseUnfit 244 2 1 := ⟨(wa_3 (List.mem_of_getElem? (i := 188) (by decide +kernel)) (by decide +kernel)), im_X2_releaseUnfit, se_X2_releaseUnfit, (wa_1 (List.mem_of_getElem? (i := 3) (by decide +kernel)) (by decide +kernel)), co_X2_releaseUnfit, yy_X2_releaseUnfit, ⟨by decide, by decide⟩, _, rfl, rfl⟩
theorem e_X6_deliver_189 : EV md_X6_deliver md_X2_isOpen 189 2 1 := ⟨(wa_3 (List.mem_of_getElem? (i := 44) (by decide +kernel)) (by decide +kernel)), im_X2_isOpen, se_X2_isOpen, (wa_1 (List.mem_of_getElem? (i := 3) (by decide +kernel)) (by decide +kernel)), co_X2_isOpen, yy_X2_isOpen, ⟨by decide, by decide⟩, _, rfl, rfl⟩
theorem im_X2_reservedForOrder : Cond.instanceMethod yX2_reservedForOrder ∈ wsA := (wa_3 (List.mem_of_getElem? (i := 198) (by decide +kernel)) (by decide +kernel))
theorem se_X2_reservedForOrder : Cond.selects RX2 yX2_reservedForOrder yX2_reservedForOrder ∈ wsA := (wa_3 (List.mem_of_getElem? (i := 199) (by decide +kernel)) (by decide +kernel))
theorem co_X2_reservedForOrder : Cond.code yX2_reservedForOrder cX2_reservedForOrder 4 (some .int) ∈ wsA := (wa_3 (List.mem_of_getElem? (i := 200) rfl) (by decide +kernel))
theorem yy_X2_reservedForOrder : yX2_reservedForOrder.cls = RX2 ∧ yX2_reservedForOrder.cls ≠ "java/lang/invoke/MethodHandle" ∧ yX2_reservedForOrder.cls ≠ "java/lang/invoke/VarHandle" ∧ (parseMethodDescriptor yX2_reservedForOrder.desc).map (fun d => d.parameters.length) = some 1 := by decide +kernel
theorem e_X6_deliver_165 : EV md_X6_deliver md_X2_reservedForOrder 165 2 1 := ⟨(wa_3 (List.mem_of_getElem? (i := 197) (by decide +kernel)) (by decide +kernel)), im_X2_reservedForOrder, se_X2_reservedForOrder, (wa_1 (List.mem_of_getElem? (i := 3) (by decide +kernel)) (by decide +kernel)), co_X2_reservedForOrder, yy_X2_reservedForOrder, ⟨by decide, by decide⟩, _, rfl, rfl⟩
theorem e_X6_deliver_232 : EV md_X6_deliver md_X0_keep 232 0 1 := ⟨(wa_3 (List.mem_of_getElem? (i := 143) (by decide +kernel)) (by decide +kernel)), im_X0_keep, se_X0_keep, (wa_1 (List.mem_of_getElem? (i := 7) (by decide +kernel)) (by decide +kernel)), co_X0_keep, yy_X0_keep, ⟨by decide, by decide⟩, _, rfl, rfl⟩
theorem im_X2_handOut : Cond.instanceMethod yX2_handOut ∈ wsA := (wa_3 (List.mem_of_getElem? (i := 202) (by decide +kernel)) (by decide +kernel))
theorem se_X2_handOut : Cond.selects RX2 yX2_handOut yX2_handOut ∈ wsA := (wa_3 (List.mem_of_getElem? (i := 203) (by decide +kernel)) (by decide +kernel))
theorem co_X2_handOut : Cond.code yX2_handOut cX2_handOut 5 (some .int) ∈ wsA := (wa_3 (List.mem_of_getElem? (i := 204) rfl) (by decide +kernel))
theorem yy_X2_handOut : yX2_handOut.cls = RX2 ∧ yX2_handOut.cls ≠ "java/lang/invoke/MethodHandle" ∧ yX2_handOut.cls ≠ "java/lang/invoke/VarHandle" ∧ (parseMethodDescriptor yX2_handOut.desc).map (fun d => d.parameters.length) = some 1 := by decide +kernel
theorem e_X6_deliver_247 : EV md_X6_deliver md_X2_handOut 247 2 1 := ⟨(wa_3 (List.mem_of_getElem? (i := 201) (by decide +kernel)) (by decide +kernel)), im_X2_handOut, se_X2_handOut, (wa_1 (List.mem_of_getElem? (i := 3) (by decide +kernel)) (by decide +kernel)), co_X2_handOut, yy_X2_handOut, ⟨by decide, by decide⟩, _, rfl, rfl⟩
theorem e_X6_pass_232 : EV md_X6_pass md_X0_keep 232 0 1 := ⟨(wa_3 (List.mem_of_getElem? (i := 143) (by decide +kernel)) (by decide +kernel)), im_X0_keep, se_X0_keep, (wa_1 (List.mem_of_getElem? (i := 7) (by decide +kernel)) (by decide +kernel)), co_X0_keep, yy_X0_keep, ⟨by decide, by decide⟩, _, rfl, rfl⟩
theorem im_X2_endDay : Cond.instanceMethod yX2_endDay ∈ wsA := (wa_3 (List.mem_of_getElem? (i := 212) (by decide +kernel)) (by decide +kernel))
theorem se_X2_endDay : Cond.selects RX2 yX2_endDay yX2_endDay ∈ wsA := (wa_3 (List.mem_of_getElem? (i := 213) (by decide +kernel)) (by decide +kernel))
theorem co_X2_endDay : Cond.code yX2_endDay cX2_endDay 2 (none) ∈ wsA := (wa_3 (List.mem_of_getElem? (i := 214) rfl) (by decide +kernel))
theorem yy_X2_endDay : yX2_endDay.cls = RX2 ∧ yX2_endDay.cls ≠ "java/lang/invoke/MethodHandle" ∧ yX2_endDay.cls ≠ "java/lang/invoke/VarHandle" ∧ (parseMethodDescriptor yX2_endDay.desc).map (fun d => d.parameters.length) = some 0 := by decide +kernel
theorem e_X6_pass_250 : EV md_X6_pass md_X2_endDay 250 2 0 := ⟨(wa_3 (List.mem_of_getElem? (i := 211) (by decide +kernel)) (by decide +kernel)), im_X2_endDay, se_X2_endDay, (wa_1 (List.mem_of_getElem? (i := 3) (by decide +kernel)) (by decide +kernel)), co_X2_endDay, yy_X2_endDay, ⟨by decide, by decide⟩, _, rfl, rfl⟩
theorem im_X0_bringBack : Cond.instanceMethod yX0_bringBack ∈ wsA := (wa_3 (List.mem_of_getElem? (i := 224) (by decide +kernel)) (by decide +kernel))
theorem se_X0_bringBack : Cond.selects RX0 yX0_bringBack yX0_bringBack ∈ wsA := (wa_3 (List.mem_of_getElem? (i := 225) (by decide +kernel)) (by decide +kernel))
theorem co_X0_bringBack : Cond.code yX0_bringBack cX0_bringBack 2 (none) ∈ wsA := (wa_3 (List.mem_of_getElem? (i := 226) rfl) (by decide +kernel))
theorem yy_X0_bringBack : yX0_bringBack.cls = RX0 ∧ yX0_bringBack.cls ≠ "java/lang/invoke/MethodHandle" ∧ yX0_bringBack.cls ≠ "java/lang/invoke/VarHandle" ∧ (parseMethodDescriptor yX0_bringBack.desc).map (fun d => d.parameters.length) = some 1 := by decide +kernel
theorem e_X6_undo_253 : EV md_X6_undo md_X0_bringBack 253 0 1 := ⟨(wa_3 (List.mem_of_getElem? (i := 223) (by decide +kernel)) (by decide +kernel)), im_X0_bringBack, se_X0_bringBack, (wa_1 (List.mem_of_getElem? (i := 7) (by decide +kernel)) (by decide +kernel)), co_X0_bringBack, yy_X0_bringBack, ⟨by decide, by decide⟩, _, rfl, rfl⟩
theorem e_X6_isOrder_177 : EV md_X6_isOrder md_X2_hasCustomer 177 2 1 := ⟨(wa_3 (List.mem_of_getElem? (i := 34) (by decide +kernel)) (by decide +kernel)), im_X2_hasCustomer, se_X2_hasCustomer, (wa_1 (List.mem_of_getElem? (i := 3) (by decide +kernel)) (by decide +kernel)), co_X2_hasCustomer, yy_X2_hasCustomer, ⟨by decide, by decide⟩, _, rfl, rfl⟩
theorem e_X6_isOrder_183 : EV md_X6_isOrder md_X2_hasGood 183 2 1 := ⟨(wa_3 (List.mem_of_getElem? (i := 35) (by decide +kernel)) (by decide +kernel)), im_X2_hasGood, se_X2_hasGood, (wa_1 (List.mem_of_getElem? (i := 3) (by decide +kernel)) (by decide +kernel)), co_X2_hasGood, yy_X2_hasGood, ⟨by decide, by decide⟩, _, rfl, rfl⟩
theorem e_X6_isOrder_226 : ES md_X6_isOrder md_X6_isSum 226 1 := ⟨(wa_3 (List.mem_of_getElem? (i := 125) (by decide +kernel)) (by decide +kernel)), st_X6_isSum, (wa_1 (List.mem_of_getElem? (i := 1) (by decide +kernel)) (by decide +kernel)), co_X6_isSum, yy_X6_isSum, ⟨by decide, by decide⟩⟩
theorem e_X6_isOrder_206 : EV md_X6_isOrder md_X2_isAhead 206 2 1 := ⟨(wa_3 (List.mem_of_getElem? (i := 104) (by decide +kernel)) (by decide +kernel)), im_X2_isAhead, se_X2_isAhead, (wa_1 (List.mem_of_getElem? (i := 3) (by decide +kernel)) (by decide +kernel)), co_X2_isAhead, yy_X2_isAhead, ⟨by decide, by decide⟩, _, rfl, rfl⟩
theorem e_X6_isFilledWith_196 : EV md_X6_isFilledWith md_X1_make 196 1 2 := ⟨(wa_3 (List.mem_of_getElem? (i := 58) (by decide +kernel)) (by decide +kernel)), im_X1_make, se_X1_make, (wa_1 (List.mem_of_getElem? (i := 6) (by decide +kernel)) (by decide +kernel)), co_X1_make, yy_X1_make, ⟨by decide, by decide⟩, _, rfl, rfl⟩
theorem e_X6_isFilledWith_200 : EV md_X6_isFilledWith md_X1_grantOf 200 1 1 := ⟨(wa_3 (List.mem_of_getElem? (i := 88) (by decide +kernel)) (by decide +kernel)), im_X1_grantOf, se_X1_grantOf, (wa_1 (List.mem_of_getElem? (i := 6) (by decide +kernel)) (by decide +kernel)), co_X1_grantOf, yy_X1_grantOf, ⟨by decide, by decide⟩, _, rfl, rfl⟩
theorem im_X7_lays : Cond.instanceMethod yX7_lays ∈ wsA := (wa_4 (List.mem_of_getElem? (i := 80) (by decide +kernel)) (by decide +kernel))
theorem se_X7_lays : Cond.selects RX7 yX7_lays yX7_lays ∈ wsA := (wa_p (List.mem_of_getElem? (i := 27) (by decide +kernel)) (by decide +kernel))
theorem co_X7_lays : Cond.code yX7_lays cX7_lays 3 (none) ∈ wsA := (wa_4 (List.mem_of_getElem? (i := 82) rfl) (by decide +kernel))
theorem yy_X7_lays : yX7_lays.cls = RX7 ∧ yX7_lays.cls ≠ "java/lang/invoke/MethodHandle" ∧ yX7_lays.cls ≠ "java/lang/invoke/VarHandle" ∧ (parseMethodDescriptor yX7_lays.desc).map (fun d => d.parameters.length) = some 1 := by decide +kernel
theorem e_X7_feed_14 : EV md_X7_feed md_X7_lays 14 7 1 := ⟨(wa_4 (List.mem_of_getElem? (i := 78) (by decide +kernel)) (by decide +kernel)), im_X7_lays, se_X7_lays, (wa_1 (List.mem_of_getElem? (i := 8) (by decide +kernel)) (by decide +kernel)), co_X7_lays, yy_X7_lays, ⟨by decide, by decide⟩, _, rfl, rfl⟩
theorem st_X7_isLetter : Cond.static yX7_isLetter ∈ wsA := (wa_4 (List.mem_of_getElem? (i := 187) (by decide +kernel)) (by decide +kernel))
theorem co_X7_isLetter : Cond.code yX7_isLetter cX7_isLetter 1 (some .boolean) ∈ wsA := (wa_4 (List.mem_of_getElem? (i := 188) rfl) (by decide +kernel))
theorem yy_X7_isLetter : yX7_isLetter.cls = RX7 ∧ yX7_isLetter.cls ≠ "java/lang/invoke/MethodHandle" ∧ yX7_isLetter.cls ≠ "java/lang/invoke/VarHandle" ∧ (parseMethodDescriptor yX7_isLetter.desc).map (fun d => d.parameters.length) = some 1 := by decide +kernel
theorem e_X7_go_30 : ES md_X7_go md_X7_isLetter 30 1 := ⟨(wa_4 (List.mem_of_getElem? (i := 186) (by decide +kernel)) (by decide +kernel)), st_X7_isLetter, (wa_1 (List.mem_of_getElem? (i := 8) (by decide +kernel)) (by decide +kernel)), co_X7_isLetter, yy_X7_isLetter, ⟨by decide, by decide⟩⟩
theorem st_X7_isDigit : Cond.static yX7_isDigit ∈ wsA := (wa_4 (List.mem_of_getElem? (i := 190) (by decide +kernel)) (by decide +kernel))
theorem co_X7_isDigit : Cond.code yX7_isDigit cX7_isDigit 1 (some .boolean) ∈ wsA := (wa_4 (List.mem_of_getElem? (i := 191) rfl) (by decide +kernel))
theorem yy_X7_isDigit : yX7_isDigit.cls = RX7 ∧ yX7_isDigit.cls ≠ "java/lang/invoke/MethodHandle" ∧ yX7_isDigit.cls ≠ "java/lang/invoke/VarHandle" ∧ (parseMethodDescriptor yX7_isDigit.desc).map (fun d => d.parameters.length) = some 1 := by decide +kernel
theorem e_X7_go_34 : ES md_X7_go md_X7_isDigit 34 1 := ⟨(wa_4 (List.mem_of_getElem? (i := 189) (by decide +kernel)) (by decide +kernel)), st_X7_isDigit, (wa_1 (List.mem_of_getElem? (i := 8) (by decide +kernel)) (by decide +kernel)), co_X7_isDigit, yy_X7_isDigit, ⟨by decide, by decide⟩⟩
theorem im_X7_tapeAt : Cond.instanceMethod yX7_tapeAt ∈ wsA := (wa_4 (List.mem_of_getElem? (i := 194) (by decide +kernel)) (by decide +kernel))
theorem se_X7_tapeAt : Cond.selects RX7 yX7_tapeAt yX7_tapeAt ∈ wsA := (wa_p (List.mem_of_getElem? (i := 29) (by decide +kernel)) (by decide +kernel))
theorem co_X7_tapeAt : Cond.code yX7_tapeAt cX7_tapeAt 2 (some .int) ∈ wsA := (wa_4 (List.mem_of_getElem? (i := 195) rfl) (by decide +kernel))
theorem yy_X7_tapeAt : yX7_tapeAt.cls = RX7 ∧ yX7_tapeAt.cls ≠ "java/lang/invoke/MethodHandle" ∧ yX7_tapeAt.cls ≠ "java/lang/invoke/VarHandle" ∧ (parseMethodDescriptor yX7_tapeAt.desc).map (fun d => d.parameters.length) = some 1 := by decide +kernel
theorem e_X7_go_44 : EV md_X7_go md_X7_tapeAt 44 7 1 := ⟨(wa_4 (List.mem_of_getElem? (i := 192) (by decide +kernel)) (by decide +kernel)), im_X7_tapeAt, se_X7_tapeAt, (wa_1 (List.mem_of_getElem? (i := 8) (by decide +kernel)) (by decide +kernel)), co_X7_tapeAt, yy_X7_tapeAt, ⟨by decide, by decide⟩, _, rfl, rfl⟩
theorem im_X7_bad : Cond.instanceMethod yX7_bad ∈ wsA := (wa_4 (List.mem_of_getElem? (i := 218) (by decide +kernel)) (by decide +kernel))
theorem se_X7_bad : Cond.selects RX7 yX7_bad yX7_bad ∈ wsA := (wa_p (List.mem_of_getElem? (i := 33) (by decide +kernel)) (by decide +kernel))
theorem co_X7_bad : Cond.code yX7_bad cX7_bad 2 (some .boolean) ∈ wsA := (wa_4 (List.mem_of_getElem? (i := 219) rfl) (by decide +kernel))
theorem yy_X7_bad : yX7_bad.cls = RX7 ∧ yX7_bad.cls ≠ "java/lang/invoke/MethodHandle" ∧ yX7_bad.cls ≠ "java/lang/invoke/VarHandle" ∧ (parseMethodDescriptor yX7_bad.desc).map (fun d => d.parameters.length) = some 1 := by decide +kernel
theorem e_X7_told_98 : EV md_X7_told md_X7_bad 98 7 1 := ⟨(wa_4 (List.mem_of_getElem? (i := 216) (by decide +kernel)) (by decide +kernel)), im_X7_bad, se_X7_bad, (wa_1 (List.mem_of_getElem? (i := 8) (by decide +kernel)) (by decide +kernel)), co_X7_bad, yy_X7_bad, ⟨by decide, by decide⟩, _, rfl, rfl⟩
theorem st_X7_isIn : Cond.static yX7_isIn ∈ wsA := (wa_4 (List.mem_of_getElem? (i := 225) (by decide +kernel)) (by decide +kernel))
theorem co_X7_isIn : Cond.code yX7_isIn cX7_isIn 3 (some .boolean) ∈ wsA := (wa_4 (List.mem_of_getElem? (i := 226) rfl) (by decide +kernel))
theorem yy_X7_isIn : yX7_isIn.cls = RX7 ∧ yX7_isIn.cls ≠ "java/lang/invoke/MethodHandle" ∧ yX7_isIn.cls ≠ "java/lang/invoke/VarHandle" ∧ (parseMethodDescriptor yX7_isIn.desc).map (fun d => d.parameters.length) = some 3 := by decide +kernel
theorem e_X7_told_101 : ES md_X7_told md_X7_isIn 101 3 := ⟨(wa_4 (List.mem_of_getElem? (i := 224) (by decide +kernel)) (by decide +kernel)), st_X7_isIn, (wa_1 (List.mem_of_getElem? (i := 8) (by decide +kernel)) (by decide +kernel)), co_X7_isIn, yy_X7_isIn, ⟨by decide, by decide⟩⟩
theorem im_X7_go : Cond.instanceMethod yX7_go ∈ wsA := (wa_4 (List.mem_of_getElem? (i := 184) (by decide +kernel)) (by decide +kernel))
theorem se_X7_go : Cond.selects RX7 yX7_go yX7_go ∈ wsA := (wa_p (List.mem_of_getElem? (i := 28) (by decide +kernel)) (by decide +kernel))
theorem co_X7_go : Cond.code yX7_go cX7_go 5 (none) ∈ wsA := (wa_4 (List.mem_of_getElem? (i := 185) rfl) (by decide +kernel))
theorem yy_X7_go : yX7_go.cls = RX7 ∧ yX7_go.cls ≠ "java/lang/invoke/MethodHandle" ∧ yX7_go.cls ≠ "java/lang/invoke/VarHandle" ∧ (parseMethodDescriptor yX7_go.desc).map (fun d => d.parameters.length) = some 0 := by decide +kernel
theorem e_X7_told_105 : EV md_X7_told md_X7_go 105 7 0 := ⟨(wa_4 (List.mem_of_getElem? (i := 182) (by decide +kernel)) (by decide +kernel)), im_X7_go, se_X7_go, (wa_1 (List.mem_of_getElem? (i := 8) (by decide +kernel)) (by decide +kernel)), co_X7_go, yy_X7_go, ⟨by decide, by decide⟩, _, rfl, rfl⟩
theorem e_X7_readEnd_98 : EV md_X7_readEnd md_X7_bad 98 7 1 := ⟨(wa_4 (List.mem_of_getElem? (i := 216) (by decide +kernel)) (by decide +kernel)), im_X7_bad, se_X7_bad, (wa_1 (List.mem_of_getElem? (i := 8) (by decide +kernel)) (by decide +kernel)), co_X7_bad, yy_X7_bad, ⟨by decide, by decide⟩, _, rfl, rfl⟩
theorem e_X7_readEnd_105 : EV md_X7_readEnd md_X7_go 105 7 0 := ⟨(wa_4 (List.mem_of_getElem? (i := 182) (by decide +kernel)) (by decide +kernel)), im_X7_go, se_X7_go, (wa_1 (List.mem_of_getElem? (i := 8) (by decide +kernel)) (by decide +kernel)), co_X7_go, yy_X7_go, ⟨by decide, by decide⟩, _, rfl, rfl⟩
theorem st_X7_three : Cond.static yX7_three ∈ wsA := (wa_4 (List.mem_of_getElem? (i := 208) (by decide +kernel)) (by decide +kernel))
theorem co_X7_three : Cond.code yX7_three cX7_three 3 (some .long) ∈ wsA := (wa_4 (List.mem_of_getElem? (i := 209) rfl) (by decide +kernel))
theorem yy_X7_three : yX7_three.cls = RX7 ∧ yX7_three.cls ≠ "java/lang/invoke/MethodHandle" ∧ yX7_three.cls ≠ "java/lang/invoke/VarHandle" ∧ (parseMethodDescriptor yX7_three.desc).map (fun d => d.parameters.length) = some 3 := by decide +kernel
theorem e_X7_readGoods_110 : ES md_X7_readGoods md_X7_three 110 3 := ⟨(wa_4 (List.mem_of_getElem? (i := 207) (by decide +kernel)) (by decide +kernel)), st_X7_three, (wa_1 (List.mem_of_getElem? (i := 8) (by decide +kernel)) (by decide +kernel)), co_X7_three, yy_X7_three, ⟨by decide, by decide⟩⟩
theorem im_X7_isWord : Cond.instanceMethod yX7_isWord ∈ wsA := (wa_4 (List.mem_of_getElem? (i := 214) (by decide +kernel)) (by decide +kernel))
theorem se_X7_isWord : Cond.selects RX7 yX7_isWord yX7_isWord ∈ wsA := (wa_p (List.mem_of_getElem? (i := 32) (by decide +kernel)) (by decide +kernel))
theorem co_X7_isWord : Cond.code yX7_isWord cX7_isWord 3 (some .boolean) ∈ wsA := (wa_4 (List.mem_of_getElem? (i := 215) rfl) (by decide +kernel))
theorem yy_X7_isWord : yX7_isWord.cls = RX7 ∧ yX7_isWord.cls ≠ "java/lang/invoke/MethodHandle" ∧ yX7_isWord.cls ≠ "java/lang/invoke/VarHandle" ∧ (parseMethodDescriptor yX7_isWord.desc).map (fun d => d.parameters.length) = some 1 := by decide +kernel
theorem e_X7_readGoods_118 : EV md_X7_readGoods md_X7_isWord 118 7 1 := ⟨(wa_4 (List.mem_of_getElem? (i := 212) (by decide +kernel)) (by decide +kernel)), im_X7_isWord, se_X7_isWord, (wa_1 (List.mem_of_getElem? (i := 8) (by decide +kernel)) (by decide +kernel)), co_X7_isWord, yy_X7_isWord, ⟨by decide, by decide⟩, _, rfl, rfl⟩
theorem e_X7_readGoods_98 : EV md_X7_readGoods md_X7_bad 98 7 1 := ⟨(wa_4 (List.mem_of_getElem? (i := 216) (by decide +kernel)) (by decide +kernel)), im_X7_bad, se_X7_bad, (wa_1 (List.mem_of_getElem? (i := 8) (by decide +kernel)) (by decide +kernel)), co_X7_bad, yy_X7_bad, ⟨by decide, by decide⟩, _, rfl, rfl⟩
theorem e_X7_readGoods_105 : EV md_X7_readGoods md_X7_go 105 7 0 := ⟨(wa_4 (List.mem_of_getElem? (i := 182) (by decide +kernel)) (by decide +kernel)), im_X7_go, se_X7_go, (wa_1 (List.mem_of_getElem? (i := 8) (by decide +kernel)) (by decide +kernel)), co_X7_go, yy_X7_go, ⟨by decide, by decide⟩, _, rfl, rfl⟩
theorem im_X7_told : Cond.instanceMethod yX7_told ∈ wsA := (wa_4 (List.mem_of_getElem? (i := 222) (by decide +kernel)) (by decide +kernel))
theorem se_X7_told : Cond.selects RX7 yX7_told yX7_told ∈ wsA := (wa_p (List.mem_of_getElem? (i := 34) (by decide +kernel)) (by decide +kernel))
theorem co_X7_told : Cond.code yX7_told cX7_told 4 (some .boolean) ∈ wsA := (wa_4 (List.mem_of_getElem? (i := 223) rfl) (by decide +kernel))
theorem yy_X7_told : yX7_told.cls = RX7 ∧ yX7_told.cls ≠ "java/lang/invoke/MethodHandle" ∧ yX7_told.cls ≠ "java/lang/invoke/VarHandle" ∧ (parseMethodDescriptor yX7_told.desc).map (fun d => d.parameters.length) = some 3 := by decide +kernel
theorem e_X7_readGoods_122 : EV md_X7_readGoods md_X7_told 122 7 3 := ⟨(wa_4 (List.mem_of_getElem? (i := 220) (by decide +kernel)) (by decide +kernel)), im_X7_told, se_X7_told, (wa_1 (List.mem_of_getElem? (i := 8) (by decide +kernel)) (by decide +kernel)), co_X7_told, yy_X7_told, ⟨by decide, by decide⟩, _, rfl, rfl⟩
theorem im_X7_readEnd : Cond.instanceMethod yX7_readEnd ∈ wsA := (wa_4 (List.mem_of_getElem? (i := 229) (by decide +kernel)) (by decide +kernel))
theorem se_X7_readEnd : Cond.selects RX7 yX7_readEnd yX7_readEnd ∈ wsA := (wa_p (List.mem_of_getElem? (i := 35) (by decide +kernel)) (by decide +kernel))
theorem co_X7_readEnd : Cond.code yX7_readEnd cX7_readEnd 1 (some .boolean) ∈ wsA := (wa_4 (List.mem_of_getElem? (i := 230) rfl) (by decide +kernel))
theorem yy_X7_readEnd : yX7_readEnd.cls = RX7 ∧ yX7_readEnd.cls ≠ "java/lang/invoke/MethodHandle" ∧ yX7_readEnd.cls ≠ "java/lang/invoke/VarHandle" ∧ (parseMethodDescriptor yX7_readEnd.desc).map (fun d => d.parameters.length) = some 0 := by decide +kernel
theorem e_X7_readGoods_125 : EV md_X7_readGoods md_X7_readEnd 125 7 0 := ⟨(wa_4 (List.mem_of_getElem? (i := 227) (by decide +kernel)) (by decide +kernel)), im_X7_readEnd, se_X7_readEnd, (wa_1 (List.mem_of_getElem? (i := 8) (by decide +kernel)) (by decide +kernel)), co_X7_readEnd, yy_X7_readEnd, ⟨by decide, by decide⟩, _, rfl, rfl⟩
theorem e_X7_readCustomer_98 : EV md_X7_readCustomer md_X7_bad 98 7 1 := ⟨(wa_4 (List.mem_of_getElem? (i := 216) (by decide +kernel)) (by decide +kernel)), im_X7_bad, se_X7_bad, (wa_1 (List.mem_of_getElem? (i := 8) (by decide +kernel)) (by decide +kernel)), co_X7_bad, yy_X7_bad, ⟨by decide, by decide⟩, _, rfl, rfl⟩
theorem e_X7_readCustomer_105 : EV md_X7_readCustomer md_X7_go 105 7 0 := ⟨(wa_4 (List.mem_of_getElem? (i := 182) (by decide +kernel)) (by decide +kernel)), im_X7_go, se_X7_go, (wa_1 (List.mem_of_getElem? (i := 8) (by decide +kernel)) (by decide +kernel)), co_X7_go, yy_X7_go, ⟨by decide, by decide⟩, _, rfl, rfl⟩
theorem e_X7_readCustomer_122 : EV md_X7_readCustomer md_X7_told 122 7 3 := ⟨(wa_4 (List.mem_of_getElem? (i := 220) (by decide +kernel)) (by decide +kernel)), im_X7_told, se_X7_told, (wa_1 (List.mem_of_getElem? (i := 8) (by decide +kernel)) (by decide +kernel)), co_X7_told, yy_X7_told, ⟨by decide, by decide⟩, _, rfl, rfl⟩
theorem e_X7_readCustomer_125 : EV md_X7_readCustomer md_X7_readEnd 125 7 0 := ⟨(wa_4 (List.mem_of_getElem? (i := 227) (by decide +kernel)) (by decide +kernel)), im_X7_readEnd, se_X7_readEnd, (wa_1 (List.mem_of_getElem? (i := 8) (by decide +kernel)) (by decide +kernel)), co_X7_readEnd, yy_X7_readEnd, ⟨by decide, by decide⟩, _, rfl, rfl⟩
theorem e_X7_readLot_98 : EV md_X7_readLot md_X7_bad 98 7 1 := ⟨(wa_4 (List.mem_of_getElem? (i := 216) (by decide +kernel)) (by decide +kernel)), im_X7_bad, se_X7_bad, (wa_1 (List.mem_of_getElem? (i := 8) (by decide +kernel)) (by decide +kernel)), co_X7_bad, yy_X7_bad, ⟨by decide, by decide⟩, _, rfl, rfl⟩
theorem e_X7_readLot_105 : EV md_X7_readLot md_X7_go 105 7 0 := ⟨(wa_4 (List.mem_of_getElem? (i := 182) (by decide +kernel)) (by decide +kernel)), im_X7_go, se_X7_go, (wa_1 (List.mem_of_getElem? (i := 8) (by decide +kernel)) (by decide +kernel)), co_X7_go, yy_X7_go, ⟨by decide, by decide⟩, _, rfl, rfl⟩
theorem e_X7_readLot_122 : EV md_X7_readLot md_X7_told 122 7 3 := ⟨(wa_4 (List.mem_of_getElem? (i := 220) (by decide +kernel)) (by decide +kernel)), im_X7_told, se_X7_told, (wa_1 (List.mem_of_getElem? (i := 8) (by decide +kernel)) (by decide +kernel)), co_X7_told, yy_X7_told, ⟨by decide, by decide⟩, _, rfl, rfl⟩
theorem e_X7_readLot_125 : EV md_X7_readLot md_X7_readEnd 125 7 0 := ⟨(wa_4 (List.mem_of_getElem? (i := 227) (by decide +kernel)) (by decide +kernel)), im_X7_readEnd, se_X7_readEnd, (wa_1 (List.mem_of_getElem? (i := 8) (by decide +kernel)) (by decide +kernel)), co_X7_readEnd, yy_X7_readEnd, ⟨by decide, by decide⟩, _, rfl, rfl⟩
theorem e_X7_readOrder_98 : EV md_X7_readOrder md_X7_bad 98 7 1 := ⟨(wa_4 (List.mem_of_getElem? (i := 216) (by decide +kernel)) (by decide +kernel)), im_X7_bad, se_X7_bad, (wa_1 (List.mem_of_getElem? (i := 8) (by decide +kernel)) (by decide +kernel)), co_X7_bad, yy_X7_bad, ⟨by decide, by decide⟩, _, rfl, rfl⟩
theorem e_X7_readOrder_105 : EV md_X7_readOrder md_X7_go 105 7 0 := ⟨(wa_4 (List.mem_of_getElem? (i := 182) (by decide +kernel)) (by decide +kernel)), im_X7_go, se_X7_go, (wa_1 (List.mem_of_getElem? (i := 8) (by decide +kernel)) (by decide +kernel)), co_X7_go, yy_X7_go, ⟨by decide, by decide⟩, _, rfl, rfl⟩
theorem e_X7_readOrder_122 : EV md_X7_readOrder md_X7_told 122 7 3 := ⟨(wa_4 (List.mem_of_getElem? (i := 220) (by decide +kernel)) (by decide +kernel)), im_X7_told, se_X7_told, (wa_1 (List.mem_of_getElem? (i := 8) (by decide +kernel)) (by decide +kernel)), co_X7_told, yy_X7_told, ⟨by decide, by decide⟩, _, rfl, rfl⟩
theorem im_X7_isAskedFor : Cond.instanceMethod yX7_isAskedFor ∈ wsA := (wa_5 (List.mem_of_getElem? (i := 16) (by decide +kernel)) (by decide +kernel))
theorem se_X7_isAskedFor : Cond.selects RX7 yX7_isAskedFor yX7_isAskedFor ∈ wsA := (wa_p (List.mem_of_getElem? (i := 41) (by decide +kernel)) (by decide +kernel))
theorem co_X7_isAskedFor : Cond.code yX7_isAskedFor cX7_isAskedFor 5 (some .boolean) ∈ wsA := (wa_5 (List.mem_of_getElem? (i := 17) rfl) (by decide +kernel))
theorem yy_X7_isAskedFor : yX7_isAskedFor.cls = RX7 ∧ yX7_isAskedFor.cls ≠ "java/lang/invoke/MethodHandle" ∧ yX7_isAskedFor.cls ≠ "java/lang/invoke/VarHandle" ∧ (parseMethodDescriptor yX7_isAskedFor.desc).map (fun d => d.parameters.length) = some 3 := by decide +kernel
theorem e_X7_readOrder_129 : EV md_X7_readOrder md_X7_isAskedFor 129 7 3 := ⟨(wa_5 (List.mem_of_getElem? (i := 14) (by decide +kernel)) (by decide +kernel)), im_X7_isAskedFor, se_X7_isAskedFor, (wa_1 (List.mem_of_getElem? (i := 8) (by decide +kernel)) (by decide +kernel)), co_X7_isAskedFor, yy_X7_isAskedFor, ⟨by decide, by decide⟩, _, rfl, rfl⟩
theorem e_X7_readOrder_125 : EV md_X7_readOrder md_X7_readEnd 125 7 0 := ⟨(wa_4 (List.mem_of_getElem? (i := 227) (by decide +kernel)) (by decide +kernel)), im_X7_readEnd, se_X7_readEnd, (wa_1 (List.mem_of_getElem? (i := 8) (by decide +kernel)) (by decide +kernel)), co_X7_readEnd, yy_X7_readEnd, ⟨by decide, by decide⟩, _, rfl, rfl⟩
theorem e_X7_isSort_110 : ES md_X7_isSort md_X7_three 110 3 := ⟨(wa_4 (List.mem_of_getElem? (i := 207) (by decide +kernel)) (by decide +kernel)), st_X7_three, (wa_1 (List.mem_of_getElem? (i := 8) (by decide +kernel)) (by decide +kernel)), co_X7_three, yy_X7_three, ⟨by decide, by decide⟩⟩
theorem e_X7_isSort_118 : EV md_X7_isSort md_X7_isWord 118 7 1 := ⟨(wa_4 (List.mem_of_getElem? (i := 212) (by decide +kernel)) (by decide +kernel)), im_X7_isWord, se_X7_isWord, (wa_1 (List.mem_of_getElem? (i := 8) (by decide +kernel)) (by decide +kernel)), co_X7_isWord, yy_X7_isWord, ⟨by decide, by decide⟩, _, rfl, rfl⟩
theorem im_X7_isSort : Cond.instanceMethod yX7_isSort ∈ wsA := (wa_4 (List.mem_of_getElem? (i := 237) (by decide +kernel)) (by decide +kernel))
theorem se_X7_isSort : Cond.selects RX7 yX7_isSort yX7_isSort ∈ wsA := (wa_p (List.mem_of_getElem? (i := 37) (by decide +kernel)) (by decide +kernel))
theorem co_X7_isSort : Cond.code yX7_isSort cX7_isSort 2 (some .boolean) ∈ wsA := (wa_4 (List.mem_of_getElem? (i := 238) rfl) (by decide +kernel))
theorem yy_X7_isSort : yX7_isSort.cls = RX7 ∧ yX7_isSort.cls ≠ "java/lang/invoke/MethodHandle" ∧ yX7_isSort.cls ≠ "java/lang/invoke/VarHandle" ∧ (parseMethodDescriptor yX7_isSort.desc).map (fun d => d.parameters.length) = some 1 := by decide +kernel
theorem e_X7_readAll_139 : EV md_X7_readAll md_X7_isSort 139 7 1 := ⟨(wa_4 (List.mem_of_getElem? (i := 235) (by decide +kernel)) (by decide +kernel)), im_X7_isSort, se_X7_isSort, (wa_1 (List.mem_of_getElem? (i := 8) (by decide +kernel)) (by decide +kernel)), co_X7_isSort, yy_X7_isSort, ⟨by decide, by decide⟩, _, rfl, rfl⟩
theorem im_X7_readCustomer : Cond.instanceMethod yX7_readCustomer ∈ wsA := (wa_5 (List.mem_of_getElem? (i := 4) (by decide +kernel)) (by decide +kernel))
theorem se_X7_readCustomer : Cond.selects RX7 yX7_readCustomer yX7_readCustomer ∈ wsA := (wa_p (List.mem_of_getElem? (i := 38) (by decide +kernel)) (by decide +kernel))
theorem co_X7_readCustomer : Cond.code yX7_readCustomer cX7_readCustomer 1 (some .boolean) ∈ wsA := (wa_5 (List.mem_of_getElem? (i := 5) rfl) (by decide +kernel))
theorem yy_X7_readCustomer : yX7_readCustomer.cls = RX7 ∧ yX7_readCustomer.cls ≠ "java/lang/invoke/MethodHandle" ∧ yX7_readCustomer.cls ≠ "java/lang/invoke/VarHandle" ∧ (parseMethodDescriptor yX7_readCustomer.desc).map (fun d => d.parameters.length) = some 0 := by decide +kernel
theorem e_X7_readAll_142 : EV md_X7_readAll md_X7_readCustomer 142 7 0 := ⟨(wa_5 (List.mem_of_getElem? (i := 2) (by decide +kernel)) (by decide +kernel)), im_X7_readCustomer, se_X7_readCustomer, (wa_1 (List.mem_of_getElem? (i := 8) (by decide +kernel)) (by decide +kernel)), co_X7_readCustomer, yy_X7_readCustomer, ⟨by decide, by decide⟩, _, rfl, rfl⟩
theorem im_X7_readLot : Cond.instanceMethod yX7_readLot ∈ wsA := (wa_5 (List.mem_of_getElem? (i := 8) (by decide +kernel)) (by decide +kernel))
theorem se_X7_readLot : Cond.selects RX7 yX7_readLot yX7_readLot ∈ wsA := (wa_p (List.mem_of_getElem? (i := 39) (by decide +kernel)) (by decide +kernel))
theorem co_X7_readLot : Cond.code yX7_readLot cX7_readLot 2 (some .boolean) ∈ wsA := (wa_5 (List.mem_of_getElem? (i := 9) rfl) (by decide +kernel))
theorem yy_X7_readLot : yX7_readLot.cls = RX7 ∧ yX7_readLot.cls ≠ "java/lang/invoke/MethodHandle" ∧ yX7_readLot.cls ≠ "java/lang/invoke/VarHandle" ∧ (parseMethodDescriptor yX7_readLot.desc).map (fun d => d.parameters.length) = some 0 := by decide +kernel
theorem e_X7_readAll_145 : EV md_X7_readAll md_X7_readLot 145 7 0 := ⟨(wa_5 (List.mem_of_getElem? (i := 6) (by decide +kernel)) (by decide +kernel)), im_X7_readLot, se_X7_readLot, (wa_1 (List.mem_of_getElem? (i := 8) (by decide +kernel)) (by decide +kernel)), co_X7_readLot, yy_X7_readLot, ⟨by decide, by decide⟩, _, rfl, rfl⟩
theorem im_X7_readOrder : Cond.instanceMethod yX7_readOrder ∈ wsA := (wa_5 (List.mem_of_getElem? (i := 12) (by decide +kernel)) (by decide +kernel))
theorem se_X7_readOrder : Cond.selects RX7 yX7_readOrder yX7_readOrder ∈ wsA := (wa_p (List.mem_of_getElem? (i := 40) (by decide +kernel)) (by decide +kernel))
theorem co_X7_readOrder : Cond.code yX7_readOrder cX7_readOrder 2 (some .boolean) ∈ wsA := (wa_5 (List.mem_of_getElem? (i := 13) rfl) (by decide +kernel))
theorem yy_X7_readOrder : yX7_readOrder.cls = RX7 ∧ yX7_readOrder.cls ≠ "java/lang/invoke/MethodHandle" ∧ yX7_readOrder.cls ≠ "java/lang/invoke/VarHandle" ∧ (parseMethodDescriptor yX7_readOrder.desc).map (fun d => d.parameters.length) = some 0 := by decide +kernel
theorem e_X7_readAll_148 : EV md_X7_readAll md_X7_readOrder 148 7 0 := ⟨(wa_5 (List.mem_of_getElem? (i := 10) (by decide +kernel)) (by decide +kernel)), im_X7_readOrder, se_X7_readOrder, (wa_1 (List.mem_of_getElem? (i := 8) (by decide +kernel)) (by decide +kernel)), co_X7_readOrder, yy_X7_readOrder, ⟨by decide, by decide⟩, _, rfl, rfl⟩
theorem im_X7_readGoods : Cond.instanceMethod yX7_readGoods ∈ wsA := (wa_4 (List.mem_of_getElem? (i := 204) (by decide +kernel)) (by decide +kernel))
theorem se_X7_readGoods : Cond.selects RX7 yX7_readGoods yX7_readGoods ∈ wsA := (wa_p (List.mem_of_getElem? (i := 31) (by decide +kernel)) (by decide +kernel))
theorem co_X7_readGoods : Cond.code yX7_readGoods cX7_readGoods 1 (some .boolean) ∈ wsA := (wa_4 (List.mem_of_getElem? (i := 205) rfl) (by decide +kernel))
theorem yy_X7_readGoods : yX7_readGoods.cls = RX7 ∧ yX7_readGoods.cls ≠ "java/lang/invoke/MethodHandle" ∧ yX7_readGoods.cls ≠ "java/lang/invoke/VarHandle" ∧ (parseMethodDescriptor yX7_readGoods.desc).map (fun d => d.parameters.length) = some 0 := by decide +kernel
theorem e_X7_readWhole_154 : EV md_X7_readWhole md_X7_readGoods 154 7 0 := ⟨(wa_4 (List.mem_of_getElem? (i := 202) (by decide +kernel)) (by decide +kernel)), im_X7_readGoods, se_X7_readGoods, (wa_1 (List.mem_of_getElem? (i := 8) (by decide +kernel)) (by decide +kernel)), co_X7_readGoods, yy_X7_readGoods, ⟨by decide, by decide⟩, _, rfl, rfl⟩
theorem im_X7_readAll : Cond.instanceMethod yX7_readAll ∈ wsA := (wa_4 (List.mem_of_getElem? (i := 233) (by decide +kernel)) (by decide +kernel))
theorem se_X7_readAll : Cond.selects RX7 yX7_readAll yX7_readAll ∈ wsA := (wa_p (List.mem_of_getElem? (i := 36) (by decide +kernel)) (by decide +kernel))
theorem co_X7_readAll : Cond.code yX7_readAll cX7_readAll 2 (some .boolean) ∈ wsA := (wa_4 (List.mem_of_getElem? (i := 234) rfl) (by decide +kernel))
theorem yy_X7_readAll : yX7_readAll.cls = RX7 ∧ yX7_readAll.cls ≠ "java/lang/invoke/MethodHandle" ∧ yX7_readAll.cls ≠ "java/lang/invoke/VarHandle" ∧ (parseMethodDescriptor yX7_readAll.desc).map (fun d => d.parameters.length) = some 1 := by decide +kernel
theorem e_X7_readWhole_157 : EV md_X7_readWhole md_X7_readAll 157 7 1 := ⟨(wa_4 (List.mem_of_getElem? (i := 231) (by decide +kernel)) (by decide +kernel)), im_X7_readAll, se_X7_readAll, (wa_1 (List.mem_of_getElem? (i := 8) (by decide +kernel)) (by decide +kernel)), co_X7_readAll, yy_X7_readAll, ⟨by decide, by decide⟩, _, rfl, rfl⟩
theorem e_X7_readWhole_98 : EV md_X7_readWhole md_X7_bad 98 7 1 := ⟨(wa_4 (List.mem_of_getElem? (i := 216) (by decide +kernel)) (by decide +kernel)), im_X7_bad, se_X7_bad, (wa_1 (List.mem_of_getElem? (i := 8) (by decide +kernel)) (by decide +kernel)), co_X7_bad, yy_X7_bad, ⟨by decide, by decide⟩, _, rfl, rfl⟩
theorem e_X7_text_105 : EV md_X7_text md_X7_go 105 7 0 := ⟨(wa_4 (List.mem_of_getElem? (i := 182) (by decide +kernel)) (by decide +kernel)), im_X7_go, se_X7_go, (wa_1 (List.mem_of_getElem? (i := 8) (by decide +kernel)) (by decide +kernel)), co_X7_go, yy_X7_go, ⟨by decide, by decide⟩, _, rfl, rfl⟩
theorem im_X7_readWhole : Cond.instanceMethod yX7_readWhole ∈ wsA := (wa_4 (List.mem_of_getElem? (i := 200) (by decide +kernel)) (by decide +kernel))
theorem se_X7_readWhole : Cond.selects RX7 yX7_readWhole yX7_readWhole ∈ wsA := (wa_p (List.mem_of_getElem? (i := 30) (by decide +kernel)) (by decide +kernel))
theorem co_X7_readWhole : Cond.code yX7_readWhole cX7_readWhole 1 (some .boolean) ∈ wsA := (wa_4 (List.mem_of_getElem? (i := 201) rfl) (by decide +kernel))
theorem yy_X7_readWhole : yX7_readWhole.cls = RX7 ∧ yX7_readWhole.cls ≠ "java/lang/invoke/MethodHandle" ∧ yX7_readWhole.cls ≠ "java/lang/invoke/VarHandle" ∧ (parseMethodDescriptor yX7_readWhole.desc).map (fun d => d.parameters.length) = some 0 := by decide +kernel
theorem e_X7_text_160 : EV md_X7_text md_X7_readWhole 160 7 0 := ⟨(wa_4 (List.mem_of_getElem? (i := 198) (by decide +kernel)) (by decide +kernel)), im_X7_readWhole, se_X7_readWhole, (wa_1 (List.mem_of_getElem? (i := 8) (by decide +kernel)) (by decide +kernel)), co_X7_readWhole, yy_X7_readWhole, ⟨by decide, by decide⟩, _, rfl, rfl⟩
theorem e_X7_isGood_101 : ES md_X7_isGood md_X7_isIn 101 3 := ⟨(wa_4 (List.mem_of_getElem? (i := 224) (by decide +kernel)) (by decide +kernel)), st_X7_isIn, (wa_1 (List.mem_of_getElem? (i := 8) (by decide +kernel)) (by decide +kernel)), co_X7_isIn, yy_X7_isIn, ⟨by decide, by decide⟩⟩
theorem e_X7_isLot_101 : ES md_X7_isLot md_X7_isIn 101 3 := ⟨(wa_4 (List.mem_of_getElem? (i := 224) (by decide +kernel)) (by decide +kernel)), st_X7_isIn, (wa_1 (List.mem_of_getElem? (i := 8) (by decide +kernel)) (by decide +kernel)), co_X7_isIn, yy_X7_isIn, ⟨by decide, by decide⟩⟩
theorem e_X7_isOrder_101 : ES md_X7_isOrder md_X7_isIn 101 3 := ⟨(wa_4 (List.mem_of_getElem? (i := 224) (by decide +kernel)) (by decide +kernel)), st_X7_isIn, (wa_1 (List.mem_of_getElem? (i := 8) (by decide +kernel)) (by decide +kernel)), co_X7_isIn, yy_X7_isIn, ⟨by decide, by decide⟩⟩
theorem im_X7_isOrder : Cond.instanceMethod yX7_isOrder ∈ wsA := (wa_5 (List.mem_of_getElem? (i := 40) (by decide +kernel)) (by decide +kernel))
theorem se_X7_isOrder : Cond.selects RX7 yX7_isOrder yX7_isOrder ∈ wsA := (wa_p (List.mem_of_getElem? (i := 45) (by decide +kernel)) (by decide +kernel))
theorem co_X7_isOrder : Cond.code yX7_isOrder cX7_isOrder 2 (some .boolean) ∈ wsA := (wa_5 (List.mem_of_getElem? (i := 41) rfl) (by decide +kernel))
theorem yy_X7_isOrder : yX7_isOrder.cls = RX7 ∧ yX7_isOrder.cls ≠ "java/lang/invoke/MethodHandle" ∧ yX7_isOrder.cls ≠ "java/lang/invoke/VarHandle" ∧ (parseMethodDescriptor yX7_isOrder.desc).map (fun d => d.parameters.length) = some 1 := by decide +kernel
theorem e_X7_isOpen_166 : EV md_X7_isOpen md_X7_isOrder 166 7 1 := ⟨(wa_5 (List.mem_of_getElem? (i := 38) (by decide +kernel)) (by decide +kernel)), im_X7_isOrder, se_X7_isOrder, (wa_1 (List.mem_of_getElem? (i := 8) (by decide +kernel)) (by decide +kernel)), co_X7_isOrder, yy_X7_isOrder, ⟨by decide, by decide⟩, _, rfl, rfl⟩
theorem im_X7_ordered : Cond.instanceMethod yX7_ordered ∈ wsA := (wa_5 (List.mem_of_getElem? (i := 44) (by decide +kernel)) (by decide +kernel))
theorem se_X7_ordered : Cond.selects RX7 yX7_ordered yX7_ordered ∈ wsA := (wa_p (List.mem_of_getElem? (i := 46) (by decide +kernel)) (by decide +kernel))
theorem co_X7_ordered : Cond.code yX7_ordered cX7_ordered 3 (some .int) ∈ wsA := (wa_5 (List.mem_of_getElem? (i := 45) rfl) (by decide +kernel))
theorem yy_X7_ordered : yX7_ordered.cls = RX7 ∧ yX7_ordered.cls ≠ "java/lang/invoke/MethodHandle" ∧ yX7_ordered.cls ≠ "java/lang/invoke/VarHandle" ∧ (parseMethodDescriptor yX7_ordered.desc).map (fun d => d.parameters.length) = some 2 := by decide +kernel
theorem e_X7_isOpen_169 : EV md_X7_isOpen md_X7_ordered 169 7 2 := ⟨(wa_5 (List.mem_of_getElem? (i := 42) (by decide +kernel)) (by decide +kernel)), im_X7_ordered, se_X7_ordered, (wa_1 (List.mem_of_getElem? (i := 8) (by decide +kernel)) (by decide +kernel)), co_X7_ordered, yy_X7_ordered, ⟨by decide, by decide⟩, _, rfl, rfl⟩
theorem e_X7_isCustomerThere_101 : ES md_X7_isCustomerThere md_X7_isIn 101 3 := ⟨(wa_4 (List.mem_of_getElem? (i := 224) (by decide +kernel)) (by decide +kernel)), st_X7_isIn, (wa_1 (List.mem_of_getElem? (i := 8) (by decide +kernel)) (by decide +kernel)), co_X7_isIn, yy_X7_isIn, ⟨by decide, by decide⟩⟩
theorem im_X7_cell : Cond.instanceMethod yX7_cell ∈ wsA := (wa_5 (List.mem_of_getElem? (i := 60) (by decide +kernel)) (by decide +kernel))
theorem se_X7_cell : Cond.selects RX7 yX7_cell yX7_cell ∈ wsA := (wa_p (List.mem_of_getElem? (i := 50) (by decide +kernel)) (by decide +kernel))
theorem co_X7_cell : Cond.code yX7_cell cX7_cell 3 (some .int) ∈ wsA := (wa_5 (List.mem_of_getElem? (i := 61) rfl) (by decide +kernel))
theorem yy_X7_cell : yX7_cell.cls = RX7 ∧ yX7_cell.cls ≠ "java/lang/invoke/MethodHandle" ∧ yX7_cell.cls ≠ "java/lang/invoke/VarHandle" ∧ (parseMethodDescriptor yX7_cell.desc).map (fun d => d.parameters.length) = some 2 := by decide +kernel
theorem e_X7_ofLot_173 : EV md_X7_ofLot md_X7_cell 173 7 2 := ⟨(wa_5 (List.mem_of_getElem? (i := 58) (by decide +kernel)) (by decide +kernel)), im_X7_cell, se_X7_cell, (wa_1 (List.mem_of_getElem? (i := 8) (by decide +kernel)) (by decide +kernel)), co_X7_cell, yy_X7_cell, ⟨by decide, by decide⟩, _, rfl, rfl⟩
theorem e_X7_forOrder_173 : EV md_X7_forOrder md_X7_cell 173 7 2 := ⟨(wa_5 (List.mem_of_getElem? (i := 58) (by decide +kernel)) (by decide +kernel)), im_X7_cell, se_X7_cell, (wa_1 (List.mem_of_getElem? (i := 8) (by decide +kernel)) (by decide +kernel)), co_X7_cell, yy_X7_cell, ⟨by decide, by decide⟩, _, rfl, rfl⟩
theorem im_X7_lies : Cond.instanceMethod yX7_lies ∈ wsA := (wa_5 (List.mem_of_getElem? (i := 52) (by decide +kernel)) (by decide +kernel))
theorem se_X7_lies : Cond.selects RX7 yX7_lies yX7_lies ∈ wsA := (wa_p (List.mem_of_getElem? (i := 48) (by decide +kernel)) (by decide +kernel))
theorem co_X7_lies : Cond.code yX7_lies cX7_lies 3 (some .int) ∈ wsA := (wa_5 (List.mem_of_getElem? (i := 53) rfl) (by decide +kernel))
theorem yy_X7_lies : yX7_lies.cls = RX7 ∧ yX7_lies.cls ≠ "java/lang/invoke/MethodHandle" ∧ yX7_lies.cls ≠ "java/lang/invoke/VarHandle" ∧ (parseMethodDescriptor yX7_lies.desc).map (fun d => d.parameters.length) = some 2 := by decide +kernel
theorem e_X7_isFor_176 : EV md_X7_isFor md_X7_lies 176 7 2 := ⟨(wa_5 (List.mem_of_getElem? (i := 50) (by decide +kernel)) (by decide +kernel)), im_X7_lies, se_X7_lies, (wa_1 (List.mem_of_getElem? (i := 8) (by decide +kernel)) (by decide +kernel)), co_X7_lies, yy_X7_lies, ⟨by decide, by decide⟩, _, rfl, rfl⟩
theorem e_X7_isFit_169 : EV md_X7_isFit md_X7_ordered 169 7 2 := ⟨(wa_5 (List.mem_of_getElem? (i := 42) (by decide +kernel)) (by decide +kernel)), im_X7_ordered, se_X7_ordered, (wa_1 (List.mem_of_getElem? (i := 8) (by decide +kernel)) (by decide +kernel)), co_X7_ordered, yy_X7_ordered, ⟨by decide, by decide⟩, _, rfl, rfl⟩
theorem im_X7_lifeOf : Cond.instanceMethod yX7_lifeOf ∈ wsA := (wa_5 (List.mem_of_getElem? (i := 96) (by decide +kernel)) (by decide +kernel))
theorem se_X7_lifeOf : Cond.selects RX7 yX7_lifeOf yX7_lifeOf ∈ wsA := (wa_p (List.mem_of_getElem? (i := 55) (by decide +kernel)) (by decide +kernel))
theorem co_X7_lifeOf : Cond.code yX7_lifeOf cX7_lifeOf 2 (some .int) ∈ wsA := (wa_5 (List.mem_of_getElem? (i := 97) rfl) (by decide +kernel))
theorem yy_X7_lifeOf : yX7_lifeOf.cls = RX7 ∧ yX7_lifeOf.cls ≠ "java/lang/invoke/MethodHandle" ∧ yX7_lifeOf.cls ≠ "java/lang/invoke/VarHandle" ∧ (parseMethodDescriptor yX7_lifeOf.desc).map (fun d => d.parameters.length) = some 1 := by decide +kernel
theorem e_X7_isFit_179 : EV md_X7_isFit md_X7_lifeOf 179 7 1 := ⟨(wa_5 (List.mem_of_getElem? (i := 94) (by decide +kernel)) (by decide +kernel)), im_X7_lifeOf, se_X7_lifeOf, (wa_1 (List.mem_of_getElem? (i := 8) (by decide +kernel)) (by decide +kernel)), co_X7_lifeOf, yy_X7_lifeOf, ⟨by decide, by decide⟩, _, rfl, rfl⟩
theorem im_X7_isFor : Cond.instanceMethod yX7_isFor ∈ wsA := (wa_5 (List.mem_of_getElem? (i := 112) (by decide +kernel)) (by decide +kernel))
theorem se_X7_isFor : Cond.selects RX7 yX7_isFor yX7_isFor ∈ wsA := (wa_p (List.mem_of_getElem? (i := 58) (by decide +kernel)) (by decide +kernel))
theorem co_X7_isFor : Cond.code yX7_isFor cX7_isFor 6 (some .boolean) ∈ wsA := (wa_5 (List.mem_of_getElem? (i := 113) rfl) (by decide +kernel))
theorem yy_X7_isFor : yX7_isFor.cls = RX7 ∧ yX7_isFor.cls ≠ "java/lang/invoke/MethodHandle" ∧ yX7_isFor.cls ≠ "java/lang/invoke/VarHandle" ∧ (parseMethodDescriptor yX7_isFor.desc).map (fun d => d.parameters.length) = some 5 := by decide +kernel
theorem e_X7_isFit_182 : EV md_X7_isFit md_X7_isFor 182 7 5 := ⟨(wa_5 (List.mem_of_getElem? (i := 110) (by decide +kernel)) (by decide +kernel)), im_X7_isFor, se_X7_isFor, (wa_1 (List.mem_of_getElem? (i := 8) (by decide +kernel)) (by decide +kernel)), co_X7_isFor, yy_X7_isFor, ⟨by decide, by decide⟩, _, rfl, rfl⟩
theorem e_X7_sumOf_176 : EV md_X7_sumOf md_X7_lies 176 7 2 := ⟨(wa_5 (List.mem_of_getElem? (i := 50) (by decide +kernel)) (by decide +kernel)), im_X7_lies, se_X7_lies, (wa_1 (List.mem_of_getElem? (i := 8) (by decide +kernel)) (by decide +kernel)), co_X7_lies, yy_X7_lies, ⟨by decide, by decide⟩, _, rfl, rfl⟩
theorem im_X7_ofLot : Cond.instanceMethod yX7_ofLot ∈ wsA := (wa_5 (List.mem_of_getElem? (i := 56) (by decide +kernel)) (by decide +kernel))
theorem se_X7_ofLot : Cond.selects RX7 yX7_ofLot yX7_ofLot ∈ wsA := (wa_p (List.mem_of_getElem? (i := 49) (by decide +kernel)) (by decide +kernel))
theorem co_X7_ofLot : Cond.code yX7_ofLot cX7_ofLot 4 (some .int) ∈ wsA := (wa_5 (List.mem_of_getElem? (i := 57) rfl) (by decide +kernel))
theorem yy_X7_ofLot : yX7_ofLot.cls = RX7 ∧ yX7_ofLot.cls ≠ "java/lang/invoke/MethodHandle" ∧ yX7_ofLot.cls ≠ "java/lang/invoke/VarHandle" ∧ (parseMethodDescriptor yX7_ofLot.desc).map (fun d => d.parameters.length) = some 1 := by decide +kernel
theorem e_X7_sumOf_186 : EV md_X7_sumOf md_X7_ofLot 186 7 1 := ⟨(wa_5 (List.mem_of_getElem? (i := 54) (by decide +kernel)) (by decide +kernel)), im_X7_ofLot, se_X7_ofLot, (wa_1 (List.mem_of_getElem? (i := 8) (by decide +kernel)) (by decide +kernel)), co_X7_ofLot, yy_X7_ofLot, ⟨by decide, by decide⟩, _, rfl, rfl⟩
theorem im_X7_isOpen : Cond.instanceMethod yX7_isOpen ∈ wsA := (wa_5 (List.mem_of_getElem? (i := 36) (by decide +kernel)) (by decide +kernel))
theorem se_X7_isOpen : Cond.selects RX7 yX7_isOpen yX7_isOpen ∈ wsA := (wa_p (List.mem_of_getElem? (i := 44) (by decide +kernel)) (by decide +kernel))
theorem co_X7_isOpen : Cond.code yX7_isOpen cX7_isOpen 2 (some .boolean) ∈ wsA := (wa_5 (List.mem_of_getElem? (i := 37) rfl) (by decide +kernel))
theorem yy_X7_isOpen : yX7_isOpen.cls = RX7 ∧ yX7_isOpen.cls ≠ "java/lang/invoke/MethodHandle" ∧ yX7_isOpen.cls ≠ "java/lang/invoke/VarHandle" ∧ (parseMethodDescriptor yX7_isOpen.desc).map (fun d => d.parameters.length) = some 1 := by decide +kernel
theorem e_X7_openMany_189 : EV md_X7_openMany md_X7_isOpen 189 7 1 := ⟨(wa_5 (List.mem_of_getElem? (i := 34) (by decide +kernel)) (by decide +kernel)), im_X7_isOpen, se_X7_isOpen, (wa_1 (List.mem_of_getElem? (i := 8) (by decide +kernel)) (by decide +kernel)), co_X7_isOpen, yy_X7_isOpen, ⟨by decide, by decide⟩, _, rfl, rfl⟩
theorem im_X7_today : Cond.instanceMethod yX7_today ∈ wsA := (wa_5 (List.mem_of_getElem? (i := 28) (by decide +kernel)) (by decide +kernel))
theorem se_X7_today : Cond.selects RX7 yX7_today yX7_today ∈ wsA := (wa_p (List.mem_of_getElem? (i := 42) (by decide +kernel)) (by decide +kernel))
theorem co_X7_today : Cond.code yX7_today cX7_today 1 (some .int) ∈ wsA := (wa_5 (List.mem_of_getElem? (i := 29) rfl) (by decide +kernel))
theorem yy_X7_today : yX7_today.cls = RX7 ∧ yX7_today.cls ≠ "java/lang/invoke/MethodHandle" ∧ yX7_today.cls ≠ "java/lang/invoke/VarHandle" ∧ (parseMethodDescriptor yX7_today.desc).map (fun d => d.parameters.length) = some 0 := by decide +kernel
theorem e_X7_now_192 : EV md_X7_now md_X7_today 192 7 0 := ⟨(wa_5 (List.mem_of_getElem? (i := 26) (by decide +kernel)) (by decide +kernel)), im_X7_today, se_X7_today, (wa_1 (List.mem_of_getElem? (i := 8) (by decide +kernel)) (by decide +kernel)), co_X7_today, yy_X7_today, ⟨by decide, by decide⟩, _, rfl, rfl⟩
theorem im_X7_openMany : Cond.instanceMethod yX7_openMany ∈ wsA := (wa_5 (List.mem_of_getElem? (i := 32) (by decide +kernel)) (by decide +kernel))
theorem se_X7_openMany : Cond.selects RX7 yX7_openMany yX7_openMany ∈ wsA := (wa_p (List.mem_of_getElem? (i := 43) (by decide +kernel)) (by decide +kernel))
theorem co_X7_openMany : Cond.code yX7_openMany cX7_openMany 3 (some .int) ∈ wsA := (wa_5 (List.mem_of_getElem? (i := 33) rfl) (by decide +kernel))
theorem yy_X7_openMany : yX7_openMany.cls = RX7 ∧ yX7_openMany.cls ≠ "java/lang/invoke/MethodHandle" ∧ yX7_openMany.cls ≠ "java/lang/invoke/VarHandle" ∧ (parseMethodDescriptor yX7_openMany.desc).map (fun d => d.parameters.length) = some 0 := by decide +kernel
theorem e_X7_now_196 : EV md_X7_now md_X7_openMany 196 7 0 := ⟨(wa_5 (List.mem_of_getElem? (i := 30) (by decide +kernel)) (by decide +kernel)), im_X7_openMany, se_X7_openMany, (wa_1 (List.mem_of_getElem? (i := 8) (by decide +kernel)) (by decide +kernel)), co_X7_openMany, yy_X7_openMany, ⟨by decide, by decide⟩, _, rfl, rfl⟩
theorem im_X7_sumOf : Cond.instanceMethod yX7_sumOf ∈ wsA := (wa_5 (List.mem_of_getElem? (i := 48) (by decide +kernel)) (by decide +kernel))
theorem se_X7_sumOf : Cond.selects RX7 yX7_sumOf yX7_sumOf ∈ wsA := (wa_p (List.mem_of_getElem? (i := 47) (by decide +kernel)) (by decide +kernel))
theorem co_X7_sumOf : Cond.code yX7_sumOf cX7_sumOf 4 (some .int) ∈ wsA := (wa_5 (List.mem_of_getElem? (i := 49) rfl) (by decide +kernel))
theorem yy_X7_sumOf : yX7_sumOf.cls = RX7 ∧ yX7_sumOf.cls ≠ "java/lang/invoke/MethodHandle" ∧ yX7_sumOf.cls ≠ "java/lang/invoke/VarHandle" ∧ (parseMethodDescriptor yX7_sumOf.desc).map (fun d => d.parameters.length) = some 1 := by decide +kernel
theorem e_X7_now_199 : EV md_X7_now md_X7_sumOf 199 7 1 := ⟨(wa_5 (List.mem_of_getElem? (i := 46) (by decide +kernel)) (by decide +kernel)), im_X7_sumOf, se_X7_sumOf, (wa_1 (List.mem_of_getElem? (i := 8) (by decide +kernel)) (by decide +kernel)), co_X7_sumOf, yy_X7_sumOf, ⟨by decide, by decide⟩, _, rfl, rfl⟩
theorem im_X7_isLot : Cond.instanceMethod yX7_isLot ∈ wsA := (wa_5 (List.mem_of_getElem? (i := 68) (by decide +kernel)) (by decide +kernel))
theorem se_X7_isLot : Cond.selects RX7 yX7_isLot yX7_isLot ∈ wsA := (wa_p (List.mem_of_getElem? (i := 51) (by decide +kernel)) (by decide +kernel))
theorem co_X7_isLot : Cond.code yX7_isLot cX7_isLot 2 (some .boolean) ∈ wsA := (wa_5 (List.mem_of_getElem? (i := 69) rfl) (by decide +kernel))
theorem yy_X7_isLot : yX7_isLot.cls = RX7 ∧ yX7_isLot.cls ≠ "java/lang/invoke/MethodHandle" ∧ yX7_isLot.cls ≠ "java/lang/invoke/VarHandle" ∧ (parseMethodDescriptor yX7_isLot.desc).map (fun d => d.parameters.length) = some 1 := by decide +kernel
theorem e_X7_lot_202 : EV md_X7_lot md_X7_isLot 202 7 1 := ⟨(wa_5 (List.mem_of_getElem? (i := 66) (by decide +kernel)) (by decide +kernel)), im_X7_isLot, se_X7_isLot, (wa_1 (List.mem_of_getElem? (i := 8) (by decide +kernel)) (by decide +kernel)), co_X7_isLot, yy_X7_isLot, ⟨by decide, by decide⟩, _, rfl, rfl⟩
theorem e_X7_lot_101 : ES md_X7_lot md_X7_isIn 101 3 := ⟨(wa_4 (List.mem_of_getElem? (i := 224) (by decide +kernel)) (by decide +kernel)), st_X7_isIn, (wa_1 (List.mem_of_getElem? (i := 8) (by decide +kernel)) (by decide +kernel)), co_X7_isIn, yy_X7_isIn, ⟨by decide, by decide⟩⟩
theorem im_X7_refuse : Cond.instanceMethod yX7_refuse ∈ wsA := (wa_5 (List.mem_of_getElem? (i := 72) (by decide +kernel)) (by decide +kernel))
theorem se_X7_refuse : Cond.selects RX7 yX7_refuse yX7_refuse ∈ wsA := (wa_p (List.mem_of_getElem? (i := 52) (by decide +kernel)) (by decide +kernel))
theorem co_X7_refuse : Cond.code yX7_refuse cX7_refuse 1 (some .int) ∈ wsA := (wa_5 (List.mem_of_getElem? (i := 73) rfl) (by decide +kernel))
theorem yy_X7_refuse : yX7_refuse.cls = RX7 ∧ yX7_refuse.cls ≠ "java/lang/invoke/MethodHandle" ∧ yX7_refuse.cls ≠ "java/lang/invoke/VarHandle" ∧ (parseMethodDescriptor yX7_refuse.desc).map (fun d => d.parameters.length) = some 0 := by decide +kernel
theorem e_X7_lot_205 : EV md_X7_lot md_X7_refuse 205 7 0 := ⟨(wa_5 (List.mem_of_getElem? (i := 70) (by decide +kernel)) (by decide +kernel)), im_X7_refuse, se_X7_refuse, (wa_1 (List.mem_of_getElem? (i := 8) (by decide +kernel)) (by decide +kernel)), co_X7_refuse, yy_X7_refuse, ⟨by decide, by decide⟩, _, rfl, rfl⟩
theorem e_X7_lot_176 : EV md_X7_lot md_X7_lies 176 7 2 := ⟨(wa_5 (List.mem_of_getElem? (i := 50) (by decide +kernel)) (by decide +kernel)), im_X7_lies, se_X7_lies, (wa_1 (List.mem_of_getElem? (i := 8) (by decide +kernel)) (by decide +kernel)), co_X7_lies, yy_X7_lies, ⟨by decide, by decide⟩, _, rfl, rfl⟩
theorem e_X7_lot_186 : EV md_X7_lot md_X7_ofLot 186 7 1 := ⟨(wa_5 (List.mem_of_getElem? (i := 54) (by decide +kernel)) (by decide +kernel)), im_X7_ofLot, se_X7_ofLot, (wa_1 (List.mem_of_getElem? (i := 8) (by decide +kernel)) (by decide +kernel)), co_X7_ofLot, yy_X7_ofLot, ⟨by decide, by decide⟩, _, rfl, rfl⟩
theorem e_X7_order_166 : EV md_X7_order md_X7_isOrder 166 7 1 := ⟨(wa_5 (List.mem_of_getElem? (i := 38) (by decide +kernel)) (by decide +kernel)), im_X7_isOrder, se_X7_isOrder, (wa_1 (List.mem_of_getElem? (i := 8) (by decide +kernel)) (by decide +kernel)), co_X7_isOrder, yy_X7_isOrder, ⟨by decide, by decide⟩, _, rfl, rfl⟩
theorem e_X7_order_101 : ES md_X7_order md_X7_isIn 101 3 := ⟨(wa_4 (List.mem_of_getElem? (i := 224) (by decide +kernel)) (by decide +kernel)), st_X7_isIn, (wa_1 (List.mem_of_getElem? (i := 8) (by decide +kernel)) (by decide +kernel)), co_X7_isIn, yy_X7_isIn, ⟨by decide, by decide⟩⟩
theorem e_X7_order_205 : EV md_X7_order md_X7_refuse 205 7 0 := ⟨(wa_5 (List.mem_of_getElem? (i := 70) (by decide +kernel)) (by decide +kernel)), im_X7_refuse, se_X7_refuse, (wa_1 (List.mem_of_getElem? (i := 8) (by decide +kernel)) (by decide +kernel)), co_X7_refuse, yy_X7_refuse, ⟨by decide, by decide⟩, _, rfl, rfl⟩
theorem e_X7_order_169 : EV md_X7_order md_X7_ordered 169 7 2 := ⟨(wa_5 (List.mem_of_getElem? (i := 42) (by decide +kernel)) (by decide +kernel)), im_X7_ordered, se_X7_ordered, (wa_1 (List.mem_of_getElem? (i := 8) (by decide +kernel)) (by decide +kernel)), co_X7_ordered, yy_X7_ordered, ⟨by decide, by decide⟩, _, rfl, rfl⟩
theorem im_X7_forOrder : Cond.instanceMethod yX7_forOrder ∈ wsA := (wa_5 (List.mem_of_getElem? (i := 80) (by decide +kernel)) (by decide +kernel))
theorem se_X7_forOrder : Cond.selects RX7 yX7_forOrder yX7_forOrder ∈ wsA := (wa_p (List.mem_of_getElem? (i := 53) (by decide +kernel)) (by decide +kernel))
theorem co_X7_forOrder : Cond.code yX7_forOrder cX7_forOrder 4 (some .int) ∈ wsA := (wa_5 (List.mem_of_getElem? (i := 81) rfl) (by decide +kernel))
theorem yy_X7_forOrder : yX7_forOrder.cls = RX7 ∧ yX7_forOrder.cls ≠ "java/lang/invoke/MethodHandle" ∧ yX7_forOrder.cls ≠ "java/lang/invoke/VarHandle" ∧ (parseMethodDescriptor yX7_forOrder.desc).map (fun d => d.parameters.length) = some 1 := by decide +kernel
theorem e_X7_order_208 : EV md_X7_order md_X7_forOrder 208 7 1 := ⟨(wa_5 (List.mem_of_getElem? (i := 78) (by decide +kernel)) (by decide +kernel)), im_X7_forOrder, se_X7_forOrder, (wa_1 (List.mem_of_getElem? (i := 8) (by decide +kernel)) (by decide +kernel)), co_X7_forOrder, yy_X7_forOrder, ⟨by decide, by decide⟩, _, rfl, rfl⟩
theorem e_X7_reserved_202 : EV md_X7_reserved md_X7_isLot 202 7 1 := ⟨(wa_5 (List.mem_of_getElem? (i := 66) (by decide +kernel)) (by decide +kernel)), im_X7_isLot, se_X7_isLot, (wa_1 (List.mem_of_getElem? (i := 8) (by decide +kernel)) (by decide +kernel)), co_X7_isLot, yy_X7_isLot, ⟨by decide, by decide⟩, _, rfl, rfl⟩
theorem e_X7_reserved_166 : EV md_X7_reserved md_X7_isOrder 166 7 1 := ⟨(wa_5 (List.mem_of_getElem? (i := 38) (by decide +kernel)) (by decide +kernel)), im_X7_isOrder, se_X7_isOrder, (wa_1 (List.mem_of_getElem? (i := 8) (by decide +kernel)) (by decide +kernel)), co_X7_isOrder, yy_X7_isOrder, ⟨by decide, by decide⟩, _, rfl, rfl⟩
theorem e_X7_reserved_173 : EV md_X7_reserved md_X7_cell 173 7 2 := ⟨(wa_5 (List.mem_of_getElem? (i := 58) (by decide +kernel)) (by decide +kernel)), im_X7_cell, se_X7_cell, (wa_1 (List.mem_of_getElem? (i := 8) (by decide +kernel)) (by decide +kernel)), co_X7_cell, yy_X7_cell, ⟨by decide, by decide⟩, _, rfl, rfl⟩
theorem im_X7_isCustomerThere : Cond.instanceMethod yX7_isCustomerThere ∈ wsA := (wa_5 (List.mem_of_getElem? (i := 92) (by decide +kernel)) (by decide +kernel))
theorem se_X7_isCustomerThere : Cond.selects RX7 yX7_isCustomerThere yX7_isCustomerThere ∈ wsA := (wa_p (List.mem_of_getElem? (i := 54) (by decide +kernel)) (by decide +kernel))
theorem co_X7_isCustomerThere : Cond.code yX7_isCustomerThere cX7_isCustomerThere 2 (some .boolean) ∈ wsA := (wa_5 (List.mem_of_getElem? (i := 93) rfl) (by decide +kernel))
theorem yy_X7_isCustomerThere : yX7_isCustomerThere.cls = RX7 ∧ yX7_isCustomerThere.cls ≠ "java/lang/invoke/MethodHandle" ∧ yX7_isCustomerThere.cls ≠ "java/lang/invoke/VarHandle" ∧ (parseMethodDescriptor yX7_isCustomerThere.desc).map (fun d => d.parameters.length) = some 1 := by decide +kernel
theorem e_X7_customer_211 : EV md_X7_customer md_X7_isCustomerThere 211 7 1 := ⟨(wa_5 (List.mem_of_getElem? (i := 90) (by decide +kernel)) (by decide +kernel)), im_X7_isCustomerThere, se_X7_isCustomerThere, (wa_1 (List.mem_of_getElem? (i := 8) (by decide +kernel)) (by decide +kernel)), co_X7_isCustomerThere, yy_X7_isCustomerThere, ⟨by decide, by decide⟩, _, rfl, rfl⟩
theorem e_X7_customer_179 : EV md_X7_customer md_X7_lifeOf 179 7 1 := ⟨(wa_5 (List.mem_of_getElem? (i := 94) (by decide +kernel)) (by decide +kernel)), im_X7_lifeOf, se_X7_lifeOf, (wa_1 (List.mem_of_getElem? (i := 8) (by decide +kernel)) (by decide +kernel)), co_X7_lifeOf, yy_X7_lifeOf, ⟨by decide, by decide⟩, _, rfl, rfl⟩
theorem im_X7_isGood : Cond.instanceMethod yX7_isGood ∈ wsA := (wa_5 (List.mem_of_getElem? (i := 100) (by decide +kernel)) (by decide +kernel))
theorem se_X7_isGood : Cond.selects RX7 yX7_isGood yX7_isGood ∈ wsA := (wa_p (List.mem_of_getElem? (i := 56) (by decide +kernel)) (by decide +kernel))
theorem co_X7_isGood : Cond.code yX7_isGood cX7_isGood 2 (some .boolean) ∈ wsA := (wa_5 (List.mem_of_getElem? (i := 101) rfl) (by decide +kernel))
theorem yy_X7_isGood : yX7_isGood.cls = RX7 ∧ yX7_isGood.cls ≠ "java/lang/invoke/MethodHandle" ∧ yX7_isGood.cls ≠ "java/lang/invoke/VarHandle" ∧ (parseMethodDescriptor yX7_isGood.desc).map (fun d => d.parameters.length) = some 1 := by decide +kernel
theorem e_X7_customer_214 : EV md_X7_customer md_X7_isGood 214 7 1 := ⟨(wa_5 (List.mem_of_getElem? (i := 98) (by decide +kernel)) (by decide +kernel)), im_X7_isGood, se_X7_isGood, (wa_1 (List.mem_of_getElem? (i := 8) (by decide +kernel)) (by decide +kernel)), co_X7_isGood, yy_X7_isGood, ⟨by decide, by decide⟩, _, rfl, rfl⟩
theorem e_X7_suits_202 : EV md_X7_suits md_X7_isLot 202 7 1 := ⟨(wa_5 (List.mem_of_getElem? (i := 66) (by decide +kernel)) (by decide +kernel)), im_X7_isLot, se_X7_isLot, (wa_1 (List.mem_of_getElem? (i := 8) (by decide +kernel)) (by decide +kernel)), co_X7_isLot, yy_X7_isLot, ⟨by decide, by decide⟩, _, rfl, rfl⟩
theorem e_X7_suits_189 : EV md_X7_suits md_X7_isOpen 189 7 1 := ⟨(wa_5 (List.mem_of_getElem? (i := 34) (by decide +kernel)) (by decide +kernel)), im_X7_isOpen, se_X7_isOpen, (wa_1 (List.mem_of_getElem? (i := 8) (by decide +kernel)) (by decide +kernel)), co_X7_isOpen, yy_X7_isOpen, ⟨by decide, by decide⟩, _, rfl, rfl⟩
theorem im_X7_isFit : Cond.instanceMethod yX7_isFit ∈ wsA := (wa_5 (List.mem_of_getElem? (i := 108) (by decide +kernel)) (by decide +kernel))
theorem se_X7_isFit : Cond.selects RX7 yX7_isFit yX7_isFit ∈ wsA := (wa_p (List.mem_of_getElem? (i := 57) (by decide +kernel)) (by decide +kernel))
theorem co_X7_isFit : Cond.code yX7_isFit cX7_isFit 3 (some .boolean) ∈ wsA := (wa_5 (List.mem_of_getElem? (i := 109) rfl) (by decide +kernel))
theorem yy_X7_isFit : yX7_isFit.cls = RX7 ∧ yX7_isFit.cls ≠ "java/lang/invoke/MethodHandle" ∧ yX7_isFit.cls ≠ "java/lang/invoke/VarHandle" ∧ (parseMethodDescriptor yX7_isFit.desc).map (fun d => d.parameters.length) = some 2 := by decide +kernel
theorem e_X7_suits_217 : EV md_X7_suits md_X7_isFit 217 7 2 := ⟨(wa_5 (List.mem_of_getElem? (i := 106) (by decide +kernel)) (by decide +kernel)), im_X7_isFit, se_X7_isFit, (wa_1 (List.mem_of_getElem? (i := 8) (by decide +kernel)) (by decide +kernel)), co_X7_isFit, yy_X7_isFit, ⟨by decide, by decide⟩, _, rfl, rfl⟩
theorem e_X7_laysRows_189 : EV md_X7_laysRows md_X7_isOpen 189 7 1 := ⟨(wa_5 (List.mem_of_getElem? (i := 34) (by decide +kernel)) (by decide +kernel)), im_X7_isOpen, se_X7_isOpen, (wa_1 (List.mem_of_getElem? (i := 8) (by decide +kernel)) (by decide +kernel)), co_X7_isOpen, yy_X7_isOpen, ⟨by decide, by decide⟩, _, rfl, rfl⟩
theorem e_X7_laysRows_169 : EV md_X7_laysRows md_X7_ordered 169 7 2 := ⟨(wa_5 (List.mem_of_getElem? (i := 42) (by decide +kernel)) (by decide +kernel)), im_X7_ordered, se_X7_ordered, (wa_1 (List.mem_of_getElem? (i := 8) (by decide +kernel)) (by decide +kernel)), co_X7_ordered, yy_X7_ordered, ⟨by decide, by decide⟩, _, rfl, rfl⟩
theorem im_X7_puts : Cond.instanceMethod yX7_puts ∈ wsA := (wa_5 (List.mem_of_getElem? (i := 132) (by decide +kernel)) (by decide +kernel))
theorem se_X7_puts : Cond.selects RX7 yX7_puts yX7_puts ∈ wsA := (wa_p (List.mem_of_getElem? (i := 62) (by decide +kernel)) (by decide +kernel))
theorem co_X7_puts : Cond.code yX7_puts cX7_puts 4 (none) ∈ wsA := (wa_5 (List.mem_of_getElem? (i := 133) rfl) (by decide +kernel))
theorem yy_X7_puts : yX7_puts.cls = RX7 ∧ yX7_puts.cls ≠ "java/lang/invoke/MethodHandle" ∧ yX7_puts.cls ≠ "java/lang/invoke/VarHandle" ∧ (parseMethodDescriptor yX7_puts.desc).map (fun d => d.parameters.length) = some 2 := by decide +kernel
theorem e_X7_laysRows_227 : EV md_X7_laysRows md_X7_puts 227 7 2 := ⟨(wa_5 (List.mem_of_getElem? (i := 130) (by decide +kernel)) (by decide +kernel)), im_X7_puts, se_X7_puts, (wa_1 (List.mem_of_getElem? (i := 8) (by decide +kernel)) (by decide +kernel)), co_X7_puts, yy_X7_puts, ⟨by decide, by decide⟩, _, rfl, rfl⟩
theorem e_X7_laysRows_176 : EV md_X7_laysRows md_X7_lies 176 7 2 := ⟨(wa_5 (List.mem_of_getElem? (i := 50) (by decide +kernel)) (by decide +kernel)), im_X7_lies, se_X7_lies, (wa_1 (List.mem_of_getElem? (i := 8) (by decide +kernel)) (by decide +kernel)), co_X7_lies, yy_X7_lies, ⟨by decide, by decide⟩, _, rfl, rfl⟩
theorem im_X7_putsLot : Cond.instanceMethod yX7_putsLot ∈ wsA := (wa_5 (List.mem_of_getElem? (i := 140) (by decide +kernel)) (by decide +kernel))
theorem se_X7_putsLot : Cond.selects RX7 yX7_putsLot yX7_putsLot ∈ wsA := (wa_p (List.mem_of_getElem? (i := 64) (by decide +kernel)) (by decide +kernel))
theorem co_X7_putsLot : Cond.code yX7_putsLot cX7_putsLot 3 (none) ∈ wsA := (wa_5 (List.mem_of_getElem? (i := 141) rfl) (by decide +kernel))
theorem yy_X7_putsLot : yX7_putsLot.cls = RX7 ∧ yX7_putsLot.cls ≠ "java/lang/invoke/MethodHandle" ∧ yX7_putsLot.cls ≠ "java/lang/invoke/VarHandle" ∧ (parseMethodDescriptor yX7_putsLot.desc).map (fun d => d.parameters.length) = some 1 := by decide +kernel
theorem e_X7_laysRows_231 : EV md_X7_laysRows md_X7_putsLot 231 7 1 := ⟨(wa_5 (List.mem_of_getElem? (i := 138) (by decide +kernel)) (by decide +kernel)), im_X7_putsLot, se_X7_putsLot, (wa_1 (List.mem_of_getElem? (i := 8) (by decide +kernel)) (by decide +kernel)), co_X7_putsLot, yy_X7_putsLot, ⟨by decide, by decide⟩, _, rfl, rfl⟩
theorem e_X7_laysRows_179 : EV md_X7_laysRows md_X7_lifeOf 179 7 1 := ⟨(wa_5 (List.mem_of_getElem? (i := 94) (by decide +kernel)) (by decide +kernel)), im_X7_lifeOf, se_X7_lifeOf, (wa_1 (List.mem_of_getElem? (i := 8) (by decide +kernel)) (by decide +kernel)), co_X7_lifeOf, yy_X7_lifeOf, ⟨by decide, by decide⟩, _, rfl, rfl⟩
theorem e_X7_laysRows_182 : EV md_X7_laysRows md_X7_isFor 182 7 5 := ⟨(wa_5 (List.mem_of_getElem? (i := 110) (by decide +kernel)) (by decide +kernel)), im_X7_isFor, se_X7_isFor, (wa_1 (List.mem_of_getElem? (i := 8) (by decide +kernel)) (by decide +kernel)), co_X7_isFor, yy_X7_isFor, ⟨by decide, by decide⟩, _, rfl, rfl⟩
theorem e_X7_laysRows_217 : EV md_X7_laysRows md_X7_isFit 217 7 2 := ⟨(wa_5 (List.mem_of_getElem? (i := 106) (by decide +kernel)) (by decide +kernel)), im_X7_isFit, se_X7_isFit, (wa_1 (List.mem_of_getElem? (i := 8) (by decide +kernel)) (by decide +kernel)), co_X7_isFit, yy_X7_isFit, ⟨by decide, by decide⟩, _, rfl, rfl⟩
theorem e_X7_dayOf_169 : EV md_X7_dayOf md_X7_ordered 169 7 2 := ⟨(wa_5 (List.mem_of_getElem? (i := 42) (by decide +kernel)) (by decide +kernel)), im_X7_ordered, se_X7_ordered, (wa_1 (List.mem_of_getElem? (i := 8) (by decide +kernel)) (by decide +kernel)), co_X7_ordered, yy_X7_ordered, ⟨by decide, by decide⟩, _, rfl, rfl⟩
theorem im_X7_dayOf : Cond.instanceMethod yX7_dayOf ∈ wsA := (wa_5 (List.mem_of_getElem? (i := 136) (by decide +kernel)) (by decide +kernel))
theorem se_X7_dayOf : Cond.selects RX7 yX7_dayOf yX7_dayOf ∈ wsA := (wa_p (List.mem_of_getElem? (i := 63) (by decide +kernel)) (by decide +kernel))
theorem co_X7_dayOf : Cond.code yX7_dayOf cX7_dayOf 2 (some .int) ∈ wsA := (wa_5 (List.mem_of_getElem? (i := 137) rfl) (by decide +kernel))
theorem yy_X7_dayOf : yX7_dayOf.cls = RX7 ∧ yX7_dayOf.cls ≠ "java/lang/invoke/MethodHandle" ∧ yX7_dayOf.cls ≠ "java/lang/invoke/VarHandle" ∧ (parseMethodDescriptor yX7_dayOf.desc).map (fun d => d.parameters.length) = some 1 := by decide +kernel
theorem e_X7_puts_237 : EV md_X7_puts md_X7_dayOf 237 7 1 := ⟨(wa_5 (List.mem_of_getElem? (i := 134) (by decide +kernel)) (by decide +kernel)), im_X7_dayOf, se_X7_dayOf, (wa_1 (List.mem_of_getElem? (i := 8) (by decide +kernel)) (by decide +kernel)), co_X7_dayOf, yy_X7_dayOf, ⟨by decide, by decide⟩, _, rfl, rfl⟩
theorem e_X7_putsLot_176 : EV md_X7_putsLot md_X7_lies 176 7 2 := ⟨(wa_5 (List.mem_of_getElem? (i := 50) (by decide +kernel)) (by decide +kernel)), im_X7_lies, se_X7_lies, (wa_1 (List.mem_of_getElem? (i := 8) (by decide +kernel)) (by decide +kernel)), co_X7_lies, yy_X7_lies, ⟨by decide, by decide⟩, _, rfl, rfl⟩
theorem e_X7_spareOf_176 : EV md_X7_spareOf md_X7_lies 176 7 2 := ⟨(wa_5 (List.mem_of_getElem? (i := 50) (by decide +kernel)) (by decide +kernel)), im_X7_lies, se_X7_lies, (wa_1 (List.mem_of_getElem? (i := 8) (by decide +kernel)) (by decide +kernel)), co_X7_lies, yy_X7_lies, ⟨by decide, by decide⟩, _, rfl, rfl⟩
theorem im_X7_usedOf : Cond.instanceMethod yX7_usedOf ∈ wsA := (wa_5 (List.mem_of_getElem? (i := 164) (by decide +kernel)) (by decide +kernel))
theorem se_X7_usedOf : Cond.selects RX7 yX7_usedOf yX7_usedOf ∈ wsA := (wa_p (List.mem_of_getElem? (i := 70) (by decide +kernel)) (by decide +kernel))
theorem co_X7_usedOf : Cond.code yX7_usedOf cX7_usedOf 4 (some .int) ∈ wsA := (wa_5 (List.mem_of_getElem? (i := 165) rfl) (by decide +kernel))
theorem yy_X7_usedOf : yX7_usedOf.cls = RX7 ∧ yX7_usedOf.cls ≠ "java/lang/invoke/MethodHandle" ∧ yX7_usedOf.cls ≠ "java/lang/invoke/VarHandle" ∧ (parseMethodDescriptor yX7_usedOf.desc).map (fun d => d.parameters.length) = some 1 := by decide +kernel
theorem e_X7_spareOf_240 : EV md_X7_spareOf md_X7_usedOf 240 7 1 := ⟨(wa_5 (List.mem_of_getElem? (i := 162) (by decide +kernel)) (by decide +kernel)), im_X7_usedOf, se_X7_usedOf, (wa_1 (List.mem_of_getElem? (i := 8) (by decide +kernel)) (by decide +kernel)), co_X7_usedOf, yy_X7_usedOf, ⟨by decide, by decide⟩, _, rfl, rfl⟩
theorem im_X7_starts : Cond.instanceMethod yX7_starts ∈ wsA := (wa_5 (List.mem_of_getElem? (i := 152) (by decide +kernel)) (by decide +kernel))
theorem se_X7_starts : Cond.selects RX7 yX7_starts yX7_starts ∈ wsA := (wa_p (List.mem_of_getElem? (i := 67) (by decide +kernel)) (by decide +kernel))
theorem co_X7_starts : Cond.code yX7_starts cX7_starts 2 (none) ∈ wsA := (wa_5 (List.mem_of_getElem? (i := 153) rfl) (by decide +kernel))
theorem yy_X7_starts : yX7_starts.cls = RX7 ∧ yX7_starts.cls ≠ "java/lang/invoke/MethodHandle" ∧ yX7_starts.cls ≠ "java/lang/invoke/VarHandle" ∧ (parseMethodDescriptor yX7_starts.desc).map (fun d => d.parameters.length) = some 0 := by decide +kernel
theorem e_X7_getsOne_246 : EV md_X7_getsOne md_X7_starts 246 7 0 := ⟨(wa_5 (List.mem_of_getElem? (i := 150) (by decide +kernel)) (by decide +kernel)), im_X7_starts, se_X7_starts, (wa_1 (List.mem_of_getElem? (i := 8) (by decide +kernel)) (by decide +kernel)), co_X7_starts, yy_X7_starts, ⟨by decide, by decide⟩, _, rfl, rfl⟩
theorem im_X7_reachesLots : Cond.instanceMethod yX7_reachesLots ∈ wsA := (wa_5 (List.mem_of_getElem? (i := 156) (by decide +kernel)) (by decide +kernel))
theorem se_X7_reachesLots : Cond.selects RX7 yX7_reachesLots yX7_reachesLots ∈ wsA := (wa_p (List.mem_of_getElem? (i := 68) (by decide +kernel)) (by decide +kernel))
theorem co_X7_reachesLots : Cond.code yX7_reachesLots cX7_reachesLots 3 (none) ∈ wsA := (wa_5 (List.mem_of_getElem? (i := 157) rfl) (by decide +kernel))
theorem yy_X7_reachesLots : yX7_reachesLots.cls = RX7 ∧ yX7_reachesLots.cls ≠ "java/lang/invoke/MethodHandle" ∧ yX7_reachesLots.cls ≠ "java/lang/invoke/VarHandle" ∧ (parseMethodDescriptor yX7_reachesLots.desc).map (fun d => d.parameters.length) = some 1 := by decide +kernel
theorem e_X7_getsOne_249 : EV md_X7_getsOne md_X7_reachesLots 249 7 1 := ⟨(wa_5 (List.mem_of_getElem? (i := 154) (by decide +kernel)) (by decide +kernel)), im_X7_reachesLots, se_X7_reachesLots, (wa_1 (List.mem_of_getElem? (i := 8) (by decide +kernel)) (by decide +kernel)), co_X7_reachesLots, yy_X7_reachesLots, ⟨by decide, by decide⟩, _, rfl, rfl⟩
theorem im_X7_spareOf : Cond.instanceMethod yX7_spareOf ∈ wsA := (wa_5 (List.mem_of_getElem? (i := 160) (by decide +kernel)) (by decide +kernel))
theorem se_X7_spareOf : Cond.selects RX7 yX7_spareOf yX7_spareOf ∈ wsA := (wa_p (List.mem_of_getElem? (i := 69) (by decide +kernel)) (by decide +kernel))
theorem co_X7_spareOf : Cond.code yX7_spareOf cX7_spareOf 2 (some .int) ∈ wsA := (wa_5 (List.mem_of_getElem? (i := 161) rfl) (by decide +kernel))
theorem yy_X7_spareOf : yX7_spareOf.cls = RX7 ∧ yX7_spareOf.cls ≠ "java/lang/invoke/MethodHandle" ∧ yX7_spareOf.cls ≠ "java/lang/invoke/VarHandle" ∧ (parseMethodDescriptor yX7_spareOf.desc).map (fun d => d.parameters.length) = some 1 := by decide +kernel
theorem e_X7_getsOne_252 : EV md_X7_getsOne md_X7_spareOf 252 7 1 := ⟨(wa_5 (List.mem_of_getElem? (i := 158) (by decide +kernel)) (by decide +kernel)), im_X7_spareOf, se_X7_spareOf, (wa_1 (List.mem_of_getElem? (i := 8) (by decide +kernel)) (by decide +kernel)), co_X7_spareOf, yy_X7_spareOf, ⟨by decide, by decide⟩, _, rfl, rfl⟩
theorem im_X7_passesOn : Cond.instanceMethod yX7_passesOn ∈ wsA := (wa_5 (List.mem_of_getElem? (i := 168) (by decide +kernel)) (by decide +kernel))
theorem se_X7_passesOn : Cond.selects RX7 yX7_passesOn yX7_passesOn ∈ wsA := (wa_p (List.mem_of_getElem? (i := 71) (by decide +kernel)) (by decide +kernel))
theorem co_X7_passesOn : Cond.code yX7_passesOn cX7_passesOn 5 (none) ∈ wsA := (wa_5 (List.mem_of_getElem? (i := 169) rfl) (by decide +kernel))
theorem yy_X7_passesOn : yX7_passesOn.cls = RX7 ∧ yX7_passesOn.cls ≠ "java/lang/invoke/MethodHandle" ∧ yX7_passesOn.cls ≠ "java/lang/invoke/VarHandle" ∧ (parseMethodDescriptor yX7_passesOn.desc).map (fun d => d.parameters.length) = some 2 := by decide +kernel
theorem e_X7_getsOne_255 : EV md_X7_getsOne md_X7_passesOn 255 7 2 := ⟨(wa_5 (List.mem_of_getElem? (i := 166) (by decide +kernel)) (by decide +kernel)), im_X7_passesOn, se_X7_passesOn, (wa_1 (List.mem_of_getElem? (i := 8) (by decide +kernel)) (by decide +kernel)), co_X7_passesOn, yy_X7_passesOn, ⟨by decide, by decide⟩, _, rfl, rfl⟩
theorem e_X7_usesOne_252 : EV md_X7_usesOne md_X7_spareOf 252 7 1 := ⟨(wa_5 (List.mem_of_getElem? (i := 158) (by decide +kernel)) (by decide +kernel)), im_X7_spareOf, se_X7_spareOf, (wa_1 (List.mem_of_getElem? (i := 8) (by decide +kernel)) (by decide +kernel)), co_X7_spareOf, yy_X7_spareOf, ⟨by decide, by decide⟩, _, rfl, rfl⟩
theorem e_X7_usesOne_246 : EV md_X7_usesOne md_X7_starts 246 7 0 := ⟨(wa_5 (List.mem_of_getElem? (i := 150) (by decide +kernel)) (by decide +kernel)), im_X7_starts, se_X7_starts, (wa_1 (List.mem_of_getElem? (i := 8) (by decide +kernel)) (by decide +kernel)), co_X7_starts, yy_X7_starts, ⟨by decide, by decide⟩, _, rfl, rfl⟩
theorem im_X7_givesUp : Cond.instanceMethod yX7_givesUp ∈ wsA := (wa_5 (List.mem_of_getElem? (i := 176) (by decide +kernel)) (by decide +kernel))
theorem se_X7_givesUp : Cond.selects RX7 yX7_givesUp yX7_givesUp ∈ wsA := (wa_p (List.mem_of_getElem? (i := 73) (by decide +kernel)) (by decide +kernel))
theorem co_X7_givesUp : Cond.code yX7_givesUp cX7_givesUp 5 (none) ∈ wsA := (wa_5 (List.mem_of_getElem? (i := 177) rfl) (by decide +kernel))
theorem yy_X7_givesUp : yX7_givesUp.cls = RX7 ∧ yX7_givesUp.cls ≠ "java/lang/invoke/MethodHandle" ∧ yX7_givesUp.cls ≠ "java/lang/invoke/VarHandle" ∧ (parseMethodDescriptor yX7_givesUp.desc).map (fun d => d.parameters.length) = some 2 := by decide +kernel
theorem e_X7_usesOne_258 : EV md_X7_usesOne md_X7_givesUp 258 7 2 := ⟨(wa_5 (List.mem_of_getElem? (i := 174) (by decide +kernel)) (by decide +kernel)), im_X7_givesUp, se_X7_givesUp, (wa_1 (List.mem_of_getElem? (i := 8) (by decide +kernel)) (by decide +kernel)), co_X7_givesUp, yy_X7_givesUp, ⟨by decide, by decide⟩, _, rfl, rfl⟩
theorem e_X7_turnsOne_246 : EV md_X7_turnsOne md_X7_starts 246 7 0 := ⟨(wa_5 (List.mem_of_getElem? (i := 150) (by decide +kernel)) (by decide +kernel)), im_X7_starts, se_X7_starts, (wa_1 (List.mem_of_getElem? (i := 8) (by decide +kernel)) (by decide +kernel)), co_X7_starts, yy_X7_starts, ⟨by decide, by decide⟩, _, rfl, rfl⟩
theorem im_X7_closes : Cond.instanceMethod yX7_closes ∈ wsA := (wa_5 (List.mem_of_getElem? (i := 184) (by decide +kernel)) (by decide +kernel))
theorem se_X7_closes : Cond.selects RX7 yX7_closes yX7_closes ∈ wsA := (wa_p (List.mem_of_getElem? (i := 75) (by decide +kernel)) (by decide +kernel))
theorem co_X7_closes : Cond.code yX7_closes cX7_closes 5 (none) ∈ wsA := (wa_5 (List.mem_of_getElem? (i := 185) rfl) (by decide +kernel))
theorem yy_X7_closes : yX7_closes.cls = RX7 ∧ yX7_closes.cls ≠ "java/lang/invoke/MethodHandle" ∧ yX7_closes.cls ≠ "java/lang/invoke/VarHandle" ∧ (parseMethodDescriptor yX7_closes.desc).map (fun d => d.parameters.length) = some 2 := by decide +kernel
theorem e_X7_turnsOne_261 : EV md_X7_turnsOne md_X7_closes 261 7 2 := ⟨(wa_5 (List.mem_of_getElem? (i := 182) (by decide +kernel)) (by decide +kernel)), im_X7_closes, se_X7_closes, (wa_1 (List.mem_of_getElem? (i := 8) (by decide +kernel)) (by decide +kernel)), co_X7_closes, yy_X7_closes, ⟨by decide, by decide⟩, _, rfl, rfl⟩
theorem im_X7_laysRows : Cond.instanceMethod yX7_laysRows ∈ wsA := (wa_5 (List.mem_of_getElem? (i := 128) (by decide +kernel)) (by decide +kernel))
theorem se_X7_laysRows : Cond.selects RX7 yX7_laysRows yX7_laysRows ∈ wsA := (wa_p (List.mem_of_getElem? (i := 61) (by decide +kernel)) (by decide +kernel))
theorem co_X7_laysRows : Cond.code yX7_laysRows cX7_laysRows 11 (none) ∈ wsA := (wa_5 (List.mem_of_getElem? (i := 129) rfl) (by decide +kernel))
theorem yy_X7_laysRows : yX7_laysRows.cls = RX7 ∧ yX7_laysRows.cls ≠ "java/lang/invoke/MethodHandle" ∧ yX7_laysRows.cls ≠ "java/lang/invoke/VarHandle" ∧ (parseMethodDescriptor yX7_laysRows.desc).map (fun d => d.parameters.length) = some 7 := by decide +kernel
theorem e_X7_laysGots_264 : EV md_X7_laysGots md_X7_laysRows 264 7 7 := ⟨(wa_5 (List.mem_of_getElem? (i := 126) (by decide +kernel)) (by decide +kernel)), im_X7_laysRows, se_X7_laysRows, (wa_1 (List.mem_of_getElem? (i := 8) (by decide +kernel)) (by decide +kernel)), co_X7_laysRows, yy_X7_laysRows, ⟨by decide, by decide⟩, _, rfl, rfl⟩
theorem im_X7_hasGot : Cond.instanceMethod yX7_hasGot ∈ wsA := (wa_5 (List.mem_of_getElem? (i := 144) (by decide +kernel)) (by decide +kernel))
theorem se_X7_hasGot : Cond.selects RX7 yX7_hasGot yX7_hasGot ∈ wsA := (wa_p (List.mem_of_getElem? (i := 65) (by decide +kernel)) (by decide +kernel))
theorem co_X7_hasGot : Cond.code yX7_hasGot cX7_hasGot 4 (some .int) ∈ wsA := (wa_5 (List.mem_of_getElem? (i := 145) rfl) (by decide +kernel))
theorem yy_X7_hasGot : yX7_hasGot.cls = RX7 ∧ yX7_hasGot.cls ≠ "java/lang/invoke/MethodHandle" ∧ yX7_hasGot.cls ≠ "java/lang/invoke/VarHandle" ∧ (parseMethodDescriptor yX7_hasGot.desc).map (fun d => d.parameters.length) = some 1 := by decide +kernel
theorem e_X7_laysGots_268 : EV md_X7_laysGots md_X7_hasGot 268 7 1 := ⟨(wa_5 (List.mem_of_getElem? (i := 142) (by decide +kernel)) (by decide +kernel)), im_X7_hasGot, se_X7_hasGot, (wa_1 (List.mem_of_getElem? (i := 8) (by decide +kernel)) (by decide +kernel)), co_X7_hasGot, yy_X7_hasGot, ⟨by decide, by decide⟩, _, rfl, rfl⟩
theorem im_X7_getsOne : Cond.instanceMethod yX7_getsOne ∈ wsA := (wa_5 (List.mem_of_getElem? (i := 148) (by decide +kernel)) (by decide +kernel))
theorem se_X7_getsOne : Cond.selects RX7 yX7_getsOne yX7_getsOne ∈ wsA := (wa_p (List.mem_of_getElem? (i := 66) (by decide +kernel)) (by decide +kernel))
theorem co_X7_getsOne : Cond.code yX7_getsOne cX7_getsOne 5 (some .boolean) ∈ wsA := (wa_5 (List.mem_of_getElem? (i := 149) rfl) (by decide +kernel))
theorem yy_X7_getsOne : yX7_getsOne.cls = RX7 ∧ yX7_getsOne.cls ≠ "java/lang/invoke/MethodHandle" ∧ yX7_getsOne.cls ≠ "java/lang/invoke/VarHandle" ∧ (parseMethodDescriptor yX7_getsOne.desc).map (fun d => d.parameters.length) = some 1 := by decide +kernel
theorem e_X7_laysGots_271 : EV md_X7_laysGots md_X7_getsOne 271 7 1 := ⟨(wa_5 (List.mem_of_getElem? (i := 146) (by decide +kernel)) (by decide +kernel)), im_X7_getsOne, se_X7_getsOne, (wa_1 (List.mem_of_getElem? (i := 8) (by decide +kernel)) (by decide +kernel)), co_X7_getsOne, yy_X7_getsOne, ⟨by decide, by decide⟩, _, rfl, rfl⟩
theorem im_X7_laysGots : Cond.instanceMethod yX7_laysGots ∈ wsA := (wa_5 (List.mem_of_getElem? (i := 124) (by decide +kernel)) (by decide +kernel))
theorem se_X7_laysGots : Cond.selects RX7 yX7_laysGots yX7_laysGots ∈ wsA := (wa_p (List.mem_of_getElem? (i := 60) (by decide +kernel)) (by decide +kernel))
theorem co_X7_laysGots : Cond.code yX7_laysGots cX7_laysGots 10 (none) ∈ wsA := (wa_5 (List.mem_of_getElem? (i := 125) rfl) (by decide +kernel))
theorem yy_X7_laysGots : yX7_laysGots.cls = RX7 ∧ yX7_laysGots.cls ≠ "java/lang/invoke/MethodHandle" ∧ yX7_laysGots.cls ≠ "java/lang/invoke/VarHandle" ∧ (parseMethodDescriptor yX7_laysGots.desc).map (fun d => d.parameters.length) = some 7 := by decide +kernel
theorem e_X7_plansNow_274 : EV md_X7_plansNow md_X7_laysGots 274 7 7 := ⟨(wa_5 (List.mem_of_getElem? (i := 122) (by decide +kernel)) (by decide +kernel)), im_X7_laysGots, se_X7_laysGots, (wa_1 (List.mem_of_getElem? (i := 8) (by decide +kernel)) (by decide +kernel)), co_X7_laysGots, yy_X7_laysGots, ⟨by decide, by decide⟩, _, rfl, rfl⟩
theorem im_X7_usesOne : Cond.instanceMethod yX7_usesOne ∈ wsA := (wa_5 (List.mem_of_getElem? (i := 172) (by decide +kernel)) (by decide +kernel))
theorem se_X7_usesOne : Cond.selects RX7 yX7_usesOne yX7_usesOne ∈ wsA := (wa_p (List.mem_of_getElem? (i := 72) (by decide +kernel)) (by decide +kernel))
theorem co_X7_usesOne : Cond.code yX7_usesOne cX7_usesOne 6 (some .boolean) ∈ wsA := (wa_5 (List.mem_of_getElem? (i := 173) rfl) (by decide +kernel))
theorem yy_X7_usesOne : yX7_usesOne.cls = RX7 ∧ yX7_usesOne.cls ≠ "java/lang/invoke/MethodHandle" ∧ yX7_usesOne.cls ≠ "java/lang/invoke/VarHandle" ∧ (parseMethodDescriptor yX7_usesOne.desc).map (fun d => d.parameters.length) = some 1 := by decide +kernel
theorem e_X7_plansNow_277 : EV md_X7_plansNow md_X7_usesOne 277 7 1 := ⟨(wa_5 (List.mem_of_getElem? (i := 170) (by decide +kernel)) (by decide +kernel)), im_X7_usesOne, se_X7_usesOne, (wa_1 (List.mem_of_getElem? (i := 8) (by decide +kernel)) (by decide +kernel)), co_X7_usesOne, yy_X7_usesOne, ⟨by decide, by decide⟩, _, rfl, rfl⟩
theorem im_X7_turnsOne : Cond.instanceMethod yX7_turnsOne ∈ wsA := (wa_5 (List.mem_of_getElem? (i := 180) (by decide +kernel)) (by decide +kernel))
theorem se_X7_turnsOne : Cond.selects RX7 yX7_turnsOne yX7_turnsOne ∈ wsA := (wa_p (List.mem_of_getElem? (i := 74) (by decide +kernel)) (by decide +kernel))
theorem co_X7_turnsOne : Cond.code yX7_turnsOne cX7_turnsOne 7 (some .boolean) ∈ wsA := (wa_5 (List.mem_of_getElem? (i := 181) rfl) (by decide +kernel))
theorem yy_X7_turnsOne : yX7_turnsOne.cls = RX7 ∧ yX7_turnsOne.cls ≠ "java/lang/invoke/MethodHandle" ∧ yX7_turnsOne.cls ≠ "java/lang/invoke/VarHandle" ∧ (parseMethodDescriptor yX7_turnsOne.desc).map (fun d => d.parameters.length) = some 2 := by decide +kernel
theorem e_X7_plansNow_280 : EV md_X7_plansNow md_X7_turnsOne 280 7 2 := ⟨(wa_5 (List.mem_of_getElem? (i := 178) (by decide +kernel)) (by decide +kernel)), im_X7_turnsOne, se_X7_turnsOne, (wa_1 (List.mem_of_getElem? (i := 8) (by decide +kernel)) (by decide +kernel)), co_X7_turnsOne, yy_X7_turnsOne, ⟨by decide, by decide⟩, _, rfl, rfl⟩
theorem e_X7_plan_202 : EV md_X7_plan md_X7_isLot 202 7 1 := ⟨(wa_5 (List.mem_of_getElem? (i := 66) (by decide +kernel)) (by decide +kernel)), im_X7_isLot, se_X7_isLot, (wa_1 (List.mem_of_getElem? (i := 8) (by decide +kernel)) (by decide +kernel)), co_X7_isLot, yy_X7_isLot, ⟨by decide, by decide⟩, _, rfl, rfl⟩
theorem e_X7_plan_189 : EV md_X7_plan md_X7_isOpen 189 7 1 := ⟨(wa_5 (List.mem_of_getElem? (i := 34) (by decide +kernel)) (by decide +kernel)), im_X7_isOpen, se_X7_isOpen, (wa_1 (List.mem_of_getElem? (i := 8) (by decide +kernel)) (by decide +kernel)), co_X7_isOpen, yy_X7_isOpen, ⟨by decide, by decide⟩, _, rfl, rfl⟩
theorem e_X7_plan_169 : EV md_X7_plan md_X7_ordered 169 7 2 := ⟨(wa_5 (List.mem_of_getElem? (i := 42) (by decide +kernel)) (by decide +kernel)), im_X7_ordered, se_X7_ordered, (wa_1 (List.mem_of_getElem? (i := 8) (by decide +kernel)) (by decide +kernel)), co_X7_ordered, yy_X7_ordered, ⟨by decide, by decide⟩, _, rfl, rfl⟩
theorem im_X7_plansNow : Cond.instanceMethod yX7_plansNow ∈ wsA := (wa_5 (List.mem_of_getElem? (i := 120) (by decide +kernel)) (by decide +kernel))
theorem se_X7_plansNow : Cond.selects RX7 yX7_plansNow yX7_plansNow ∈ wsA := (wa_p (List.mem_of_getElem? (i := 59) (by decide +kernel)) (by decide +kernel))
theorem co_X7_plansNow : Cond.code yX7_plansNow cX7_plansNow 5 (none) ∈ wsA := (wa_5 (List.mem_of_getElem? (i := 121) rfl) (by decide +kernel))
theorem yy_X7_plansNow : yX7_plansNow.cls = RX7 ∧ yX7_plansNow.cls ≠ "java/lang/invoke/MethodHandle" ∧ yX7_plansNow.cls ≠ "java/lang/invoke/VarHandle" ∧ (parseMethodDescriptor yX7_plansNow.desc).map (fun d => d.parameters.length) = some 1 := by decide +kernel
theorem e_X7_plan_283 : EV md_X7_plan md_X7_plansNow 283 7 1 := ⟨(wa_5 (List.mem_of_getElem? (i := 118) (by decide +kernel)) (by decide +kernel)), im_X7_plansNow, se_X7_plansNow, (wa_1 (List.mem_of_getElem? (i := 8) (by decide +kernel)) (by decide +kernel)), co_X7_plansNow, yy_X7_plansNow, ⟨by decide, by decide⟩, _, rfl, rfl⟩
theorem im_X7_turnOf : Cond.instanceMethod yX7_turnOf ∈ wsA := (wa_5 (List.mem_of_getElem? (i := 188) (by decide +kernel)) (by decide +kernel))
theorem se_X7_turnOf : Cond.selects RX7 yX7_turnOf yX7_turnOf ∈ wsA := (wa_p (List.mem_of_getElem? (i := 76) (by decide +kernel)) (by decide +kernel))
theorem co_X7_turnOf : Cond.code yX7_turnOf cX7_turnOf 3 (some .int) ∈ wsA := (wa_5 (List.mem_of_getElem? (i := 189) rfl) (by decide +kernel))
theorem yy_X7_turnOf : yX7_turnOf.cls = RX7 ∧ yX7_turnOf.cls ≠ "java/lang/invoke/MethodHandle" ∧ yX7_turnOf.cls ≠ "java/lang/invoke/VarHandle" ∧ (parseMethodDescriptor yX7_turnOf.desc).map (fun d => d.parameters.length) = some 1 := by decide +kernel
theorem e_X7_plan_286 : EV md_X7_plan md_X7_turnOf 286 7 1 := ⟨(wa_5 (List.mem_of_getElem? (i := 186) (by decide +kernel)) (by decide +kernel)), im_X7_turnOf, se_X7_turnOf, (wa_1 (List.mem_of_getElem? (i := 8) (by decide +kernel)) (by decide +kernel)), co_X7_turnOf, yy_X7_turnOf, ⟨by decide, by decide⟩, _, rfl, rfl⟩
theorem e_X7_plan_268 : EV md_X7_plan md_X7_hasGot 268 7 1 := ⟨(wa_5 (List.mem_of_getElem? (i := 142) (by decide +kernel)) (by decide +kernel)), im_X7_hasGot, se_X7_hasGot, (wa_1 (List.mem_of_getElem? (i := 8) (by decide +kernel)) (by decide +kernel)), co_X7_hasGot, yy_X7_hasGot, ⟨by decide, by decide⟩, _, rfl, rfl⟩
theorem im_X7_ageOf : Cond.instanceMethod yX7_ageOf ∈ wsA := (wa_5 (List.mem_of_getElem? (i := 192) (by decide +kernel)) (by decide +kernel))
theorem se_X7_ageOf : Cond.selects RX7 yX7_ageOf yX7_ageOf ∈ wsA := (wa_p (List.mem_of_getElem? (i := 77) (by decide +kernel)) (by decide +kernel))
theorem co_X7_ageOf : Cond.code yX7_ageOf cX7_ageOf 3 (some .int) ∈ wsA := (wa_5 (List.mem_of_getElem? (i := 193) rfl) (by decide +kernel))
theorem yy_X7_ageOf : yX7_ageOf.cls = RX7 ∧ yX7_ageOf.cls ≠ "java/lang/invoke/MethodHandle" ∧ yX7_ageOf.cls ≠ "java/lang/invoke/VarHandle" ∧ (parseMethodDescriptor yX7_ageOf.desc).map (fun d => d.parameters.length) = some 1 := by decide +kernel
theorem e_X7_plan_289 : EV md_X7_plan md_X7_ageOf 289 7 1 := ⟨(wa_5 (List.mem_of_getElem? (i := 190) (by decide +kernel)) (by decide +kernel)), im_X7_ageOf, se_X7_ageOf, (wa_1 (List.mem_of_getElem? (i := 8) (by decide +kernel)) (by decide +kernel)), co_X7_ageOf, yy_X7_ageOf, ⟨by decide, by decide⟩, _, rfl, rfl⟩
theorem e_X7_canWaste_214 : EV md_X7_canWaste md_X7_isGood 214 7 1 := ⟨(wa_5 (List.mem_of_getElem? (i := 98) (by decide +kernel)) (by decide +kernel)), im_X7_isGood, se_X7_isGood, (wa_1 (List.mem_of_getElem? (i := 8) (by decide +kernel)) (by decide +kernel)), co_X7_isGood, yy_X7_isGood, ⟨by decide, by decide⟩, _, rfl, rfl⟩
theorem e_X7_canWaste_192 : EV md_X7_canWaste md_X7_today 192 7 0 := ⟨(wa_5 (List.mem_of_getElem? (i := 26) (by decide +kernel)) (by decide +kernel)), im_X7_today, se_X7_today, (wa_1 (List.mem_of_getElem? (i := 8) (by decide +kernel)) (by decide +kernel)), co_X7_today, yy_X7_today, ⟨by decide, by decide⟩, _, rfl, rfl⟩
theorem e_X7_canWaste_101 : ES md_X7_canWaste md_X7_isIn 101 3 := ⟨(wa_4 (List.mem_of_getElem? (i := 224) (by decide +kernel)) (by decide +kernel)), st_X7_isIn, (wa_1 (List.mem_of_getElem? (i := 8) (by decide +kernel)) (by decide +kernel)), co_X7_isIn, yy_X7_isIn, ⟨by decide, by decide⟩⟩
theorem im_X7_canWaste : Cond.instanceMethod yX7_canWaste ∈ wsA := (wa_5 (List.mem_of_getElem? (i := 200) (by decide +kernel)) (by decide +kernel))
theorem se_X7_canWaste : Cond.selects RX7 yX7_canWaste yX7_canWaste ∈ wsA := (wa_p (List.mem_of_getElem? (i := 78) (by decide +kernel)) (by decide +kernel))
theorem co_X7_canWaste : Cond.code yX7_canWaste cX7_canWaste 3 (some .boolean) ∈ wsA := (wa_5 (List.mem_of_getElem? (i := 201) rfl) (by decide +kernel))
theorem yy_X7_canWaste : yX7_canWaste.cls = RX7 ∧ yX7_canWaste.cls ≠ "java/lang/invoke/MethodHandle" ∧ yX7_canWaste.cls ≠ "java/lang/invoke/VarHandle" ∧ (parseMethodDescriptor yX7_canWaste.desc).map (fun d => d.parameters.length) = some 2 := by decide +kernel
theorem e_X7_waste_292 : EV md_X7_waste md_X7_canWaste 292 7 2 := ⟨(wa_5 (List.mem_of_getElem? (i := 198) (by decide +kernel)) (by decide +kernel)), im_X7_canWaste, se_X7_canWaste, (wa_1 (List.mem_of_getElem? (i := 8) (by decide +kernel)) (by decide +kernel)), co_X7_canWaste, yy_X7_canWaste, ⟨by decide, by decide⟩, _, rfl, rfl⟩
theorem e_X7_waste_176 : EV md_X7_waste md_X7_lies 176 7 2 := ⟨(wa_5 (List.mem_of_getElem? (i := 50) (by decide +kernel)) (by decide +kernel)), im_X7_lies, se_X7_lies, (wa_1 (List.mem_of_getElem? (i := 8) (by decide +kernel)) (by decide +kernel)), co_X7_lies, yy_X7_lies, ⟨by decide, by decide⟩, _, rfl, rfl⟩
theorem e_X7_waste_186 : EV md_X7_waste md_X7_ofLot 186 7 1 := ⟨(wa_5 (List.mem_of_getElem? (i := 54) (by decide +kernel)) (by decide +kernel)), im_X7_ofLot, se_X7_ofLot, (wa_1 (List.mem_of_getElem? (i := 8) (by decide +kernel)) (by decide +kernel)), co_X7_ofLot, yy_X7_ofLot, ⟨by decide, by decide⟩, _, rfl, rfl⟩
theorem e_X7_least_292 : EV md_X7_least md_X7_canWaste 292 7 2 := ⟨(wa_5 (List.mem_of_getElem? (i := 198) (by decide +kernel)) (by decide +kernel)), im_X7_canWaste, se_X7_canWaste, (wa_1 (List.mem_of_getElem? (i := 8) (by decide +kernel)) (by decide +kernel)), co_X7_canWaste, yy_X7_canWaste, ⟨by decide, by decide⟩, _, rfl, rfl⟩
theorem e_X7_least_283 : EV md_X7_least md_X7_plansNow 283 7 1 := ⟨(wa_5 (List.mem_of_getElem? (i := 118) (by decide +kernel)) (by decide +kernel)), im_X7_plansNow, se_X7_plansNow, (wa_1 (List.mem_of_getElem? (i := 8) (by decide +kernel)) (by decide +kernel)), co_X7_plansNow, yy_X7_plansNow, ⟨by decide, by decide⟩, _, rfl, rfl⟩
theorem e_X7_least_176 : EV md_X7_least md_X7_lies 176 7 2 := ⟨(wa_5 (List.mem_of_getElem? (i := 50) (by decide +kernel)) (by decide +kernel)), im_X7_lies, se_X7_lies, (wa_1 (List.mem_of_getElem? (i := 8) (by decide +kernel)) (by decide +kernel)), co_X7_lies, yy_X7_lies, ⟨by decide, by decide⟩, _, rfl, rfl⟩
theorem e_X7_least_252 : EV md_X7_least md_X7_spareOf 252 7 1 := ⟨(wa_5 (List.mem_of_getElem? (i := 158) (by decide +kernel)) (by decide +kernel)), im_X7_spareOf, se_X7_spareOf, (wa_1 (List.mem_of_getElem? (i := 8) (by decide +kernel)) (by decide +kernel)), co_X7_spareOf, yy_X7_spareOf, ⟨by decide, by decide⟩, _, rfl, rfl⟩
theorem e_X7_canAsk_211 : EV md_X7_canAsk md_X7_isCustomerThere 211 7 1 := ⟨(wa_5 (List.mem_of_getElem? (i := 90) (by decide +kernel)) (by decide +kernel)), im_X7_isCustomerThere, se_X7_isCustomerThere, (wa_1 (List.mem_of_getElem? (i := 8) (by decide +kernel)) (by decide +kernel)), co_X7_isCustomerThere, yy_X7_isCustomerThere, ⟨by decide, by decide⟩, _, rfl, rfl⟩
theorem e_X7_canAsk_214 : EV md_X7_canAsk md_X7_isGood 214 7 1 := ⟨(wa_5 (List.mem_of_getElem? (i := 98) (by decide +kernel)) (by decide +kernel)), im_X7_isGood, se_X7_isGood, (wa_1 (List.mem_of_getElem? (i := 8) (by decide +kernel)) (by decide +kernel)), co_X7_isGood, yy_X7_isGood, ⟨by decide, by decide⟩, _, rfl, rfl⟩
theorem e_X7_canAsk_101 : ES md_X7_canAsk md_X7_isIn 101 3 := ⟨(wa_4 (List.mem_of_getElem? (i := 224) (by decide +kernel)) (by decide +kernel)), st_X7_isIn, (wa_1 (List.mem_of_getElem? (i := 8) (by decide +kernel)) (by decide +kernel)), co_X7_isIn, yy_X7_isIn, ⟨by decide, by decide⟩⟩
theorem e_X7_canAsk_192 : EV md_X7_canAsk md_X7_today 192 7 0 := ⟨(wa_5 (List.mem_of_getElem? (i := 26) (by decide +kernel)) (by decide +kernel)), im_X7_today, se_X7_today, (wa_1 (List.mem_of_getElem? (i := 8) (by decide +kernel)) (by decide +kernel)), co_X7_today, yy_X7_today, ⟨by decide, by decide⟩, _, rfl, rfl⟩
theorem im_X7_canAsk : Cond.instanceMethod yX7_canAsk ∈ wsA := (wa_5 (List.mem_of_getElem? (i := 212) (by decide +kernel)) (by decide +kernel))
theorem se_X7_canAsk : Cond.selects RX7 yX7_canAsk yX7_canAsk ∈ wsA := (wa_p (List.mem_of_getElem? (i := 79) (by decide +kernel)) (by decide +kernel))
theorem co_X7_canAsk : Cond.code yX7_canAsk cX7_canAsk 5 (some .boolean) ∈ wsA := (wa_5 (List.mem_of_getElem? (i := 213) rfl) (by decide +kernel))
theorem yy_X7_canAsk : yX7_canAsk.cls = RX7 ∧ yX7_canAsk.cls ≠ "java/lang/invoke/MethodHandle" ∧ yX7_canAsk.cls ≠ "java/lang/invoke/VarHandle" ∧ (parseMethodDescriptor yX7_canAsk.desc).map (fun d => d.parameters.length) = some 4 := by decide +kernel
theorem e_X7_would_295 : EV md_X7_would md_X7_canAsk 295 7 4 := ⟨(wa_5 (List.mem_of_getElem? (i := 210) (by decide +kernel)) (by decide +kernel)), im_X7_canAsk, se_X7_canAsk, (wa_1 (List.mem_of_getElem? (i := 8) (by decide +kernel)) (by decide +kernel)), co_X7_canAsk, yy_X7_canAsk, ⟨by decide, by decide⟩, _, rfl, rfl⟩
theorem e_X7_would_129 : EV md_X7_would md_X7_isAskedFor 129 7 3 := ⟨(wa_5 (List.mem_of_getElem? (i := 14) (by decide +kernel)) (by decide +kernel)), im_X7_isAskedFor, se_X7_isAskedFor, (wa_1 (List.mem_of_getElem? (i := 8) (by decide +kernel)) (by decide +kernel)), co_X7_isAskedFor, yy_X7_isAskedFor, ⟨by decide, by decide⟩, _, rfl, rfl⟩
theorem e_X7_would_274 : EV md_X7_would md_X7_laysGots 274 7 7 := ⟨(wa_5 (List.mem_of_getElem? (i := 122) (by decide +kernel)) (by decide +kernel)), im_X7_laysGots, se_X7_laysGots, (wa_1 (List.mem_of_getElem? (i := 8) (by decide +kernel)) (by decide +kernel)), co_X7_laysGots, yy_X7_laysGots, ⟨by decide, by decide⟩, _, rfl, rfl⟩
theorem e_X7_would_286 : EV md_X7_would md_X7_turnOf 286 7 1 := ⟨(wa_5 (List.mem_of_getElem? (i := 186) (by decide +kernel)) (by decide +kernel)), im_X7_turnOf, se_X7_turnOf, (wa_1 (List.mem_of_getElem? (i := 8) (by decide +kernel)) (by decide +kernel)), co_X7_turnOf, yy_X7_turnOf, ⟨by decide, by decide⟩, _, rfl, rfl⟩
theorem e_X7_would_268 : EV md_X7_would md_X7_hasGot 268 7 1 := ⟨(wa_5 (List.mem_of_getElem? (i := 142) (by decide +kernel)) (by decide +kernel)), im_X7_hasGot, se_X7_hasGot, (wa_1 (List.mem_of_getElem? (i := 8) (by decide +kernel)) (by decide +kernel)), co_X7_hasGot, yy_X7_hasGot, ⟨by decide, by decide⟩, _, rfl, rfl⟩
theorem e_X7_slack_189 : EV md_X7_slack md_X7_isOpen 189 7 1 := ⟨(wa_5 (List.mem_of_getElem? (i := 34) (by decide +kernel)) (by decide +kernel)), im_X7_isOpen, se_X7_isOpen, (wa_1 (List.mem_of_getElem? (i := 8) (by decide +kernel)) (by decide +kernel)), co_X7_isOpen, yy_X7_isOpen, ⟨by decide, by decide⟩, _, rfl, rfl⟩
theorem e_X7_slack_169 : EV md_X7_slack md_X7_ordered 169 7 2 := ⟨(wa_5 (List.mem_of_getElem? (i := 42) (by decide +kernel)) (by decide +kernel)), im_X7_ordered, se_X7_ordered, (wa_1 (List.mem_of_getElem? (i := 8) (by decide +kernel)) (by decide +kernel)), co_X7_ordered, yy_X7_ordered, ⟨by decide, by decide⟩, _, rfl, rfl⟩
theorem e_X7_slack_179 : EV md_X7_slack md_X7_lifeOf 179 7 1 := ⟨(wa_5 (List.mem_of_getElem? (i := 94) (by decide +kernel)) (by decide +kernel)), im_X7_lifeOf, se_X7_lifeOf, (wa_1 (List.mem_of_getElem? (i := 8) (by decide +kernel)) (by decide +kernel)), co_X7_lifeOf, yy_X7_lifeOf, ⟨by decide, by decide⟩, _, rfl, rfl⟩
theorem e_X7_slack_274 : EV md_X7_slack md_X7_laysGots 274 7 7 := ⟨(wa_5 (List.mem_of_getElem? (i := 122) (by decide +kernel)) (by decide +kernel)), im_X7_laysGots, se_X7_laysGots, (wa_1 (List.mem_of_getElem? (i := 8) (by decide +kernel)) (by decide +kernel)), co_X7_laysGots, yy_X7_laysGots, ⟨by decide, by decide⟩, _, rfl, rfl⟩
theorem e_X7_slack_286 : EV md_X7_slack md_X7_turnOf 286 7 1 := ⟨(wa_5 (List.mem_of_getElem? (i := 186) (by decide +kernel)) (by decide +kernel)), im_X7_turnOf, se_X7_turnOf, (wa_1 (List.mem_of_getElem? (i := 8) (by decide +kernel)) (by decide +kernel)), co_X7_turnOf, yy_X7_turnOf, ⟨by decide, by decide⟩, _, rfl, rfl⟩
theorem e_X7_slack_268 : EV md_X7_slack md_X7_hasGot 268 7 1 := ⟨(wa_5 (List.mem_of_getElem? (i := 142) (by decide +kernel)) (by decide +kernel)), im_X7_hasGot, se_X7_hasGot, (wa_1 (List.mem_of_getElem? (i := 8) (by decide +kernel)) (by decide +kernel)), co_X7_hasGot, yy_X7_hasGot, ⟨by decide, by decide⟩, _, rfl, rfl⟩
theorem e_X7_comes_214 : EV md_X7_comes md_X7_isGood 214 7 1 := ⟨(wa_5 (List.mem_of_getElem? (i := 98) (by decide +kernel)) (by decide +kernel)), im_X7_isGood, se_X7_isGood, (wa_1 (List.mem_of_getElem? (i := 8) (by decide +kernel)) (by decide +kernel)), co_X7_isGood, yy_X7_isGood, ⟨by decide, by decide⟩, _, rfl, rfl⟩
theorem e_X7_comes_192 : EV md_X7_comes md_X7_today 192 7 0 := ⟨(wa_5 (List.mem_of_getElem? (i := 26) (by decide +kernel)) (by decide +kernel)), im_X7_today, se_X7_today, (wa_1 (List.mem_of_getElem? (i := 8) (by decide +kernel)) (by decide +kernel)), co_X7_today, yy_X7_today, ⟨by decide, by decide⟩, _, rfl, rfl⟩
theorem e_X7_comes_101 : ES md_X7_comes md_X7_isIn 101 3 := ⟨(wa_4 (List.mem_of_getElem? (i := 224) (by decide +kernel)) (by decide +kernel)), st_X7_isIn, (wa_1 (List.mem_of_getElem? (i := 8) (by decide +kernel)) (by decide +kernel)), co_X7_isIn, yy_X7_isIn, ⟨by decide, by decide⟩⟩
theorem im_X7_snap : Cond.instanceMethod yX7_snap ∈ wsA := (wa_5 (List.mem_of_getElem? (i := 224) (by decide +kernel)) (by decide +kernel))
theorem se_X7_snap : Cond.selects RX7 yX7_snap yX7_snap ∈ wsA := (wa_p (List.mem_of_getElem? (i := 80) (by decide +kernel)) (by decide +kernel))
theorem co_X7_snap : Cond.code yX7_snap cX7_snap 2 (none) ∈ wsA := (wa_5 (List.mem_of_getElem? (i := 225) rfl) (by decide +kernel))
theorem yy_X7_snap : yX7_snap.cls = RX7 ∧ yX7_snap.cls ≠ "java/lang/invoke/MethodHandle" ∧ yX7_snap.cls ≠ "java/lang/invoke/VarHandle" ∧ (parseMethodDescriptor yX7_snap.desc).map (fun d => d.parameters.length) = some 0 := by decide +kernel
theorem e_X7_comes_299 : EV md_X7_comes md_X7_snap 299 7 0 := ⟨(wa_5 (List.mem_of_getElem? (i := 222) (by decide +kernel)) (by decide +kernel)), im_X7_snap, se_X7_snap, (wa_1 (List.mem_of_getElem? (i := 8) (by decide +kernel)) (by decide +kernel)), co_X7_snap, yy_X7_snap, ⟨by decide, by decide⟩, _, rfl, rfl⟩
theorem e_X7_asks_295 : EV md_X7_asks md_X7_canAsk 295 7 4 := ⟨(wa_5 (List.mem_of_getElem? (i := 210) (by decide +kernel)) (by decide +kernel)), im_X7_canAsk, se_X7_canAsk, (wa_1 (List.mem_of_getElem? (i := 8) (by decide +kernel)) (by decide +kernel)), co_X7_canAsk, yy_X7_canAsk, ⟨by decide, by decide⟩, _, rfl, rfl⟩
theorem e_X7_asks_129 : EV md_X7_asks md_X7_isAskedFor 129 7 3 := ⟨(wa_5 (List.mem_of_getElem? (i := 14) (by decide +kernel)) (by decide +kernel)), im_X7_isAskedFor, se_X7_isAskedFor, (wa_1 (List.mem_of_getElem? (i := 8) (by decide +kernel)) (by decide +kernel)), co_X7_isAskedFor, yy_X7_isAskedFor, ⟨by decide, by decide⟩, _, rfl, rfl⟩
theorem e_X7_asks_299 : EV md_X7_asks md_X7_snap 299 7 0 := ⟨(wa_5 (List.mem_of_getElem? (i := 222) (by decide +kernel)) (by decide +kernel)), im_X7_snap, se_X7_snap, (wa_1 (List.mem_of_getElem? (i := 8) (by decide +kernel)) (by decide +kernel)), co_X7_snap, yy_X7_snap, ⟨by decide, by decide⟩, _, rfl, rfl⟩
theorem e_X7_reserve_214 : EV md_X7_reserve md_X7_isGood 214 7 1 := ⟨(wa_5 (List.mem_of_getElem? (i := 98) (by decide +kernel)) (by decide +kernel)), im_X7_isGood, se_X7_isGood, (wa_1 (List.mem_of_getElem? (i := 8) (by decide +kernel)) (by decide +kernel)), co_X7_isGood, yy_X7_isGood, ⟨by decide, by decide⟩, _, rfl, rfl⟩
theorem e_X7_reserve_283 : EV md_X7_reserve md_X7_plansNow 283 7 1 := ⟨(wa_5 (List.mem_of_getElem? (i := 118) (by decide +kernel)) (by decide +kernel)), im_X7_plansNow, se_X7_plansNow, (wa_1 (List.mem_of_getElem? (i := 8) (by decide +kernel)) (by decide +kernel)), co_X7_plansNow, yy_X7_plansNow, ⟨by decide, by decide⟩, _, rfl, rfl⟩
theorem e_X7_reserve_299 : EV md_X7_reserve md_X7_snap 299 7 0 := ⟨(wa_5 (List.mem_of_getElem? (i := 222) (by decide +kernel)) (by decide +kernel)), im_X7_snap, se_X7_snap, (wa_1 (List.mem_of_getElem? (i := 8) (by decide +kernel)) (by decide +kernel)), co_X7_snap, yy_X7_snap, ⟨by decide, by decide⟩, _, rfl, rfl⟩
theorem e_X7_frees_208 : EV md_X7_frees md_X7_forOrder 208 7 1 := ⟨(wa_5 (List.mem_of_getElem? (i := 78) (by decide +kernel)) (by decide +kernel)), im_X7_forOrder, se_X7_forOrder, (wa_1 (List.mem_of_getElem? (i := 8) (by decide +kernel)) (by decide +kernel)), co_X7_forOrder, yy_X7_forOrder, ⟨by decide, by decide⟩, _, rfl, rfl⟩
theorem e_X7_cancel_189 : EV md_X7_cancel md_X7_isOpen 189 7 1 := ⟨(wa_5 (List.mem_of_getElem? (i := 34) (by decide +kernel)) (by decide +kernel)), im_X7_isOpen, se_X7_isOpen, (wa_1 (List.mem_of_getElem? (i := 8) (by decide +kernel)) (by decide +kernel)), co_X7_isOpen, yy_X7_isOpen, ⟨by decide, by decide⟩, _, rfl, rfl⟩
theorem e_X7_cancel_299 : EV md_X7_cancel md_X7_snap 299 7 0 := ⟨(wa_5 (List.mem_of_getElem? (i := 222) (by decide +kernel)) (by decide +kernel)), im_X7_snap, se_X7_snap, (wa_1 (List.mem_of_getElem? (i := 8) (by decide +kernel)) (by decide +kernel)), co_X7_snap, yy_X7_snap, ⟨by decide, by decide⟩, _, rfl, rfl⟩
theorem im_X7_frees : Cond.instanceMethod yX7_frees ∈ wsA := (wa_6 (List.mem_of_getElem? (i := 0) (by decide +kernel)) (by decide +kernel))
theorem se_X7_frees : Cond.selects RX7 yX7_frees yX7_frees ∈ wsA := (wa_p (List.mem_of_getElem? (i := 81) (by decide +kernel)) (by decide +kernel))
theorem co_X7_frees : Cond.code yX7_frees cX7_frees 4 (some .int) ∈ wsA := (wa_6 (List.mem_of_getElem? (i := 1) rfl) (by decide +kernel))
theorem yy_X7_frees : yX7_frees.cls = RX7 ∧ yX7_frees.cls ≠ "java/lang/invoke/MethodHandle" ∧ yX7_frees.cls ≠ "java/lang/invoke/VarHandle" ∧ (parseMethodDescriptor yX7_frees.desc).map (fun d => d.parameters.length) = some 1 := by decide +kernel
theorem e_X7_cancel_302 : EV md_X7_cancel md_X7_frees 302 7 1 := ⟨(wa_5 (List.mem_of_getElem? (i := 238) (by decide +kernel)) (by decide +kernel)), im_X7_frees, se_X7_frees, (wa_1 (List.mem_of_getElem? (i := 8) (by decide +kernel)) (by decide +kernel)), co_X7_frees, yy_X7_frees, ⟨by decide, by decide⟩, _, rfl, rfl⟩
theorem e_X7_hold_202 : EV md_X7_hold md_X7_isLot 202 7 1 := ⟨(wa_5 (List.mem_of_getElem? (i := 66) (by decide +kernel)) (by decide +kernel)), im_X7_isLot, se_X7_isLot, (wa_1 (List.mem_of_getElem? (i := 8) (by decide +kernel)) (by decide +kernel)), co_X7_isLot, yy_X7_isLot, ⟨by decide, by decide⟩, _, rfl, rfl⟩
theorem e_X7_hold_101 : ES md_X7_hold md_X7_isIn 101 3 := ⟨(wa_4 (List.mem_of_getElem? (i := 224) (by decide +kernel)) (by decide +kernel)), st_X7_isIn, (wa_1 (List.mem_of_getElem? (i := 8) (by decide +kernel)) (by decide +kernel)), co_X7_isIn, yy_X7_isIn, ⟨by decide, by decide⟩⟩
theorem e_X7_hold_299 : EV md_X7_hold md_X7_snap 299 7 0 := ⟨(wa_5 (List.mem_of_getElem? (i := 222) (by decide +kernel)) (by decide +kernel)), im_X7_snap, se_X7_snap, (wa_1 (List.mem_of_getElem? (i := 8) (by decide +kernel)) (by decide +kernel)), co_X7_snap, yy_X7_snap, ⟨by decide, by decide⟩, _, rfl, rfl⟩
theorem e_X7_hold_173 : EV md_X7_hold md_X7_cell 173 7 2 := ⟨(wa_5 (List.mem_of_getElem? (i := 58) (by decide +kernel)) (by decide +kernel)), im_X7_cell, se_X7_cell, (wa_1 (List.mem_of_getElem? (i := 8) (by decide +kernel)) (by decide +kernel)), co_X7_cell, yy_X7_cell, ⟨by decide, by decide⟩, _, rfl, rfl⟩
theorem e_X7_hold_217 : EV md_X7_hold md_X7_isFit 217 7 2 := ⟨(wa_5 (List.mem_of_getElem? (i := 106) (by decide +kernel)) (by decide +kernel)), im_X7_isFit, se_X7_isFit, (wa_1 (List.mem_of_getElem? (i := 8) (by decide +kernel)) (by decide +kernel)), co_X7_isFit, yy_X7_isFit, ⟨by decide, by decide⟩, _, rfl, rfl⟩
theorem e_X7_deliver_189 : EV md_X7_deliver md_X7_isOpen 189 7 1 := ⟨(wa_5 (List.mem_of_getElem? (i := 34) (by decide +kernel)) (by decide +kernel)), im_X7_isOpen, se_X7_isOpen, (wa_1 (List.mem_of_getElem? (i := 8) (by decide +kernel)) (by decide +kernel)), co_X7_isOpen, yy_X7_isOpen, ⟨by decide, by decide⟩, _, rfl, rfl⟩
theorem e_X7_deliver_169 : EV md_X7_deliver md_X7_ordered 169 7 2 := ⟨(wa_5 (List.mem_of_getElem? (i := 42) (by decide +kernel)) (by decide +kernel)), im_X7_ordered, se_X7_ordered, (wa_1 (List.mem_of_getElem? (i := 8) (by decide +kernel)) (by decide +kernel)), co_X7_ordered, yy_X7_ordered, ⟨by decide, by decide⟩, _, rfl, rfl⟩
theorem e_X7_deliver_192 : EV md_X7_deliver md_X7_today 192 7 0 := ⟨(wa_5 (List.mem_of_getElem? (i := 26) (by decide +kernel)) (by decide +kernel)), im_X7_today, se_X7_today, (wa_1 (List.mem_of_getElem? (i := 8) (by decide +kernel)) (by decide +kernel)), co_X7_today, yy_X7_today, ⟨by decide, by decide⟩, _, rfl, rfl⟩
theorem e_X7_deliver_208 : EV md_X7_deliver md_X7_forOrder 208 7 1 := ⟨(wa_5 (List.mem_of_getElem? (i := 78) (by decide +kernel)) (by decide +kernel)), im_X7_forOrder, se_X7_forOrder, (wa_1 (List.mem_of_getElem? (i := 8) (by decide +kernel)) (by decide +kernel)), co_X7_forOrder, yy_X7_forOrder, ⟨by decide, by decide⟩, _, rfl, rfl⟩
theorem e_X7_deliver_299 : EV md_X7_deliver md_X7_snap 299 7 0 := ⟨(wa_5 (List.mem_of_getElem? (i := 222) (by decide +kernel)) (by decide +kernel)), im_X7_snap, se_X7_snap, (wa_1 (List.mem_of_getElem? (i := 8) (by decide +kernel)) (by decide +kernel)), co_X7_snap, yy_X7_snap, ⟨by decide, by decide⟩, _, rfl, rfl⟩
theorem e_X7_deliver_173 : EV md_X7_deliver md_X7_cell 173 7 2 := ⟨(wa_5 (List.mem_of_getElem? (i := 58) (by decide +kernel)) (by decide +kernel)), im_X7_cell, se_X7_cell, (wa_1 (List.mem_of_getElem? (i := 8) (by decide +kernel)) (by decide +kernel)), co_X7_cell, yy_X7_cell, ⟨by decide, by decide⟩, _, rfl, rfl⟩
theorem e_X7_deliver_176 : EV md_X7_deliver md_X7_lies 176 7 2 := ⟨(wa_5 (List.mem_of_getElem? (i := 50) (by decide +kernel)) (by decide +kernel)), im_X7_lies, se_X7_lies, (wa_1 (List.mem_of_getElem? (i := 8) (by decide +kernel)) (by decide +kernel)), co_X7_lies, yy_X7_lies, ⟨by decide, by decide⟩, _, rfl, rfl⟩
theorem e_X7_deliver_302 : EV md_X7_deliver md_X7_frees 302 7 1 := ⟨(wa_5 (List.mem_of_getElem? (i := 238) (by decide +kernel)) (by decide +kernel)), im_X7_frees, se_X7_frees, (wa_1 (List.mem_of_getElem? (i := 8) (by decide +kernel)) (by decide +kernel)), co_X7_frees, yy_X7_frees, ⟨by decide, by decide⟩, _, rfl, rfl⟩
theorem e_X7_ends_189 : EV md_X7_ends md_X7_isOpen 189 7 1 := ⟨(wa_5 (List.mem_of_getElem? (i := 34) (by decide +kernel)) (by decide +kernel)), im_X7_isOpen, se_X7_isOpen, (wa_1 (List.mem_of_getElem? (i := 8) (by decide +kernel)) (by decide +kernel)), co_X7_isOpen, yy_X7_isOpen, ⟨by decide, by decide⟩, _, rfl, rfl⟩
theorem e_X7_ends_169 : EV md_X7_ends md_X7_ordered 169 7 2 := ⟨(wa_5 (List.mem_of_getElem? (i := 42) (by decide +kernel)) (by decide +kernel)), im_X7_ordered, se_X7_ordered, (wa_1 (List.mem_of_getElem? (i := 8) (by decide +kernel)) (by decide +kernel)), co_X7_ordered, yy_X7_ordered, ⟨by decide, by decide⟩, _, rfl, rfl⟩
theorem e_X7_ends_192 : EV md_X7_ends md_X7_today 192 7 0 := ⟨(wa_5 (List.mem_of_getElem? (i := 26) (by decide +kernel)) (by decide +kernel)), im_X7_today, se_X7_today, (wa_1 (List.mem_of_getElem? (i := 8) (by decide +kernel)) (by decide +kernel)), co_X7_today, yy_X7_today, ⟨by decide, by decide⟩, _, rfl, rfl⟩
theorem e_X7_ends_302 : EV md_X7_ends md_X7_frees 302 7 1 := ⟨(wa_5 (List.mem_of_getElem? (i := 238) (by decide +kernel)) (by decide +kernel)), im_X7_frees, se_X7_frees, (wa_1 (List.mem_of_getElem? (i := 8) (by decide +kernel)) (by decide +kernel)), co_X7_frees, yy_X7_frees, ⟨by decide, by decide⟩, _, rfl, rfl⟩
theorem e_X7_ends_176 : EV md_X7_ends md_X7_lies 176 7 2 := ⟨(wa_5 (List.mem_of_getElem? (i := 50) (by decide +kernel)) (by decide +kernel)), im_X7_lies, se_X7_lies, (wa_1 (List.mem_of_getElem? (i := 8) (by decide +kernel)) (by decide +kernel)), co_X7_lies, yy_X7_lies, ⟨by decide, by decide⟩, _, rfl, rfl⟩
theorem e_X7_pass_101 : ES md_X7_pass md_X7_isIn 101 3 := ⟨(wa_4 (List.mem_of_getElem? (i := 224) (by decide +kernel)) (by decide +kernel)), st_X7_isIn, (wa_1 (List.mem_of_getElem? (i := 8) (by decide +kernel)) (by decide +kernel)), co_X7_isIn, yy_X7_isIn, ⟨by decide, by decide⟩⟩
theorem e_X7_pass_192 : EV md_X7_pass md_X7_today 192 7 0 := ⟨(wa_5 (List.mem_of_getElem? (i := 26) (by decide +kernel)) (by decide +kernel)), im_X7_today, se_X7_today, (wa_1 (List.mem_of_getElem? (i := 8) (by decide +kernel)) (by decide +kernel)), co_X7_today, yy_X7_today, ⟨by decide, by decide⟩, _, rfl, rfl⟩
theorem e_X7_pass_299 : EV md_X7_pass md_X7_snap 299 7 0 := ⟨(wa_5 (List.mem_of_getElem? (i := 222) (by decide +kernel)) (by decide +kernel)), im_X7_snap, se_X7_snap, (wa_1 (List.mem_of_getElem? (i := 8) (by decide +kernel)) (by decide +kernel)), co_X7_snap, yy_X7_snap, ⟨by decide, by decide⟩, _, rfl, rfl⟩
theorem im_X7_ends : Cond.instanceMethod yX7_ends ∈ wsA := (wa_6 (List.mem_of_getElem? (i := 16) (by decide +kernel)) (by decide +kernel))
theorem se_X7_ends : Cond.selects RX7 yX7_ends yX7_ends ∈ wsA := (wa_p (List.mem_of_getElem? (i := 82) (by decide +kernel)) (by decide +kernel))
theorem co_X7_ends : Cond.code yX7_ends cX7_ends 3 (none) ∈ wsA := (wa_6 (List.mem_of_getElem? (i := 17) rfl) (by decide +kernel))
theorem yy_X7_ends : yX7_ends.cls = RX7 ∧ yX7_ends.cls ≠ "java/lang/invoke/MethodHandle" ∧ yX7_ends.cls ≠ "java/lang/invoke/VarHandle" ∧ (parseMethodDescriptor yX7_ends.desc).map (fun d => d.parameters.length) = some 0 := by decide +kernel
theorem e_X7_pass_305 : EV md_X7_pass md_X7_ends 305 7 0 := ⟨(wa_6 (List.mem_of_getElem? (i := 14) (by decide +kernel)) (by decide +kernel)), im_X7_ends, se_X7_ends, (wa_1 (List.mem_of_getElem? (i := 8) (by decide +kernel)) (by decide +kernel)), co_X7_ends, yy_X7_ends, ⟨by decide, by decide⟩, _, rfl, rfl⟩
