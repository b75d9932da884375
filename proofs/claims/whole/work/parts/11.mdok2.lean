set_option maxRecDepth 100000 in
theorem im_X12_named : Cond.instanceMethod mX12_named.1 ∈ gw := in_gwi 1379 (by decide +kernel) rfl
set_option maxRecDepth 100000 in
theorem se_X12_named : Cond.selects mX12_named.1.cls mX12_named.1 mX12_named.1 ∈ gw := in_gwi 64 (by decide +kernel) rfl
set_option maxRecDepth 100000 in
theorem ok_X12_step : MOk mX12_step 2 := ⟨in_gwi 1361 rfl rfl, in_gwi 78 (by decide +kernel) rfl, ⟨by decide +kernel, by decide +kernel, by decide +kernel⟩, by decide +kernel, by decide⟩
set_option maxRecDepth 100000 in
theorem im_X12_step : Cond.instanceMethod mX12_step.1 ∈ gw := in_gwi 1360 (by decide +kernel) rfl
set_option maxRecDepth 100000 in
theorem se_X12_step : Cond.selects mX12_step.1.cls mX12_step.1 mX12_step.1 ∈ gw := in_gwi 60 (by decide +kernel) rfl
set_option maxRecDepth 100000 in
theorem ok_X12_hold : MOk mX12_hold 1 := ⟨in_gwi 1365 rfl rfl, in_gwi 78 (by decide +kernel) rfl, ⟨by decide +kernel, by decide +kernel, by decide +kernel⟩, by decide +kernel, by decide⟩
set_option maxRecDepth 100000 in
theorem im_X12_hold : Cond.instanceMethod mX12_hold.1 ∈ gw := in_gwi 1364 (by decide +kernel) rfl
set_option maxRecDepth 100000 in
theorem se_X12_hold : Cond.selects mX12_hold.1.cls mX12_hold.1 mX12_hold.1 ∈ gw := in_gwi 61 (by decide +kernel) rfl
set_option maxRecDepth 100000 in
theorem ok_X12_pop : MOk mX12_pop 0 := ⟨in_gwi 1357 rfl rfl, in_gwi 78 (by decide +kernel) rfl, ⟨by decide +kernel, by decide +kernel, by decide +kernel⟩, by decide +kernel, by decide⟩
set_option maxRecDepth 100000 in
theorem im_X12_pop : Cond.instanceMethod mX12_pop.1 ∈ gw := in_gwi 1356 (by decide +kernel) rfl
set_option maxRecDepth 100000 in
theorem se_X12_pop : Cond.selects mX12_pop.1.cls mX12_pop.1 mX12_pop.1 ∈ gw := in_gwi 59 (by decide +kernel) rfl
set_option maxRecDepth 100000 in
theorem ok_X12_settle : MOk mX12_settle 1 := ⟨in_gwi 1353 rfl rfl, in_gwi 78 (by decide +kernel) rfl, ⟨by decide +kernel, by decide +kernel, by decide +kernel⟩, by decide +kernel, by decide⟩
set_option maxRecDepth 100000 in
theorem im_X12_settle : Cond.instanceMethod mX12_settle.1 ∈ gw := in_gwi 1352 (by decide +kernel) rfl
set_option maxRecDepth 100000 in
theorem se_X12_settle : Cond.selects mX12_settle.1.cls mX12_settle.1 mX12_settle.1 ∈ gw := in_gwi 58 (by decide +kernel) rfl
set_option maxRecDepth 100000 in
theorem ok_X12_isOpen : MOk mX12_isOpen 0 := ⟨in_gwi 1345 rfl rfl, in_gwi 78 (by decide +kernel) rfl, ⟨by decide +kernel, by decide +kernel, by decide +kernel⟩, by decide +kernel, by decide⟩
set_option maxRecDepth 100000 in
theorem im_X12_isOpen : Cond.instanceMethod mX12_isOpen.1 ∈ gw := in_gwi 1344 (by decide +kernel) rfl
set_option maxRecDepth 100000 in
theorem se_X12_isOpen : Cond.selects mX12_isOpen.1.cls mX12_isOpen.1 mX12_isOpen.1 ∈ gw := in_gwi 56 (by decide +kernel) rfl
set_option maxRecDepth 100000 in
theorem ok_X12_readE : MOk mX12_readE 1 := ⟨in_gwi 1341 rfl rfl, in_gwi 78 (by decide +kernel) rfl, ⟨by decide +kernel, by decide +kernel, by decide +kernel⟩, by decide +kernel, by decide⟩
set_option maxRecDepth 100000 in
theorem im_X12_readE : Cond.instanceMethod mX12_readE.1 ∈ gw := in_gwi 1340 (by decide +kernel) rfl
set_option maxRecDepth 100000 in
theorem se_X12_readE : Cond.selects mX12_readE.1.cls mX12_readE.1 mX12_readE.1 ∈ gw := in_gwi 55 (by decide +kernel) rfl
set_option maxRecDepth 100000 in
theorem ok_X12_operand : MOk mX12_operand 1 := ⟨in_gwi 1375 rfl rfl, in_gwi 78 (by decide +kernel) rfl, ⟨by decide +kernel, by decide +kernel, by decide +kernel⟩, by decide +kernel, by decide⟩
set_option maxRecDepth 100000 in
theorem im_X12_operand : Cond.instanceMethod mX12_operand.1 ∈ gw := in_gwi 1374 (by decide +kernel) rfl
set_option maxRecDepth 100000 in
theorem se_X12_operand : Cond.selects mX12_operand.1.cls mX12_operand.1 mX12_operand.1 ∈ gw := in_gwi 63 (by decide +kernel) rfl
set_option maxRecDepth 100000 in
theorem ok_X12_sign : MOk mX12_sign 0 := ⟨in_gwi 1349 rfl rfl, in_gwi 78 (by decide +kernel) rfl, ⟨by decide +kernel, by decide +kernel, by decide +kernel⟩, by decide +kernel, by decide⟩
set_option maxRecDepth 100000 in
theorem im_X12_sign : Cond.instanceMethod mX12_sign.1 ∈ gw := in_gwi 1348 (by decide +kernel) rfl
set_option maxRecDepth 100000 in
theorem se_X12_sign : Cond.selects mX12_sign.1.cls mX12_sign.1 mX12_sign.1 ∈ gw := in_gwi 57 (by decide +kernel) rfl
set_option maxRecDepth 100000 in
theorem ok_X12_settleOnes : MOk mX12_settleOnes 1 := ⟨in_gwi 1371 rfl rfl, in_gwi 78 (by decide +kernel) rfl, ⟨by decide +kernel, by decide +kernel, by decide +kernel⟩, by decide +kernel, by decide⟩
set_option maxRecDepth 100000 in
theorem im_X12_settleOnes : Cond.instanceMethod mX12_settleOnes.1 ∈ gw := in_gwi 1370 (by decide +kernel) rfl
set_option maxRecDepth 100000 in
theorem se_X12_settleOnes : Cond.selects mX12_settleOnes.1.cls mX12_settleOnes.1 mX12_settleOnes.1 ∈ gw := in_gwi 62 (by decide +kernel) rfl
set_option maxRecDepth 100000 in
theorem ok_X12_prices : MOk mX12_prices 0 := ⟨in_gwi 1310 rfl rfl, in_gwi 78 (by decide +kernel) rfl, ⟨by decide +kernel, by decide +kernel, by decide +kernel⟩, by decide +kernel, by decide⟩
set_option maxRecDepth 100000 in
theorem im_X12_prices : Cond.instanceMethod mX12_prices.1 ∈ gw := in_gwi 1308 (by decide +kernel) rfl
set_option maxRecDepth 100000 in
theorem se_X12_prices : Cond.selects mX12_prices.1.cls mX12_prices.1 mX12_prices.1 ∈ gw := in_gwi 1309 (by decide +kernel) rfl
set_option maxRecDepth 100000 in
theorem ok_X12_fault : MOk mX12_fault 1 := ⟨in_gwi 1390 rfl rfl, in_gwi 78 (by decide +kernel) rfl, ⟨by decide +kernel, by decide +kernel, by decide +kernel⟩, by decide +kernel, by decide⟩
set_option maxRecDepth 100000 in
theorem im_X12_fault : Cond.instanceMethod mX12_fault.1 ∈ gw := in_gwi 1388 (by decide +kernel) rfl
set_option maxRecDepth 100000 in
theorem se_X12_fault : Cond.selects mX12_fault.1.cls mX12_fault.1 mX12_fault.1 ∈ gw := in_gwi 1389 (by decide +kernel) rfl
set_option maxRecDepth 100000 in
theorem ok_X12_worked : MOk mX12_worked 3 := ⟨in_gwi 1398 rfl rfl, in_gwi 78 (by decide +kernel) rfl, ⟨by decide +kernel, by decide +kernel, by decide +kernel⟩, by decide +kernel, by decide⟩
set_option maxRecDepth 100000 in
theorem im_X12_worked : Cond.instanceMethod mX12_worked.1 ∈ gw := in_gwi 1397 (by decide +kernel) rfl
set_option maxRecDepth 100000 in
theorem se_X12_worked : Cond.selects mX12_worked.1.cls mX12_worked.1 mX12_worked.1 ∈ gw := in_gwi 65 (by decide +kernel) rfl
set_option maxRecDepth 100000 in
theorem ok_X12_price : MOk mX12_price 2 := ⟨in_gwi 1394 rfl rfl, in_gwi 78 (by decide +kernel) rfl, ⟨by decide +kernel, by decide +kernel, by decide +kernel⟩, by decide +kernel, by decide⟩
set_option maxRecDepth 100000 in
theorem im_X12_price : Cond.instanceMethod mX12_price.1 ∈ gw := in_gwi 1392 (by decide +kernel) rfl
set_option maxRecDepth 100000 in
theorem se_X12_price : Cond.selects mX12_price.1.cls mX12_price.1 mX12_price.1 ∈ gw := in_gwi 1393 (by decide +kernel) rfl
set_option maxRecDepth 100000 in
theorem ok_X12_broken : MOk mX12_broken 4 := ⟨in_gwi 1402 rfl rfl, in_gwi 78 (by decide +kernel) rfl, ⟨by decide +kernel, by decide +kernel, by decide +kernel⟩, by decide +kernel, by decide⟩
set_option maxRecDepth 100000 in
theorem im_X12_broken : Cond.instanceMethod mX12_broken.1 ∈ gw := in_gwi 1400 (by decide +kernel) rfl
set_option maxRecDepth 100000 in
theorem se_X12_broken : Cond.selects mX12_broken.1.cls mX12_broken.1 mX12_broken.1 ∈ gw := in_gwi 1401 (by decide +kernel) rfl
set_option maxRecDepth 100000 in
theorem ok_X12_untell : MOk mX12_untell 2 := ⟨in_gwi 1406 rfl rfl, in_gwi 78 (by decide +kernel) rfl, ⟨by decide +kernel, by decide +kernel, by decide +kernel⟩, by decide +kernel, by decide⟩
set_option maxRecDepth 100000 in
theorem im_X12_untell : Cond.instanceMethod mX12_untell.1 ∈ gw := in_gwi 1404 (by decide +kernel) rfl
set_option maxRecDepth 100000 in
theorem se_X12_untell : Cond.selects mX12_untell.1.cls mX12_untell.1 mX12_untell.1 ∈ gw := in_gwi 1405 (by decide +kernel) rfl
set_option maxRecDepth 100000 in
theorem ok_X12_isWhole : MOk mX12_isWhole 3 := ⟨in_gwi 1414 rfl rfl, in_gwi 78 (by decide +kernel) rfl, ⟨by decide +kernel, by decide +kernel, by decide +kernel⟩, by decide +kernel, by decide⟩
set_option maxRecDepth 100000 in
theorem im_X12_isWhole : Cond.instanceMethod mX12_isWhole.1 ∈ gw := in_gwi 1413 (by decide +kernel) rfl
set_option maxRecDepth 100000 in
theorem se_X12_isWhole : Cond.selects mX12_isWhole.1.cls mX12_isWhole.1 mX12_isWhole.1 ∈ gw := in_gwi 66 (by decide +kernel) rfl
set_option maxRecDepth 100000 in
theorem ok_X12_whole : MOk mX12_whole 3 := ⟨in_gwi 1410 rfl rfl, in_gwi 78 (by decide +kernel) rfl, ⟨by decide +kernel, by decide +kernel, by decide +kernel⟩, by decide +kernel, by decide⟩
set_option maxRecDepth 100000 in
theorem im_X12_whole : Cond.instanceMethod mX12_whole.1 ∈ gw := in_gwi 1408 (by decide +kernel) rfl
set_option maxRecDepth 100000 in
theorem se_X12_whole : Cond.selects mX12_whole.1.cls mX12_whole.1 mX12_whole.1 ∈ gw := in_gwi 1409 (by decide +kernel) rfl
set_option maxRecDepth 100000 in
theorem ok_X12_free : MOk mX12_free 4 := ⟨in_gwi 1418 rfl rfl, in_gwi 78 (by decide +kernel) rfl, ⟨by decide +kernel, by decide +kernel, by decide +kernel⟩, by decide +kernel, by decide⟩
set_option maxRecDepth 100000 in
theorem im_X12_free : Cond.instanceMethod mX12_free.1 ∈ gw := in_gwi 1416 (by decide +kernel) rfl
set_option maxRecDepth 100000 in
theorem se_X12_free : Cond.selects mX12_free.1.cls mX12_free.1 mX12_free.1 ∈ gw := in_gwi 1417 (by decide +kernel) rfl
set_option maxRecDepth 100000 in
theorem ok_X12_about : MOk mX12_about 1 := ⟨in_gwi 1422 rfl rfl, in_gwi 78 (by decide +kernel) rfl, ⟨by decide +kernel, by decide +kernel, by decide +kernel⟩, by decide +kernel, by decide⟩
set_option maxRecDepth 100000 in
theorem im_X12_about : Cond.instanceMethod mX12_about.1 ∈ gw := in_gwi 1420 (by decide +kernel) rfl
set_option maxRecDepth 100000 in
theorem se_X12_about : Cond.selects mX12_about.1.cls mX12_about.1 mX12_about.1 ∈ gw := in_gwi 1421 (by decide +kernel) rfl
set_option maxRecDepth 100000 in
theorem ok_J6_bitCount_0f7a4 : MOk mJ6_bitCount_0f7a4 1 := ⟨in_gwi 444 rfl rfl, in_gwi 80 (by decide +kernel) rfl, ⟨by decide +kernel, by decide +kernel, by decide +kernel⟩, by decide +kernel, by decide⟩
set_option maxRecDepth 100000 in
theorem st_J6_bitCount_0f7a4 : Cond.static mJ6_bitCount_0f7a4.1 ∈ gw := in_gwi 443 (by decide +kernel) rfl
set_option maxRecDepth 100000 in
theorem ok_J9_abs_0f7a4 : MOk mJ9_abs_0f7a4 1 := ⟨in_gwi 465 rfl rfl, in_gwi 81 (by decide +kernel) rfl, ⟨by decide +kernel, by decide +kernel, by decide +kernel⟩, by decide +kernel, by decide⟩
set_option maxRecDepth 100000 in
theorem st_J9_abs_0f7a4 : Cond.static mJ9_abs_0f7a4.1 ∈ gw := in_gwi 464 (by decide +kernel) rfl
set_option maxRecDepth 100000 in
theorem ok_J9_max_7cf53 : MOk mJ9_max_7cf53 2 := ⟨in_gwi 701 rfl rfl, in_gwi 81 (by decide +kernel) rfl, ⟨by decide +kernel, by decide +kernel, by decide +kernel⟩, by decide +kernel, by decide⟩
set_option maxRecDepth 100000 in
theorem st_J9_max_7cf53 : Cond.static mJ9_max_7cf53.1 ∈ gw := in_gwi 700 (by decide +kernel) rfl
set_option maxRecDepth 100000 in
theorem ok_J9_min_7cf53 : MOk mJ9_min_7cf53 2 := ⟨in_gwi 582 rfl rfl, in_gwi 81 (by decide +kernel) rfl, ⟨by decide +kernel, by decide +kernel, by decide +kernel⟩, by decide +kernel, by decide⟩
set_option maxRecDepth 100000 in
theorem st_J9_min_7cf53 : Cond.static mJ9_min_7cf53.1 ∈ gw := in_gwi 581 (by decide +kernel) rfl
set_option maxRecDepth 100000 in
theorem ok_J9_min_f86c9 : MOk mJ9_min_f86c9 2 := ⟨in_gwi 638 rfl rfl, in_gwi 81 (by decide +kernel) rfl, ⟨by decide +kernel, by decide +kernel, by decide +kernel⟩, by decide +kernel, by decide⟩
set_option maxRecDepth 100000 in
theorem st_J9_min_f86c9 : Cond.static mJ9_min_f86c9.1 ∈ gw := in_gwi 637 (by decide +kernel) rfl
set_option maxRecDepth 100000 in
theorem ok_J7_fill_53178 : MOk mJ7_fill_53178 2 := ⟨in_gwi 641 rfl rfl, in_gwi 83 (by decide +kernel) rfl, ⟨by decide +kernel, by decide +kernel, by decide +kernel⟩, by decide +kernel, by decide⟩
set_option maxRecDepth 100000 in
theorem st_J7_fill_53178 : Cond.static mJ7_fill_53178.1 ∈ gw := in_gwi 640 (by decide +kernel) rfl
set_option maxRecDepth 100000 in
theorem ok_J7_copyOf_59c91 : MOk mJ7_copyOf_59c91 2 := ⟨in_gwi 862 rfl rfl, in_gwi 83 (by decide +kernel) rfl, ⟨by decide +kernel, by decide +kernel, by decide +kernel⟩, by decide +kernel, by decide⟩
set_option maxRecDepth 100000 in
theorem st_J7_copyOf_59c91 : Cond.static mJ7_copyOf_59c91.1 ∈ gw := in_gwi 861 (by decide +kernel) rfl
set_option maxRecDepth 100000 in
theorem lo_RX0_3 : Cond.methodLink RX0 3 objectInit ∈ gw := in_gwi 285 (by decide +kernel) rfl
set_option maxRecDepth 100000 in
theorem fl_RX0_11 : FL RX0 11 0 0 := ⟨_, rfl, by decide, Or.inl (in_gwi 286 (by decide +kernel) rfl)⟩
set_option maxRecDepth 100000 in
theorem fl_RX0_15 : FL RX0 15 0 1 := ⟨_, rfl, by decide, Or.inl (in_gwi 287 (by decide +kernel) rfl)⟩
set_option maxRecDepth 100000 in
theorem fl_RX0_18 : FL RX0 18 0 2 := ⟨_, rfl, by decide, Or.inl (in_gwi 288 (by decide +kernel) rfl)⟩
set_option maxRecDepth 100000 in
theorem fl_RX0_21 : FL RX0 21 0 3 := ⟨_, rfl, by decide, Or.inl (in_gwi 289 (by decide +kernel) rfl)⟩
set_option maxRecDepth 100000 in
theorem fl_RX0_24 : FL RX0 24 0 4 := ⟨_, rfl, by decide, Or.inl (in_gwi 290 (by decide +kernel) rfl)⟩
set_option maxRecDepth 100000 in
theorem lk_RX0_27 : Link RX0 27 mX0_isCarriage.1 := Or.inl (in_gwi 922 (by decide +kernel) rfl)
set_option maxRecDepth 100000 in
theorem lk_RX0_31 : Link RX0 31 mX11_within.1 := Or.inr ⟨"CarriageHire", in_nwi 925 (by decide +kernel) rfl⟩
set_option maxRecDepth 100000 in
theorem fl_RX0_35 : FL RX0 35 0 5 := ⟨_, rfl, by decide, Or.inl (in_gwi 291 (by decide +kernel) rfl)⟩
set_option maxRecDepth 100000 in
theorem lk_RX0_39 : Link RX0 39 mX0_holds.1 := Or.inl (in_gwi 942 (by decide +kernel) rfl)
set_option maxRecDepth 100000 in
theorem lo_RX1_3 : Cond.methodLink RX1 3 objectInit ∈ gw := in_gwi 125 (by decide +kernel) rfl
set_option maxRecDepth 100000 in
theorem fl_RX1_9 : FL RX1 9 1 0 := ⟨_, rfl, by decide, Or.inl (in_gwi 128 (by decide +kernel) rfl)⟩
set_option maxRecDepth 100000 in
theorem cl_RX1_15 : Cond.classLink RX1 15 "CarriageHire$Job" ∈ gw := in_gwi 126 (by decide +kernel) rfl
set_option maxRecDepth 100000 in
theorem fl_RX1_17 : FL RX1 17 1 1 := ⟨_, rfl, by decide, Or.inl (in_gwi 129 (by decide +kernel) rfl)⟩
set_option maxRecDepth 100000 in
theorem fl_RX1_21 : FL RX1 21 1 2 := ⟨_, rfl, by decide, Or.inl (in_gwi 130 (by decide +kernel) rfl)⟩
set_option maxRecDepth 100000 in
theorem fl_RX1_24 : FL RX1 24 1 4 := ⟨_, rfl, by decide, Or.inl (in_gwi 135 (by decide +kernel) rfl)⟩
set_option maxRecDepth 100000 in
theorem lk_RX1_28 : Link RX1 28 mX1_isPlace.1 := Or.inl (in_gwi 417 (by decide +kernel) rfl)
set_option maxRecDepth 100000 in
theorem lk_RX1_32 : Link RX1 32 mX11_within.1 := Or.inr ⟨"CarriageHire", in_nwi 420 (by decide +kernel) rfl⟩
set_option maxRecDepth 100000 in
theorem fl_RX1_36 : FL RX1 36 1 5 := ⟨_, rfl, by decide, Or.inl (in_gwi 138 (by decide +kernel) rfl)⟩
set_option maxRecDepth 100000 in
theorem fl_RX1_39 : FL RX1 39 1 3 := ⟨_, rfl, by decide, Or.inl (in_gwi 132 (by decide +kernel) rfl)⟩
set_option maxRecDepth 100000 in
theorem lk_RX1_42 : Link RX1 42 mX3_init.1 := Or.inl (in_gwi 492 (by decide +kernel) rfl)
set_option maxRecDepth 100000 in
theorem lk_RX1_45 : Link RX1 45 mX1_putInOrder.1 := Or.inl (in_gwi 543 (by decide +kernel) rfl)
set_option maxRecDepth 100000 in
theorem fl_RX1_49 : FL RX1 49 3 3 := ⟨_, rfl, by decide, Or.inl (in_gwi 509 (by decide +kernel) rfl)⟩
set_option maxRecDepth 100000 in
theorem lk_RX1_52 : Link RX1 52 mX1_findKept.1 := Or.inl (in_gwi 555 (by decide +kernel) rfl)
set_option maxRecDepth 100000 in
theorem fl_RX1_56 : FL RX1 56 3 8 := ⟨_, rfl, by decide, Or.inl (in_gwi 522 (by decide +kernel) rfl)⟩
set_option maxRecDepth 100000 in
theorem lk_RX1_60 : Link RX1 60 mX1_find.1 := Or.inl (in_gwi 559 (by decide +kernel) rfl)
set_option maxRecDepth 100000 in
theorem fl_RX1_63 : FL RX1 63 3 1 := ⟨_, rfl, by decide, Or.inl (in_gwi 501 (by decide +kernel) rfl)⟩
set_option maxRecDepth 100000 in
theorem fl_RX1_66 : FL RX1 66 3 2 := ⟨_, rfl, by decide, Or.inl (in_gwi 505 (by decide +kernel) rfl)⟩
set_option maxRecDepth 100000 in
theorem lk_RX1_69 : Link RX1 69 mX1_minutesBetween.1 := Or.inl (in_gwi 572 (by decide +kernel) rfl)
set_option maxRecDepth 100000 in
theorem fl_RX1_73 : FL RX1 73 3 4 := ⟨_, rfl, by decide, Or.inl (in_gwi 513 (by decide +kernel) rfl)⟩
set_option maxRecDepth 100000 in
theorem lk_RX1_76 : Link RX1 76 mX1_endOf.1 := Or.inl (in_gwi 592 (by decide +kernel) rfl)
set_option maxRecDepth 100000 in
theorem fl_RX1_80 : FL RX1 80 3 0 := ⟨_, rfl, by decide, Or.inl (in_gwi 498 (by decide +kernel) rfl)⟩
set_option maxRecDepth 100000 in
theorem lo_RX2_1 : Cond.methodLink RX2 1 objectInit ∈ gw := in_gwi 368 (by decide +kernel) rfl
set_option maxRecDepth 100000 in
theorem fl_RX2_7 : FL RX2 7 2 0 := ⟨_, rfl, by decide, Or.inl (in_gwi 369 (by decide +kernel) rfl)⟩
set_option maxRecDepth 100000 in
theorem fl_RX2_13 : FL RX2 13 2 1 := ⟨_, rfl, by decide, Or.inl (in_gwi 371 (by decide +kernel) rfl)⟩
set_option maxRecDepth 100000 in
theorem fl_RX2_16 : FL RX2 16 2 2 := ⟨_, rfl, by decide, Or.inl (in_gwi 373 (by decide +kernel) rfl)⟩
set_option maxRecDepth 100000 in
theorem fl_RX2_19 : FL RX2 19 2 3 := ⟨_, rfl, by decide, Or.inl (in_gwi 375 (by decide +kernel) rfl)⟩
set_option maxRecDepth 100000 in
theorem lo_RX3_1 : Cond.methodLink RX3 1 objectInit ∈ gw := in_gwi 495 (by decide +kernel) rfl
set_option maxRecDepth 100000 in
theorem fl_RX3_7 : FL RX3 7 3 0 := ⟨_, rfl, by decide, Or.inl (in_gwi 496 (by decide +kernel) rfl)⟩
set_option maxRecDepth 100000 in
theorem fl_RX3_13 : FL RX3 13 3 1 := ⟨_, rfl, by decide, Or.inl (in_gwi 499 (by decide +kernel) rfl)⟩
set_option maxRecDepth 100000 in
theorem fl_RX3_16 : FL RX3 16 3 2 := ⟨_, rfl, by decide, Or.inl (in_gwi 503 (by decide +kernel) rfl)⟩
set_option maxRecDepth 100000 in
theorem fl_RX3_19 : FL RX3 19 3 3 := ⟨_, rfl, by decide, Or.inl (in_gwi 507 (by decide +kernel) rfl)⟩
set_option maxRecDepth 100000 in
theorem fl_RX3_22 : FL RX3 22 3 4 := ⟨_, rfl, by decide, Or.inl (in_gwi 511 (by decide +kernel) rfl)⟩
set_option maxRecDepth 100000 in
theorem fl_RX3_25 : FL RX3 25 3 5 := ⟨_, rfl, by decide, Or.inl (in_gwi 514 (by decide +kernel) rfl)⟩
set_option maxRecDepth 100000 in
theorem fl_RX3_28 : FL RX3 28 3 6 := ⟨_, rfl, by decide, Or.inl (in_gwi 517 (by decide +kernel) rfl)⟩
set_option maxRecDepth 100000 in
theorem lo_RX4_5 : Cond.methodLink RX4 5 objectInit ∈ gw := in_gwi 158 (by decide +kernel) rfl
set_option maxRecDepth 100000 in
theorem fl_RX4_11 : FL RX4 11 4 1 := ⟨_, rfl, by decide, Or.inl (in_gwi 160 (by decide +kernel) rfl)⟩
set_option maxRecDepth 100000 in
theorem fl_RX4_15 : FL RX4 15 4 2 := ⟨_, rfl, by decide, Or.inl (in_gwi 161 (by decide +kernel) rfl)⟩
set_option maxRecDepth 100000 in
theorem fl_RX4_18 : FL RX4 18 4 3 := ⟨_, rfl, by decide, Or.inl (in_gwi 162 (by decide +kernel) rfl)⟩
set_option maxRecDepth 100000 in
theorem fl_RX4_22 : FL RX4 22 4 4 := ⟨_, rfl, by decide, Or.inl (in_gwi 163 (by decide +kernel) rfl)⟩
set_option maxRecDepth 100000 in
theorem fl_RX4_26 : FL RX4 26 4 0 := ⟨_, rfl, by decide, Or.inl (in_gwi 159 (by decide +kernel) rfl)⟩
set_option maxRecDepth 100000 in
theorem fl_RX4_30 : FL RX4 30 1 5 := ⟨_, rfl, by decide, Or.inr ⟨"CarriageHire", in_nwi 139 (by decide +kernel) rfl⟩⟩
set_option maxRecDepth 100000 in
theorem lk_RX4_35 : Link RX4 35 mX1_keptBits.1 := Or.inl (in_gwi 601 (by decide +kernel) rfl)
set_option maxRecDepth 100000 in
theorem lk_RX4_39 : Link RX4 39 mX4_weighChains.1 := Or.inl (in_gwi 605 (by decide +kernel) rfl)
set_option maxRecDepth 100000 in
theorem fl_RX4_43 : FL RX4 43 1 4 := ⟨_, rfl, by decide, Or.inr ⟨"CarriageHire", in_nwi 136 (by decide +kernel) rfl⟩⟩
set_option maxRecDepth 100000 in
theorem lk_RX4_46 : Link RX4 46 mX4_leastLay.1 := Or.inl (in_gwi 628 (by decide +kernel) rfl)
set_option maxRecDepth 100000 in
theorem lk_RX4_50 : Link RX4 50 mJ7_fill_53178.1 := Or.inl (in_gwi 639 (by decide +kernel) rfl)
set_option maxRecDepth 100000 in
theorem co_RX4_56 : Cond.constantLong RX4 56 2305843009213693952 ∈ gw := in_gwi 620 (by decide +kernel) rfl
set_option maxRecDepth 100000 in
theorem fl_RX4_58 : FL RX4 58 4 5 := ⟨_, rfl, by decide, Or.inl (in_gwi 164 (by decide +kernel) rfl)⟩
set_option maxRecDepth 100000 in
theorem fl_RX4_61 : FL RX4 61 4 6 := ⟨_, rfl, by decide, Or.inl (in_gwi 166 (by decide +kernel) rfl)⟩
set_option maxRecDepth 100000 in
theorem lk_RX4_64 : Link RX4 64 mX4_numberChains.1 := Or.inl (in_gwi 642 (by decide +kernel) rfl)
set_option maxRecDepth 100000 in
theorem lk_RX4_68 : Link RX4 68 mX4_chainKey.1 := Or.inl (in_gwi 609 (by decide +kernel) rfl)
set_option maxRecDepth 100000 in
theorem fl_RX4_72 : FL RX4 72 1 3 := ⟨_, rfl, by decide, Or.inr ⟨"CarriageHire", in_nwi 131 (by decide +kernel) rfl⟩⟩
set_option maxRecDepth 100000 in
theorem lk_RX4_75 : Link RX4 75 mX1_numberInOrder.1 := Or.inl (in_gwi 613 (by decide +kernel) rfl)
set_option maxRecDepth 100000 in
theorem lk_RX4_79 : Link RX4 79 mX1_find.1 := Or.inl (in_gwi 617 (by decide +kernel) rfl)
set_option maxRecDepth 100000 in
theorem lk_RX4_83 : Link RX4 83 mX11_hasBit.1 := Or.inr ⟨"CarriageHire", in_nwi 618 (by decide +kernel) rfl⟩
set_option maxRecDepth 100000 in
theorem lk_RX4_87 : Link RX4 87 mX1_mayFollow.1 := Or.inl (in_gwi 619 (by decide +kernel) rfl)
set_option maxRecDepth 100000 in
theorem fl_RX4_91 : FL RX4 91 3 2 := ⟨_, rfl, by decide, Or.inl (in_gwi 504 (by decide +kernel) rfl)⟩
set_option maxRecDepth 100000 in
theorem fl_RX4_96 : FL RX4 96 3 1 := ⟨_, rfl, by decide, Or.inl (in_gwi 500 (by decide +kernel) rfl)⟩
set_option maxRecDepth 100000 in
theorem lk_RX4_99 : Link RX4 99 mX1_minutesBetween.1 := Or.inl (in_gwi 621 (by decide +kernel) rfl)
set_option maxRecDepth 100000 in
theorem lk_RX4_103 : Link RX4 103 mX4_leastJobs.1 := Or.inl (in_gwi 622 (by decide +kernel) rfl)
set_option maxRecDepth 100000 in
theorem lk_RX4_106 : Link RX4 106 mX4_shiftOf.1 := Or.inl (in_gwi 625 (by decide +kernel) rfl)
set_option maxRecDepth 100000 in
theorem lk_RX4_109 : Link RX4 109 mX4_leastSplit.1 := Or.inl (in_gwi 632 (by decide +kernel) rfl)
set_option maxRecDepth 100000 in
theorem lk_RX4_112 : Link RX4 112 mJ9_min_f86c9.1 := Or.inl (in_gwi 636 (by decide +kernel) rfl)
set_option maxRecDepth 100000 in
theorem lo_RX5_1 : Cond.methodLink RX5 1 objectInit ∈ gw := in_gwi 311 (by decide +kernel) rfl
set_option maxRecDepth 100000 in
theorem fl_RX5_7 : FL RX5 7 5 0 := ⟨_, rfl, by decide, Or.inl (in_gwi 312 (by decide +kernel) rfl)⟩
set_option maxRecDepth 100000 in
theorem fl_RX5_13 : FL RX5 13 5 1 := ⟨_, rfl, by decide, Or.inl (in_gwi 314 (by decide +kernel) rfl)⟩
set_option maxRecDepth 100000 in
theorem fl_RX5_16 : FL RX5 16 5 2 := ⟨_, rfl, by decide, Or.inl (in_gwi 316 (by decide +kernel) rfl)⟩
set_option maxRecDepth 100000 in
theorem lk_RX5_19 : Link RX5 19 mJ9_min_7cf53.1 := Or.inl (in_gwi 580 (by decide +kernel) rfl)
set_option maxRecDepth 100000 in
theorem lo_RX6_3 : Cond.methodLink RX6 3 objectInit ∈ gw := in_gwi 221 (by decide +kernel) rfl
set_option maxRecDepth 100000 in
theorem fl_RX6_9 : FL RX6 9 6 1 := ⟨_, rfl, by decide, Or.inl (in_gwi 223 (by decide +kernel) rfl)⟩
set_option maxRecDepth 100000 in
theorem fl_RX6_15 : FL RX6 15 6 2 := ⟨_, rfl, by decide, Or.inl (in_gwi 224 (by decide +kernel) rfl)⟩
set_option maxRecDepth 100000 in
theorem fl_RX6_18 : FL RX6 18 6 3 := ⟨_, rfl, by decide, Or.inl (in_gwi 225 (by decide +kernel) rfl)⟩
set_option maxRecDepth 100000 in
theorem fl_RX6_21 : FL RX6 21 6 12 := ⟨_, rfl, by decide, Or.inl (in_gwi 235 (by decide +kernel) rfl)⟩
set_option maxRecDepth 100000 in
theorem fl_RX6_25 : FL RX6 25 6 0 := ⟨_, rfl, by decide, Or.inl (in_gwi 222 (by decide +kernel) rfl)⟩
set_option maxRecDepth 100000 in
theorem fl_RX6_29 : FL RX6 29 6 4 := ⟨_, rfl, by decide, Or.inl (in_gwi 226 (by decide +kernel) rfl)⟩
set_option maxRecDepth 100000 in
theorem fl_RX6_32 : FL RX6 32 6 5 := ⟨_, rfl, by decide, Or.inl (in_gwi 227 (by decide +kernel) rfl)⟩
set_option maxRecDepth 100000 in
theorem fl_RX6_35 : FL RX6 35 6 6 := ⟨_, rfl, by decide, Or.inl (in_gwi 228 (by decide +kernel) rfl)⟩
set_option maxRecDepth 100000 in
theorem fl_RX6_38 : FL RX6 38 6 7 := ⟨_, rfl, by decide, Or.inl (in_gwi 229 (by decide +kernel) rfl)⟩
set_option maxRecDepth 100000 in
theorem fl_RX6_41 : FL RX6 41 6 11 := ⟨_, rfl, by decide, Or.inl (in_gwi 233 (by decide +kernel) rfl)⟩
set_option maxRecDepth 100000 in
theorem lk_RX6_44 : Link RX6 44 mX6_advance.1 := Or.inl (in_gwi 765 (by decide +kernel) rfl)
set_option maxRecDepth 100000 in
theorem fl_RX6_47 : FL RX6 47 6 8 := ⟨_, rfl, by decide, Or.inl (in_gwi 230 (by decide +kernel) rfl)⟩
set_option maxRecDepth 100000 in
theorem lk_RX6_50 : Link RX6 50 mX6_readLine.1 := Or.inl (in_gwi 815 (by decide +kernel) rfl)
set_option maxRecDepth 100000 in
theorem cl_RX6_53 : Cond.classLink RX6 53 "CarriageHire$PriceList" ∈ gw := in_gwi 859 (by decide +kernel) rfl
set_option maxRecDepth 100000 in
theorem lk_RX6_55 : Link RX6 55 mJ7_copyOf_59c91.1 := Or.inl (in_gwi 860 (by decide +kernel) rfl)
set_option maxRecDepth 100000 in
theorem lk_RX6_61 : Link RX6 61 mX5_init.1 := Or.inl (in_gwi 874 (by decide +kernel) rfl)
set_option maxRecDepth 100000 in
theorem lk_RX6_64 : Link RX6 64 mX6_fail.1 := Or.inl (in_gwi 783 (by decide +kernel) rfl)
set_option maxRecDepth 100000 in
theorem lk_RX6_68 : Link RX6 68 mX6_readEither.1 := Or.inl (in_gwi 819 (by decide +kernel) rfl)
set_option maxRecDepth 100000 in
theorem lk_RX6_71 : Link RX6 71 mX6_expect.1 := Or.inl (in_gwi 855 (by decide +kernel) rfl)
set_option maxRecDepth 100000 in
theorem lk_RX6_74 : Link RX6 74 mX6_isTooDeep.1 := Or.inl (in_gwi 823 (by decide +kernel) rfl)
set_option maxRecDepth 100000 in
theorem lk_RX6_78 : Link RX6 78 mX6_readBoth.1 := Or.inl (in_gwi 827 (by decide +kernel) rfl)
set_option maxRecDepth 100000 in
theorem lk_RX6_81 : Link RX6 81 mX6_emit.1 := Or.inl (in_gwi 835 (by decide +kernel) rfl)
set_option maxRecDepth 100000 in
theorem lk_RX6_84 : Link RX6 84 mX6_readOne.1 := Or.inl (in_gwi 831 (by decide +kernel) rfl)
set_option maxRecDepth 100000 in
theorem lk_RX6_87 : Link RX6 87 mX6_readSum.1 := Or.inl (in_gwi 839 (by decide +kernel) rfl)
set_option maxRecDepth 100000 in
theorem lk_RX6_90 : Link RX6 90 mX6_readTerm.1 := Or.inl (in_gwi 843 (by decide +kernel) rfl)
set_option maxRecDepth 100000 in
theorem lk_RX6_93 : Link RX6 93 mX6_readUnit.1 := Or.inl (in_gwi 847 (by decide +kernel) rfl)
set_option maxRecDepth 100000 in
theorem lk_RX6_96 : Link RX6 96 mX6_readOperand.1 := Or.inl (in_gwi 851 (by decide +kernel) rfl)
set_option maxRecDepth 100000 in
theorem fl_RX6_99 : FL RX6 99 6 10 := ⟨_, rfl, by decide, Or.inl (in_gwi 232 (by decide +kernel) rfl)⟩
set_option maxRecDepth 100000 in
theorem fl_RX6_102 : FL RX6 102 6 9 := ⟨_, rfl, by decide, Or.inl (in_gwi 231 (by decide +kernel) rfl)⟩
set_option maxRecDepth 100000 in
theorem fl_RX6_105 : FL RX6 105 9 1 := ⟨_, rfl, by decide, Or.inr ⟨"CarriageHire", in_nwi 208 (by decide +kernel) rfl⟩⟩
set_option maxRecDepth 100000 in
theorem lk_RX6_110 : Link RX6 110 mX9_byteAt.1 := Or.inl (in_gwi 769 (by decide +kernel) rfl)
set_option maxRecDepth 100000 in
theorem lk_RX6_114 : Link RX6 114 mX6_isBlank.1 := Or.inl (in_gwi 773 (by decide +kernel) rfl)
set_option maxRecDepth 100000 in
theorem lk_RX6_117 : Link RX6 117 mX6_isLetter.1 := Or.inl (in_gwi 776 (by decide +kernel) rfl)
set_option maxRecDepth 100000 in
theorem lk_RX6_120 : Link RX6 120 mX6_takeWord.1 := Or.inl (in_gwi 779 (by decide +kernel) rfl)
set_option maxRecDepth 100000 in
theorem lk_RX6_123 : Link RX6 123 mX6_isDigit.1 := Or.inl (in_gwi 804 (by decide +kernel) rfl)
set_option maxRecDepth 100000 in
theorem lk_RX6_126 : Link RX6 126 mX6_takeNumber.1 := Or.inl (in_gwi 807 (by decide +kernel) rfl)
set_option maxRecDepth 100000 in
theorem lk_RX6_129 : Link RX6 129 mX6_isSign.1 := Or.inl (in_gwi 811 (by decide +kernel) rfl)
set_option maxRecDepth 100000 in
theorem lk_RX6_132 : Link RX6 132 mX6_wordToken.1 := Or.inl (in_gwi 787 (by decide +kernel) rfl)
set_option maxRecDepth 100000 in
theorem lk_RX6_136 : Link RX6 136 mX6_nameCode.1 := Or.inl (in_gwi 795 (by decide +kernel) rfl)
set_option maxRecDepth 100000 in
theorem co_RX6_139 : Cond.constantLong RX6 139 2003330414 ∈ gw := in_gwi 790 (by decide +kernel) rfl
set_option maxRecDepth 100000 in
theorem co_RX6_141 : Cond.constantLong RX6 141 482955846501 ∈ gw := in_gwi 791 (by decide +kernel) rfl
set_option maxRecDepth 100000 in
theorem co_RX6_143 : Cond.constantLong RX6 143 28530 ∈ gw := in_gwi 792 (by decide +kernel) rfl
set_option maxRecDepth 100000 in
theorem co_RX6_145 : Cond.constantLong RX6 145 6385252 ∈ gw := in_gwi 793 (by decide +kernel) rfl
set_option maxRecDepth 100000 in
theorem co_RX6_147 : Cond.constantLong RX6 147 7237492 ∈ gw := in_gwi 794 (by decide +kernel) rfl
set_option maxRecDepth 100000 in
theorem co_RX6_149 : Cond.constantLong RX6 149 1802071652 ∈ gw := in_gwi 798 (by decide +kernel) rfl
set_option maxRecDepth 100000 in
theorem co_RX6_151 : Cond.constantLong RX6 151 7823737 ∈ gw := in_gwi 799 (by decide +kernel) rfl
set_option maxRecDepth 100000 in
theorem co_RX6_153 : Cond.constantLong RX6 153 2002872692 ∈ gw := in_gwi 800 (by decide +kernel) rfl
set_option maxRecDepth 100000 in
theorem co_RX6_155 : Cond.constantLong RX6 155 422608071022 ∈ gw := in_gwi 801 (by decide +kernel) rfl
set_option maxRecDepth 100000 in
theorem co_RX6_157 : Cond.constantLong RX6 157 114827870823795 ∈ gw := in_gwi 802 (by decide +kernel) rfl
set_option maxRecDepth 100000 in
theorem co_RX6_159 : Cond.constantLong RX6 159 1818326117 ∈ gw := in_gwi 803 (by decide +kernel) rfl
set_option maxRecDepth 100000 in
theorem lk_RX6_161 : Link RX6 161 mX11_within.1 := Or.inr ⟨"CarriageHire", in_nwi 814 (by decide +kernel) rfl⟩
set_option maxRecDepth 100000 in
theorem lo_RX7_3 : Cond.methodLink RX7 3 objectInit ∈ gw := in_gwi 269 (by decide +kernel) rfl
set_option maxRecDepth 100000 in
theorem fl_RX7_9 : FL RX7 9 7 0 := ⟨_, rfl, by decide, Or.inl (in_gwi 270 (by decide +kernel) rfl)⟩
set_option maxRecDepth 100000 in
theorem fl_RX7_15 : FL RX7 15 7 1 := ⟨_, rfl, by decide, Or.inl (in_gwi 271 (by decide +kernel) rfl)⟩
set_option maxRecDepth 100000 in
theorem fl_RX7_18 : FL RX7 18 3 0 := ⟨_, rfl, by decide, Or.inl (in_gwi 497 (by decide +kernel) rfl)⟩
set_option maxRecDepth 100000 in
theorem fl_RX7_24 : FL RX7 24 3 4 := ⟨_, rfl, by decide, Or.inl (in_gwi 512 (by decide +kernel) rfl)⟩
set_option maxRecDepth 100000 in
theorem fl_RX7_27 : FL RX7 27 3 3 := ⟨_, rfl, by decide, Or.inl (in_gwi 508 (by decide +kernel) rfl)⟩
set_option maxRecDepth 100000 in
theorem fl_RX7_30 : FL RX7 30 3 5 := ⟨_, rfl, by decide, Or.inl (in_gwi 515 (by decide +kernel) rfl)⟩
set_option maxRecDepth 100000 in
theorem fl_RX7_33 : FL RX7 33 3 6 := ⟨_, rfl, by decide, Or.inl (in_gwi 518 (by decide +kernel) rfl)⟩
set_option maxRecDepth 100000 in
theorem lk_RX7_37 : Link RX7 37 mX5_countLines.1 := Or.inl (in_gwi 889 (by decide +kernel) rfl)
set_option maxRecDepth 100000 in
theorem fl_RX7_43 : FL RX7 43 5 1 := ⟨_, rfl, by decide, Or.inr ⟨"CarriageHire", in_nwi 315 (by decide +kernel) rfl⟩⟩
set_option maxRecDepth 100000 in
theorem fl_RX7_46 : FL RX7 46 5 2 := ⟨_, rfl, by decide, Or.inr ⟨"CarriageHire", in_nwi 317 (by decide +kernel) rfl⟩⟩
set_option maxRecDepth 100000 in
theorem fl_RX7_49 : FL RX7 49 5 0 := ⟨_, rfl, by decide, Or.inr ⟨"CarriageHire", in_nwi 313 (by decide +kernel) rfl⟩⟩
set_option maxRecDepth 100000 in
theorem lk_RX7_52 : Link RX7 52 mX7_valueOf.1 := Or.inl (in_gwi 890 (by decide +kernel) rfl)
set_option maxRecDepth 100000 in
theorem fl_RX7_56 : FL RX7 56 7 2 := ⟨_, rfl, by decide, Or.inl (in_gwi 272 (by decide +kernel) rfl)⟩
set_option maxRecDepth 100000 in
theorem lk_RX7_59 : Link RX7 59 mJ9_max_7cf53.1 := Or.inl (in_gwi 894 (by decide +kernel) rfl)
set_option maxRecDepth 100000 in
theorem lk_RX7_65 : Link RX7 65 mX7_step.1 := Or.inl (in_gwi 895 (by decide +kernel) rfl)
set_option maxRecDepth 100000 in
theorem lk_RX7_69 : Link RX7 69 mX7_pop.1 := Or.inl (in_gwi 907 (by decide +kernel) rfl)
set_option maxRecDepth 100000 in
theorem lk_RX7_72 : Link RX7 72 mX7_valueOfName.1 := Or.inl (in_gwi 899 (by decide +kernel) rfl)
set_option maxRecDepth 100000 in
theorem lk_RX7_76 : Link RX7 76 mX7_push.1 := Or.inl (in_gwi 903 (by decide +kernel) rfl)
set_option maxRecDepth 100000 in
theorem lk_RX7_79 : Link RX7 79 mX7_joined.1 := Or.inl (in_gwi 911 (by decide +kernel) rfl)
set_option maxRecDepth 100000 in
theorem lo_RX8_3 : Cond.methodLink RX8 3 objectInit ∈ gw := in_gwi 98 (by decide +kernel) rfl
set_option maxRecDepth 100000 in
theorem cl_RX8_9 : Cond.classLink RX8 9 "CarriageHire$Horse" ∈ gw := in_gwi 99 (by decide +kernel) rfl
set_option maxRecDepth 100000 in
theorem fl_RX8_11 : FL RX8 11 8 0 := ⟨_, rfl, by decide, Or.inl (in_gwi 101 (by decide +kernel) rfl)⟩
set_option maxRecDepth 100000 in
theorem fl_RX8_17 : FL RX8 17 8 1 := ⟨_, rfl, by decide, Or.inl (in_gwi 102 (by decide +kernel) rfl)⟩
set_option maxRecDepth 100000 in
theorem fl_RX8_21 : FL RX8 21 8 3 := ⟨_, rfl, by decide, Or.inl (in_gwi 106 (by decide +kernel) rfl)⟩
set_option maxRecDepth 100000 in
theorem fl_RX8_25 : FL RX8 25 8 4 := ⟨_, rfl, by decide, Or.inl (in_gwi 107 (by decide +kernel) rfl)⟩
set_option maxRecDepth 100000 in
theorem lk_RX8_28 : Link RX8 28 mX11_within.1 := Or.inr ⟨"CarriageHire", in_nwi 361 (by decide +kernel) rfl⟩
set_option maxRecDepth 100000 in
theorem fl_RX8_32 : FL RX8 32 8 2 := ⟨_, rfl, by decide, Or.inl (in_gwi 103 (by decide +kernel) rfl)⟩
set_option maxRecDepth 100000 in
theorem lk_RX8_35 : Link RX8 35 mX2_init.1 := Or.inl (in_gwi 365 (by decide +kernel) rfl)
set_option maxRecDepth 100000 in
theorem lk_RX8_38 : Link RX8 38 mX8_has.1 := Or.inl (in_gwi 397 (by decide +kernel) rfl)
set_option maxRecDepth 100000 in
theorem fl_RX8_42 : FL RX8 42 2 4 := ⟨_, rfl, by decide, Or.inl (in_gwi 377 (by decide +kernel) rfl)⟩
set_option maxRecDepth 100000 in
theorem fl_RX8_46 : FL RX8 46 2 3 := ⟨_, rfl, by decide, Or.inl (in_gwi 376 (by decide +kernel) rfl)⟩
set_option maxRecDepth 100000 in
theorem fl_RX8_49 : FL RX8 49 2 1 := ⟨_, rfl, by decide, Or.inl (in_gwi 372 (by decide +kernel) rfl)⟩
set_option maxRecDepth 100000 in
theorem lk_RX8_52 : Link RX8 52 mJ9_abs_0f7a4.1 := Or.inl (in_gwi 463 (by decide +kernel) rfl)
set_option maxRecDepth 100000 in
theorem fl_RX8_58 : FL RX8 58 2 2 := ⟨_, rfl, by decide, Or.inl (in_gwi 374 (by decide +kernel) rfl)⟩
set_option maxRecDepth 100000 in
theorem lk_RX8_61 : Link RX8 61 mX11_hasBit.1 := Or.inr ⟨"CarriageHire", in_nwi 456 (by decide +kernel) rfl⟩
set_option maxRecDepth 100000 in
theorem lk_RX8_65 : Link RX8 65 mX8_alike.1 := Or.inl (in_gwi 459 (by decide +kernel) rfl)
set_option maxRecDepth 100000 in
theorem fl_RX8_69 : FL RX8 69 2 0 := ⟨_, rfl, by decide, Or.inl (in_gwi 370 (by decide +kernel) rfl)⟩
set_option maxRecDepth 100000 in
theorem lk_RX8_72 : Link RX8 72 mX8_pairUp.1 := Or.inl (in_gwi 474 (by decide +kernel) rfl)
set_option maxRecDepth 100000 in
theorem lk_RX8_75 : Link RX8 75 mJ6_bitCount_0f7a4.1 := Or.inl (in_gwi 478 (by decide +kernel) rfl)
set_option maxRecDepth 100000 in
theorem lk_RX8_80 : Link RX8 80 mX8_countFours.1 := Or.inl (in_gwi 479 (by decide +kernel) rfl)
set_option maxRecDepth 100000 in
theorem lo_RX9_3 : Cond.methodLink RX9 3 objectInit ∈ gw := in_gwi 205 (by decide +kernel) rfl
set_option maxRecDepth 100000 in
theorem fl_RX9_9 : FL RX9 9 9 0 := ⟨_, rfl, by decide, Or.inl (in_gwi 206 (by decide +kernel) rfl)⟩
set_option maxRecDepth 100000 in
theorem fl_RX9_15 : FL RX9 15 9 1 := ⟨_, rfl, by decide, Or.inl (in_gwi 207 (by decide +kernel) rfl)⟩
set_option maxRecDepth 100000 in
theorem lk_RX9_19 : Link RX9 19 mX9_append.1 := Or.inl (in_gwi 744 (by decide +kernel) rfl)
set_option maxRecDepth 100000 in
theorem lk_RX9_23 : Link RX9 23 mX11_within.1 := Or.inr ⟨"CarriageHire", in_nwi 756 (by decide +kernel) rfl⟩
