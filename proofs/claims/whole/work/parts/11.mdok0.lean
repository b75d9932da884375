set_option maxRecDepth 100000 in
theorem ok_X0_init : MOk mX0_init 0 := ⟨in_gwi 284 rfl rfl, in_gwi 76 (by decide +kernel) rfl, ⟨by decide +kernel, by decide +kernel, by decide +kernel⟩, by decide +kernel, by decide⟩
set_option maxRecDepth 100000 in
theorem im_X0_init : Cond.instanceMethod mX0_init.1 ∈ gw := in_gwi 283 (by decide +kernel) rfl
set_option maxRecDepth 100000 in
theorem ok_X0_enter : MOk mX0_enter 4 := ⟨in_gwi 921 rfl rfl, in_gwi 76 (by decide +kernel) rfl, ⟨by decide +kernel, by decide +kernel, by decide +kernel⟩, by decide +kernel, by decide⟩
set_option maxRecDepth 100000 in
theorem im_X0_enter : Cond.instanceMethod mX0_enter.1 ∈ gw := in_gwi 919 (by decide +kernel) rfl
set_option maxRecDepth 100000 in
theorem se_X0_enter : Cond.selects mX0_enter.1.cls mX0_enter.1 mX0_enter.1 ∈ gw := in_gwi 920 (by decide +kernel) rfl
set_option maxRecDepth 100000 in
theorem ok_X0_isCarriage : MOk mX0_isCarriage 1 := ⟨in_gwi 924 rfl rfl, in_gwi 76 (by decide +kernel) rfl, ⟨by decide +kernel, by decide +kernel, by decide +kernel⟩, by decide +kernel, by decide⟩
set_option maxRecDepth 100000 in
theorem st_X0_isCarriage : Cond.static mX0_isCarriage.1 ∈ gw := in_gwi 923 (by decide +kernel) rfl
set_option maxRecDepth 100000 in
theorem ok_X0_takeBack : MOk mX0_takeBack 2 := ⟨in_gwi 933 rfl rfl, in_gwi 76 (by decide +kernel) rfl, ⟨by decide +kernel, by decide +kernel, by decide +kernel⟩, by decide +kernel, by decide⟩
set_option maxRecDepth 100000 in
theorem im_X0_takeBack : Cond.instanceMethod mX0_takeBack.1 ∈ gw := in_gwi 931 (by decide +kernel) rfl
set_option maxRecDepth 100000 in
theorem se_X0_takeBack : Cond.selects mX0_takeBack.1.cls mX0_takeBack.1 mX0_takeBack.1 ∈ gw := in_gwi 932 (by decide +kernel) rfl
set_option maxRecDepth 100000 in
theorem ok_X0_wholeAt : MOk mX0_wholeAt 3 := ⟨in_gwi 941 rfl rfl, in_gwi 76 (by decide +kernel) rfl, ⟨by decide +kernel, by decide +kernel, by decide +kernel⟩, by decide +kernel, by decide⟩
set_option maxRecDepth 100000 in
theorem im_X0_wholeAt : Cond.instanceMethod mX0_wholeAt.1 ∈ gw := in_gwi 939 (by decide +kernel) rfl
set_option maxRecDepth 100000 in
theorem se_X0_wholeAt : Cond.selects mX0_wholeAt.1.cls mX0_wholeAt.1 mX0_wholeAt.1 ∈ gw := in_gwi 940 (by decide +kernel) rfl
set_option maxRecDepth 100000 in
theorem ok_X0_holds : MOk mX0_holds 3 := ⟨in_gwi 945 rfl rfl, in_gwi 76 (by decide +kernel) rfl, ⟨by decide +kernel, by decide +kernel, by decide +kernel⟩, by decide +kernel, by decide⟩
set_option maxRecDepth 100000 in
theorem im_X0_holds : Cond.instanceMethod mX0_holds.1 ∈ gw := in_gwi 944 (by decide +kernel) rfl
set_option maxRecDepth 100000 in
theorem se_X0_holds : Cond.selects mX0_holds.1.cls mX0_holds.1 mX0_holds.1 ∈ gw := in_gwi 33 (by decide +kernel) rfl
set_option maxRecDepth 100000 in
theorem ok_X0_firstFree : MOk mX0_firstFree 4 := ⟨in_gwi 953 rfl rfl, in_gwi 76 (by decide +kernel) rfl, ⟨by decide +kernel, by decide +kernel, by decide +kernel⟩, by decide +kernel, by decide⟩
set_option maxRecDepth 100000 in
theorem im_X0_firstFree : Cond.instanceMethod mX0_firstFree.1 ∈ gw := in_gwi 951 (by decide +kernel) rfl
set_option maxRecDepth 100000 in
theorem se_X0_firstFree : Cond.selects mX0_firstFree.1.cls mX0_firstFree.1 mX0_firstFree.1 ∈ gw := in_gwi 952 (by decide +kernel) rfl
set_option maxRecDepth 100000 in
theorem ok_X1_init : MOk mX1_init 0 := ⟨in_gwi 124 rfl rfl, in_gwi 70 (by decide +kernel) rfl, ⟨by decide +kernel, by decide +kernel, by decide +kernel⟩, by decide +kernel, by decide⟩
set_option maxRecDepth 100000 in
theorem im_X1_init : Cond.instanceMethod mX1_init.1 ∈ gw := in_gwi 123 (by decide +kernel) rfl
set_option maxRecDepth 100000 in
theorem ok_X1_setWay : MOk mX1_setWay 3 := ⟨in_gwi 416 rfl rfl, in_gwi 70 (by decide +kernel) rfl, ⟨by decide +kernel, by decide +kernel, by decide +kernel⟩, by decide +kernel, by decide⟩
set_option maxRecDepth 100000 in
theorem im_X1_setWay : Cond.instanceMethod mX1_setWay.1 ∈ gw := in_gwi 414 (by decide +kernel) rfl
set_option maxRecDepth 100000 in
theorem se_X1_setWay : Cond.selects mX1_setWay.1.cls mX1_setWay.1 mX1_setWay.1 ∈ gw := in_gwi 415 (by decide +kernel) rfl
set_option maxRecDepth 100000 in
theorem ok_X1_isPlace : MOk mX1_isPlace 1 := ⟨in_gwi 419 rfl rfl, in_gwi 70 (by decide +kernel) rfl, ⟨by decide +kernel, by decide +kernel, by decide +kernel⟩, by decide +kernel, by decide⟩
set_option maxRecDepth 100000 in
theorem st_X1_isPlace : Cond.static mX1_isPlace.1 ∈ gw := in_gwi 418 (by decide +kernel) rfl
set_option maxRecDepth 100000 in
theorem ok_X1_minutesBetween : MOk mX1_minutesBetween 2 := ⟨in_gwi 575 rfl rfl, in_gwi 70 (by decide +kernel) rfl, ⟨by decide +kernel, by decide +kernel, by decide +kernel⟩, by decide +kernel, by decide⟩
set_option maxRecDepth 100000 in
theorem im_X1_minutesBetween : Cond.instanceMethod mX1_minutesBetween.1 ∈ gw := in_gwi 573 (by decide +kernel) rfl
set_option maxRecDepth 100000 in
theorem se_X1_minutesBetween : Cond.selects mX1_minutesBetween.1.cls mX1_minutesBetween.1 mX1_minutesBetween.1 ∈ gw := in_gwi 574 (by decide +kernel) rfl
set_option maxRecDepth 100000 in
theorem ok_X1_setCarriages : MOk mX1_setCarriages 1 := ⟨in_gwi 428 rfl rfl, in_gwi 70 (by decide +kernel) rfl, ⟨by decide +kernel, by decide +kernel, by decide +kernel⟩, by decide +kernel, by decide⟩
set_option maxRecDepth 100000 in
theorem im_X1_setCarriages : Cond.instanceMethod mX1_setCarriages.1 ∈ gw := in_gwi 426 (by decide +kernel) rfl
set_option maxRecDepth 100000 in
theorem se_X1_setCarriages : Cond.selects mX1_setCarriages.1.cls mX1_setCarriages.1 mX1_setCarriages.1 ∈ gw := in_gwi 427 (by decide +kernel) rfl
set_option maxRecDepth 100000 in
theorem ok_X1_book : MOk mX1_book 7 := ⟨in_gwi 490 rfl rfl, in_gwi 70 (by decide +kernel) rfl, ⟨by decide +kernel, by decide +kernel, by decide +kernel⟩, by decide +kernel, by decide⟩
set_option maxRecDepth 100000 in
theorem im_X1_book : Cond.instanceMethod mX1_book.1 ∈ gw := in_gwi 488 (by decide +kernel) rfl
set_option maxRecDepth 100000 in
theorem se_X1_book : Cond.selects mX1_book.1.cls mX1_book.1 mX1_book.1 ∈ gw := in_gwi 489 (by decide +kernel) rfl
set_option maxRecDepth 100000 in
theorem ok_X1_putInOrder : MOk mX1_putInOrder 2 := ⟨in_gwi 546 rfl rfl, in_gwi 70 (by decide +kernel) rfl, ⟨by decide +kernel, by decide +kernel, by decide +kernel⟩, by decide +kernel, by decide⟩
set_option maxRecDepth 100000 in
theorem im_X1_putInOrder : Cond.instanceMethod mX1_putInOrder.1 ∈ gw := in_gwi 545 (by decide +kernel) rfl
set_option maxRecDepth 100000 in
theorem se_X1_putInOrder : Cond.selects mX1_putInOrder.1.cls mX1_putInOrder.1 mX1_putInOrder.1 ∈ gw := in_gwi 3 (by decide +kernel) rfl
set_option maxRecDepth 100000 in
theorem ok_X1_cancel : MOk mX1_cancel 1 := ⟨in_gwi 554 rfl rfl, in_gwi 70 (by decide +kernel) rfl, ⟨by decide +kernel, by decide +kernel, by decide +kernel⟩, by decide +kernel, by decide⟩
set_option maxRecDepth 100000 in
theorem im_X1_cancel : Cond.instanceMethod mX1_cancel.1 ∈ gw := in_gwi 552 (by decide +kernel) rfl
set_option maxRecDepth 100000 in
theorem se_X1_cancel : Cond.selects mX1_cancel.1.cls mX1_cancel.1 mX1_cancel.1 ∈ gw := in_gwi 553 (by decide +kernel) rfl
set_option maxRecDepth 100000 in
theorem ok_X1_find : MOk mX1_find 1 := ⟨in_gwi 562 rfl rfl, in_gwi 70 (by decide +kernel) rfl, ⟨by decide +kernel, by decide +kernel, by decide +kernel⟩, by decide +kernel, by decide⟩
set_option maxRecDepth 100000 in
theorem im_X1_find : Cond.instanceMethod mX1_find.1 ∈ gw := in_gwi 560 (by decide +kernel) rfl
set_option maxRecDepth 100000 in
theorem se_X1_find : Cond.selects mX1_find.1.cls mX1_find.1 mX1_find.1 ∈ gw := in_gwi 561 (by decide +kernel) rfl
set_option maxRecDepth 100000 in
theorem ok_X1_findKept : MOk mX1_findKept 1 := ⟨in_gwi 558 rfl rfl, in_gwi 70 (by decide +kernel) rfl, ⟨by decide +kernel, by decide +kernel, by decide +kernel⟩, by decide +kernel, by decide⟩
set_option maxRecDepth 100000 in
theorem im_X1_findKept : Cond.instanceMethod mX1_findKept.1 ∈ gw := in_gwi 556 (by decide +kernel) rfl
set_option maxRecDepth 100000 in
theorem se_X1_findKept : Cond.selects mX1_findKept.1.cls mX1_findKept.1 mX1_findKept.1 ∈ gw := in_gwi 557 (by decide +kernel) rfl
set_option maxRecDepth 100000 in
theorem ok_X1_numberInOrder : MOk mX1_numberInOrder 1 := ⟨in_gwi 616 rfl rfl, in_gwi 70 (by decide +kernel) rfl, ⟨by decide +kernel, by decide +kernel, by decide +kernel⟩, by decide +kernel, by decide⟩
set_option maxRecDepth 100000 in
theorem im_X1_numberInOrder : Cond.instanceMethod mX1_numberInOrder.1 ∈ gw := in_gwi 614 (by decide +kernel) rfl
set_option maxRecDepth 100000 in
theorem se_X1_numberInOrder : Cond.selects mX1_numberInOrder.1.cls mX1_numberInOrder.1 mX1_numberInOrder.1 ∈ gw := in_gwi 615 (by decide +kernel) rfl
set_option maxRecDepth 100000 in
theorem ok_X1_keptBits : MOk mX1_keptBits 0 := ⟨in_gwi 604 rfl rfl, in_gwi 70 (by decide +kernel) rfl, ⟨by decide +kernel, by decide +kernel, by decide +kernel⟩, by decide +kernel, by decide⟩
set_option maxRecDepth 100000 in
theorem im_X1_keptBits : Cond.instanceMethod mX1_keptBits.1 ∈ gw := in_gwi 602 (by decide +kernel) rfl
set_option maxRecDepth 100000 in
theorem se_X1_keptBits : Cond.selects mX1_keptBits.1.cls mX1_keptBits.1 mX1_keptBits.1 ∈ gw := in_gwi 603 (by decide +kernel) rfl
set_option maxRecDepth 100000 in
theorem ok_X1_endOf : MOk mX1_endOf 1 := ⟨in_gwi 571 rfl rfl, in_gwi 70 (by decide +kernel) rfl, ⟨by decide +kernel, by decide +kernel, by decide +kernel⟩, by decide +kernel, by decide⟩
set_option maxRecDepth 100000 in
theorem im_X1_endOf : Cond.instanceMethod mX1_endOf.1 ∈ gw := in_gwi 569 (by decide +kernel) rfl
set_option maxRecDepth 100000 in
theorem se_X1_endOf : Cond.selects mX1_endOf.1.cls mX1_endOf.1 mX1_endOf.1 ∈ gw := in_gwi 570 (by decide +kernel) rfl
set_option maxRecDepth 100000 in
theorem ok_X1_mayFollow : MOk mX1_mayFollow 2 := ⟨in_gwi 591 rfl rfl, in_gwi 70 (by decide +kernel) rfl, ⟨by decide +kernel, by decide +kernel, by decide +kernel⟩, by decide +kernel, by decide⟩
set_option maxRecDepth 100000 in
theorem im_X1_mayFollow : Cond.instanceMethod mX1_mayFollow.1 ∈ gw := in_gwi 589 (by decide +kernel) rfl
set_option maxRecDepth 100000 in
theorem se_X1_mayFollow : Cond.selects mX1_mayFollow.1.cls mX1_mayFollow.1 mX1_mayFollow.1 ∈ gw := in_gwi 590 (by decide +kernel) rfl
set_option maxRecDepth 100000 in
theorem ok_X1_costOf : MOk mX1_costOf 1 := ⟨in_gwi 698 rfl rfl, in_gwi 70 (by decide +kernel) rfl, ⟨by decide +kernel, by decide +kernel, by decide +kernel⟩, by decide +kernel, by decide⟩
set_option maxRecDepth 100000 in
theorem im_X1_costOf : Cond.instanceMethod mX1_costOf.1 ∈ gw := in_gwi 696 (by decide +kernel) rfl
set_option maxRecDepth 100000 in
theorem se_X1_costOf : Cond.selects mX1_costOf.1.cls mX1_costOf.1 mX1_costOf.1 ∈ gw := in_gwi 697 (by decide +kernel) rfl
set_option maxRecDepth 100000 in
theorem ok_X2_init : MOk mX2_init 4 := ⟨in_gwi 367 rfl rfl, in_gwi 79 (by decide +kernel) rfl, ⟨by decide +kernel, by decide +kernel, by decide +kernel⟩, by decide +kernel, by decide⟩
set_option maxRecDepth 100000 in
theorem im_X2_init : Cond.instanceMethod mX2_init.1 ∈ gw := in_gwi 366 (by decide +kernel) rfl
set_option maxRecDepth 100000 in
theorem ok_X3_init : MOk mX3_init 7 := ⟨in_gwi 494 rfl rfl, in_gwi 82 (by decide +kernel) rfl, ⟨by decide +kernel, by decide +kernel, by decide +kernel⟩, by decide +kernel, by decide⟩
set_option maxRecDepth 100000 in
theorem im_X3_init : Cond.instanceMethod mX3_init.1 ∈ gw := in_gwi 493 (by decide +kernel) rfl
set_option maxRecDepth 100000 in
theorem ok_X4_init : MOk mX4_init 1 := ⟨in_gwi 157 rfl rfl, in_gwi 71 (by decide +kernel) rfl, ⟨by decide +kernel, by decide +kernel, by decide +kernel⟩, by decide +kernel, by decide⟩
set_option maxRecDepth 100000 in
theorem im_X4_init : Cond.instanceMethod mX4_init.1 ∈ gw := in_gwi 156 (by decide +kernel) rfl
set_option maxRecDepth 100000 in
theorem ok_X4_chainNumber : MOk mX4_chainNumber 1 := ⟨in_gwi 657 rfl rfl, in_gwi 71 (by decide +kernel) rfl, ⟨by decide +kernel, by decide +kernel, by decide +kernel⟩, by decide +kernel, by decide⟩
set_option maxRecDepth 100000 in
theorem im_X4_chainNumber : Cond.instanceMethod mX4_chainNumber.1 ∈ gw := in_gwi 655 (by decide +kernel) rfl
set_option maxRecDepth 100000 in
theorem se_X4_chainNumber : Cond.selects mX4_chainNumber.1.cls mX4_chainNumber.1 mX4_chainNumber.1 ∈ gw := in_gwi 656 (by decide +kernel) rfl
set_option maxRecDepth 100000 in
theorem ok_X4_refresh : MOk mX4_refresh 0 := ⟨in_gwi 600 rfl rfl, in_gwi 71 (by decide +kernel) rfl, ⟨by decide +kernel, by decide +kernel, by decide +kernel⟩, by decide +kernel, by decide⟩
set_option maxRecDepth 100000 in
theorem im_X4_refresh : Cond.instanceMethod mX4_refresh.1 ∈ gw := in_gwi 598 (by decide +kernel) rfl
set_option maxRecDepth 100000 in
theorem se_X4_refresh : Cond.selects mX4_refresh.1.cls mX4_refresh.1 mX4_refresh.1 ∈ gw := in_gwi 599 (by decide +kernel) rfl
set_option maxRecDepth 100000 in
theorem ok_X4_weighChains : MOk mX4_weighChains 1 := ⟨in_gwi 608 rfl rfl, in_gwi 71 (by decide +kernel) rfl, ⟨by decide +kernel, by decide +kernel, by decide +kernel⟩, by decide +kernel, by decide⟩
set_option maxRecDepth 100000 in
theorem im_X4_weighChains : Cond.instanceMethod mX4_weighChains.1 ∈ gw := in_gwi 607 (by decide +kernel) rfl
set_option maxRecDepth 100000 in
theorem se_X4_weighChains : Cond.selects mX4_weighChains.1.cls mX4_weighChains.1 mX4_weighChains.1 ∈ gw := in_gwi 4 (by decide +kernel) rfl
set_option maxRecDepth 100000 in
theorem ok_X4_chainKey : MOk mX4_chainKey 1 := ⟨in_gwi 612 rfl rfl, in_gwi 71 (by decide +kernel) rfl, ⟨by decide +kernel, by decide +kernel, by decide +kernel⟩, by decide +kernel, by decide⟩
set_option maxRecDepth 100000 in
theorem im_X4_chainKey : Cond.instanceMethod mX4_chainKey.1 ∈ gw := in_gwi 611 (by decide +kernel) rfl
set_option maxRecDepth 100000 in
theorem se_X4_chainKey : Cond.selects mX4_chainKey.1.cls mX4_chainKey.1 mX4_chainKey.1 ∈ gw := in_gwi 5 (by decide +kernel) rfl
set_option maxRecDepth 100000 in
theorem ok_X4_leastJobs : MOk mX4_leastJobs 1 := ⟨in_gwi 624 rfl rfl, in_gwi 71 (by decide +kernel) rfl, ⟨by decide +kernel, by decide +kernel, by decide +kernel⟩, by decide +kernel, by decide⟩
set_option maxRecDepth 100000 in
theorem st_X4_leastJobs : Cond.static mX4_leastJobs.1 ∈ gw := in_gwi 623 (by decide +kernel) rfl
set_option maxRecDepth 100000 in
theorem ok_X4_shiftOf : MOk mX4_shiftOf 1 := ⟨in_gwi 627 rfl rfl, in_gwi 71 (by decide +kernel) rfl, ⟨by decide +kernel, by decide +kernel, by decide +kernel⟩, by decide +kernel, by decide⟩
set_option maxRecDepth 100000 in
theorem st_X4_shiftOf : Cond.static mX4_shiftOf.1 ∈ gw := in_gwi 626 (by decide +kernel) rfl
set_option maxRecDepth 100000 in
theorem ok_X4_leastLay : MOk mX4_leastLay 2 := ⟨in_gwi 631 rfl rfl, in_gwi 71 (by decide +kernel) rfl, ⟨by decide +kernel, by decide +kernel, by decide +kernel⟩, by decide +kernel, by decide⟩
set_option maxRecDepth 100000 in
theorem im_X4_leastLay : Cond.instanceMethod mX4_leastLay.1 ∈ gw := in_gwi 630 (by decide +kernel) rfl
set_option maxRecDepth 100000 in
theorem se_X4_leastLay : Cond.selects mX4_leastLay.1.cls mX4_leastLay.1 mX4_leastLay.1 ∈ gw := in_gwi 6 (by decide +kernel) rfl
set_option maxRecDepth 100000 in
theorem ok_X4_leastSplit : MOk mX4_leastSplit 1 := ⟨in_gwi 635 rfl rfl, in_gwi 71 (by decide +kernel) rfl, ⟨by decide +kernel, by decide +kernel, by decide +kernel⟩, by decide +kernel, by decide⟩
set_option maxRecDepth 100000 in
theorem im_X4_leastSplit : Cond.instanceMethod mX4_leastSplit.1 ∈ gw := in_gwi 634 (by decide +kernel) rfl
set_option maxRecDepth 100000 in
theorem se_X4_leastSplit : Cond.selects mX4_leastSplit.1.cls mX4_leastSplit.1 mX4_leastSplit.1 ∈ gw := in_gwi 7 (by decide +kernel) rfl
set_option maxRecDepth 100000 in
theorem ok_X4_numberChains : MOk mX4_numberChains 2 := ⟨in_gwi 645 rfl rfl, in_gwi 71 (by decide +kernel) rfl, ⟨by decide +kernel, by decide +kernel, by decide +kernel⟩, by decide +kernel, by decide⟩
set_option maxRecDepth 100000 in
theorem im_X4_numberChains : Cond.instanceMethod mX4_numberChains.1 ∈ gw := in_gwi 644 (by decide +kernel) rfl
set_option maxRecDepth 100000 in
theorem se_X4_numberChains : Cond.selects mX4_numberChains.1.cls mX4_numberChains.1 mX4_numberChains.1 ∈ gw := in_gwi 8 (by decide +kernel) rfl
set_option maxRecDepth 100000 in
theorem ok_X5_init : MOk mX5_init 3 := ⟨in_gwi 310 rfl rfl, in_gwi 77 (by decide +kernel) rfl, ⟨by decide +kernel, by decide +kernel, by decide +kernel⟩, by decide +kernel, by decide⟩
set_option maxRecDepth 100000 in
theorem im_X5_init : Cond.instanceMethod mX5_init.1 ∈ gw := in_gwi 309 (by decide +kernel) rfl
set_option maxRecDepth 100000 in
theorem ok_X5_countLines : MOk mX5_countLines 0 := ⟨in_gwi 579 rfl rfl, in_gwi 77 (by decide +kernel) rfl, ⟨by decide +kernel, by decide +kernel, by decide +kernel⟩, by decide +kernel, by decide⟩
set_option maxRecDepth 100000 in
theorem im_X5_countLines : Cond.instanceMethod mX5_countLines.1 ∈ gw := in_gwi 577 (by decide +kernel) rfl
set_option maxRecDepth 100000 in
theorem se_X5_countLines : Cond.selects mX5_countLines.1.cls mX5_countLines.1 mX5_countLines.1 ∈ gw := in_gwi 578 (by decide +kernel) rfl
set_option maxRecDepth 100000 in
theorem ok_X6_init : MOk mX6_init 1 := ⟨in_gwi 220 rfl rfl, in_gwi 74 (by decide +kernel) rfl, ⟨by decide +kernel, by decide +kernel, by decide +kernel⟩, by decide +kernel, by decide⟩
set_option maxRecDepth 100000 in
theorem im_X6_init : Cond.instanceMethod mX6_init.1 ∈ gw := in_gwi 219 (by decide +kernel) rfl
set_option maxRecDepth 100000 in
theorem ok_X6_readAll : MOk mX6_readAll 0 := ⟨in_gwi 764 rfl rfl, in_gwi 74 (by decide +kernel) rfl, ⟨by decide +kernel, by decide +kernel, by decide +kernel⟩, by decide +kernel, by decide⟩
set_option maxRecDepth 100000 in
theorem im_X6_readAll : Cond.instanceMethod mX6_readAll.1 ∈ gw := in_gwi 762 (by decide +kernel) rfl
set_option maxRecDepth 100000 in
theorem se_X6_readAll : Cond.selects mX6_readAll.1.cls mX6_readAll.1 mX6_readAll.1 ∈ gw := in_gwi 763 (by decide +kernel) rfl
set_option maxRecDepth 100000 in
theorem ok_X6_readLine : MOk mX6_readLine 0 := ⟨in_gwi 818 rfl rfl, in_gwi 74 (by decide +kernel) rfl, ⟨by decide +kernel, by decide +kernel, by decide +kernel⟩, by decide +kernel, by decide⟩
set_option maxRecDepth 100000 in
theorem im_X6_readLine : Cond.instanceMethod mX6_readLine.1 ∈ gw := in_gwi 817 (by decide +kernel) rfl
set_option maxRecDepth 100000 in
theorem se_X6_readLine : Cond.selects mX6_readLine.1.cls mX6_readLine.1 mX6_readLine.1 ∈ gw := in_gwi 17 (by decide +kernel) rfl
set_option maxRecDepth 100000 in
theorem ok_X6_readEither : MOk mX6_readEither 1 := ⟨in_gwi 822 rfl rfl, in_gwi 74 (by decide +kernel) rfl, ⟨by decide +kernel, by decide +kernel, by decide +kernel⟩, by decide +kernel, by decide⟩
set_option maxRecDepth 100000 in
theorem im_X6_readEither : Cond.instanceMethod mX6_readEither.1 ∈ gw := in_gwi 821 (by decide +kernel) rfl
set_option maxRecDepth 100000 in
theorem se_X6_readEither : Cond.selects mX6_readEither.1.cls mX6_readEither.1 mX6_readEither.1 ∈ gw := in_gwi 18 (by decide +kernel) rfl
set_option maxRecDepth 100000 in
theorem ok_X6_readBoth : MOk mX6_readBoth 1 := ⟨in_gwi 830 rfl rfl, in_gwi 74 (by decide +kernel) rfl, ⟨by decide +kernel, by decide +kernel, by decide +kernel⟩, by decide +kernel, by decide⟩
set_option maxRecDepth 100000 in
theorem im_X6_readBoth : Cond.instanceMethod mX6_readBoth.1 ∈ gw := in_gwi 829 (by decide +kernel) rfl
set_option maxRecDepth 100000 in
theorem se_X6_readBoth : Cond.selects mX6_readBoth.1.cls mX6_readBoth.1 mX6_readBoth.1 ∈ gw := in_gwi 20 (by decide +kernel) rfl
set_option maxRecDepth 100000 in
theorem ok_X6_readOne : MOk mX6_readOne 1 := ⟨in_gwi 834 rfl rfl, in_gwi 74 (by decide +kernel) rfl, ⟨by decide +kernel, by decide +kernel, by decide +kernel⟩, by decide +kernel, by decide⟩
set_option maxRecDepth 100000 in
theorem im_X6_readOne : Cond.instanceMethod mX6_readOne.1 ∈ gw := in_gwi 833 (by decide +kernel) rfl
set_option maxRecDepth 100000 in
theorem se_X6_readOne : Cond.selects mX6_readOne.1.cls mX6_readOne.1 mX6_readOne.1 ∈ gw := in_gwi 21 (by decide +kernel) rfl
set_option maxRecDepth 100000 in
theorem ok_X6_readSum : MOk mX6_readSum 1 := ⟨in_gwi 842 rfl rfl, in_gwi 74 (by decide +kernel) rfl, ⟨by decide +kernel, by decide +kernel, by decide +kernel⟩, by decide +kernel, by decide⟩
set_option maxRecDepth 100000 in
theorem im_X6_readSum : Cond.instanceMethod mX6_readSum.1 ∈ gw := in_gwi 841 (by decide +kernel) rfl
set_option maxRecDepth 100000 in
theorem se_X6_readSum : Cond.selects mX6_readSum.1.cls mX6_readSum.1 mX6_readSum.1 ∈ gw := in_gwi 23 (by decide +kernel) rfl
set_option maxRecDepth 100000 in
theorem ok_X6_readTerm : MOk mX6_readTerm 1 := ⟨in_gwi 846 rfl rfl, in_gwi 74 (by decide +kernel) rfl, ⟨by decide +kernel, by decide +kernel, by decide +kernel⟩, by decide +kernel, by decide⟩
set_option maxRecDepth 100000 in
theorem im_X6_readTerm : Cond.instanceMethod mX6_readTerm.1 ∈ gw := in_gwi 845 (by decide +kernel) rfl
set_option maxRecDepth 100000 in
theorem se_X6_readTerm : Cond.selects mX6_readTerm.1.cls mX6_readTerm.1 mX6_readTerm.1 ∈ gw := in_gwi 24 (by decide +kernel) rfl
set_option maxRecDepth 100000 in
theorem ok_X6_readUnit : MOk mX6_readUnit 1 := ⟨in_gwi 850 rfl rfl, in_gwi 74 (by decide +kernel) rfl, ⟨by decide +kernel, by decide +kernel, by decide +kernel⟩, by decide +kernel, by decide⟩
set_option maxRecDepth 100000 in
theorem im_X6_readUnit : Cond.instanceMethod mX6_readUnit.1 ∈ gw := in_gwi 849 (by decide +kernel) rfl
set_option maxRecDepth 100000 in
theorem se_X6_readUnit : Cond.selects mX6_readUnit.1.cls mX6_readUnit.1 mX6_readUnit.1 ∈ gw := in_gwi 25 (by decide +kernel) rfl
set_option maxRecDepth 100000 in
theorem ok_X6_readOperand : MOk mX6_readOperand 0 := ⟨in_gwi 854 rfl rfl, in_gwi 74 (by decide +kernel) rfl, ⟨by decide +kernel, by decide +kernel, by decide +kernel⟩, by decide +kernel, by decide⟩
set_option maxRecDepth 100000 in
theorem im_X6_readOperand : Cond.instanceMethod mX6_readOperand.1 ∈ gw := in_gwi 853 (by decide +kernel) rfl
set_option maxRecDepth 100000 in
theorem se_X6_readOperand : Cond.selects mX6_readOperand.1.cls mX6_readOperand.1 mX6_readOperand.1 ∈ gw := in_gwi 26 (by decide +kernel) rfl
set_option maxRecDepth 100000 in
theorem ok_X6_isTooDeep : MOk mX6_isTooDeep 1 := ⟨in_gwi 826 rfl rfl, in_gwi 74 (by decide +kernel) rfl, ⟨by decide +kernel, by decide +kernel, by decide +kernel⟩, by decide +kernel, by decide⟩
set_option maxRecDepth 100000 in
theorem im_X6_isTooDeep : Cond.instanceMethod mX6_isTooDeep.1 ∈ gw := in_gwi 825 (by decide +kernel) rfl
set_option maxRecDepth 100000 in
theorem se_X6_isTooDeep : Cond.selects mX6_isTooDeep.1.cls mX6_isTooDeep.1 mX6_isTooDeep.1 ∈ gw := in_gwi 19 (by decide +kernel) rfl
set_option maxRecDepth 100000 in
theorem ok_X6_expect : MOk mX6_expect 1 := ⟨in_gwi 858 rfl rfl, in_gwi 74 (by decide +kernel) rfl, ⟨by decide +kernel, by decide +kernel, by decide +kernel⟩, by decide +kernel, by decide⟩
set_option maxRecDepth 100000 in
theorem im_X6_expect : Cond.instanceMethod mX6_expect.1 ∈ gw := in_gwi 857 (by decide +kernel) rfl
set_option maxRecDepth 100000 in
theorem se_X6_expect : Cond.selects mX6_expect.1.cls mX6_expect.1 mX6_expect.1 ∈ gw := in_gwi 27 (by decide +kernel) rfl
set_option maxRecDepth 100000 in
theorem ok_X6_fail : MOk mX6_fail 1 := ⟨in_gwi 786 rfl rfl, in_gwi 74 (by decide +kernel) rfl, ⟨by decide +kernel, by decide +kernel, by decide +kernel⟩, by decide +kernel, by decide⟩
set_option maxRecDepth 100000 in
theorem im_X6_fail : Cond.instanceMethod mX6_fail.1 ∈ gw := in_gwi 785 (by decide +kernel) rfl
set_option maxRecDepth 100000 in
theorem se_X6_fail : Cond.selects mX6_fail.1.cls mX6_fail.1 mX6_fail.1 ∈ gw := in_gwi 15 (by decide +kernel) rfl
set_option maxRecDepth 100000 in
theorem ok_X6_emit : MOk mX6_emit 1 := ⟨in_gwi 838 rfl rfl, in_gwi 74 (by decide +kernel) rfl, ⟨by decide +kernel, by decide +kernel, by decide +kernel⟩, by decide +kernel, by decide⟩
set_option maxRecDepth 100000 in
theorem im_X6_emit : Cond.instanceMethod mX6_emit.1 ∈ gw := in_gwi 837 (by decide +kernel) rfl
set_option maxRecDepth 100000 in
theorem se_X6_emit : Cond.selects mX6_emit.1.cls mX6_emit.1 mX6_emit.1 ∈ gw := in_gwi 22 (by decide +kernel) rfl
set_option maxRecDepth 100000 in
theorem ok_X6_advance : MOk mX6_advance 0 := ⟨in_gwi 768 rfl rfl, in_gwi 74 (by decide +kernel) rfl, ⟨by decide +kernel, by decide +kernel, by decide +kernel⟩, by decide +kernel, by decide⟩
set_option maxRecDepth 100000 in
theorem im_X6_advance : Cond.instanceMethod mX6_advance.1 ∈ gw := in_gwi 767 (by decide +kernel) rfl
set_option maxRecDepth 100000 in
theorem se_X6_advance : Cond.selects mX6_advance.1.cls mX6_advance.1 mX6_advance.1 ∈ gw := in_gwi 13 (by decide +kernel) rfl
set_option maxRecDepth 100000 in
theorem ok_X6_takeWord : MOk mX6_takeWord 0 := ⟨in_gwi 782 rfl rfl, in_gwi 74 (by decide +kernel) rfl, ⟨by decide +kernel, by decide +kernel, by decide +kernel⟩, by decide +kernel, by decide⟩
set_option maxRecDepth 100000 in
theorem im_X6_takeWord : Cond.instanceMethod mX6_takeWord.1 ∈ gw := in_gwi 781 (by decide +kernel) rfl
set_option maxRecDepth 100000 in
theorem se_X6_takeWord : Cond.selects mX6_takeWord.1.cls mX6_takeWord.1 mX6_takeWord.1 ∈ gw := in_gwi 14 (by decide +kernel) rfl
set_option maxRecDepth 100000 in
theorem ok_X6_takeNumber : MOk mX6_takeNumber 0 := ⟨in_gwi 810 rfl rfl, in_gwi 74 (by decide +kernel) rfl, ⟨by decide +kernel, by decide +kernel, by decide +kernel⟩, by decide +kernel, by decide⟩
set_option maxRecDepth 100000 in
theorem im_X6_takeNumber : Cond.instanceMethod mX6_takeNumber.1 ∈ gw := in_gwi 809 (by decide +kernel) rfl
set_option maxRecDepth 100000 in
theorem se_X6_takeNumber : Cond.selects mX6_takeNumber.1.cls mX6_takeNumber.1 mX6_takeNumber.1 ∈ gw := in_gwi 16 (by decide +kernel) rfl
set_option maxRecDepth 100000 in
theorem ok_X6_wordToken : MOk mX6_wordToken 1 := ⟨in_gwi 789 rfl rfl, in_gwi 74 (by decide +kernel) rfl, ⟨by decide +kernel, by decide +kernel, by decide +kernel⟩, by decide +kernel, by decide⟩
set_option maxRecDepth 100000 in
theorem st_X6_wordToken : Cond.static mX6_wordToken.1 ∈ gw := in_gwi 788 (by decide +kernel) rfl
set_option maxRecDepth 100000 in
theorem ok_X6_nameCode : MOk mX6_nameCode 1 := ⟨in_gwi 797 rfl rfl, in_gwi 74 (by decide +kernel) rfl, ⟨by decide +kernel, by decide +kernel, by decide +kernel⟩, by decide +kernel, by decide⟩
set_option maxRecDepth 100000 in
theorem st_X6_nameCode : Cond.static mX6_nameCode.1 ∈ gw := in_gwi 796 (by decide +kernel) rfl
set_option maxRecDepth 100000 in
theorem ok_X6_isBlank : MOk mX6_isBlank 1 := ⟨in_gwi 775 rfl rfl, in_gwi 74 (by decide +kernel) rfl, ⟨by decide +kernel, by decide +kernel, by decide +kernel⟩, by decide +kernel, by decide⟩
set_option maxRecDepth 100000 in
theorem st_X6_isBlank : Cond.static mX6_isBlank.1 ∈ gw := in_gwi 774 (by decide +kernel) rfl
set_option maxRecDepth 100000 in
theorem ok_X6_isLetter : MOk mX6_isLetter 1 := ⟨in_gwi 778 rfl rfl, in_gwi 74 (by decide +kernel) rfl, ⟨by decide +kernel, by decide +kernel, by decide +kernel⟩, by decide +kernel, by decide⟩
set_option maxRecDepth 100000 in
theorem st_X6_isLetter : Cond.static mX6_isLetter.1 ∈ gw := in_gwi 777 (by decide +kernel) rfl
set_option maxRecDepth 100000 in
theorem ok_X6_isDigit : MOk mX6_isDigit 1 := ⟨in_gwi 806 rfl rfl, in_gwi 74 (by decide +kernel) rfl, ⟨by decide +kernel, by decide +kernel, by decide +kernel⟩, by decide +kernel, by decide⟩
set_option maxRecDepth 100000 in
theorem st_X6_isDigit : Cond.static mX6_isDigit.1 ∈ gw := in_gwi 805 (by decide +kernel) rfl
set_option maxRecDepth 100000 in
theorem ok_X6_isSign : MOk mX6_isSign 1 := ⟨in_gwi 813 rfl rfl, in_gwi 74 (by decide +kernel) rfl, ⟨by decide +kernel, by decide +kernel, by decide +kernel⟩, by decide +kernel, by decide⟩
set_option maxRecDepth 100000 in
theorem st_X6_isSign : Cond.static mX6_isSign.1 ∈ gw := in_gwi 812 (by decide +kernel) rfl
set_option maxRecDepth 100000 in
theorem ok_X7_init : MOk mX7_init 0 := ⟨in_gwi 268 rfl rfl, in_gwi 75 (by decide +kernel) rfl, ⟨by decide +kernel, by decide +kernel, by decide +kernel⟩, by decide +kernel, by decide⟩
set_option maxRecDepth 100000 in
theorem im_X7_init : Cond.instanceMethod mX7_init.1 ∈ gw := in_gwi 267 (by decide +kernel) rfl
set_option maxRecDepth 100000 in
theorem ok_X7_quote : MOk mX7_quote 3 := ⟨in_gwi 888 rfl rfl, in_gwi 75 (by decide +kernel) rfl, ⟨by decide +kernel, by decide +kernel, by decide +kernel⟩, by decide +kernel, by decide⟩
set_option maxRecDepth 100000 in
theorem im_X7_quote : Cond.instanceMethod mX7_quote.1 ∈ gw := in_gwi 886 (by decide +kernel) rfl
set_option maxRecDepth 100000 in
theorem se_X7_quote : Cond.selects mX7_quote.1.cls mX7_quote.1 mX7_quote.1 ∈ gw := in_gwi 887 (by decide +kernel) rfl
set_option maxRecDepth 100000 in
theorem ok_X7_valueOf : MOk mX7_valueOf 3 := ⟨in_gwi 893 rfl rfl, in_gwi 75 (by decide +kernel) rfl, ⟨by decide +kernel, by decide +kernel, by decide +kernel⟩, by decide +kernel, by decide⟩
set_option maxRecDepth 100000 in
theorem im_X7_valueOf : Cond.instanceMethod mX7_valueOf.1 ∈ gw := in_gwi 892 (by decide +kernel) rfl
set_option maxRecDepth 100000 in
theorem se_X7_valueOf : Cond.selects mX7_valueOf.1.cls mX7_valueOf.1 mX7_valueOf.1 ∈ gw := in_gwi 28 (by decide +kernel) rfl
set_option maxRecDepth 100000 in
theorem ok_X7_step : MOk mX7_step 1 := ⟨in_gwi 898 rfl rfl, in_gwi 75 (by decide +kernel) rfl, ⟨by decide +kernel, by decide +kernel, by decide +kernel⟩, by decide +kernel, by decide⟩
set_option maxRecDepth 100000 in
theorem im_X7_step : Cond.instanceMethod mX7_step.1 ∈ gw := in_gwi 897 (by decide +kernel) rfl
set_option maxRecDepth 100000 in
theorem se_X7_step : Cond.selects mX7_step.1.cls mX7_step.1 mX7_step.1 ∈ gw := in_gwi 29 (by decide +kernel) rfl
set_option maxRecDepth 100000 in
theorem ok_X7_valueOfName : MOk mX7_valueOfName 1 := ⟨in_gwi 902 rfl rfl, in_gwi 75 (by decide +kernel) rfl, ⟨by decide +kernel, by decide +kernel, by decide +kernel⟩, by decide +kernel, by decide⟩
set_option maxRecDepth 100000 in
theorem im_X7_valueOfName : Cond.instanceMethod mX7_valueOfName.1 ∈ gw := in_gwi 901 (by decide +kernel) rfl
set_option maxRecDepth 100000 in
theorem se_X7_valueOfName : Cond.selects mX7_valueOfName.1.cls mX7_valueOfName.1 mX7_valueOfName.1 ∈ gw := in_gwi 30 (by decide +kernel) rfl
set_option maxRecDepth 100000 in
theorem ok_X7_joined : MOk mX7_joined 3 := ⟨in_gwi 913 rfl rfl, in_gwi 75 (by decide +kernel) rfl, ⟨by decide +kernel, by decide +kernel, by decide +kernel⟩, by decide +kernel, by decide⟩
set_option maxRecDepth 100000 in
theorem st_X7_joined : Cond.static mX7_joined.1 ∈ gw := in_gwi 912 (by decide +kernel) rfl
set_option maxRecDepth 100000 in
theorem ok_X7_push : MOk mX7_push 1 := ⟨in_gwi 906 rfl rfl, in_gwi 75 (by decide +kernel) rfl, ⟨by decide +kernel, by decide +kernel, by decide +kernel⟩, by decide +kernel, by decide⟩
set_option maxRecDepth 100000 in
theorem im_X7_push : Cond.instanceMethod mX7_push.1 ∈ gw := in_gwi 905 (by decide +kernel) rfl
set_option maxRecDepth 100000 in
theorem se_X7_push : Cond.selects mX7_push.1.cls mX7_push.1 mX7_push.1 ∈ gw := in_gwi 31 (by decide +kernel) rfl
set_option maxRecDepth 100000 in
theorem ok_X7_pop : MOk mX7_pop 0 := ⟨in_gwi 910 rfl rfl, in_gwi 75 (by decide +kernel) rfl, ⟨by decide +kernel, by decide +kernel, by decide +kernel⟩, by decide +kernel, by decide⟩
set_option maxRecDepth 100000 in
theorem im_X7_pop : Cond.instanceMethod mX7_pop.1 ∈ gw := in_gwi 909 (by decide +kernel) rfl
set_option maxRecDepth 100000 in
theorem se_X7_pop : Cond.selects mX7_pop.1.cls mX7_pop.1 mX7_pop.1 ∈ gw := in_gwi 32 (by decide +kernel) rfl
set_option maxRecDepth 100000 in
theorem ok_X8_init : MOk mX8_init 0 := ⟨in_gwi 97 rfl rfl, in_gwi 69 (by decide +kernel) rfl, ⟨by decide +kernel, by decide +kernel, by decide +kernel⟩, by decide +kernel, by decide⟩
set_option maxRecDepth 100000 in
theorem im_X8_init : Cond.instanceMethod mX8_init.1 ∈ gw := in_gwi 96 (by decide +kernel) rfl
set_option maxRecDepth 100000 in
theorem ok_X8_add : MOk mX8_add 4 := ⟨in_gwi 360 rfl rfl, in_gwi 69 (by decide +kernel) rfl, ⟨by decide +kernel, by decide +kernel, by decide +kernel⟩, by decide +kernel, by decide⟩
set_option maxRecDepth 100000 in
theorem im_X8_add : Cond.instanceMethod mX8_add.1 ∈ gw := in_gwi 358 (by decide +kernel) rfl
set_option maxRecDepth 100000 in
theorem se_X8_add : Cond.selects mX8_add.1.cls mX8_add.1 mX8_add.1 ∈ gw := in_gwi 359 (by decide +kernel) rfl
set_option maxRecDepth 100000 in
theorem ok_X8_has : MOk mX8_has 1 := ⟨in_gwi 400 rfl rfl, in_gwi 69 (by decide +kernel) rfl, ⟨by decide +kernel, by decide +kernel, by decide +kernel⟩, by decide +kernel, by decide⟩
set_option maxRecDepth 100000 in
theorem im_X8_has : Cond.instanceMethod mX8_has.1 ∈ gw := in_gwi 398 (by decide +kernel) rfl
set_option maxRecDepth 100000 in
theorem se_X8_has : Cond.selects mX8_has.1.cls mX8_has.1 mX8_has.1 ∈ gw := in_gwi 399 (by decide +kernel) rfl
set_option maxRecDepth 100000 in
theorem ok_X8_hasAll : MOk mX8_hasAll 1 := ⟨in_gwi 451 rfl rfl, in_gwi 69 (by decide +kernel) rfl, ⟨by decide +kernel, by decide +kernel, by decide +kernel⟩, by decide +kernel, by decide⟩
set_option maxRecDepth 100000 in
theorem im_X8_hasAll : Cond.instanceMethod mX8_hasAll.1 ∈ gw := in_gwi 449 (by decide +kernel) rfl
set_option maxRecDepth 100000 in
theorem se_X8_hasAll : Cond.selects mX8_hasAll.1.cls mX8_hasAll.1 mX8_hasAll.1 ∈ gw := in_gwi 450 (by decide +kernel) rfl
set_option maxRecDepth 100000 in
theorem ok_X8_setLame : MOk mX8_setLame 2 := ⟨in_gwi 396 rfl rfl, in_gwi 69 (by decide +kernel) rfl, ⟨by decide +kernel, by decide +kernel, by decide +kernel⟩, by decide +kernel, by decide⟩
set_option maxRecDepth 100000 in
theorem im_X8_setLame : Cond.instanceMethod mX8_setLame.1 ∈ gw := in_gwi 394 (by decide +kernel) rfl
set_option maxRecDepth 100000 in
theorem se_X8_setLame : Cond.selects mX8_setLame.1.cls mX8_setLame.1 mX8_setLame.1 ∈ gw := in_gwi 395 (by decide +kernel) rfl
set_option maxRecDepth 100000 in
theorem ok_X8_setSpans : MOk mX8_setSpans 2 := ⟨in_gwi 408 rfl rfl, in_gwi 69 (by decide +kernel) rfl, ⟨by decide +kernel, by decide +kernel, by decide +kernel⟩, by decide +kernel, by decide⟩
set_option maxRecDepth 100000 in
theorem im_X8_setSpans : Cond.instanceMethod mX8_setSpans.1 ∈ gw := in_gwi 406 (by decide +kernel) rfl
set_option maxRecDepth 100000 in
theorem se_X8_setSpans : Cond.selects mX8_setSpans.1.cls mX8_setSpans.1 mX8_setSpans.1 ∈ gw := in_gwi 407 (by decide +kernel) rfl
set_option maxRecDepth 100000 in
theorem ok_X8_firstStrength : MOk mX8_firstStrength 1 := ⟨in_gwi 710 rfl rfl, in_gwi 69 (by decide +kernel) rfl, ⟨by decide +kernel, by decide +kernel, by decide +kernel⟩, by decide +kernel, by decide⟩
set_option maxRecDepth 100000 in
theorem im_X8_firstStrength : Cond.instanceMethod mX8_firstStrength.1 ∈ gw := in_gwi 708 (by decide +kernel) rfl
set_option maxRecDepth 100000 in
theorem se_X8_firstStrength : Cond.selects mX8_firstStrength.1.cls mX8_firstStrength.1 mX8_firstStrength.1 ∈ gw := in_gwi 709 (by decide +kernel) rfl
set_option maxRecDepth 100000 in
theorem ok_X8_difference : MOk mX8_difference 2 := ⟨in_gwi 735 rfl rfl, in_gwi 69 (by decide +kernel) rfl, ⟨by decide +kernel, by decide +kernel, by decide +kernel⟩, by decide +kernel, by decide⟩
set_option maxRecDepth 100000 in
theorem im_X8_difference : Cond.instanceMethod mX8_difference.1 ∈ gw := in_gwi 733 (by decide +kernel) rfl
set_option maxRecDepth 100000 in
theorem se_X8_difference : Cond.selects mX8_difference.1.cls mX8_difference.1 mX8_difference.1 ∈ gw := in_gwi 734 (by decide +kernel) rfl
set_option maxRecDepth 100000 in
theorem ok_X8_anyLame : MOk mX8_anyLame 1 := ⟨in_gwi 685 rfl rfl, in_gwi 69 (by decide +kernel) rfl, ⟨by decide +kernel, by decide +kernel, by decide +kernel⟩, by decide +kernel, by decide⟩
set_option maxRecDepth 100000 in
theorem im_X8_anyLame : Cond.instanceMethod mX8_anyLame.1 ∈ gw := in_gwi 683 (by decide +kernel) rfl
set_option maxRecDepth 100000 in
theorem se_X8_anyLame : Cond.selects mX8_anyLame.1.cls mX8_anyLame.1 mX8_anyLame.1 ∈ gw := in_gwi 684 (by decide +kernel) rfl
set_option maxRecDepth 100000 in
theorem ok_X8_allAlike : MOk mX8_allAlike 1 := ⟨in_gwi 455 rfl rfl, in_gwi 69 (by decide +kernel) rfl, ⟨by decide +kernel, by decide +kernel, by decide +kernel⟩, by decide +kernel, by decide⟩
set_option maxRecDepth 100000 in
theorem im_X8_allAlike : Cond.instanceMethod mX8_allAlike.1 ∈ gw := in_gwi 453 (by decide +kernel) rfl
set_option maxRecDepth 100000 in
theorem se_X8_allAlike : Cond.selects mX8_allAlike.1.cls mX8_allAlike.1 mX8_allAlike.1 ∈ gw := in_gwi 454 (by decide +kernel) rfl
set_option maxRecDepth 100000 in
theorem ok_X8_alike : MOk mX8_alike 2 := ⟨in_gwi 462 rfl rfl, in_gwi 69 (by decide +kernel) rfl, ⟨by decide +kernel, by decide +kernel, by decide +kernel⟩, by decide +kernel, by decide⟩
set_option maxRecDepth 100000 in
theorem im_X8_alike : Cond.instanceMethod mX8_alike.1 ∈ gw := in_gwi 461 (by decide +kernel) rfl
set_option maxRecDepth 100000 in
theorem se_X8_alike : Cond.selects mX8_alike.1.cls mX8_alike.1 mX8_alike.1 ∈ gw := in_gwi 0 (by decide +kernel) rfl
set_option maxRecDepth 100000 in
theorem ok_X8_countSets : MOk mX8_countSets 1 := ⟨in_gwi 473 rfl rfl, in_gwi 69 (by decide +kernel) rfl, ⟨by decide +kernel, by decide +kernel, by decide +kernel⟩, by decide +kernel, by decide⟩
set_option maxRecDepth 100000 in
theorem im_X8_countSets : Cond.instanceMethod mX8_countSets.1 ∈ gw := in_gwi 471 (by decide +kernel) rfl
set_option maxRecDepth 100000 in
theorem se_X8_countSets : Cond.selects mX8_countSets.1.cls mX8_countSets.1 mX8_countSets.1 ∈ gw := in_gwi 472 (by decide +kernel) rfl
set_option maxRecDepth 100000 in
theorem ok_X8_pairUp : MOk mX8_pairUp 0 := ⟨in_gwi 477 rfl rfl, in_gwi 69 (by decide +kernel) rfl, ⟨by decide +kernel, by decide +kernel, by decide +kernel⟩, by decide +kernel, by decide⟩
set_option maxRecDepth 100000 in
theorem im_X8_pairUp : Cond.instanceMethod mX8_pairUp.1 ∈ gw := in_gwi 476 (by decide +kernel) rfl
set_option maxRecDepth 100000 in
theorem se_X8_pairUp : Cond.selects mX8_pairUp.1.cls mX8_pairUp.1 mX8_pairUp.1 ∈ gw := in_gwi 1 (by decide +kernel) rfl
set_option maxRecDepth 100000 in
theorem ok_X8_countFours : MOk mX8_countFours 1 := ⟨in_gwi 482 rfl rfl, in_gwi 69 (by decide +kernel) rfl, ⟨by decide +kernel, by decide +kernel, by decide +kernel⟩, by decide +kernel, by decide⟩
set_option maxRecDepth 100000 in
theorem im_X8_countFours : Cond.instanceMethod mX8_countFours.1 ∈ gw := in_gwi 481 (by decide +kernel) rfl
set_option maxRecDepth 100000 in
theorem se_X8_countFours : Cond.selects mX8_countFours.1.cls mX8_countFours.1 mX8_countFours.1 ∈ gw := in_gwi 2 (by decide +kernel) rfl
set_option maxRecDepth 100000 in
theorem ok_X9_init : MOk mX9_init 0 := ⟨in_gwi 204 rfl rfl, in_gwi 73 (by decide +kernel) rfl, ⟨by decide +kernel, by decide +kernel, by decide +kernel⟩, by decide +kernel, by decide⟩
set_option maxRecDepth 100000 in
theorem im_X9_init : Cond.instanceMethod mX9_init.1 ∈ gw := in_gwi 203 (by decide +kernel) rfl
set_option maxRecDepth 100000 in
theorem ok_X9_appendAll : MOk mX9_appendAll 5 := ⟨in_gwi 743 rfl rfl, in_gwi 73 (by decide +kernel) rfl, ⟨by decide +kernel, by decide +kernel, by decide +kernel⟩, by decide +kernel, by decide⟩
set_option maxRecDepth 100000 in
theorem im_X9_appendAll : Cond.instanceMethod mX9_appendAll.1 ∈ gw := in_gwi 741 (by decide +kernel) rfl
set_option maxRecDepth 100000 in
theorem se_X9_appendAll : Cond.selects mX9_appendAll.1.cls mX9_appendAll.1 mX9_appendAll.1 ∈ gw := in_gwi 742 (by decide +kernel) rfl
set_option maxRecDepth 100000 in
theorem ok_X9_append : MOk mX9_append 1 := ⟨in_gwi 747 rfl rfl, in_gwi 73 (by decide +kernel) rfl, ⟨by decide +kernel, by decide +kernel, by decide +kernel⟩, by decide +kernel, by decide⟩
set_option maxRecDepth 100000 in
theorem im_X9_append : Cond.instanceMethod mX9_append.1 ∈ gw := in_gwi 746 (by decide +kernel) rfl
set_option maxRecDepth 100000 in
theorem se_X9_append : Cond.selects mX9_append.1.cls mX9_append.1 mX9_append.1 ∈ gw := in_gwi 12 (by decide +kernel) rfl
set_option maxRecDepth 100000 in
theorem ok_X9_cutTo : MOk mX9_cutTo 1 := ⟨in_gwi 755 rfl rfl, in_gwi 73 (by decide +kernel) rfl, ⟨by decide +kernel, by decide +kernel, by decide +kernel⟩, by decide +kernel, by decide⟩
set_option maxRecDepth 100000 in
theorem im_X9_cutTo : Cond.instanceMethod mX9_cutTo.1 ∈ gw := in_gwi 753 (by decide +kernel) rfl
set_option maxRecDepth 100000 in
theorem se_X9_cutTo : Cond.selects mX9_cutTo.1.cls mX9_cutTo.1 mX9_cutTo.1 ∈ gw := in_gwi 754 (by decide +kernel) rfl
set_option maxRecDepth 100000 in
theorem ok_X9_byteAt : MOk mX9_byteAt 1 := ⟨in_gwi 772 rfl rfl, in_gwi 73 (by decide +kernel) rfl, ⟨by decide +kernel, by decide +kernel, by decide +kernel⟩, by decide +kernel, by decide⟩
set_option maxRecDepth 100000 in
theorem im_X9_byteAt : Cond.instanceMethod mX9_byteAt.1 ∈ gw := in_gwi 770 (by decide +kernel) rfl
set_option maxRecDepth 100000 in
theorem se_X9_byteAt : Cond.selects mX9_byteAt.1.cls mX9_byteAt.1 mX9_byteAt.1 ∈ gw := in_gwi 771 (by decide +kernel) rfl
set_option maxRecDepth 100000 in
theorem ok_X10_init : MOk mX10_init 2 := ⟨in_gwi 188 rfl rfl, in_gwi 72 (by decide +kernel) rfl, ⟨by decide +kernel, by decide +kernel, by decide +kernel⟩, by decide +kernel, by decide⟩
set_option maxRecDepth 100000 in
theorem im_X10_init : Cond.instanceMethod mX10_init.1 ∈ gw := in_gwi 187 (by decide +kernel) rfl
set_option maxRecDepth 100000 in
theorem ok_X10_setLeast : MOk mX10_setLeast 1 := ⟨in_gwi 436 rfl rfl, in_gwi 72 (by decide +kernel) rfl, ⟨by decide +kernel, by decide +kernel, by decide +kernel⟩, by decide +kernel, by decide⟩
set_option maxRecDepth 100000 in
theorem im_X10_setLeast : Cond.instanceMethod mX10_setLeast.1 ∈ gw := in_gwi 434 (by decide +kernel) rfl
set_option maxRecDepth 100000 in
theorem se_X10_setLeast : Cond.selects mX10_setLeast.1.cls mX10_setLeast.1 mX10_setLeast.1 ∈ gw := in_gwi 435 (by decide +kernel) rfl
set_option maxRecDepth 100000 in
theorem ok_X10_harness : MOk mX10_harness 2 := ⟨in_gwi 665 rfl rfl, in_gwi 72 (by decide +kernel) rfl, ⟨by decide +kernel, by decide +kernel, by decide +kernel⟩, by decide +kernel, by decide⟩
set_option maxRecDepth 100000 in
theorem im_X10_harness : Cond.instanceMethod mX10_harness.1 ∈ gw := in_gwi 663 (by decide +kernel) rfl
set_option maxRecDepth 100000 in
theorem se_X10_harness : Cond.selects mX10_harness.1.cls mX10_harness.1 mX10_harness.1 ∈ gw := in_gwi 664 (by decide +kernel) rfl
set_option maxRecDepth 100000 in
theorem ok_X10_isHarnessed : MOk mX10_isHarnessed 2 := ⟨in_gwi 721 rfl rfl, in_gwi 72 (by decide +kernel) rfl, ⟨by decide +kernel, by decide +kernel, by decide +kernel⟩, by decide +kernel, by decide⟩
set_option maxRecDepth 100000 in
theorem im_X10_isHarnessed : Cond.instanceMethod mX10_isHarnessed.1 ∈ gw := in_gwi 719 (by decide +kernel) rfl
set_option maxRecDepth 100000 in
theorem se_X10_isHarnessed : Cond.selects mX10_isHarnessed.1.cls mX10_isHarnessed.1 mX10_isHarnessed.1 ∈ gw := in_gwi 720 (by decide +kernel) rfl
set_option maxRecDepth 100000 in
theorem ok_X10_standingOf : MOk mX10_standingOf 1 := ⟨in_gwi 676 rfl rfl, in_gwi 72 (by decide +kernel) rfl, ⟨by decide +kernel, by decide +kernel, by decide +kernel⟩, by decide +kernel, by decide⟩
set_option maxRecDepth 100000 in
theorem im_X10_standingOf : Cond.instanceMethod mX10_standingOf.1 ∈ gw := in_gwi 674 (by decide +kernel) rfl
