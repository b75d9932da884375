set_option maxRecDepth 100000 in
theorem lo_RX10_3 : Cond.methodLink RX10 3 objectInit ∈ gw := in_gwi 189 (by decide +kernel) rfl
set_option maxRecDepth 100000 in
theorem fl_RX10_9 : FL RX10 9 10 0 := ⟨_, rfl, by decide, Or.inl (in_gwi 190 (by decide +kernel) rfl)⟩
set_option maxRecDepth 100000 in
theorem fl_RX10_15 : FL RX10 15 10 1 := ⟨_, rfl, by decide, Or.inl (in_gwi 191 (by decide +kernel) rfl)⟩
set_option maxRecDepth 100000 in
theorem lk_RX10_19 : Link RX10 19 mX11_within.1 := Or.inr ⟨"CarriageHire", in_nwi 437 (by decide +kernel) rfl⟩
set_option maxRecDepth 100000 in
theorem fl_RX10_23 : FL RX10 23 10 2 := ⟨_, rfl, by decide, Or.inl (in_gwi 192 (by decide +kernel) rfl)⟩
set_option maxRecDepth 100000 in
theorem lk_RX10_27 : Link RX10 27 mX1_findKept.1 := Or.inl (in_gwi 666 (by decide +kernel) rfl)
set_option maxRecDepth 100000 in
theorem lk_RX10_33 : Link RX10 33 mX8_hasAll.1 := Or.inl (in_gwi 667 (by decide +kernel) rfl)
set_option maxRecDepth 100000 in
theorem lk_RX10_39 : Link RX10 39 mJ6_bitCount_0f7a4.1 := Or.inl (in_gwi 668 (by decide +kernel) rfl)
set_option maxRecDepth 100000 in
theorem fl_RX10_45 : FL RX10 45 3 5 := ⟨_, rfl, by decide, Or.inl (in_gwi 516 (by decide +kernel) rfl)⟩
set_option maxRecDepth 100000 in
theorem fl_RX10_50 : FL RX10 50 3 7 := ⟨_, rfl, by decide, Or.inl (in_gwi 520 (by decide +kernel) rfl)⟩
set_option maxRecDepth 100000 in
theorem lk_RX10_53 : Link RX10 53 mX8_has.1 := Or.inl (in_gwi 722 (by decide +kernel) rfl)
set_option maxRecDepth 100000 in
theorem lk_RX10_56 : Link RX10 56 mX11_hasBit.1 := Or.inr ⟨"CarriageHire", in_nwi 702 (by decide +kernel) rfl⟩
set_option maxRecDepth 100000 in
theorem lk_RX10_60 : Link RX10 60 mX10_flawOf.1 := Or.inl (in_gwi 677 (by decide +kernel) rfl)
set_option maxRecDepth 100000 in
theorem lk_RX10_64 : Link RX10 64 mX8_allAlike.1 := Or.inl (in_gwi 681 (by decide +kernel) rfl)
set_option maxRecDepth 100000 in
theorem lk_RX10_67 : Link RX10 67 mX8_anyLame.1 := Or.inl (in_gwi 682 (by decide +kernel) rfl)
set_option maxRecDepth 100000 in
theorem lk_RX10_70 : Link RX10 70 mX10_isElsewhere.1 := Or.inl (in_gwi 686 (by decide +kernel) rfl)
set_option maxRecDepth 100000 in
theorem lk_RX10_74 : Link RX10 74 mX10_allFresh.1 := Or.inl (in_gwi 691 (by decide +kernel) rfl)
set_option maxRecDepth 100000 in
theorem fl_RX10_77 : FL RX10 77 1 3 := ⟨_, rfl, by decide, Or.inr ⟨"CarriageHire", in_nwi 133 (by decide +kernel) rfl⟩⟩
set_option maxRecDepth 100000 in
theorem lk_RX10_80 : Link RX10 80 mX1_mayFollow.1 := Or.inl (in_gwi 690 (by decide +kernel) rfl)
set_option maxRecDepth 100000 in
theorem lk_RX10_84 : Link RX10 84 mX1_costOf.1 := Or.inl (in_gwi 695 (by decide +kernel) rfl)
set_option maxRecDepth 100000 in
theorem lk_RX10_88 : Link RX10 88 mJ9_max_7cf53.1 := Or.inl (in_gwi 699 (by decide +kernel) rfl)
set_option maxRecDepth 100000 in
theorem fl_RX10_94 : FL RX10 94 8 2 := ⟨_, rfl, by decide, Or.inr ⟨"CarriageHire", in_nwi 104 (by decide +kernel) rfl⟩⟩
set_option maxRecDepth 100000 in
theorem lk_RX10_95 : Link RX10 95 mX10_strengthAt.1 := Or.inl (in_gwi 703 (by decide +kernel) rfl)
set_option maxRecDepth 100000 in
theorem lk_RX10_98 : Link RX10 98 mX8_firstStrength.1 := Or.inl (in_gwi 707 (by decide +kernel) rfl)
set_option maxRecDepth 100000 in
theorem lk_RX10_101 : Link RX10 101 mX1_numberInOrder.1 := Or.inl (in_gwi 711 (by decide +kernel) rfl)
set_option maxRecDepth 100000 in
theorem fl_RX10_104 : FL RX10 104 3 3 := ⟨_, rfl, by decide, Or.inl (in_gwi 510 (by decide +kernel) rfl)⟩
set_option maxRecDepth 100000 in
theorem lk_RX10_107 : Link RX10 107 mX1_endOf.1 := Or.inl (in_gwi 712 (by decide +kernel) rfl)
set_option maxRecDepth 100000 in
theorem lk_RX10_110 : Link RX10 110 mJ9_min_7cf53.1 := Or.inl (in_gwi 713 (by decide +kernel) rfl)
set_option maxRecDepth 100000 in
theorem lk_RX10_113 : Link RX10 113 mX8_difference.1 := Or.inl (in_gwi 732 (by decide +kernel) rfl)
set_option maxRecDepth 100000 in
theorem lo_RX11_1 : Cond.methodLink RX11 1 objectInit ∈ gw := in_gwi 90 (by decide +kernel) rfl
set_option maxRecDepth 100000 in
theorem cl_RX11_7 : Cond.classLink RX11 7 "CarriageHire$Stable" ∈ gw := in_gwi 93 (by decide +kernel) rfl
set_option maxRecDepth 100000 in
theorem lk_RX11_9 : Link RX11 9 mX8_init.1 := Or.inr ⟨"CarriageHire", in_nwi 95 (by decide +kernel) rfl⟩
set_option maxRecDepth 100000 in
theorem fl_RX11_10 : FL RX11 10 11 0 := ⟨_, rfl, by decide, Or.inl (in_gwi 325 (by decide +kernel) rfl)⟩
set_option maxRecDepth 100000 in
theorem cl_RX11_16 : Cond.classLink RX11 16 "CarriageHire$Day" ∈ gw := in_gwi 120 (by decide +kernel) rfl
set_option maxRecDepth 100000 in
theorem lk_RX11_18 : Link RX11 18 mX1_init.1 := Or.inr ⟨"CarriageHire", in_nwi 122 (by decide +kernel) rfl⟩
set_option maxRecDepth 100000 in
theorem fl_RX11_19 : FL RX11 19 11 1 := ⟨_, rfl, by decide, Or.inl (in_gwi 326 (by decide +kernel) rfl)⟩
set_option maxRecDepth 100000 in
theorem cl_RX11_23 : Cond.classLink RX11 23 "CarriageHire$Lays" ∈ gw := in_gwi 153 (by decide +kernel) rfl
set_option maxRecDepth 100000 in
theorem lk_RX11_25 : Link RX11 25 mX4_init.1 := Or.inl (in_gwi 155 (by decide +kernel) rfl)
set_option maxRecDepth 100000 in
theorem fl_RX11_28 : FL RX11 28 11 2 := ⟨_, rfl, by decide, Or.inl (in_gwi 327 (by decide +kernel) rfl)⟩
set_option maxRecDepth 100000 in
theorem cl_RX11_32 : Cond.classLink RX11 32 "CarriageHire$Teams" ∈ gw := in_gwi 184 (by decide +kernel) rfl
set_option maxRecDepth 100000 in
theorem lk_RX11_34 : Link RX11 34 mX10_init.1 := Or.inl (in_gwi 186 (by decide +kernel) rfl)
set_option maxRecDepth 100000 in
theorem fl_RX11_37 : FL RX11 37 11 3 := ⟨_, rfl, by decide, Or.inl (in_gwi 328 (by decide +kernel) rfl)⟩
set_option maxRecDepth 100000 in
theorem cl_RX11_41 : Cond.classLink RX11 41 "CarriageHire$Tape" ∈ gw := in_gwi 200 (by decide +kernel) rfl
set_option maxRecDepth 100000 in
theorem lk_RX11_43 : Link RX11 43 mX9_init.1 := Or.inr ⟨"CarriageHire", in_nwi 202 (by decide +kernel) rfl⟩
set_option maxRecDepth 100000 in
theorem fl_RX11_44 : FL RX11 44 11 4 := ⟨_, rfl, by decide, Or.inl (in_gwi 329 (by decide +kernel) rfl)⟩
set_option maxRecDepth 100000 in
theorem cl_RX11_48 : Cond.classLink RX11 48 "CarriageHire$PriceReader" ∈ gw := in_gwi 216 (by decide +kernel) rfl
set_option maxRecDepth 100000 in
theorem lk_RX11_50 : Link RX11 50 mX6_init.1 := Or.inl (in_gwi 218 (by decide +kernel) rfl)
set_option maxRecDepth 100000 in
theorem fl_RX11_53 : FL RX11 53 11 5 := ⟨_, rfl, by decide, Or.inl (in_gwi 330 (by decide +kernel) rfl)⟩
set_option maxRecDepth 100000 in
theorem cl_RX11_57 : Cond.classLink RX11 57 "CarriageHire$Pricer" ∈ gw := in_gwi 264 (by decide +kernel) rfl
set_option maxRecDepth 100000 in
theorem lk_RX11_59 : Link RX11 59 mX7_init.1 := Or.inr ⟨"CarriageHire", in_nwi 266 (by decide +kernel) rfl⟩
set_option maxRecDepth 100000 in
theorem fl_RX11_60 : FL RX11 60 11 6 := ⟨_, rfl, by decide, Or.inl (in_gwi 331 (by decide +kernel) rfl)⟩
set_option maxRecDepth 100000 in
theorem cl_RX11_64 : Cond.classLink RX11 64 "CarriageHire$Book" ∈ gw := in_gwi 280 (by decide +kernel) rfl
set_option maxRecDepth 100000 in
theorem lk_RX11_66 : Link RX11 66 mX0_init.1 := Or.inr ⟨"CarriageHire", in_nwi 282 (by decide +kernel) rfl⟩
set_option maxRecDepth 100000 in
theorem fl_RX11_67 : FL RX11 67 11 7 := ⟨_, rfl, by decide, Or.inl (in_gwi 332 (by decide +kernel) rfl)⟩
set_option maxRecDepth 100000 in
theorem cl_RX11_71 : Cond.classLink RX11 71 "CarriageHire$PriceList" ∈ gw := in_gwi 306 (by decide +kernel) rfl
set_option maxRecDepth 100000 in
theorem lk_RX11_73 : Link RX11 73 mX5_init.1 := Or.inl (in_gwi 308 (by decide +kernel) rfl)
set_option maxRecDepth 100000 in
theorem fl_RX11_76 : FL RX11 76 11 8 := ⟨_, rfl, by decide, Or.inl (in_gwi 333 (by decide +kernel) rfl)⟩
set_option maxRecDepth 100000 in
theorem lk_RX11_80 : Link RX11 80 mX8_add.1 := Or.inl (in_gwi 357 (by decide +kernel) rfl)
set_option maxRecDepth 100000 in
theorem lk_RX11_84 : Link RX11 84 mX8_setLame.1 := Or.inl (in_gwi 393 (by decide +kernel) rfl)
set_option maxRecDepth 100000 in
theorem lk_RX11_88 : Link RX11 88 mX8_setSpans.1 := Or.inl (in_gwi 405 (by decide +kernel) rfl)
set_option maxRecDepth 100000 in
theorem lk_RX11_92 : Link RX11 92 mX1_setWay.1 := Or.inl (in_gwi 413 (by decide +kernel) rfl)
set_option maxRecDepth 100000 in
theorem lk_RX11_96 : Link RX11 96 mX1_setCarriages.1 := Or.inl (in_gwi 425 (by decide +kernel) rfl)
set_option maxRecDepth 100000 in
theorem lk_RX11_100 : Link RX11 100 mX10_setLeast.1 := Or.inl (in_gwi 433 (by decide +kernel) rfl)
set_option maxRecDepth 100000 in
theorem lk_RX11_103 : Link RX11 103 mJ6_bitCount_0f7a4.1 := Or.inl (in_gwi 442 (by decide +kernel) rfl)
set_option maxRecDepth 100000 in
theorem lk_RX11_109 : Link RX11 109 mX8_hasAll.1 := Or.inl (in_gwi 448 (by decide +kernel) rfl)
set_option maxRecDepth 100000 in
theorem lk_RX11_112 : Link RX11 112 mX8_allAlike.1 := Or.inl (in_gwi 452 (by decide +kernel) rfl)
set_option maxRecDepth 100000 in
theorem lk_RX11_115 : Link RX11 115 mX8_countSets.1 := Or.inl (in_gwi 470 (by decide +kernel) rfl)
set_option maxRecDepth 100000 in
theorem lk_RX11_118 : Link RX11 118 mX1_book.1 := Or.inl (in_gwi 487 (by decide +kernel) rfl)
set_option maxRecDepth 100000 in
theorem lk_RX11_121 : Link RX11 121 mX1_cancel.1 := Or.inl (in_gwi 551 (by decide +kernel) rfl)
set_option maxRecDepth 100000 in
theorem lk_RX11_124 : Link RX11 124 mX1_find.1 := Or.inl (in_gwi 567 (by decide +kernel) rfl)
set_option maxRecDepth 100000 in
theorem lk_RX11_128 : Link RX11 128 mX1_endOf.1 := Or.inl (in_gwi 568 (by decide +kernel) rfl)
set_option maxRecDepth 100000 in
theorem fl_RX11_132 : FL RX11 132 3 7 := ⟨_, rfl, by decide, Or.inl (in_gwi 521 (by decide +kernel) rfl)⟩
set_option maxRecDepth 100000 in
theorem fl_RX11_138 : FL RX11 138 3 8 := ⟨_, rfl, by decide, Or.inl (in_gwi 523 (by decide +kernel) rfl)⟩
set_option maxRecDepth 100000 in
theorem fl_RX11_142 : FL RX11 142 3 6 := ⟨_, rfl, by decide, Or.inl (in_gwi 519 (by decide +kernel) rfl)⟩
set_option maxRecDepth 100000 in
theorem lk_RX11_145 : Link RX11 145 mX5_countLines.1 := Or.inl (in_gwi 576 (by decide +kernel) rfl)
set_option maxRecDepth 100000 in
theorem lk_RX11_149 : Link RX11 149 mX1_findKept.1 := Or.inl (in_gwi 587 (by decide +kernel) rfl)
set_option maxRecDepth 100000 in
theorem lk_RX11_152 : Link RX11 152 mX1_mayFollow.1 := Or.inl (in_gwi 588 (by decide +kernel) rfl)
set_option maxRecDepth 100000 in
theorem lk_RX11_156 : Link RX11 156 mX4_refresh.1 := Or.inl (in_gwi 597 (by decide +kernel) rfl)
set_option maxRecDepth 100000 in
theorem fl_RX11_159 : FL RX11 159 4 5 := ⟨_, rfl, by decide, Or.inr ⟨"CarriageHire", in_nwi 165 (by decide +kernel) rfl⟩⟩
set_option maxRecDepth 100000 in
theorem fl_RX11_162 : FL RX11 162 4 6 := ⟨_, rfl, by decide, Or.inr ⟨"CarriageHire", in_nwi 167 (by decide +kernel) rfl⟩⟩
set_option maxRecDepth 100000 in
theorem lk_RX11_165 : Link RX11 165 mX4_chainNumber.1 := Or.inl (in_gwi 654 (by decide +kernel) rfl)
set_option maxRecDepth 100000 in
theorem lk_RX11_168 : Link RX11 168 mX10_harness.1 := Or.inl (in_gwi 662 (by decide +kernel) rfl)
set_option maxRecDepth 100000 in
theorem lk_RX11_171 : Link RX11 171 mX10_standingOf.1 := Or.inl (in_gwi 673 (by decide +kernel) rfl)
set_option maxRecDepth 100000 in
theorem lk_RX11_174 : Link RX11 174 mX10_isHarnessed.1 := Or.inl (in_gwi 718 (by decide +kernel) rfl)
set_option maxRecDepth 100000 in
theorem lk_RX11_177 : Link RX11 177 mX10_strengthAt.1 := Or.inl (in_gwi 723 (by decide +kernel) rfl)
set_option maxRecDepth 100000 in
theorem lk_RX11_181 : Link RX11 181 mX10_bestStandIn.1 := Or.inl (in_gwi 728 (by decide +kernel) rfl)
set_option maxRecDepth 100000 in
theorem lk_RX11_184 : Link RX11 184 mX9_appendAll.1 := Or.inl (in_gwi 740 (by decide +kernel) rfl)
set_option maxRecDepth 100000 in
theorem lk_RX11_188 : Link RX11 188 mX9_cutTo.1 := Or.inl (in_gwi 752 (by decide +kernel) rfl)
set_option maxRecDepth 100000 in
theorem lk_RX11_191 : Link RX11 191 mX6_readAll.1 := Or.inl (in_gwi 761 (by decide +kernel) rfl)
set_option maxRecDepth 100000 in
theorem fl_RX11_195 : FL RX11 195 6 11 := ⟨_, rfl, by decide, Or.inr ⟨"CarriageHire", in_nwi 234 (by decide +kernel) rfl⟩⟩
set_option maxRecDepth 100000 in
theorem fl_RX11_198 : FL RX11 198 6 12 := ⟨_, rfl, by decide, Or.inr ⟨"CarriageHire", in_nwi 236 (by decide +kernel) rfl⟩⟩
set_option maxRecDepth 100000 in
theorem lk_RX11_201 : Link RX11 201 mX11_within.1 := Or.inl (in_gwi 883 (by decide +kernel) rfl)
set_option maxRecDepth 100000 in
theorem fl_RX11_204 : FL RX11 204 3 1 := ⟨_, rfl, by decide, Or.inl (in_gwi 502 (by decide +kernel) rfl)⟩
set_option maxRecDepth 100000 in
theorem fl_RX11_207 : FL RX11 207 3 2 := ⟨_, rfl, by decide, Or.inl (in_gwi 506 (by decide +kernel) rfl)⟩
set_option maxRecDepth 100000 in
theorem lk_RX11_210 : Link RX11 210 mX1_minutesBetween.1 := Or.inl (in_gwi 884 (by decide +kernel) rfl)
set_option maxRecDepth 100000 in
theorem lk_RX11_213 : Link RX11 213 mX7_quote.1 := Or.inl (in_gwi 885 (by decide +kernel) rfl)
set_option maxRecDepth 100000 in
theorem lk_RX11_217 : Link RX11 217 mX0_enter.1 := Or.inl (in_gwi 918 (by decide +kernel) rfl)
set_option maxRecDepth 100000 in
theorem lk_RX11_220 : Link RX11 220 mX0_takeBack.1 := Or.inl (in_gwi 930 (by decide +kernel) rfl)
set_option maxRecDepth 100000 in
theorem lk_RX11_223 : Link RX11 223 mX0_wholeAt.1 := Or.inl (in_gwi 938 (by decide +kernel) rfl)
set_option maxRecDepth 100000 in
theorem lk_RX11_227 : Link RX11 227 mX0_firstFree.1 := Or.inl (in_gwi 950 (by decide +kernel) rfl)
set_option maxRecDepth 100000 in
theorem fl_RX11_230 : FL RX11 230 8 2 := ⟨_, rfl, by decide, Or.inr ⟨"CarriageHire", in_nwi 105 (by decide +kernel) rfl⟩⟩
set_option maxRecDepth 100000 in
theorem fl_RX11_233 : FL RX11 233 1 3 := ⟨_, rfl, by decide, Or.inr ⟨"CarriageHire", in_nwi 134 (by decide +kernel) rfl⟩⟩
set_option maxRecDepth 100000 in
theorem fl_RX11_234 : FL RX11 234 1 4 := ⟨_, rfl, by decide, Or.inr ⟨"CarriageHire", in_nwi 137 (by decide +kernel) rfl⟩⟩
set_option maxRecDepth 100000 in
theorem fl_RX11_237 : FL RX11 237 0 5 := ⟨_, rfl, by decide, Or.inr ⟨"CarriageHire", in_nwi 292 (by decide +kernel) rfl⟩⟩
set_option maxRecDepth 100000 in
theorem fl_RX11_238 : FL RX11 238 9 1 := ⟨_, rfl, by decide, Or.inr ⟨"CarriageHire", in_nwi 209 (by decide +kernel) rfl⟩⟩
set_option maxRecDepth 100000 in
theorem lo_RX12_1 : Cond.methodLink RX12 1 objectInit ∈ gw := in_gwi 963 (by decide +kernel) rfl
set_option maxRecDepth 100000 in
theorem fl_RX12_7 : FL RX12 7 12 1 := ⟨_, rfl, by decide, Or.inl (in_gwi 965 (by decide +kernel) rfl)⟩
set_option maxRecDepth 100000 in
theorem fl_RX12_13 : FL RX12 13 12 2 := ⟨_, rfl, by decide, Or.inl (in_gwi 966 (by decide +kernel) rfl)⟩
set_option maxRecDepth 100000 in
theorem fl_RX12_16 : FL RX12 16 12 3 := ⟨_, rfl, by decide, Or.inl (in_gwi 967 (by decide +kernel) rfl)⟩
set_option maxRecDepth 100000 in
theorem fl_RX12_19 : FL RX12 19 12 5 := ⟨_, rfl, by decide, Or.inl (in_gwi 969 (by decide +kernel) rfl)⟩
set_option maxRecDepth 100000 in
theorem fl_RX12_23 : FL RX12 23 12 6 := ⟨_, rfl, by decide, Or.inl (in_gwi 970 (by decide +kernel) rfl)⟩
set_option maxRecDepth 100000 in
theorem fl_RX12_26 : FL RX12 26 12 7 := ⟨_, rfl, by decide, Or.inl (in_gwi 971 (by decide +kernel) rfl)⟩
set_option maxRecDepth 100000 in
theorem fl_RX12_29 : FL RX12 29 12 8 := ⟨_, rfl, by decide, Or.inl (in_gwi 972 (by decide +kernel) rfl)⟩
set_option maxRecDepth 100000 in
theorem fl_RX12_32 : FL RX12 32 12 9 := ⟨_, rfl, by decide, Or.inl (in_gwi 973 (by decide +kernel) rfl)⟩
set_option maxRecDepth 100000 in
theorem fl_RX12_36 : FL RX12 36 12 10 := ⟨_, rfl, by decide, Or.inl (in_gwi 974 (by decide +kernel) rfl)⟩
set_option maxRecDepth 100000 in
theorem fl_RX12_39 : FL RX12 39 12 12 := ⟨_, rfl, by decide, Or.inl (in_gwi 976 (by decide +kernel) rfl)⟩
set_option maxRecDepth 100000 in
theorem fl_RX12_42 : FL RX12 42 12 13 := ⟨_, rfl, by decide, Or.inl (in_gwi 977 (by decide +kernel) rfl)⟩
set_option maxRecDepth 100000 in
theorem fl_RX12_45 : FL RX12 45 12 14 := ⟨_, rfl, by decide, Or.inl (in_gwi 978 (by decide +kernel) rfl)⟩
set_option maxRecDepth 100000 in
theorem fl_RX12_48 : FL RX12 48 12 15 := ⟨_, rfl, by decide, Or.inl (in_gwi 979 (by decide +kernel) rfl)⟩
set_option maxRecDepth 100000 in
theorem fl_RX12_51 : FL RX12 51 12 16 := ⟨_, rfl, by decide, Or.inl (in_gwi 980 (by decide +kernel) rfl)⟩
set_option maxRecDepth 100000 in
theorem fl_RX12_54 : FL RX12 54 12 17 := ⟨_, rfl, by decide, Or.inl (in_gwi 981 (by decide +kernel) rfl)⟩
set_option maxRecDepth 100000 in
theorem fl_RX12_57 : FL RX12 57 12 18 := ⟨_, rfl, by decide, Or.inl (in_gwi 982 (by decide +kernel) rfl)⟩
set_option maxRecDepth 100000 in
theorem fl_RX12_60 : FL RX12 60 12 19 := ⟨_, rfl, by decide, Or.inl (in_gwi 983 (by decide +kernel) rfl)⟩
set_option maxRecDepth 100000 in
theorem fl_RX12_63 : FL RX12 63 12 20 := ⟨_, rfl, by decide, Or.inl (in_gwi 984 (by decide +kernel) rfl)⟩
set_option maxRecDepth 100000 in
theorem fl_RX12_66 : FL RX12 66 12 21 := ⟨_, rfl, by decide, Or.inl (in_gwi 985 (by decide +kernel) rfl)⟩
set_option maxRecDepth 100000 in
theorem fl_RX12_69 : FL RX12 69 12 22 := ⟨_, rfl, by decide, Or.inl (in_gwi 986 (by decide +kernel) rfl)⟩
set_option maxRecDepth 100000 in
theorem fl_RX12_72 : FL RX12 72 12 23 := ⟨_, rfl, by decide, Or.inl (in_gwi 987 (by decide +kernel) rfl)⟩
set_option maxRecDepth 100000 in
theorem fl_RX12_75 : FL RX12 75 12 27 := ⟨_, rfl, by decide, Or.inl (in_gwi 991 (by decide +kernel) rfl)⟩
set_option maxRecDepth 100000 in
theorem fl_RX12_78 : FL RX12 78 12 28 := ⟨_, rfl, by decide, Or.inl (in_gwi 992 (by decide +kernel) rfl)⟩
set_option maxRecDepth 100000 in
theorem fl_RX12_81 : FL RX12 81 12 29 := ⟨_, rfl, by decide, Or.inl (in_gwi 993 (by decide +kernel) rfl)⟩
set_option maxRecDepth 100000 in
theorem fl_RX12_84 : FL RX12 84 12 30 := ⟨_, rfl, by decide, Or.inl (in_gwi 994 (by decide +kernel) rfl)⟩
set_option maxRecDepth 100000 in
theorem fl_RX12_87 : FL RX12 87 12 31 := ⟨_, rfl, by decide, Or.inl (in_gwi 995 (by decide +kernel) rfl)⟩
set_option maxRecDepth 100000 in
theorem fl_RX12_90 : FL RX12 90 12 32 := ⟨_, rfl, by decide, Or.inl (in_gwi 996 (by decide +kernel) rfl)⟩
set_option maxRecDepth 100000 in
theorem fl_RX12_93 : FL RX12 93 12 33 := ⟨_, rfl, by decide, Or.inl (in_gwi 997 (by decide +kernel) rfl)⟩
set_option maxRecDepth 100000 in
theorem fl_RX12_96 : FL RX12 96 12 34 := ⟨_, rfl, by decide, Or.inl (in_gwi 998 (by decide +kernel) rfl)⟩
set_option maxRecDepth 100000 in
theorem fl_RX12_99 : FL RX12 99 12 35 := ⟨_, rfl, by decide, Or.inl (in_gwi 999 (by decide +kernel) rfl)⟩
set_option maxRecDepth 100000 in
theorem fl_RX12_102 : FL RX12 102 12 39 := ⟨_, rfl, by decide, Or.inl (in_gwi 1003 (by decide +kernel) rfl)⟩
set_option maxRecDepth 100000 in
theorem fl_RX12_105 : FL RX12 105 12 42 := ⟨_, rfl, by decide, Or.inl (in_gwi 1006 (by decide +kernel) rfl)⟩
set_option maxRecDepth 100000 in
theorem fl_RX12_108 : FL RX12 108 12 49 := ⟨_, rfl, by decide, Or.inl (in_gwi 1013 (by decide +kernel) rfl)⟩
set_option maxRecDepth 100000 in
theorem fl_RX12_111 : FL RX12 111 12 52 := ⟨_, rfl, by decide, Or.inl (in_gwi 1016 (by decide +kernel) rfl)⟩
set_option maxRecDepth 100000 in
theorem fl_RX12_114 : FL RX12 114 12 53 := ⟨_, rfl, by decide, Or.inl (in_gwi 1017 (by decide +kernel) rfl)⟩
set_option maxRecDepth 100000 in
theorem fl_RX12_117 : FL RX12 117 12 55 := ⟨_, rfl, by decide, Or.inl (in_gwi 1019 (by decide +kernel) rfl)⟩
set_option maxRecDepth 100000 in
theorem fl_RX12_120 : FL RX12 120 12 56 := ⟨_, rfl, by decide, Or.inl (in_gwi 1020 (by decide +kernel) rfl)⟩
set_option maxRecDepth 100000 in
theorem fl_RX12_123 : FL RX12 123 12 57 := ⟨_, rfl, by decide, Or.inl (in_gwi 1021 (by decide +kernel) rfl)⟩
set_option maxRecDepth 100000 in
theorem fl_RX12_126 : FL RX12 126 12 58 := ⟨_, rfl, by decide, Or.inl (in_gwi 1022 (by decide +kernel) rfl)⟩
set_option maxRecDepth 100000 in
theorem fl_RX12_129 : FL RX12 129 12 59 := ⟨_, rfl, by decide, Or.inl (in_gwi 1023 (by decide +kernel) rfl)⟩
set_option maxRecDepth 100000 in
theorem fl_RX12_132 : FL RX12 132 12 0 := ⟨_, rfl, by decide, Or.inl (in_gwi 964 (by decide +kernel) rfl)⟩
set_option maxRecDepth 100000 in
theorem lk_RX12_135 : Link RX12 135 mX12_isHorse.1 := Or.inl (in_gwi 1154 (by decide +kernel) rfl)
set_option maxRecDepth 100000 in
theorem lk_RX12_139 : Link RX12 139 mX12_isPlace.1 := Or.inl (in_gwi 1166 (by decide +kernel) rfl)
set_option maxRecDepth 100000 in
theorem fl_RX12_142 : FL RX12 142 12 4 := ⟨_, rfl, by decide, Or.inl (in_gwi 968 (by decide +kernel) rfl)⟩
set_option maxRecDepth 100000 in
theorem lk_RX12_145 : Link RX12 145 mX12_far.1 := Or.inl (in_gwi 1192 (by decide +kernel) rfl)
set_option maxRecDepth 100000 in
theorem lk_RX12_149 : Link RX12 149 mX12_isSet.1 := Or.inl (in_gwi 1181 (by decide +kernel) rfl)
set_option maxRecDepth 100000 in
theorem lk_RX12_152 : Link RX12 152 mX12_many.1 := Or.inl (in_gwi 1185 (by decide +kernel) rfl)
set_option maxRecDepth 100000 in
theorem lk_RX12_156 : Link RX12 156 mX12_doMatch.1 := Or.inl (in_gwi 1188 (by decide +kernel) rfl)
set_option maxRecDepth 100000 in
theorem fl_RX12_159 : FL RX12 159 12 11 := ⟨_, rfl, by decide, Or.inl (in_gwi 975 (by decide +kernel) rfl)⟩
set_option maxRecDepth 100000 in
theorem lk_RX12_162 : Link RX12 162 mX12_copy.1 := Or.inl (in_gwi 1203 (by decide +kernel) rfl)
set_option maxRecDepth 100000 in
theorem lk_RX12_166 : Link RX12 166 mX12_isJob.1 := Or.inl (in_gwi 1215 (by decide +kernel) rfl)
set_option maxRecDepth 100000 in
theorem lk_RX12_169 : Link RX12 169 mX12_isOn.1 := Or.inl (in_gwi 1211 (by decide +kernel) rfl)
set_option maxRecDepth 100000 in
theorem lk_RX12_172 : Link RX12 172 mX12_wayOf.1 := Or.inl (in_gwi 1231 (by decide +kernel) rfl)
set_option maxRecDepth 100000 in
theorem lk_RX12_175 : Link RX12 175 mX12_drive.1 := Or.inl (in_gwi 1227 (by decide +kernel) rfl)
set_option maxRecDepth 100000 in
theorem lk_RX12_178 : Link RX12 178 mX12_endOf.1 := Or.inl (in_gwi 1223 (by decide +kernel) rfl)
set_option maxRecDepth 100000 in
theorem lk_RX12_181 : Link RX12 181 mX12_isBehind.1 := Or.inl (in_gwi 1239 (by decide +kernel) rfl)
set_option maxRecDepth 100000 in
theorem fl_RX12_185 : FL RX12 185 12 24 := ⟨_, rfl, by decide, Or.inl (in_gwi 988 (by decide +kernel) rfl)⟩
set_option maxRecDepth 100000 in
theorem lk_RX12_188 : Link RX12 188 mX12_isAhead.1 := Or.inl (in_gwi 1251 (by decide +kernel) rfl)
set_option maxRecDepth 100000 in
theorem fl_RX12_191 : FL RX12 191 12 25 := ⟨_, rfl, by decide, Or.inl (in_gwi 989 (by decide +kernel) rfl)⟩
set_option maxRecDepth 100000 in
theorem fl_RX12_194 : FL RX12 194 12 26 := ⟨_, rfl, by decide, Or.inl (in_gwi 990 (by decide +kernel) rfl)⟩
set_option maxRecDepth 100000 in
theorem lk_RX12_197 : Link RX12 197 mX12_look.1 := Or.inl (in_gwi 1255 (by decide +kernel) rfl)
set_option maxRecDepth 100000 in
theorem lk_RX12_201 : Link RX12 201 mX12_lay.1 := Or.inl (in_gwi 1247 (by decide +kernel) rfl)
set_option maxRecDepth 100000 in
theorem lk_RX12_204 : Link RX12 204 mX12_costOf.1 := Or.inl (in_gwi 1279 (by decide +kernel) rfl)
set_option maxRecDepth 100000 in
theorem lk_RX12_207 : Link RX12 207 mX12_strengthAt.1 := Or.inl (in_gwi 1275 (by decide +kernel) rfl)
set_option maxRecDepth 100000 in
theorem lk_RX12_210 : Link RX12 210 mX12_rightOf.1 := Or.inl (in_gwi 1287 (by decide +kernel) rfl)
set_option maxRecDepth 100000 in
theorem fl_RX12_213 : FL RX12 213 12 40 := ⟨_, rfl, by decide, Or.inl (in_gwi 1004 (by decide +kernel) rfl)⟩
set_option maxRecDepth 100000 in
theorem lk_RX12_216 : Link RX12 216 mX12_four.1 := Or.inl (in_gwi 1299 (by decide +kernel) rfl)
set_option maxRecDepth 100000 in
theorem fl_RX12_219 : FL RX12 219 12 43 := ⟨_, rfl, by decide, Or.inl (in_gwi 1007 (by decide +kernel) rfl)⟩
set_option maxRecDepth 100000 in
theorem fl_RX12_222 : FL RX12 222 12 44 := ⟨_, rfl, by decide, Or.inl (in_gwi 1008 (by decide +kernel) rfl)⟩
set_option maxRecDepth 100000 in
theorem lk_RX12_225 : Link RX12 225 mX12_here.1 := Or.inl (in_gwi 1315 (by decide +kernel) rfl)
set_option maxRecDepth 100000 in
theorem fl_RX12_228 : FL RX12 228 12 46 := ⟨_, rfl, by decide, Or.inl (in_gwi 1010 (by decide +kernel) rfl)⟩
set_option maxRecDepth 100000 in
theorem fl_RX12_231 : FL RX12 231 12 48 := ⟨_, rfl, by decide, Or.inl (in_gwi 1012 (by decide +kernel) rfl)⟩
set_option maxRecDepth 100000 in
theorem fl_RX12_235 : FL RX12 235 12 47 := ⟨_, rfl, by decide, Or.inl (in_gwi 1011 (by decide +kernel) rfl)⟩
set_option maxRecDepth 100000 in
theorem fl_RX12_238 : FL RX12 238 12 45 := ⟨_, rfl, by decide, Or.inl (in_gwi 1009 (by decide +kernel) rfl)⟩
set_option maxRecDepth 100000 in
theorem lk_RX12_241 : Link RX12 241 mX12_isLetter.1 := Or.inl (in_gwi 1319 (by decide +kernel) rfl)
set_option maxRecDepth 100000 in
theorem lk_RX12_244 : Link RX12 244 mX12_isDigit.1 := Or.inl (in_gwi 1322 (by decide +kernel) rfl)
set_option maxRecDepth 100000 in
theorem lk_RX12_247 : Link RX12 247 mX12_isSign.1 := Or.inl (in_gwi 1325 (by decide +kernel) rfl)
set_option maxRecDepth 100000 in
theorem fl_RX12_250 : FL RX12 250 12 41 := ⟨_, rfl, by decide, Or.inl (in_gwi 1005 (by decide +kernel) rfl)⟩
set_option maxRecDepth 100000 in
theorem co_RX12_253 : Cond.constantLong RX12 253 1802071652 ∈ gw := in_gwi 1381 (by decide +kernel) rfl
set_option maxRecDepth 100000 in
theorem co_RX12_255 : Cond.constantLong RX12 255 7823737 ∈ gw := in_gwi 1382 (by decide +kernel) rfl
set_option maxRecDepth 100000 in
theorem co_RX12_257 : Cond.constantLong RX12 257 2002872692 ∈ gw := in_gwi 1383 (by decide +kernel) rfl
set_option maxRecDepth 100000 in
theorem co_RX12_259 : Cond.constantLong RX12 259 422608071022 ∈ gw := in_gwi 1384 (by decide +kernel) rfl
set_option maxRecDepth 100000 in
theorem co_RX12_261 : Cond.constantLong RX12 261 114827870823795 ∈ gw := in_gwi 1385 (by decide +kernel) rfl
set_option maxRecDepth 100000 in
theorem co_RX12_263 : Cond.constantLong RX12 263 1818326117 ∈ gw := in_gwi 1386 (by decide +kernel) rfl
set_option maxRecDepth 100000 in
theorem fl_RX12_265 : FL RX12 265 12 37 := ⟨_, rfl, by decide, Or.inl (in_gwi 1001 (by decide +kernel) rfl)⟩
set_option maxRecDepth 100000 in
theorem fl_RX12_268 : FL RX12 268 12 50 := ⟨_, rfl, by decide, Or.inl (in_gwi 1014 (by decide +kernel) rfl)⟩
set_option maxRecDepth 100000 in
theorem fl_RX12_271 : FL RX12 271 12 51 := ⟨_, rfl, by decide, Or.inl (in_gwi 1015 (by decide +kernel) rfl)⟩
set_option maxRecDepth 100000 in
theorem lk_RX12_274 : Link RX12 274 mX12_step.1 := Or.inl (in_gwi 1358 (by decide +kernel) rfl)
set_option maxRecDepth 100000 in
theorem lk_RX12_277 : Link RX12 277 mX12_pop.1 := Or.inl (in_gwi 1354 (by decide +kernel) rfl)
set_option maxRecDepth 100000 in
theorem lk_RX12_280 : Link RX12 280 mX12_isOpen.1 := Or.inl (in_gwi 1342 (by decide +kernel) rfl)
set_option maxRecDepth 100000 in
theorem co_RX12_284 : Cond.constantLong RX12 284 482955846501 ∈ gw := in_gwi 1333 (by decide +kernel) rfl
set_option maxRecDepth 100000 in
theorem lk_RX12_286 : Link RX12 286 mX12_isWord.1 := Or.inl (in_gwi 1329 (by decide +kernel) rfl)
set_option maxRecDepth 100000 in
theorem lk_RX12_290 : Link RX12 290 mX12_sign.1 := Or.inl (in_gwi 1346 (by decide +kernel) rfl)
set_option maxRecDepth 100000 in
theorem lk_RX12_294 : Link RX12 294 mX12_operand.1 := Or.inl (in_gwi 1372 (by decide +kernel) rfl)
set_option maxRecDepth 100000 in
theorem lk_RX12_297 : Link RX12 297 mX12_settle.1 := Or.inl (in_gwi 1350 (by decide +kernel) rfl)
set_option maxRecDepth 100000 in
theorem co_RX12_300 : Cond.constantLong RX12 300 2003330414 ∈ gw := in_gwi 1328 (by decide +kernel) rfl
set_option maxRecDepth 100000 in
theorem co_RX12_302 : Cond.constantLong RX12 302 28530 ∈ gw := in_gwi 1367 (by decide +kernel) rfl
set_option maxRecDepth 100000 in
theorem co_RX12_304 : Cond.constantLong RX12 304 6385252 ∈ gw := in_gwi 1366 (by decide +kernel) rfl
set_option maxRecDepth 100000 in
theorem co_RX12_306 : Cond.constantLong RX12 306 7237492 ∈ gw := in_gwi 1376 (by decide +kernel) rfl
set_option maxRecDepth 100000 in
theorem lk_RX12_308 : Link RX12 308 mX12_wrong.1 := Or.inl (in_gwi 1334 (by decide +kernel) rfl)
set_option maxRecDepth 100000 in
theorem lk_RX12_311 : Link RX12 311 mX12_named.1 := Or.inl (in_gwi 1377 (by decide +kernel) rfl)
set_option maxRecDepth 100000 in
theorem fl_RX12_314 : FL RX12 314 12 38 := ⟨_, rfl, by decide, Or.inl (in_gwi 1002 (by decide +kernel) rfl)⟩
set_option maxRecDepth 100000 in
theorem lk_RX12_317 : Link RX12 317 mX12_next.1 := Or.inl (in_gwi 1311 (by decide +kernel) rfl)
set_option maxRecDepth 100000 in
theorem lk_RX12_320 : Link RX12 320 mX12_hold.1 := Or.inl (in_gwi 1362 (by decide +kernel) rfl)
set_option maxRecDepth 100000 in
theorem lk_RX12_323 : Link RX12 323 mX12_settleOnes.1 := Or.inl (in_gwi 1368 (by decide +kernel) rfl)
set_option maxRecDepth 100000 in
theorem fl_RX12_327 : FL RX12 327 12 36 := ⟨_, rfl, by decide, Or.inl (in_gwi 1000 (by decide +kernel) rfl)⟩
set_option maxRecDepth 100000 in
theorem lk_RX12_330 : Link RX12 330 mX12_readE.1 := Or.inl (in_gwi 1338 (by decide +kernel) rfl)
set_option maxRecDepth 100000 in
theorem lk_RX12_333 : Link RX12 333 mX12_worked.1 := Or.inl (in_gwi 1395 (by decide +kernel) rfl)
set_option maxRecDepth 100000 in
theorem fl_RX12_337 : FL RX12 337 12 54 := ⟨_, rfl, by decide, Or.inl (in_gwi 1018 (by decide +kernel) rfl)⟩
set_option maxRecDepth 100000 in
theorem lk_RX12_340 : Link RX12 340 mX12_isWhole.1 := Or.inl (in_gwi 1411 (by decide +kernel) rfl)
set_option maxRecDepth 100000 in
theorem co_RJ6_265 : Cond.constant RJ6 265 1431655765 ∈ gw := in_gwi 445 (by decide +kernel) rfl
set_option maxRecDepth 100000 in
theorem co_RJ6_266 : Cond.constant RJ6 266 858993459 ∈ gw := in_gwi 446 (by decide +kernel) rfl
set_option maxRecDepth 100000 in
theorem co_RJ6_267 : Cond.constant RJ6 267 252645135 ∈ gw := in_gwi 447 (by decide +kernel) rfl
set_option maxRecDepth 100000 in
theorem lk_RJ7_304 : Link RJ7 304 mJ9_min_7cf53.1 := Or.inl (in_gwi 870 (by decide +kernel) rfl)
set_option maxRecDepth 100000 in
theorem lo_RJ7_150 : Cond.methodLink RJ7 150 arraycopyName ∈ gw := in_gwi 871 (by decide +kernel) rfl
set_option maxRecDepth 100000 in
theorem cl_RL_7 : Cond.classLink RL 7 "CarriageHire" ∈ gw := in_gwi 85 (by decide +kernel) rfl
set_option maxRecDepth 100000 in
theorem lk_RL_9 : Link RL 9 mX11_init.1 := Or.inl (in_gwi 87 (by decide +kernel) rfl)
set_option maxRecDepth 100000 in
theorem cl_RL_10 : Cond.classLink RL 10 "CarriageHireModel" ∈ gw := in_gwi 958 (by decide +kernel) rfl
set_option maxRecDepth 100000 in
theorem lk_RL_12 : Link RL 12 mX12_init.1 := Or.inl (in_gwi 960 (by decide +kernel) rfl)
set_option maxRecDepth 100000 in
theorem lk_RL_13 : Link RL 13 mX11_horse.1 := Or.inl (in_gwi 353 (by decide +kernel) rfl)
set_option maxRecDepth 100000 in
theorem lk_RL_17 : Link RL 17 mX12_horse.1 := Or.inl (in_gwi 1146 (by decide +kernel) rfl)
set_option maxRecDepth 100000 in
theorem lk_RL_18 : Link RL 18 mX11_lame.1 := Or.inl (in_gwi 389 (by decide +kernel) rfl)
set_option maxRecDepth 100000 in
theorem lk_RL_22 : Link RL 22 mX12_lame.1 := Or.inl (in_gwi 1150 (by decide +kernel) rfl)
set_option maxRecDepth 100000 in
theorem lk_RL_23 : Link RL 23 mX11_spans.1 := Or.inl (in_gwi 401 (by decide +kernel) rfl)
set_option maxRecDepth 100000 in
theorem lk_RL_27 : Link RL 27 mX12_spans.1 := Or.inl (in_gwi 1158 (by decide +kernel) rfl)
set_option maxRecDepth 100000 in
theorem lk_RL_28 : Link RL 28 mX11_way.1 := Or.inl (in_gwi 409 (by decide +kernel) rfl)
set_option maxRecDepth 100000 in
theorem lk_RL_32 : Link RL 32 mX12_way.1 := Or.inl (in_gwi 1162 (by decide +kernel) rfl)
set_option maxRecDepth 100000 in
theorem lk_RL_33 : Link RL 33 mX11_carriages.1 := Or.inl (in_gwi 421 (by decide +kernel) rfl)
set_option maxRecDepth 100000 in
theorem lk_RL_37 : Link RL 37 mX12_carriages.1 := Or.inl (in_gwi 1169 (by decide +kernel) rfl)
set_option maxRecDepth 100000 in
theorem lk_RL_38 : Link RL 38 mX11_need.1 := Or.inl (in_gwi 429 (by decide +kernel) rfl)
set_option maxRecDepth 100000 in
theorem lk_RL_41 : Link RL 41 mX12_need.1 := Or.inl (in_gwi 1173 (by decide +kernel) rfl)
set_option maxRecDepth 100000 in
theorem lk_RL_42 : Link RL 42 mX11_match.1 := Or.inl (in_gwi 438 (by decide +kernel) rfl)
set_option maxRecDepth 100000 in
theorem lk_RL_45 : Link RL 45 mX12_match.1 := Or.inl (in_gwi 1177 (by decide +kernel) rfl)
set_option maxRecDepth 100000 in
theorem lk_RL_46 : Link RL 46 mX11_matches.1 := Or.inl (in_gwi 466 (by decide +kernel) rfl)
set_option maxRecDepth 100000 in
theorem lk_RL_50 : Link RL 50 mX12_matches.1 := Or.inl (in_gwi 1195 (by decide +kernel) rfl)
set_option maxRecDepth 100000 in
theorem lk_RL_51 : Link RL 51 mX11_job.1 := Or.inl (in_gwi 483 (by decide +kernel) rfl)
set_option maxRecDepth 100000 in
theorem lk_RL_55 : Link RL 55 mX12_job.1 := Or.inl (in_gwi 1199 (by decide +kernel) rfl)
set_option maxRecDepth 100000 in
theorem lk_RL_56 : Link RL 56 mX11_drop.1 := Or.inl (in_gwi 547 (by decide +kernel) rfl)
set_option maxRecDepth 100000 in
theorem lk_RL_59 : Link RL 59 mX12_drop.1 := Or.inl (in_gwi 1207 (by decide +kernel) rfl)
set_option maxRecDepth 100000 in
theorem lk_RL_60 : Link RL 60 mX11_of.1 := Or.inl (in_gwi 563 (by decide +kernel) rfl)
set_option maxRecDepth 100000 in
theorem lk_RL_64 : Link RL 64 mX12_of.1 := Or.inl (in_gwi 1219 (by decide +kernel) rfl)
set_option maxRecDepth 100000 in
theorem lk_RL_65 : Link RL 65 mX11_behind.1 := Or.inl (in_gwi 583 (by decide +kernel) rfl)
set_option maxRecDepth 100000 in
theorem lk_RL_68 : Link RL 68 mX12_behind.1 := Or.inl (in_gwi 1235 (by decide +kernel) rfl)
set_option maxRecDepth 100000 in
theorem lk_RL_69 : Link RL 69 mX11_empty.1 := Or.inl (in_gwi 593 (by decide +kernel) rfl)
