theorem in_gt {w : Cond} (i : Nat) (h : lw_tbl[i]? = some w) (hg : goodWord w = true) : w ∈ gt := List.mem_filter.mpr ⟨List.mem_of_getElem? h, hg⟩
theorem in_nw {w : Cond} (i : Nat) (h : lw_tbl[i]? = some w) (hg : isNest w = true) : w ∈ nwl := List.mem_filter.mpr ⟨List.mem_of_getElem? h, hg⟩
theorem oi_X7_1 : Cond.methodLink RX7 1 objectInit ∈ gt := in_gt 69 (by decide +kernel) rfl
-- class X7 7 FiveDice$Tally
theorem cw_X7_9 : CWN RX7 9 yX4_init cX4_init 1 none 0 := ⟨⟨"FiveDice", in_nw 74 (by decide +kernel) rfl⟩, in_gt 52 (by decide +kernel) rfl, in_gt 76 (by decide +kernel) rfl, by decide +kernel, by decide +kernel, by decide +kernel, by decide +kernel⟩
theorem fl_X7_10 : FL RX7 10 7 0 := ⟨_, cls7, by decide, in_gt 255 (by decide +kernel) rfl⟩
-- class X7 16 FiveDice$Row
theorem fl_X7_18 : FL RX7 18 7 1 := ⟨_, cls7, by decide, in_gt 256 (by decide +kernel) rfl⟩
-- class X7 22 FiveDice$Game
theorem cw_X7_24 : CWN RX7 24 yX1_init cX1_init 1 none 0 := ⟨⟨"FiveDice", in_nw 87 (by decide +kernel) rfl⟩, in_gt 53 (by decide +kernel) rfl, in_gt 89 (by decide +kernel) rfl, by decide +kernel, by decide +kernel, by decide +kernel, by decide +kernel⟩
theorem fl_X7_25 : FL RX7 25 7 2 := ⟨_, cls7, by decide, in_gt 257 (by decide +kernel) rfl⟩
-- class X7 29 FiveDice$Worths
theorem cw_X7_31 : CW RX7 31 yX6_init cX6_init 2 none 1 := ⟨in_gt 169 (by decide +kernel) rfl, in_gt 55 (by decide +kernel) rfl, in_gt 171 (by decide +kernel) rfl, by decide +kernel, by decide +kernel, by decide +kernel, by decide +kernel⟩
theorem fl_X7_34 : FL RX7 34 7 3 := ⟨_, cls7, by decide, in_gt 258 (by decide +kernel) rfl⟩
-- class X7 38 FiveDice$Chances
theorem cw_X7_40 : CW RX7 40 yX0_init cX0_init 2 none 1 := ⟨in_gt 205 (by decide +kernel) rfl, in_gt 57 (by decide +kernel) rfl, in_gt 207 (by decide +kernel) rfl, by decide +kernel, by decide +kernel, by decide +kernel, by decide +kernel⟩
theorem fl_X7_41 : FL RX7 41 7 4 := ⟨_, cls7, by decide, in_gt 259 (by decide +kernel) rfl⟩
theorem fl_X7_45 : FL RX7 45 7 5 := ⟨_, cls7, by decide, in_gt 260 (by decide +kernel) rfl⟩
theorem fl_X7_49 : FL RX7 49 7 6 := ⟨_, cls7, by decide, in_gt 261 (by decide +kernel) rfl⟩
theorem fl_X7_52 : FL RX7 52 7 7 := ⟨_, cls7, by decide, in_gt 262 (by decide +kernel) rfl⟩
theorem fl_X7_55 : FL RX7 55 7 8 := ⟨_, cls7, by decide, in_gt 263 (by decide +kernel) rfl⟩
theorem fl_X7_58 : FL RX7 58 7 9 := ⟨_, cls7, by decide, in_gt 264 (by decide +kernel) rfl⟩
theorem fl_X7_62 : FL RX7 62 7 10 := ⟨_, cls7, by decide, in_gt 265 (by decide +kernel) rfl⟩
theorem fl_X7_65 : FL RX7 65 7 11 := ⟨_, cls7, by decide, in_gt 266 (by decide +kernel) rfl⟩
theorem fl_X7_68 : FL RX7 68 7 12 := ⟨_, cls7, by decide, in_gt 267 (by decide +kernel) rfl⟩
theorem fl_X7_72 : FL RX7 72 7 13 := ⟨_, cls7, by decide, in_gt 268 (by decide +kernel) rfl⟩
theorem fl_X7_75 : FL RX7 75 7 14 := ⟨_, cls7, by decide, in_gt 269 (by decide +kernel) rfl⟩
theorem fl_X7_78 : FL RX7 78 7 15 := ⟨_, cls7, by decide, in_gt 270 (by decide +kernel) rfl⟩
theorem fl_X7_81 : FL RX7 81 7 16 := ⟨_, cls7, by decide, in_gt 271 (by decide +kernel) rfl⟩
theorem fl_X7_84 : FL RX7 84 7 17 := ⟨_, cls7, by decide, in_gt 272 (by decide +kernel) rfl⟩
theorem cw_X7_87 : CWN RX7 87 yX3_init cX3_init 1 none 0 := ⟨⟨"FiveDice", in_nw 237 (by decide +kernel) rfl⟩, in_gt 58 (by decide +kernel) rfl, in_gt 239 (by decide +kernel) rfl, by decide +kernel, by decide +kernel, by decide +kernel, by decide +kernel⟩
theorem cw_X7_88 : CW RX7 88 yX3_become cX3_become 4 none 3 := ⟨in_gt 318 (by decide +kernel) rfl, in_gt 58 (by decide +kernel) rfl, in_gt 321 (by decide +kernel) rfl, by decide +kernel, by decide +kernel, by decide +kernel, by decide +kernel⟩
theorem cw_X7_92 : CW RX7 92 yX7_isLarge cX7_isLarge 6 (some .boolean) 0 := ⟨in_gt 326 (by decide +kernel) rfl, in_gt 51 (by decide +kernel) rfl, in_gt 329 (by decide +kernel) rfl, by decide +kernel, by decide +kernel, by decide +kernel, by decide +kernel⟩
theorem cw_X7_96 : CW RX7 96 yX1_prepare cX1_prepare 6 none 4 := ⟨in_gt 331 (by decide +kernel) rfl, in_gt 53 (by decide +kernel) rfl, in_gt 334 (by decide +kernel) rfl, by decide +kernel, by decide +kernel, by decide +kernel, by decide +kernel⟩
theorem cw_X7_100 : CW RX7 100 yX1_writePoints cX1_writePoints 6 none 2 := ⟨in_gt 361 (by decide +kernel) rfl, in_gt 53 (by decide +kernel) rfl, in_gt 364 (by decide +kernel) rfl, by decide +kernel, by decide +kernel, by decide +kernel, by decide +kernel⟩
theorem cw_X7_104 : CW RX7 104 yX6_reckonAll cX6_reckonAll 3 none 0 := ⟨in_gt 404 (by decide +kernel) rfl, in_gt 55 (by decide +kernel) rfl, in_gt 407 (by decide +kernel) rfl, by decide +kernel, by decide +kernel, by decide +kernel, by decide +kernel⟩
theorem cw_X7_107 : CW RX7 107 yX0_forget cX0_forget 1 none 0 := ⟨in_gt 475 (by decide +kernel) rfl, in_gt 57 (by decide +kernel) rfl, in_gt 478 (by decide +kernel) rfl, by decide +kernel, by decide +kernel, by decide +kernel, by decide +kernel⟩
theorem cw_X7_110 : CW RX7 110 yX7_comeToTurn cX7_comeToTurn 2 none 0 := ⟨in_gt 479 (by decide +kernel) rfl, in_gt 51 (by decide +kernel) rfl, in_gt 482 (by decide +kernel) rfl, by decide +kernel, by decide +kernel, by decide +kernel, by decide +kernel⟩
theorem fn_X7_113 : FN RX7 113 1 0 := ⟨_, "FiveDice", cls1, by decide, in_nw 138 (by decide +kernel) rfl⟩
theorem cw_X7_117 : CW RX7 117 yX2_joined cX2_joined 8 (some .int) 3 := ⟨in_gt 497 (by decide +kernel) rfl, in_gt 54 (by decide +kernel) rfl, in_gt 500 (by decide +kernel) rfl, by decide +kernel, by decide +kernel, by decide +kernel, by decide +kernel⟩
theorem cw_X7_123 : CW RX7 123 yX7_comeToHeap cX7_comeToHeap 4 (some .int) 1 := ⟨in_gt 502 (by decide +kernel) rfl, in_gt 51 (by decide +kernel) rfl, in_gt 505 (by decide +kernel) rfl, by decide +kernel, by decide +kernel, by decide +kernel, by decide +kernel⟩
theorem ki_X7_127 : Cond.constant RX7 127 (1103515245) ∈ gt := in_gt 536 (by decide +kernel) rfl
theorem ki_X7_128 : Cond.constant RX7 128 (2147483647) ∈ gt := in_gt 537 (by decide +kernel) rfl
theorem cw_X7_129 : CW RX7 129 yX7_sideOf cX7_sideOf 2 (some .int) 2 := ⟨in_gt 538 (by decide +kernel) rfl, in_gt 51 (by decide +kernel) rfl, in_gt 540 (by decide +kernel) rfl, by decide +kernel, by decide +kernel, by decide +kernel, by decide +kernel⟩
theorem cw_X7_133 : CW RX7 133 yX2_withDie cX2_withDie 3 (some .int) 2 := ⟨in_gt 541 (by decide +kernel) rfl, in_gt 54 (by decide +kernel) rfl, in_gt 353 (by decide +kernel) rfl, by decide +kernel, by decide +kernel, by decide +kernel, by decide +kernel⟩
theorem cw_X7_136 : CW RX7 136 yX7_mayHold cX7_mayHold 1 (some .boolean) 0 := ⟨in_gt 546 (by decide +kernel) rfl, in_gt 51 (by decide +kernel) rfl, in_gt 549 (by decide +kernel) rfl, by decide +kernel, by decide +kernel, by decide +kernel, by decide +kernel⟩
theorem cw_X7_139 : CW RX7 139 yX2_partOf cX2_partOf 4 (some .int) 2 := ⟨in_gt 554 (by decide +kernel) rfl, in_gt 54 (by decide +kernel) rfl, in_gt 557 (by decide +kernel) rfl, by decide +kernel, by decide +kernel, by decide +kernel, by decide +kernel⟩
theorem cw_X7_142 : CW RX7 142 yX7_stand cX7_stand 2 (some .long) 0 := ⟨in_gt 506 (by decide +kernel) rfl, in_gt 51 (by decide +kernel) rfl, in_gt 509 (by decide +kernel) rfl, by decide +kernel, by decide +kernel, by decide +kernel, by decide +kernel⟩
theorem fn_X7_146 : FN RX7 146 2 1 := ⟨_, "FiveDice", cls2, by decide, in_nw 101 (by decide +kernel) rfl⟩
theorem cw_X7_150 : CW RX7 150 yX7_at cX7_at 2 (some .int) 2 := ⟨in_gt 531 (by decide +kernel) rfl, in_gt 51 (by decide +kernel) rfl, in_gt 371 (by decide +kernel) rfl, by decide +kernel, by decide +kernel, by decide +kernel, by decide +kernel⟩
theorem cw_X7_154 : CW RX7 154 yX7_isRow cX7_isRow 2 (some .boolean) 1 := ⟨in_gt 570 (by decide +kernel) rfl, in_gt 51 (by decide +kernel) rfl, in_gt 573 (by decide +kernel) rfl, by decide +kernel, by decide +kernel, by decide +kernel, by decide +kernel⟩
theorem cw_X7_158 : CW RX7 158 yX7_hasHeap cX7_hasHeap 1 (some .boolean) 0 := ⟨in_gt 550 (by decide +kernel) rfl, in_gt 51 (by decide +kernel) rfl, in_gt 553 (by decide +kernel) rfl, by decide +kernel, by decide +kernel, by decide +kernel, by decide +kernel⟩
theorem cw_X7_161 : CW RX7 161 yX7_isFilled cX7_isFilled 2 (some .boolean) 1 := ⟨in_gt 574 (by decide +kernel) rfl, in_gt 51 (by decide +kernel) rfl, in_gt 577 (by decide +kernel) rfl, by decide +kernel, by decide +kernel, by decide +kernel, by decide +kernel⟩
theorem cw_X7_164 : CW RX7 164 yX1_pointsAt cX1_pointsAt 3 (some .int) 2 := ⟨in_gt 578 (by decide +kernel) rfl, in_gt 53 (by decide +kernel) rfl, in_gt 581 (by decide +kernel) rfl, by decide +kernel, by decide +kernel, by decide +kernel, by decide +kernel⟩
theorem fn_X7_167 : FN RX7 167 3 3 := ⟨_, "FiveDice", cls3, by decide, in_nw 245 (by decide +kernel) rfl⟩
theorem fn_X7_170 : FN RX7 170 1 2 := ⟨_, "FiveDice", cls1, by decide, in_nw 144 (by decide +kernel) rfl⟩
theorem cw_X7_174 : CW RX7 174 yX7_unitPower cX7_unitPower 2 (some .int) 0 := ⟨in_gt 527 (by decide +kernel) rfl, in_gt 51 (by decide +kernel) rfl, in_gt 530 (by decide +kernel) rfl, by decide +kernel, by decide +kernel, by decide +kernel, by decide +kernel⟩
theorem cw_X7_178 : CW RX7 178 yX7_at_ cX7_at_ 2 (some .long) 2 := ⟨in_gt 510 (by decide +kernel) rfl, in_gt 51 (by decide +kernel) rfl, in_gt 360 (by decide +kernel) rfl, by decide +kernel, by decide +kernel, by decide +kernel, by decide +kernel⟩
theorem kl_X7_181 : Cond.constantLong RX7 181 (-4) ∈ gt := in_gt 586 (by decide +kernel) rfl
theorem cw_X7_183 : CW RX7 183 yX7_worthHere cX7_worthHere 1 (some .long) 0 := ⟨in_gt 511 (by decide +kernel) rfl, in_gt 51 (by decide +kernel) rfl, in_gt 514 (by decide +kernel) rfl, by decide +kernel, by decide +kernel, by decide +kernel, by decide +kernel⟩
theorem kl_X7_186 : Cond.constantLong RX7 186 (-3) ∈ gt := in_gt 595 (by decide +kernel) rfl
theorem fn_X7_188 : FN RX7 188 6 1 := ⟨_, "FiveDice", cls6, by decide, in_nw 193 (by decide +kernel) rfl⟩
theorem cw_X7_192 : CW RX7 192 yX5_valueOfHold cX5_valueOfHold 3 (some .long) 2 := ⟨in_gt 519 (by decide +kernel) rfl, in_gt 56 (by decide +kernel) rfl, in_gt 522 (by decide +kernel) rfl, by decide +kernel, by decide +kernel, by decide +kernel, by decide +kernel⟩
theorem fn_X7_198 : FN RX7 198 2 0 := ⟨_, "FiveDice", cls2, by decide, in_nw 99 (by decide +kernel) rfl⟩
theorem cw_X7_201 : CW RX7 201 yX5_bestHoldOf cX5_bestHoldOf 6 (some .int) 2 := ⟨in_gt 600 (by decide +kernel) rfl, in_gt 56 (by decide +kernel) rfl, in_gt 603 (by decide +kernel) rfl, by decide +kernel, by decide +kernel, by decide +kernel, by decide +kernel⟩
theorem cw_X7_204 : CW RX7 204 yX6_bestRowFor cX6_bestRowFor 10 (some .int) 2 := ⟨in_gt 611 (by decide +kernel) rfl, in_gt 55 (by decide +kernel) rfl, in_gt 614 (by decide +kernel) rfl, by decide +kernel, by decide +kernel, by decide +kernel, by decide +kernel⟩
theorem cw_X7_207 : CW RX7 207 yX0_beforeTurn cX0_beforeTurn 3 (some .long) 2 := ⟨in_gt 621 (by decide +kernel) rfl, in_gt 57 (by decide +kernel) rfl, in_gt 624 (by decide +kernel) rfl, by decide +kernel, by decide +kernel, by decide +kernel, by decide +kernel⟩
theorem cw_X7_210 : CW RX7 210 yX0_inTurn cX0_inTurn 4 (some (.object "FiveDice$Turn")) 3 := ⟨in_gt 662 (by decide +kernel) rfl, in_gt 57 (by decide +kernel) rfl, in_gt 665 (by decide +kernel) rfl, by decide +kernel, by decide +kernel, by decide +kernel, by decide +kernel⟩
theorem cw_X7_213 : CW RX7 213 yX7_valueIn cX7_valueIn 2 (some .long) 1 := ⟨in_gt 515 (by decide +kernel) rfl, in_gt 51 (by decide +kernel) rfl, in_gt 518 (by decide +kernel) rfl, by decide +kernel, by decide +kernel, by decide +kernel, by decide +kernel⟩
theorem cw_X7_217 : CW RX7 217 yX4_read cX4_read 7 (some .boolean) 3 := ⟨in_gt 679 (by decide +kernel) rfl, in_gt 52 (by decide +kernel) rfl, in_gt 375 (by decide +kernel) rfl, by decide +kernel, by decide +kernel, by decide +kernel, by decide +kernel⟩
theorem cw_X7_221 : CW RX7 221 yX3_pointsOf cX3_pointsOf 2 (some .int) 1 := ⟨in_gt 680 (by decide +kernel) rfl, in_gt 58 (by decide +kernel) rfl, in_gt 382 (by decide +kernel) rfl, by decide +kernel, by decide +kernel, by decide +kernel, by decide +kernel⟩
theorem cw_X7_225 : CW RX7 225 yX4_orders cX4_orders 4 (some .int) 0 := ⟨in_gt 685 (by decide +kernel) rfl, in_gt 52 (by decide +kernel) rfl, in_gt 688 (by decide +kernel) rfl, by decide +kernel, by decide +kernel, by decide +kernel, by decide +kernel⟩
theorem cw_X7_228 : CW RX7 228 yJ6_bitCount_0f7a4 cJ6_bitCount_0f7a4 1 (some .int) 1 := ⟨in_gt 700 (by decide +kernel) rfl, in_gt 62 (by decide +kernel) rfl, in_gt 441 (by decide +kernel) rfl, by decide +kernel, by decide +kernel, by decide +kernel, by decide +kernel⟩
theorem kl_X7_233 : Cond.constantLong RX7 233 (1000000000000000) ∈ gt := in_gt 330 (by decide +kernel) rfl
theorem cw_X7_235 : CW RX7 235 yX1_freeRows cX1_freeRows 2 (some .int) 1 := ⟨in_gt 483 (by decide +kernel) rfl, in_gt 53 (by decide +kernel) rfl, in_gt 438 (by decide +kernel) rfl, by decide +kernel, by decide +kernel, by decide +kernel, by decide +kernel⟩
theorem cw_X7_238 : CW RX7 238 yX6_lookAt cX6_lookAt 2 none 1 := ⟨in_gt 484 (by decide +kernel) rfl, in_gt 55 (by decide +kernel) rfl, in_gt 487 (by decide +kernel) rfl, by decide +kernel, by decide +kernel, by decide +kernel, by decide +kernel⟩
theorem fn_X7_242 : FN RX7 242 6 2 := ⟨_, "FiveDice", cls6, by decide, in_nw 195 (by decide +kernel) rfl⟩
theorem cw_X7_245 : CW RX7 245 yX5_valueOfHeap cX5_valueOfHeap 3 (some .long) 2 := ⟨in_gt 523 (by decide +kernel) rfl, in_gt 56 (by decide +kernel) rfl, in_gt 526 (by decide +kernel) rfl, by decide +kernel, by decide +kernel, by decide +kernel, by decide +kernel⟩
theorem oi_X0_3 : Cond.methodLink RX0 3 objectInit ∈ gt := in_gt 208 (by decide +kernel) rfl
theorem fl_X0_9 : FL RX0 9 0 2 := ⟨_, cls0, by decide, in_gt 213 (by decide +kernel) rfl⟩
theorem fl_X0_15 : FL RX0 15 0 3 := ⟨_, cls0, by decide, in_gt 214 (by decide +kernel) rfl⟩
theorem fl_X0_18 : FL RX0 18 0 4 := ⟨_, cls0, by decide, in_gt 215 (by decide +kernel) rfl⟩
theorem fl_X0_21 : FL RX0 21 0 5 := ⟨_, cls0, by decide, in_gt 216 (by decide +kernel) rfl⟩
theorem fl_X0_25 : FL RX0 25 0 6 := ⟨_, cls0, by decide, in_gt 217 (by decide +kernel) rfl⟩
theorem fl_X0_28 : FL RX0 28 0 7 := ⟨_, cls0, by decide, in_gt 218 (by decide +kernel) rfl⟩
theorem fl_X0_32 : FL RX0 32 0 0 := ⟨_, cls0, by decide, in_gt 211 (by decide +kernel) rfl⟩
-- class X0 36 FiveDice$Turn
theorem cw_X0_38 : CW RX0 38 yX5_init cX5_init 2 none 1 := ⟨in_gt 210 (by decide +kernel) rfl, in_gt 56 (by decide +kernel) rfl, in_gt 177 (by decide +kernel) rfl, by decide +kernel, by decide +kernel, by decide +kernel, by decide +kernel⟩
theorem fl_X0_41 : FL RX0 41 0 1 := ⟨_, cls0, by decide, in_gt 212 (by decide +kernel) rfl⟩
theorem cw_X0_45 : CW RX0 45 yX0_makeReady cX0_makeReady 2 none 0 := ⟨in_gt 625 (by decide +kernel) rfl, in_gt 57 (by decide +kernel) rfl, in_gt 628 (by decide +kernel) rfl, by decide +kernel, by decide +kernel, by decide +kernel, by decide +kernel⟩
theorem cw_X0_48 : CW RX0 48 yX0_ofSheet cX0_ofSheet 5 (some .long) 3 := ⟨in_gt 648 (by decide +kernel) rfl, in_gt 57 (by decide +kernel) rfl, in_gt 651 (by decide +kernel) rfl, by decide +kernel, by decide +kernel, by decide +kernel, by decide +kernel⟩
theorem cw_X0_52 : CW RX0 52 yX0_layGround cX0_layGround 11 none 3 := ⟨in_gt 653 (by decide +kernel) rfl, in_gt 57 (by decide +kernel) rfl, in_gt 656 (by decide +kernel) rfl, by decide +kernel, by decide +kernel, by decide +kernel, by decide +kernel⟩
theorem cw_X0_56 : CW RX0 56 yX5_climb cX5_climb 3 none 1 := ⟨in_gt 666 (by decide +kernel) rfl, in_gt 56 (by decide +kernel) rfl, in_gt 457 (by decide +kernel) rfl, by decide +kernel, by decide +kernel, by decide +kernel, by decide +kernel⟩
theorem cw_X0_60 : CW RX0 60 yX0_measureSheets cX0_measureSheets 10 (some .int) 0 := ⟨in_gt 629 (by decide +kernel) rfl, in_gt 57 (by decide +kernel) rfl, in_gt 632 (by decide +kernel) rfl, by decide +kernel, by decide +kernel, by decide +kernel, by decide +kernel⟩
theorem mm_X0_64 : Cond.methodLink RX0 64 Lib.Math.max.name ∈ gt := in_gt 645 (by decide +kernel) rfl
theorem kl_X0_70 : Cond.constantLong RX0 70 (-1) ∈ gt := in_gt 646 (by decide +kernel) rfl
theorem cw_X0_72 : CW RX0 72 yJ7_fill_bad5a cJ7_fill_bad5a 6 none 4 := ⟨in_gt 647 (by decide +kernel) rfl, in_gt 61 (by decide +kernel) rfl, in_gt 423 (by decide +kernel) rfl, by decide +kernel, by decide +kernel, by decide +kernel, by decide +kernel⟩
theorem cw_X0_78 : CW RX0 78 yX1_fullSheet cX1_fullSheet 1 (some .int) 0 := ⟨in_gt 633 (by decide +kernel) rfl, in_gt 53 (by decide +kernel) rfl, in_gt 411 (by decide +kernel) rfl, by decide +kernel, by decide +kernel, by decide +kernel, by decide +kernel⟩
theorem fn_X0_83 : FN RX0 83 1 5 := ⟨_, "FiveDice", cls1, by decide, in_nw 152 (by decide +kernel) rfl⟩
theorem cw_X0_87 : CW RX0 87 yX0_leastOfRow cX0_leastOfRow 5 (some .int) 1 := ⟨in_gt 634 (by decide +kernel) rfl, in_gt 57 (by decide +kernel) rfl, in_gt 637 (by decide +kernel) rfl, by decide +kernel, by decide +kernel, by decide +kernel, by decide +kernel⟩
theorem cw_X0_91 : CW RX0 91 yX0_mostOfRow cX0_mostOfRow 5 (some .int) 1 := ⟨in_gt 641 (by decide +kernel) rfl, in_gt 57 (by decide +kernel) rfl, in_gt 644 (by decide +kernel) rfl, by decide +kernel, by decide +kernel, by decide +kernel, by decide +kernel⟩
theorem fn_X0_94 : FN RX0 94 1 0 := ⟨_, "FiveDice", cls1, by decide, in_nw 139 (by decide +kernel) rfl⟩
theorem cw_X0_98 : CW RX0 98 yX2_wholeCount cX2_wholeCount 1 (some .int) 0 := ⟨in_gt 638 (by decide +kernel) rfl, in_gt 54 (by decide +kernel) rfl, in_gt 368 (by decide +kernel) rfl, by decide +kernel, by decide +kernel, by decide +kernel, by decide +kernel⟩
theorem fn_X0_103 : FN RX0 103 1 1 := ⟨_, "FiveDice", cls1, by decide, in_nw 142 (by decide +kernel) rfl⟩
theorem cw_X0_106 : CWN RX0 106 yX7_at cX7_at 2 (some .int) 2 := ⟨⟨"FiveDice", in_nw 639 (by decide +kernel) rfl⟩, in_gt 51 (by decide +kernel) rfl, in_gt 371 (by decide +kernel) rfl, by decide +kernel, by decide +kernel, by decide +kernel, by decide +kernel⟩
theorem mm_X0_110 : Cond.methodLink RX0 110 Lib.Math.min.name ∈ gt := in_gt 640 (by decide +kernel) rfl
theorem cw_X0_113 : CW RX0 113 yX1_unitBefore cX1_unitBefore 2 (some .long) 1 := ⟨in_gt 652 (by decide +kernel) rfl, in_gt 53 (by decide +kernel) rfl, in_gt 434 (by decide +kernel) rfl, by decide +kernel, by decide +kernel, by decide +kernel, by decide +kernel⟩
theorem cw_X0_117 : CW RX0 117 yX5_valueBefore cX5_valueBefore 2 (some .long) 0 := ⟨in_gt 661 (by decide +kernel) rfl, in_gt 56 (by decide +kernel) rfl, in_gt 453 (by decide +kernel) rfl, by decide +kernel, by decide +kernel, by decide +kernel, by decide +kernel⟩
theorem cw_X0_121 : CW RX0 121 yX1_isFree cX1_isFree 3 (some .boolean) 2 := ⟨in_gt 657 (by decide +kernel) rfl, in_gt 53 (by decide +kernel) rfl, in_gt 430 (by decide +kernel) rfl, by decide +kernel, by decide +kernel, by decide +kernel, by decide +kernel⟩
theorem mm_X0_125 : Cond.methodLink RX0 125 Lib.MathLoose.max_long.x ∈ gt := in_gt 658 (by decide +kernel) rfl
theorem cw_X0_128 : CW RX0 128 yX5_ground cX5_ground 1 (some (.array .long)) 0 := ⟨in_gt 659 (by decide +kernel) rfl, in_gt 56 (by decide +kernel) rfl, in_gt 420 (by decide +kernel) rfl, by decide +kernel, by decide +kernel, by decide +kernel, by decide +kernel⟩
theorem fn_X0_132 : FN RX0 132 2 7 := ⟨_, "FiveDice", cls2, by decide, in_nw 117 (by decide +kernel) rfl⟩
theorem ac_X0_135 : Cond.methodLink RX0 135 arraycopyName ∈ gt := in_gt 660 (by decide +kernel) rfl
theorem oi_X1_3 : Cond.methodLink RX1 3 objectInit ∈ gt := in_gt 90 (by decide +kernel) rfl
-- class X1 9 FiveDice$Heaps
theorem cw_X1_11 : CWN RX1 11 yX2_init cX2_init 1 none 0 := ⟨⟨"FiveDice", in_nw 93 (by decide +kernel) rfl⟩, in_gt 54 (by decide +kernel) rfl, in_gt 95 (by decide +kernel) rfl, by decide +kernel, by decide +kernel, by decide +kernel, by decide +kernel⟩
theorem fl_X1_12 : FL RX1 12 1 0 := ⟨_, cls1, by decide, in_gt 135 (by decide +kernel) rfl⟩
theorem fl_X1_18 : FL RX1 18 1 1 := ⟨_, cls1, by decide, in_gt 140 (by decide +kernel) rfl⟩
theorem fl_X1_22 : FL RX1 22 1 2 := ⟨_, cls1, by decide, in_gt 143 (by decide +kernel) rfl⟩
theorem fl_X1_26 : FL RX1 26 1 3 := ⟨_, cls1, by decide, in_gt 145 (by decide +kernel) rfl⟩
theorem fl_X1_29 : FL RX1 29 1 4 := ⟨_, cls1, by decide, in_gt 147 (by decide +kernel) rfl⟩
theorem fl_X1_33 : FL RX1 33 1 5 := ⟨_, cls1, by decide, in_gt 150 (by decide +kernel) rfl⟩
theorem cw_X1_36 : CW RX1 36 yX2_build cX2_build 5 none 2 := ⟨in_gt 335 (by decide +kernel) rfl, in_gt 54 (by decide +kernel) rfl, in_gt 338 (by decide +kernel) rfl, by decide +kernel, by decide +kernel, by decide +kernel, by decide +kernel⟩
theorem mm_X1_40 : Cond.methodLink RX1 40 Lib.Math.min.name ∈ gt := in_gt 354 (by decide +kernel) rfl
theorem mm_X1_46 : Cond.methodLink RX1 46 Lib.Math.max.name ∈ gt := in_gt 357 (by decide +kernel) rfl
theorem cw_X1_49 : CWN RX1 49 yX7_at_ cX7_at_ 2 (some .long) 2 := ⟨⟨"FiveDice", in_nw 358 (by decide +kernel) rfl⟩, in_gt 51 (by decide +kernel) rfl, in_gt 360 (by decide +kernel) rfl, by decide +kernel, by decide +kernel, by decide +kernel, by decide +kernel⟩
theorem cw_X1_53 : CW RX1 53 yX2_wholeCount cX2_wholeCount 1 (some .int) 0 := ⟨in_gt 365 (by decide +kernel) rfl, in_gt 54 (by decide +kernel) rfl, in_gt 368 (by decide +kernel) rfl, by decide +kernel, by decide +kernel, by decide +kernel, by decide +kernel⟩
theorem fn_X1_57 : FN RX1 57 2 0 := ⟨_, "FiveDice", cls2, by decide, in_nw 98 (by decide +kernel) rfl⟩
theorem fn_X1_60 : FN RX1 60 2 7 := ⟨_, "FiveDice", cls2, by decide, in_nw 114 (by decide +kernel) rfl⟩
theorem cw_X1_63 : CWN RX1 63 yX7_at cX7_at 2 (some .int) 2 := ⟨⟨"FiveDice", in_nw 369 (by decide +kernel) rfl⟩, in_gt 51 (by decide +kernel) rfl, in_gt 371 (by decide +kernel) rfl, by decide +kernel, by decide +kernel, by decide +kernel, by decide +kernel⟩
theorem fn_X1_66 : FN RX1 66 2 4 := ⟨_, "FiveDice", cls2, by decide, in_nw 107 (by decide +kernel) rfl⟩
theorem fn_X1_69 : FN RX1 69 2 5 := ⟨_, "FiveDice", cls2, by decide, in_nw 109 (by decide +kernel) rfl⟩
theorem cw_X1_72 : CW RX1 72 yX4_read cX4_read 7 (some .boolean) 3 := ⟨in_gt 372 (by decide +kernel) rfl, in_gt 52 (by decide +kernel) rfl, in_gt 375 (by decide +kernel) rfl, by decide +kernel, by decide +kernel, by decide +kernel, by decide +kernel⟩
theorem cw_X1_78 : CW RX1 78 yX3_pointsOf cX3_pointsOf 2 (some .int) 1 := ⟨in_gt 379 (by decide +kernel) rfl, in_gt 58 (by decide +kernel) rfl, in_gt 382 (by decide +kernel) rfl, by decide +kernel, by decide +kernel, by decide +kernel, by decide +kernel⟩
theorem cw_X1_84 : CW RX1 84 yJ6_bitCount_0f7a4 cJ6_bitCount_0f7a4 1 (some .int) 1 := ⟨in_gt 439 (by decide +kernel) rfl, in_gt 62 (by decide +kernel) rfl, in_gt 441 (by decide +kernel) rfl, by decide +kernel, by decide +kernel, by decide +kernel, by decide +kernel⟩
theorem cw_X1_90 : CW RX1 90 yX1_freeRows cX1_freeRows 2 (some .int) 1 := ⟨in_gt 435 (by decide +kernel) rfl, in_gt 53 (by decide +kernel) rfl, in_gt 438 (by decide +kernel) rfl, by decide +kernel, by decide +kernel, by decide +kernel, by decide +kernel⟩
theorem oi_X2_3 : Cond.methodLink RX2 3 objectInit ∈ gt := in_gt 96 (by decide +kernel) rfl
theorem fl_X2_9 : FL RX2 9 2 0 := ⟨_, cls2, by decide, in_gt 97 (by decide +kernel) rfl⟩
theorem fl_X2_15 : FL RX2 15 2 1 := ⟨_, cls2, by decide, in_gt 100 (by decide +kernel) rfl⟩
theorem fl_X2_18 : FL RX2 18 2 2 := ⟨_, cls2, by decide, in_gt 103 (by decide +kernel) rfl⟩
theorem fl_X2_21 : FL RX2 21 2 3 := ⟨_, cls2, by decide, in_gt 104 (by decide +kernel) rfl⟩
theorem fl_X2_24 : FL RX2 24 2 4 := ⟨_, cls2, by decide, in_gt 106 (by decide +kernel) rfl⟩
theorem fl_X2_28 : FL RX2 28 2 5 := ⟨_, cls2, by decide, in_gt 108 (by decide +kernel) rfl⟩
theorem fl_X2_31 : FL RX2 31 2 6 := ⟨_, cls2, by decide, in_gt 111 (by decide +kernel) rfl⟩
theorem fl_X2_34 : FL RX2 34 2 7 := ⟨_, cls2, by decide, in_gt 113 (by decide +kernel) rfl⟩
theorem cw_X2_37 : CW RX2 37 yX2_addLargestDie cX2_addLargestDie 5 none 2 := ⟨in_gt 339 (by decide +kernel) rfl, in_gt 54 (by decide +kernel) rfl, in_gt 342 (by decide +kernel) rfl, by decide +kernel, by decide +kernel, by decide +kernel, by decide +kernel⟩
theorem cw_X2_41 : CW RX2 41 yX2_addSmallerDie cX2_addSmallerDie 7 none 2 := ⟨in_gt 346 (by decide +kernel) rfl, in_gt 54 (by decide +kernel) rfl, in_gt 349 (by decide +kernel) rfl, by decide +kernel, by decide +kernel, by decide +kernel, by decide +kernel⟩
theorem mm_X2_44 : Cond.methodLink RX2 44 Lib.Math.max.name ∈ gt := in_gt 343 (by decide +kernel) rfl
theorem cw_X2_50 : CW RX2 50 yX2_withDie cX2_withDie 3 (some .int) 2 := ⟨in_gt 350 (by decide +kernel) rfl, in_gt 54 (by decide +kernel) rfl, in_gt 353 (by decide +kernel) rfl, by decide +kernel, by decide +kernel, by decide +kernel, by decide +kernel⟩
theorem cw_X2_53 : CWN RX2 53 yX7_at cX7_at 2 (some .int) 2 := ⟨⟨"FiveDice", in_nw 501 (by decide +kernel) rfl⟩, in_gt 51 (by decide +kernel) rfl, in_gt 371 (by decide +kernel) rfl, by decide +kernel, by decide +kernel, by decide +kernel, by decide +kernel⟩
theorem cw_X2_57 : CW RX2 57 yX2_figuresOf cX2_figuresOf 4 (some .int) 1 := ⟨in_gt 558 (by decide +kernel) rfl, in_gt 54 (by decide +kernel) rfl, in_gt 560 (by decide +kernel) rfl, by decide +kernel, by decide +kernel, by decide +kernel, by decide +kernel⟩
theorem cw_X2_61 : CW RX2 61 yX2_joined cX2_joined 8 (some .int) 3 := ⟨in_gt 561 (by decide +kernel) rfl, in_gt 54 (by decide +kernel) rfl, in_gt 500 (by decide +kernel) rfl, by decide +kernel, by decide +kernel, by decide +kernel, by decide +kernel⟩
theorem cw_X2_65 : CW RX2 65 yX2_holdsAll cX2_holdsAll 6 (some .boolean) 2 := ⟨in_gt 562 (by decide +kernel) rfl, in_gt 54 (by decide +kernel) rfl, in_gt 565 (by decide +kernel) rfl, by decide +kernel, by decide +kernel, by decide +kernel, by decide +kernel⟩
theorem oi_X3_1 : Cond.methodLink RX3 1 objectInit ∈ gt := in_gt 240 (by decide +kernel) rfl
theorem fl_X3_7 : FL RX3 7 3 0 := ⟨_, cls3, by decide, in_gt 241 (by decide +kernel) rfl⟩
theorem fl_X3_13 : FL RX3 13 3 1 := ⟨_, cls3, by decide, in_gt 242 (by decide +kernel) rfl⟩
theorem fl_X3_16 : FL RX3 16 3 2 := ⟨_, cls3, by decide, in_gt 243 (by decide +kernel) rfl⟩
theorem fl_X3_19 : FL RX3 19 3 3 := ⟨_, cls3, by decide, in_gt 244 (by decide +kernel) rfl⟩
theorem cw_X3_22 : CW RX3 22 yX4_showing cX4_showing 2 (some .int) 1 := ⟨in_gt 383 (by decide +kernel) rfl, in_gt 52 (by decide +kernel) rfl, in_gt 386 (by decide +kernel) rfl, by decide +kernel, by decide +kernel, by decide +kernel, by decide +kernel⟩
theorem cw_X3_28 : CW RX3 28 yX4_mostAlike cX4_mostAlike 3 (some .int) 0 := ⟨in_gt 387 (by decide +kernel) rfl, in_gt 52 (by decide +kernel) rfl, in_gt 390 (by decide +kernel) rfl, by decide +kernel, by decide +kernel, by decide +kernel, by decide +kernel⟩
theorem cw_X3_32 : CW RX3 32 yX4_total cX4_total 3 (some .int) 0 := ⟨in_gt 392 (by decide +kernel) rfl, in_gt 52 (by decide +kernel) rfl, in_gt 395 (by decide +kernel) rfl, by decide +kernel, by decide +kernel, by decide +kernel, by decide +kernel⟩
theorem cw_X3_35 : CW RX3 35 yX4_longestRun cX4_longestRun 4 (some .int) 0 := ⟨in_gt 396 (by decide +kernel) rfl, in_gt 52 (by decide +kernel) rfl, in_gt 399 (by decide +kernel) rfl, by decide +kernel, by decide +kernel, by decide +kernel, by decide +kernel⟩
theorem cw_X3_38 : CW RX3 38 yX4_sidesShownBy cX4_sidesShownBy 4 (some .int) 1 := ⟨in_gt 400 (by decide +kernel) rfl, in_gt 52 (by decide +kernel) rfl, in_gt 403 (by decide +kernel) rfl, by decide +kernel, by decide +kernel, by decide +kernel, by decide +kernel⟩
theorem oi_X4_3 : Cond.methodLink RX4 3 objectInit ∈ gt := in_gt 77 (by decide +kernel) rfl
theorem fl_X4_9 : FL RX4 9 4 0 := ⟨_, cls4, by decide, in_gt 78 (by decide +kernel) rfl⟩
theorem cw_X4_15 : CW RX4 15 yJ7_fill_53178 cJ7_fill_53178 4 none 2 := ⟨in_gt 376 (by decide +kernel) rfl, in_gt 61 (by decide +kernel) rfl, in_gt 378 (by decide +kernel) rfl, by decide +kernel, by decide +kernel, by decide +kernel, by decide +kernel⟩
theorem mm_X4_21 : Cond.methodLink RX4 21 Lib.Math.max.name ∈ gt := in_gt 391 (by decide +kernel) rfl
theorem gs_X4_27 : Cond.fieldLink RX4 27 "FiveDice$Tally" "FACTORIAL" "[I" ∈ gt := in_gt 689 (by decide +kernel) rfl
theorem cw_X4_30 : CWN RX4 30 yX7_at cX7_at 2 (some .int) 2 := ⟨⟨"FiveDice", in_nw 691 (by decide +kernel) rfl⟩, in_gt 51 (by decide +kernel) rfl, in_gt 371 (by decide +kernel) rfl, by decide +kernel, by decide +kernel, by decide +kernel, by decide +kernel⟩
theorem oi_X5_3 : Cond.methodLink RX5 3 objectInit ∈ gt := in_gt 178 (by decide +kernel) rfl
-- class X5 9 "[[J"
theorem fl_X5_11 : FL RX5 11 5 1 := ⟨_, cls5, by decide, in_gt 182 (by decide +kernel) rfl⟩
theorem fl_X5_16 : FL RX5 16 5 2 := ⟨_, cls5, by decide, in_gt 183 (by decide +kernel) rfl⟩
theorem fl_X5_19 : FL RX5 19 5 0 := ⟨_, cls5, by decide, in_gt 181 (by decide +kernel) rfl⟩
theorem cw_X5_23 : CWN RX5 23 yX7_at_ cX7_at_ 2 (some .long) 2 := ⟨⟨"FiveDice", in_nw 466 (by decide +kernel) rfl⟩, in_gt 51 (by decide +kernel) rfl, in_gt 360 (by decide +kernel) rfl, by decide +kernel, by decide +kernel, by decide +kernel, by decide +kernel⟩
theorem cw_X5_27 : CW RX5 27 yX5_valueOfHeap cX5_valueOfHeap 3 (some .long) 2 := ⟨in_gt 604 (by decide +kernel) rfl, in_gt 56 (by decide +kernel) rfl, in_gt 526 (by decide +kernel) rfl, by decide +kernel, by decide +kernel, by decide +kernel, by decide +kernel⟩
theorem cw_X5_31 : CW RX5 31 yX5_valueOfHold cX5_valueOfHold 3 (some .long) 2 := ⟨in_gt 605 (by decide +kernel) rfl, in_gt 56 (by decide +kernel) rfl, in_gt 522 (by decide +kernel) rfl, by decide +kernel, by decide +kernel, by decide +kernel, by decide +kernel⟩
theorem fn_X5_34 : FN RX5 34 1 0 := ⟨_, "FiveDice", cls1, by decide, in_nw 137 (by decide +kernel) rfl⟩
theorem cw_X5_40 : CW RX5 40 yX2_holdsAll cX2_holdsAll 6 (some .boolean) 2 := ⟨in_gt 606 (by decide +kernel) rfl, in_gt 54 (by decide +kernel) rfl, in_gt 565 (by decide +kernel) rfl, by decide +kernel, by decide +kernel, by decide +kernel, by decide +kernel⟩
theorem cw_X5_46 : CW RX5 46 yX5_throwOthers cX5_throwOthers 9 none 2 := ⟨in_gt 458 (by decide +kernel) rfl, in_gt 56 (by decide +kernel) rfl, in_gt 461 (by decide +kernel) rfl, by decide +kernel, by decide +kernel, by decide +kernel, by decide +kernel⟩
theorem cw_X5_50 : CW RX5 50 yX5_bringToUnit cX5_bringToUnit 4 none 1 := ⟨in_gt 467 (by decide +kernel) rfl, in_gt 56 (by decide +kernel) rfl, in_gt 470 (by decide +kernel) rfl, by decide +kernel, by decide +kernel, by decide +kernel, by decide +kernel⟩
theorem cw_X5_54 : CW RX5 54 yX5_chooseHolds cX5_chooseHolds 8 none 2 := ⟨in_gt 471 (by decide +kernel) rfl, in_gt 56 (by decide +kernel) rfl, in_gt 474 (by decide +kernel) rfl, by decide +kernel, by decide +kernel, by decide +kernel, by decide +kernel⟩
theorem fn_X5_57 : FN RX5 57 1 4 := ⟨_, "FiveDice", cls1, by decide, in_nw 149 (by decide +kernel) rfl⟩
theorem cw_X5_61 : CW RX5 61 yX5_climb cX5_climb 3 none 1 := ⟨in_gt 454 (by decide +kernel) rfl, in_gt 56 (by decide +kernel) rfl, in_gt 457 (by decide +kernel) rfl, by decide +kernel, by decide +kernel, by decide +kernel, by decide +kernel⟩
theorem fn_X5_65 : FN RX5 65 2 7 := ⟨_, "FiveDice", cls2, by decide, in_nw 116 (by decide +kernel) rfl⟩
theorem cw_X5_68 : CW RX5 68 yX2_wholeCount cX2_wholeCount 1 (some .int) 0 := ⟨in_gt 462 (by decide +kernel) rfl, in_gt 54 (by decide +kernel) rfl, in_gt 368 (by decide +kernel) rfl, by decide +kernel, by decide +kernel, by decide +kernel, by decide +kernel⟩
theorem ac_X5_72 : Cond.methodLink RX5 72 arraycopyName ∈ gt := in_gt 463 (by decide +kernel) rfl
theorem fn_X5_78 : FN RX5 78 2 5 := ⟨_, "FiveDice", cls2, by decide, in_nw 110 (by decide +kernel) rfl⟩
theorem fn_X5_81 : FN RX5 81 2 3 := ⟨_, "FiveDice", cls2, by decide, in_nw 105 (by decide +kernel) rfl⟩
theorem fn_X5_85 : FN RX5 85 2 6 := ⟨_, "FiveDice", cls2, by decide, in_nw 112 (by decide +kernel) rfl⟩
theorem fn_X5_88 : FN RX5 88 1 3 := ⟨_, "FiveDice", cls1, by decide, in_nw 146 (by decide +kernel) rfl⟩
theorem fn_X5_92 : FN RX5 92 2 1 := ⟨_, "FiveDice", cls2, by decide, in_nw 102 (by decide +kernel) rfl⟩
theorem oi_X6_3 : Cond.methodLink RX6 3 objectInit ∈ gt := in_gt 172 (by decide +kernel) rfl
theorem fl_X6_9 : FL RX6 9 6 2 := ⟨_, cls6, by decide, in_gt 194 (by decide +kernel) rfl⟩
theorem fl_X6_15 : FL RX6 15 6 0 := ⟨_, cls6, by decide, in_gt 191 (by decide +kernel) rfl⟩
-- class X6 19 FiveDice$Turn
theorem cw_X6_21 : CW RX6 21 yX5_init cX5_init 2 none 1 := ⟨in_gt 175 (by decide +kernel) rfl, in_gt 56 (by decide +kernel) rfl, in_gt 177 (by decide +kernel) rfl, by decide +kernel, by decide +kernel, by decide +kernel, by decide +kernel⟩
theorem fl_X6_24 : FL RX6 24 6 1 := ⟨_, cls6, by decide, in_gt 192 (by decide +kernel) rfl⟩
theorem cw_X6_28 : CW RX6 28 yX1_fullSheet cX1_fullSheet 1 (some .int) 0 := ⟨in_gt 408 (by decide +kernel) rfl, in_gt 53 (by decide +kernel) rfl, in_gt 411 (by decide +kernel) rfl, by decide +kernel, by decide +kernel, by decide +kernel, by decide +kernel⟩
theorem cw_X6_34 : CW RX6 34 yX6_layGround cX6_layGround 14 none 1 := ⟨in_gt 412 (by decide +kernel) rfl, in_gt 55 (by decide +kernel) rfl, in_gt 415 (by decide +kernel) rfl, by decide +kernel, by decide +kernel, by decide +kernel, by decide +kernel⟩
theorem cw_X6_38 : CW RX6 38 yX5_valueBefore cX5_valueBefore 2 (some .long) 0 := ⟨in_gt 450 (by decide +kernel) rfl, in_gt 56 (by decide +kernel) rfl, in_gt 453 (by decide +kernel) rfl, by decide +kernel, by decide +kernel, by decide +kernel, by decide +kernel⟩
theorem fn_X6_42 : FN RX6 42 1 4 := ⟨_, "FiveDice", cls1, by decide, in_nw 148 (by decide +kernel) rfl⟩
theorem cw_X6_46 : CW RX6 46 yX5_climb cX5_climb 3 none 1 := ⟨in_gt 488 (by decide +kernel) rfl, in_gt 56 (by decide +kernel) rfl, in_gt 457 (by decide +kernel) rfl, by decide +kernel, by decide +kernel, by decide +kernel, by decide +kernel⟩
theorem kl_X6_49 : Cond.constantLong RX6 49 (-1) ∈ gt := in_gt 615 (by decide +kernel) rfl
theorem fn_X6_51 : FN RX6 51 1 5 := ⟨_, "FiveDice", cls1, by decide, in_nw 151 (by decide +kernel) rfl⟩
theorem cw_X6_54 : CW RX6 54 yX1_isFree cX1_isFree 3 (some .boolean) 2 := ⟨in_gt 427 (by decide +kernel) rfl, in_gt 53 (by decide +kernel) rfl, in_gt 430 (by decide +kernel) rfl, by decide +kernel, by decide +kernel, by decide +kernel, by decide +kernel⟩
theorem cw_X6_58 : CW RX6 58 yX1_pointsAt cX1_pointsAt 3 (some .int) 2 := ⟨in_gt 616 (by decide +kernel) rfl, in_gt 53 (by decide +kernel) rfl, in_gt 581 (by decide +kernel) rfl, by decide +kernel, by decide +kernel, by decide +kernel, by decide +kernel⟩
theorem cw_X6_62 : CW RX6 62 yX1_unitBefore cX1_unitBefore 2 (some .long) 1 := ⟨in_gt 431 (by decide +kernel) rfl, in_gt 53 (by decide +kernel) rfl, in_gt 434 (by decide +kernel) rfl, by decide +kernel, by decide +kernel, by decide +kernel, by decide +kernel⟩
theorem cw_X6_66 : CWN RX6 66 yX7_at_ cX7_at_ 2 (some .long) 2 := ⟨⟨"FiveDice", in_nw 445 (by decide +kernel) rfl⟩, in_gt 51 (by decide +kernel) rfl, in_gt 360 (by decide +kernel) rfl, by decide +kernel, by decide +kernel, by decide +kernel, by decide +kernel⟩
theorem fn_X6_70 : FN RX6 70 1 0 := ⟨_, "FiveDice", cls1, by decide, in_nw 136 (by decide +kernel) rfl⟩
theorem cw_X6_74 : CW RX6 74 yX2_wholeCount cX2_wholeCount 1 (some .int) 0 := ⟨in_gt 416 (by decide +kernel) rfl, in_gt 54 (by decide +kernel) rfl, in_gt 368 (by decide +kernel) rfl, by decide +kernel, by decide +kernel, by decide +kernel, by decide +kernel⟩
theorem fn_X6_79 : FN RX6 79 2 7 := ⟨_, "FiveDice", cls2, by decide, in_nw 115 (by decide +kernel) rfl⟩
theorem cw_X6_82 : CW RX6 82 yX5_ground cX5_ground 1 (some (.array .long)) 0 := ⟨in_gt 417 (by decide +kernel) rfl, in_gt 56 (by decide +kernel) rfl, in_gt 420 (by decide +kernel) rfl, by decide +kernel, by decide +kernel, by decide +kernel, by decide +kernel⟩
theorem cw_X6_86 : CW RX6 86 yJ7_fill_bad5a cJ7_fill_bad5a 6 none 4 := ⟨in_gt 421 (by decide +kernel) rfl, in_gt 61 (by decide +kernel) rfl, in_gt 423 (by decide +kernel) rfl, by decide +kernel, by decide +kernel, by decide +kernel, by decide +kernel⟩
theorem fn_X6_92 : FN RX6 92 1 1 := ⟨_, "FiveDice", cls1, by decide, in_nw 141 (by decide +kernel) rfl⟩
theorem cw_X6_96 : CWN RX6 96 yX7_at cX7_at 2 (some .int) 2 := ⟨⟨"FiveDice", in_nw 446 (by decide +kernel) rfl⟩, in_gt 51 (by decide +kernel) rfl, in_gt 371 (by decide +kernel) rfl, by decide +kernel, by decide +kernel, by decide +kernel, by decide +kernel⟩
theorem mm_X6_99 : Cond.methodLink RX6 99 Lib.MathLoose.max_long.x ∈ gt := in_gt 447 (by decide +kernel) rfl
-- class L 7 FiveDice
theorem cw_L_9 : CW RL 9 yX7_init cX7_init 2 none 0 := ⟨in_gt 66 (by decide +kernel) rfl, in_gt 51 (by decide +kernel) rfl, in_gt 68 (by decide +kernel) rfl, by decide +kernel, by decide +kernel, by decide +kernel, by decide +kernel⟩
-- class L 10 FiveDiceModel
theorem cw_L_12 : CW RL 12 yX8_init cX8_init 2 none 0 := ⟨in_gt 703 (by decide +kernel) rfl, in_gt 59 (by decide +kernel) rfl, in_gt 705 (by decide +kernel) rfl, by decide +kernel, by decide +kernel, by decide +kernel, by decide +kernel⟩
theorem cw_L_13 : CW RL 13 yX7_dice cX7_dice 4 (some .int) 3 := ⟨in_gt 310 (by decide +kernel) rfl, in_gt 51 (by decide +kernel) rfl, in_gt 313 (by decide +kernel) rfl, by decide +kernel, by decide +kernel, by decide +kernel, by decide +kernel⟩
theorem cw_L_17 : CW RL 17 yX8_dice cX8_dice 4 (some .int) 3 := ⟨in_gt 806 (by decide +kernel) rfl, in_gt 59 (by decide +kernel) rfl, in_gt 809 (by decide +kernel) rfl, by decide +kernel, by decide +kernel, by decide +kernel, by decide +kernel⟩
theorem cw_L_18 : CW RL 18 yX7_row cX7_row 4 (some .int) 3 := ⟨in_gt 314 (by decide +kernel) rfl, in_gt 51 (by decide +kernel) rfl, in_gt 317 (by decide +kernel) rfl, by decide +kernel, by decide +kernel, by decide +kernel, by decide +kernel⟩
theorem cw_L_21 : CW RL 21 yX8_row cX8_row 4 (some .int) 3 := ⟨in_gt 813 (by decide +kernel) rfl, in_gt 59 (by decide +kernel) rfl, in_gt 816 (by decide +kernel) rfl, by decide +kernel, by decide +kernel, by decide +kernel, by decide +kernel⟩
theorem cw_L_22 : CW RL 22 yX7_begin cX7_begin 1 (some .int) 0 := ⟨in_gt 322 (by decide +kernel) rfl, in_gt 51 (by decide +kernel) rfl, in_gt 325 (by decide +kernel) rfl, by decide +kernel, by decide +kernel, by decide +kernel, by decide +kernel⟩
theorem cw_L_26 : CW RL 26 yX8_begin cX8_begin 3 (some .int) 0 := ⟨in_gt 817 (by decide +kernel) rfl, in_gt 59 (by decide +kernel) rfl, in_gt 820 (by decide +kernel) rfl, by decide +kernel, by decide +kernel, by decide +kernel, by decide +kernel⟩
theorem cw_L_27 : CW RL 27 yX7_end cX7_end 1 (some .int) 0 := ⟨in_gt 489 (by decide +kernel) rfl, in_gt 51 (by decide +kernel) rfl, in_gt 492 (by decide +kernel) rfl, by decide +kernel, by decide +kernel, by decide +kernel, by decide +kernel⟩
theorem cw_L_30 : CW RL 30 yX8_end cX8_end 2 (some .int) 0 := ⟨in_gt 871 (by decide +kernel) rfl, in_gt 59 (by decide +kernel) rfl, in_gt 874 (by decide +kernel) rfl, by decide +kernel, by decide +kernel, by decide +kernel, by decide +kernel⟩
theorem cw_L_31 : CW RL 31 yX7_fall cX7_fall 3 (some .int) 1 := ⟨in_gt 493 (by decide +kernel) rfl, in_gt 51 (by decide +kernel) rfl, in_gt 496 (by decide +kernel) rfl, by decide +kernel, by decide +kernel, by decide +kernel, by decide +kernel⟩
theorem cw_L_35 : CW RL 35 yX8_fall cX8_fall 5 (some .int) 1 := ⟨in_gt 875 (by decide +kernel) rfl, in_gt 59 (by decide +kernel) rfl, in_gt 878 (by decide +kernel) rfl, by decide +kernel, by decide +kernel, by decide +kernel, by decide +kernel⟩
theorem cw_L_36 : CW RL 36 yX7_draw cX7_draw 5 (some .int) 1 := ⟨in_gt 532 (by decide +kernel) rfl, in_gt 51 (by decide +kernel) rfl, in_gt 535 (by decide +kernel) rfl, by decide +kernel, by decide +kernel, by decide +kernel, by decide +kernel⟩
theorem cw_L_39 : CW RL 39 yX8_draw cX8_draw 4 (some .int) 1 := ⟨in_gt 907 (by decide +kernel) rfl, in_gt 59 (by decide +kernel) rfl, in_gt 910 (by decide +kernel) rfl, by decide +kernel, by decide +kernel, by decide +kernel, by decide +kernel⟩
theorem cw_L_40 : CW RL 40 yX7_hold cX7_hold 5 (some .int) 1 := ⟨in_gt 542 (by decide +kernel) rfl, in_gt 51 (by decide +kernel) rfl, in_gt 545 (by decide +kernel) rfl, by decide +kernel, by decide +kernel, by decide +kernel, by decide +kernel⟩
theorem cw_L_43 : CW RL 43 yX8_hold cX8_hold 5 (some .int) 1 := ⟨in_gt 913 (by decide +kernel) rfl, in_gt 59 (by decide +kernel) rfl, in_gt 916 (by decide +kernel) rfl, by decide +kernel, by decide +kernel, by decide +kernel, by decide +kernel⟩
theorem cw_L_44 : CW RL 44 yX7_fill cX7_fill 5 (some .int) 1 := ⟨in_gt 566 (by decide +kernel) rfl, in_gt 51 (by decide +kernel) rfl, in_gt 569 (by decide +kernel) rfl, by decide +kernel, by decide +kernel, by decide +kernel, by decide +kernel⟩
theorem cw_L_47 : CW RL 47 yX8_fill cX8_fill 5 (some .int) 1 := ⟨in_gt 929 (by decide +kernel) rfl, in_gt 59 (by decide +kernel) rfl, in_gt 932 (by decide +kernel) rfl, by decide +kernel, by decide +kernel, by decide +kernel, by decide +kernel⟩
theorem cw_L_48 : CW RL 48 yX7_unit cX7_unit 1 (some .long) 0 := ⟨in_gt 582 (by decide +kernel) rfl, in_gt 51 (by decide +kernel) rfl, in_gt 585 (by decide +kernel) rfl, by decide +kernel, by decide +kernel, by decide +kernel, by decide +kernel⟩
theorem cw_L_52 : CW RL 52 yX8_unit cX8_unit 1 (some .long) 0 := ⟨in_gt 933 (by decide +kernel) rfl, in_gt 59 (by decide +kernel) rfl, in_gt 936 (by decide +kernel) rfl, by decide +kernel, by decide +kernel, by decide +kernel, by decide +kernel⟩
theorem cw_L_53 : CW RL 53 yX7_worth cX7_worth 1 (some .long) 0 := ⟨in_gt 587 (by decide +kernel) rfl, in_gt 51 (by decide +kernel) rfl, in_gt 590 (by decide +kernel) rfl, by decide +kernel, by decide +kernel, by decide +kernel, by decide +kernel⟩
theorem cw_L_56 : CW RL 56 yX8_worth cX8_worth 1 (some .long) 0 := ⟨in_gt 938 (by decide +kernel) rfl, in_gt 59 (by decide +kernel) rfl, in_gt 941 (by decide +kernel) rfl, by decide +kernel, by decide +kernel, by decide +kernel, by decide +kernel⟩
theorem cw_L_57 : CW RL 57 yX7_worthOf cX7_worthOf 3 (some .long) 1 := ⟨in_gt 591 (by decide +kernel) rfl, in_gt 51 (by decide +kernel) rfl, in_gt 594 (by decide +kernel) rfl, by decide +kernel, by decide +kernel, by decide +kernel, by decide +kernel⟩
theorem cw_L_61 : CW RL 61 yX8_worthOf cX8_worthOf 3 (some .long) 1 := ⟨in_gt 942 (by decide +kernel) rfl, in_gt 59 (by decide +kernel) rfl, in_gt 945 (by decide +kernel) rfl, by decide +kernel, by decide +kernel, by decide +kernel, by decide +kernel⟩
theorem cw_L_62 : CW RL 62 yX7_bestHold cX7_bestHold 1 (some .int) 0 := ⟨in_gt 596 (by decide +kernel) rfl, in_gt 51 (by decide +kernel) rfl, in_gt 599 (by decide +kernel) rfl, by decide +kernel, by decide +kernel, by decide +kernel, by decide +kernel⟩
theorem cw_L_65 : CW RL 65 yX8_bestHold cX8_bestHold 3 (some .int) 0 := ⟨in_gt 947 (by decide +kernel) rfl, in_gt 59 (by decide +kernel) rfl, in_gt 950 (by decide +kernel) rfl, by decide +kernel, by decide +kernel, by decide +kernel, by decide +kernel⟩
theorem cw_L_66 : CW RL 66 yX7_bestRow cX7_bestRow 1 (some .int) 0 := ⟨in_gt 607 (by decide +kernel) rfl, in_gt 51 (by decide +kernel) rfl, in_gt 610 (by decide +kernel) rfl, by decide +kernel, by decide +kernel, by decide +kernel, by decide +kernel⟩
theorem cw_L_69 : CW RL 69 yX8_bestRow cX8_bestRow 3 (some .int) 0 := ⟨in_gt 955 (by decide +kernel) rfl, in_gt 59 (by decide +kernel) rfl, in_gt 958 (by decide +kernel) rfl, by decide +kernel, by decide +kernel, by decide +kernel, by decide +kernel⟩
theorem cw_L_70 : CW RL 70 yX7_chance cX7_chance 4 (some .long) 1 := ⟨in_gt 617 (by decide +kernel) rfl, in_gt 51 (by decide +kernel) rfl, in_gt 620 (by decide +kernel) rfl, by decide +kernel, by decide +kernel, by decide +kernel, by decide +kernel⟩
theorem cw_L_73 : CW RL 73 yX8_chance cX8_chance 6 (some .long) 1 := ⟨in_gt 959 (by decide +kernel) rfl, in_gt 59 (by decide +kernel) rfl, in_gt 962 (by decide +kernel) rfl, by decide +kernel, by decide +kernel, by decide +kernel, by decide +kernel⟩
theorem cw_L_74 : CW RL 74 yX7_luck cX7_luck 1 (some .long) 0 := ⟨in_gt 667 (by decide +kernel) rfl, in_gt 51 (by decide +kernel) rfl, in_gt 670 (by decide +kernel) rfl, by decide +kernel, by decide +kernel, by decide +kernel, by decide +kernel⟩
theorem cw_L_77 : CW RL 77 yX8_luck cX8_luck 1 (some .long) 0 := ⟨in_gt 979 (by decide +kernel) rfl, in_gt 59 (by decide +kernel) rfl, in_gt 982 (by decide +kernel) rfl, by decide +kernel, by decide +kernel, by decide +kernel, by decide +kernel⟩
theorem cw_L_78 : CW RL 78 yX7_slip cX7_slip 1 (some .long) 0 := ⟨in_gt 671 (by decide +kernel) rfl, in_gt 51 (by decide +kernel) rfl, in_gt 674 (by decide +kernel) rfl, by decide +kernel, by decide +kernel, by decide +kernel, by decide +kernel⟩
theorem cw_L_81 : CW RL 81 yX8_slip cX8_slip 1 (some .long) 0 := ⟨in_gt 983 (by decide +kernel) rfl, in_gt 59 (by decide +kernel) rfl, in_gt 986 (by decide +kernel) rfl, by decide +kernel, by decide +kernel, by decide +kernel, by decide +kernel⟩
theorem cw_L_82 : CW RL 82 yX7_points cX7_points 3 (some .int) 2 := ⟨in_gt 675 (by decide +kernel) rfl, in_gt 51 (by decide +kernel) rfl, in_gt 678 (by decide +kernel) rfl, by decide +kernel, by decide +kernel, by decide +kernel, by decide +kernel⟩
theorem cw_L_86 : CW RL 86 yX8_points cX8_points 4 (some .int) 2 := ⟨in_gt 987 (by decide +kernel) rfl, in_gt 59 (by decide +kernel) rfl, in_gt 990 (by decide +kernel) rfl, by decide +kernel, by decide +kernel, by decide +kernel, by decide +kernel⟩
theorem cw_L_87 : CW RL 87 yX7_ways cX7_ways 2 (some .int) 1 := ⟨in_gt 681 (by decide +kernel) rfl, in_gt 51 (by decide +kernel) rfl, in_gt 684 (by decide +kernel) rfl, by decide +kernel, by decide +kernel, by decide +kernel, by decide +kernel⟩
theorem cw_L_90 : CW RL 90 yX8_ways cX8_ways 7 (some .int) 1 := ⟨in_gt 991 (by decide +kernel) rfl, in_gt 59 (by decide +kernel) rfl, in_gt 994 (by decide +kernel) rfl, by decide +kernel, by decide +kernel, by decide +kernel, by decide +kernel⟩
theorem cw_L_91 : CW RL 91 yX7_filled cX7_filled 2 (some .int) 1 := ⟨in_gt 692 (by decide +kernel) rfl, in_gt 51 (by decide +kernel) rfl, in_gt 695 (by decide +kernel) rfl, by decide +kernel, by decide +kernel, by decide +kernel, by decide +kernel⟩
theorem cw_L_94 : CW RL 94 yX8_filled cX8_filled 2 (some .int) 1 := ⟨in_gt 995 (by decide +kernel) rfl, in_gt 59 (by decide +kernel) rfl, in_gt 998 (by decide +kernel) rfl, by decide +kernel, by decide +kernel, by decide +kernel, by decide +kernel⟩
theorem cw_L_95 : CW RL 95 yX7_count cX7_count 2 (some .int) 1 := ⟨in_gt 696 (by decide +kernel) rfl, in_gt 51 (by decide +kernel) rfl, in_gt 699 (by decide +kernel) rfl, by decide +kernel, by decide +kernel, by decide +kernel, by decide +kernel⟩
theorem cw_L_98 : CW RL 98 yX8_count cX8_count 3 (some .int) 1 := ⟨in_gt 999 (by decide +kernel) rfl, in_gt 59 (by decide +kernel) rfl, in_gt 1002 (by decide +kernel) rfl, by decide +kernel, by decide +kernel, by decide +kernel, by decide +kernel⟩
theorem oi_X8_1 : Cond.methodLink RX8 1 objectInit ∈ gt := in_gt 706 (by decide +kernel) rfl
theorem fl_X8_7 : FL RX8 7 8 0 := ⟨_, cls8, by decide, in_gt 708 (by decide +kernel) rfl⟩
theorem fl_X8_13 : FL RX8 13 8 1 := ⟨_, cls8, by decide, in_gt 709 (by decide +kernel) rfl⟩
theorem fl_X8_16 : FL RX8 16 8 2 := ⟨_, cls8, by decide, in_gt 710 (by decide +kernel) rfl⟩
theorem fl_X8_19 : FL RX8 19 8 4 := ⟨_, cls8, by decide, in_gt 712 (by decide +kernel) rfl⟩
theorem fl_X8_23 : FL RX8 23 8 5 := ⟨_, cls8, by decide, in_gt 713 (by decide +kernel) rfl⟩
theorem fl_X8_26 : FL RX8 26 8 6 := ⟨_, cls8, by decide, in_gt 714 (by decide +kernel) rfl⟩
theorem fl_X8_29 : FL RX8 29 8 9 := ⟨_, cls8, by decide, in_gt 717 (by decide +kernel) rfl⟩
theorem fl_X8_32 : FL RX8 32 8 10 := ⟨_, cls8, by decide, in_gt 718 (by decide +kernel) rfl⟩
theorem fl_X8_35 : FL RX8 35 8 11 := ⟨_, cls8, by decide, in_gt 719 (by decide +kernel) rfl⟩
theorem fl_X8_38 : FL RX8 38 8 12 := ⟨_, cls8, by decide, in_gt 720 (by decide +kernel) rfl⟩
theorem fl_X8_41 : FL RX8 41 8 13 := ⟨_, cls8, by decide, in_gt 721 (by decide +kernel) rfl⟩
theorem fl_X8_44 : FL RX8 44 8 16 := ⟨_, cls8, by decide, in_gt 724 (by decide +kernel) rfl⟩
theorem fl_X8_47 : FL RX8 47 8 24 := ⟨_, cls8, by decide, in_gt 732 (by decide +kernel) rfl⟩
theorem fl_X8_51 : FL RX8 51 8 25 := ⟨_, cls8, by decide, in_gt 733 (by decide +kernel) rfl⟩
theorem fl_X8_54 : FL RX8 54 8 26 := ⟨_, cls8, by decide, in_gt 734 (by decide +kernel) rfl⟩
theorem fl_X8_57 : FL RX8 57 8 27 := ⟨_, cls8, by decide, in_gt 735 (by decide +kernel) rfl⟩
theorem ki_X8_60 : Cond.constant RX8 60 (128256) ∈ gt := in_gt 707 (by decide +kernel) rfl
theorem fl_X8_61 : FL RX8 61 8 28 := ⟨_, cls8, by decide, in_gt 736 (by decide +kernel) rfl⟩
theorem fl_X8_64 : FL RX8 64 8 29 := ⟨_, cls8, by decide, in_gt 737 (by decide +kernel) rfl⟩
theorem fl_X8_68 : FL RX8 68 8 30 := ⟨_, cls8, by decide, in_gt 738 (by decide +kernel) rfl⟩
theorem fl_X8_71 : FL RX8 71 8 8 := ⟨_, cls8, by decide, in_gt 716 (by decide +kernel) rfl⟩
theorem cw_X8_74 : CW RX8 74 yX8_placeOf cX8_placeOf 6 (some .int) 2 := ⟨in_gt 834 (by decide +kernel) rfl, in_gt 59 (by decide +kernel) rfl, in_gt 837 (by decide +kernel) rfl, by decide +kernel, by decide +kernel, by decide +kernel, by decide +kernel⟩
theorem cw_X8_78 : CW RX8 78 yX8_in cX8_in 3 (some .boolean) 3 := ⟨in_gt 810 (by decide +kernel) rfl, in_gt 59 (by decide +kernel) rfl, in_gt 812 (by decide +kernel) rfl, by decide +kernel, by decide +kernel, by decide +kernel, by decide +kernel⟩
theorem fl_X8_82 : FL RX8 82 8 7 := ⟨_, cls8, by decide, in_gt 715 (by decide +kernel) rfl⟩
theorem fl_X8_86 : FL RX8 86 8 3 := ⟨_, cls8, by decide, in_gt 711 (by decide +kernel) rfl⟩
theorem fl_X8_89 : FL RX8 89 8 23 := ⟨_, cls8, by decide, in_gt 731 (by decide +kernel) rfl⟩
theorem cw_X8_93 : CW RX8 93 yX8_power cX8_power 7 (some .long) 2 := ⟨in_gt 821 (by decide +kernel) rfl, in_gt 59 (by decide +kernel) rfl, in_gt 824 (by decide +kernel) rfl, by decide +kernel, by decide +kernel, by decide +kernel, by decide +kernel⟩
theorem kl_X8_97 : Cond.constantLong RX8 97 (1000000000000000) ∈ gt := in_gt 829 (by decide +kernel) rfl
theorem cw_X8_99 : CW RX8 99 yX8_findThrown cX8_findThrown 4 none 1 := ⟨in_gt 863 (by decide +kernel) rfl, in_gt 59 (by decide +kernel) rfl, in_gt 866 (by decide +kernel) rfl, by decide +kernel, by decide +kernel, by decide +kernel, by decide +kernel⟩
theorem cw_X8_103 : CW RX8 103 yX8_isPart cX8_isPart 5 (some .boolean) 2 := ⟨in_gt 867 (by decide +kernel) rfl, in_gt 59 (by decide +kernel) rfl, in_gt 870 (by decide +kernel) rfl, by decide +kernel, by decide +kernel, by decide +kernel, by decide +kernel⟩
theorem cw_X8_107 : CW RX8 107 yX8_open cX8_open 4 (some .int) 1 := ⟨in_gt 850 (by decide +kernel) rfl, in_gt 59 (by decide +kernel) rfl, in_gt 853 (by decide +kernel) rfl, by decide +kernel, by decide +kernel, by decide +kernel, by decide +kernel⟩
theorem cw_X8_111 : CW RX8 111 yX8_unitOf cX8_unitOf 2 (some .long) 1 := ⟨in_gt 854 (by decide +kernel) rfl, in_gt 59 (by decide +kernel) rfl, in_gt 857 (by decide +kernel) rfl, by decide +kernel, by decide +kernel, by decide +kernel, by decide +kernel⟩
theorem kl_X8_115 : Cond.constantLong RX8 115 (-1) ∈ gt := in_gt 858 (by decide +kernel) rfl
theorem fl_X8_117 : FL RX8 117 8 31 := ⟨_, cls8, by decide, in_gt 739 (by decide +kernel) rfl⟩
theorem cw_X8_120 : CW RX8 120 yX8_bestRowOf cX8_bestRowOf 10 (some .long) 2 := ⟨in_gt 846 (by decide +kernel) rfl, in_gt 59 (by decide +kernel) rfl, in_gt 849 (by decide +kernel) rfl, by decide +kernel, by decide +kernel, by decide +kernel, by decide +kernel⟩
theorem cw_X8_124 : CW RX8 124 yX8_findTurn cX8_findTurn 8 none 0 := ⟨in_gt 859 (by decide +kernel) rfl, in_gt 59 (by decide +kernel) rfl, in_gt 862 (by decide +kernel) rfl, by decide +kernel, by decide +kernel, by decide +kernel, by decide +kernel⟩
theorem cw_X8_127 : CW RX8 127 yX8_isLarge cX8_isLarge 4 (some .boolean) 0 := ⟨in_gt 825 (by decide +kernel) rfl, in_gt 59 (by decide +kernel) rfl, in_gt 828 (by decide +kernel) rfl, by decide +kernel, by decide +kernel, by decide +kernel, by decide +kernel⟩
theorem cw_X8_131 : CW RX8 131 yX8_findHeaps cX8_findHeaps 7 none 0 := ⟨in_gt 830 (by decide +kernel) rfl, in_gt 59 (by decide +kernel) rfl, in_gt 833 (by decide +kernel) rfl, by decide +kernel, by decide +kernel, by decide +kernel, by decide +kernel⟩
theorem cw_X8_134 : CW RX8 134 yX8_pointsIn cX8_pointsIn 11 (some .int) 2 := ⟨in_gt 838 (by decide +kernel) rfl, in_gt 59 (by decide +kernel) rfl, in_gt 841 (by decide +kernel) rfl, by decide +kernel, by decide +kernel, by decide +kernel, by decide +kernel⟩
theorem cw_X8_138 : CW RX8 138 yX8_findWorths cX8_findWorths 3 none 1 := ⟨in_gt 842 (by decide +kernel) rfl, in_gt 59 (by decide +kernel) rfl, in_gt 845 (by decide +kernel) rfl, by decide +kernel, by decide +kernel, by decide +kernel, by decide +kernel⟩
theorem fl_X8_141 : FL RX8 141 8 14 := ⟨_, cls8, by decide, in_gt 722 (by decide +kernel) rfl⟩
theorem fl_X8_144 : FL RX8 144 8 15 := ⟨_, cls8, by decide, in_gt 723 (by decide +kernel) rfl⟩
theorem fl_X8_147 : FL RX8 147 8 17 := ⟨_, cls8, by decide, in_gt 725 (by decide +kernel) rfl⟩
theorem fl_X8_150 : FL RX8 150 8 18 := ⟨_, cls8, by decide, in_gt 726 (by decide +kernel) rfl⟩
theorem fl_X8_153 : FL RX8 153 8 19 := ⟨_, cls8, by decide, in_gt 727 (by decide +kernel) rfl⟩
theorem fl_X8_156 : FL RX8 156 8 20 := ⟨_, cls8, by decide, in_gt 728 (by decide +kernel) rfl⟩
theorem fl_X8_159 : FL RX8 159 8 21 := ⟨_, cls8, by decide, in_gt 729 (by decide +kernel) rfl⟩
theorem fl_X8_162 : FL RX8 162 8 22 := ⟨_, cls8, by decide, in_gt 730 (by decide +kernel) rfl⟩
theorem cw_X8_165 : CW RX8 165 yX8_holdWorth cX8_holdWorth 2 (some .long) 1 := ⟨in_gt 899 (by decide +kernel) rfl, in_gt 59 (by decide +kernel) rfl, in_gt 902 (by decide +kernel) rfl, by decide +kernel, by decide +kernel, by decide +kernel, by decide +kernel⟩
theorem cw_X8_168 : CW RX8 168 yX8_worthHere cX8_worthHere 1 (some .long) 0 := ⟨in_gt 895 (by decide +kernel) rfl, in_gt 59 (by decide +kernel) rfl, in_gt 898 (by decide +kernel) rfl, by decide +kernel, by decide +kernel, by decide +kernel, by decide +kernel⟩
theorem cw_X8_172 : CW RX8 172 yX8_unitHere cX8_unitHere 1 (some .long) 0 := ⟨in_gt 903 (by decide +kernel) rfl, in_gt 59 (by decide +kernel) rfl, in_gt 906 (by decide +kernel) rfl, by decide +kernel, by decide +kernel, by decide +kernel, by decide +kernel⟩
theorem cw_X8_175 : CW RX8 175 yX8_isOver cX8_isOver 1 (some .boolean) 0 := ⟨in_gt 883 (by decide +kernel) rfl, in_gt 59 (by decide +kernel) rfl, in_gt 886 (by decide +kernel) rfl, by decide +kernel, by decide +kernel, by decide +kernel, by decide +kernel⟩
theorem cw_X8_178 : CW RX8 178 yX8_stand cX8_stand 3 (some .long) 0 := ⟨in_gt 891 (by decide +kernel) rfl, in_gt 59 (by decide +kernel) rfl, in_gt 894 (by decide +kernel) rfl, by decide +kernel, by decide +kernel, by decide +kernel, by decide +kernel⟩
theorem cw_X8_181 : CW RX8 181 yX8_mayFall cX8_mayFall 1 (some .boolean) 0 := ⟨in_gt 879 (by decide +kernel) rfl, in_gt 59 (by decide +kernel) rfl, in_gt 882 (by decide +kernel) rfl, by decide +kernel, by decide +kernel, by decide +kernel, by decide +kernel⟩
theorem cw_X8_184 : CW RX8 184 yX8_came cX8_came 4 (some .int) 1 := ⟨in_gt 887 (by decide +kernel) rfl, in_gt 59 (by decide +kernel) rfl, in_gt 890 (by decide +kernel) rfl, by decide +kernel, by decide +kernel, by decide +kernel, by decide +kernel⟩
theorem ki_X8_187 : Cond.constant RX8 187 (1103515245) ∈ gt := in_gt 911 (by decide +kernel) rfl
theorem ki_X8_188 : Cond.constant RX8 188 (2147483647) ∈ gt := in_gt 912 (by decide +kernel) rfl
theorem cw_X8_189 : CW RX8 189 yX8_heapOf cX8_heapOf 5 (some .int) 1 := ⟨in_gt 925 (by decide +kernel) rfl, in_gt 59 (by decide +kernel) rfl, in_gt 928 (by decide +kernel) rfl, by decide +kernel, by decide +kernel, by decide +kernel, by decide +kernel⟩
theorem cw_X8_192 : CW RX8 192 yX8_mayHold cX8_mayHold 1 (some .boolean) 0 := ⟨in_gt 917 (by decide +kernel) rfl, in_gt 59 (by decide +kernel) rfl, in_gt 920 (by decide +kernel) rfl, by decide +kernel, by decide +kernel, by decide +kernel, by decide +kernel⟩
theorem cw_X8_195 : CW RX8 195 yX8_heldOf cX8_heldOf 3 (some .int) 1 := ⟨in_gt 921 (by decide +kernel) rfl, in_gt 59 (by decide +kernel) rfl, in_gt 924 (by decide +kernel) rfl, by decide +kernel, by decide +kernel, by decide +kernel, by decide +kernel⟩
theorem kl_X8_198 : Cond.constantLong RX8 198 (-4) ∈ gt := in_gt 937 (by decide +kernel) rfl
theorem kl_X8_200 : Cond.constantLong RX8 200 (-3) ∈ gt := in_gt 946 (by decide +kernel) rfl
theorem cw_X8_202 : CW RX8 202 yX8_isBetter cX8_isBetter 7 (some .boolean) 2 := ⟨in_gt 951 (by decide +kernel) rfl, in_gt 59 (by decide +kernel) rfl, in_gt 954 (by decide +kernel) rfl, by decide +kernel, by decide +kernel, by decide +kernel, by decide +kernel⟩
theorem cw_X8_205 : CW RX8 205 yX8_wants cX8_wants 3 (some .int) 2 := ⟨in_gt 963 (by decide +kernel) rfl, in_gt 59 (by decide +kernel) rfl, in_gt 966 (by decide +kernel) rfl, by decide +kernel, by decide +kernel, by decide +kernel, by decide +kernel⟩
theorem cw_X8_208 : CW RX8 208 yX8_ask cX8_ask 5 none 2 := ⟨in_gt 967 (by decide +kernel) rfl, in_gt 59 (by decide +kernel) rfl, in_gt 970 (by decide +kernel) rfl, by decide +kernel, by decide +kernel, by decide +kernel, by decide +kernel⟩
theorem cw_X8_212 : CW RX8 212 yX8_chanceOf cX8_chanceOf 4 (some .long) 3 := ⟨in_gt 971 (by decide +kernel) rfl, in_gt 59 (by decide +kernel) rfl, in_gt 974 (by decide +kernel) rfl, by decide +kernel, by decide +kernel, by decide +kernel, by decide +kernel⟩
theorem cw_X8_216 : CW RX8 216 yX8_findChanceTurn cX8_findChanceTurn 9 none 2 := ⟨in_gt 975 (by decide +kernel) rfl, in_gt 59 (by decide +kernel) rfl, in_gt 978 (by decide +kernel) rfl, by decide +kernel, by decide +kernel, by decide +kernel, by decide +kernel⟩
theorem cw_J7_13 : CW RJ7 13 yJ7_rangeCheck_23922 cJ7_rangeCheck_23922 3 none 3 := ⟨in_gt 424 (by decide +kernel) rfl, in_gt 61 (by decide +kernel) rfl, in_gt 426 (by decide +kernel) rfl, by decide +kernel, by decide +kernel, by decide +kernel, by decide +kernel⟩
theorem ki_J6_265 : Cond.constant RJ6 265 (1431655765) ∈ gt := in_gt 442 (by decide +kernel) rfl
theorem ki_J6_266 : Cond.constant RJ6 266 (858993459) ∈ gt := in_gt 443 (by decide +kernel) rfl
theorem ki_J6_267 : Cond.constant RJ6 267 (252645135) ∈ gt := in_gt 444 (by decide +kernel) rfl
theorem ft_0_0 : FT 0 0 (.object "FiveDice$Game") true := fun q h => by cases h; exact ⟨by decide +kernel, rfl⟩
theorem ft_0_1 : FT 0 1 (.object "FiveDice$Turn") true := fun q h => by cases h; exact ⟨by decide +kernel, rfl⟩
theorem ft_0_2 : FT 0 2 (.array .int) true := fun q h => by cases h; exact ⟨by decide +kernel, rfl⟩
theorem ft_0_3 : FT 0 3 (.array .int) true := fun q h => by cases h; exact ⟨by decide +kernel, rfl⟩
theorem ft_0_4 : FT 0 4 (.array .int) true := fun q h => by cases h; exact ⟨by decide +kernel, rfl⟩
theorem ft_0_5 : FT 0 5 (.array .long) true := fun q h => by cases h; exact ⟨by decide +kernel, rfl⟩
theorem ft_0_6 : FT 0 6 (.array .long) false := fun q h => by cases h; exact ⟨by decide +kernel, rfl⟩
theorem ft_0_7 : FT 0 7 .boolean false := fun q h => by cases h; exact ⟨by decide +kernel, rfl⟩
theorem ft_1_0 : FT 1 0 (.object "FiveDice$Heaps") true := fun q h => by cases h; exact ⟨by decide +kernel, rfl⟩
theorem ft_1_1 : FT 1 1 (.array .int) true := fun q h => by cases h; exact ⟨by decide +kernel, rfl⟩
theorem ft_1_2 : FT 1 2 (.array .long) true := fun q h => by cases h; exact ⟨by decide +kernel, rfl⟩
theorem ft_1_3 : FT 1 3 (.array .long) true := fun q h => by cases h; exact ⟨by decide +kernel, rfl⟩
theorem ft_1_4 : FT 1 4 .int false := fun q h => by cases h; exact ⟨by decide +kernel, rfl⟩
theorem ft_1_5 : FT 1 5 .int false := fun q h => by cases h; exact ⟨by decide +kernel, rfl⟩
theorem ft_2_0 : FT 2 0 (.array .int) true := fun q h => by cases h; exact ⟨by decide +kernel, rfl⟩
theorem ft_2_1 : FT 2 1 (.array .int) true := fun q h => by cases h; exact ⟨by decide +kernel, rfl⟩
theorem ft_2_2 : FT 2 2 (.array .int) true := fun q h => by cases h; exact ⟨by decide +kernel, rfl⟩
theorem ft_2_3 : FT 2 3 (.array .int) true := fun q h => by cases h; exact ⟨by decide +kernel, rfl⟩
theorem ft_2_4 : FT 2 4 .int false := fun q h => by cases h; exact ⟨by decide +kernel, rfl⟩
theorem ft_2_5 : FT 2 5 .int false := fun q h => by cases h; exact ⟨by decide +kernel, rfl⟩
theorem ft_2_6 : FT 2 6 .int false := fun q h => by cases h; exact ⟨by decide +kernel, rfl⟩
theorem ft_2_7 : FT 2 7 .int false := fun q h => by cases h; exact ⟨by decide +kernel, rfl⟩
theorem ft_3_0 : FT 3 0 .int false := fun q h => by cases h; exact ⟨by decide +kernel, rfl⟩
theorem ft_3_1 : FT 3 1 .int false := fun q h => by cases h; exact ⟨by decide +kernel, rfl⟩
theorem ft_3_2 : FT 3 2 .int false := fun q h => by cases h; exact ⟨by decide +kernel, rfl⟩
theorem ft_3_3 : FT 3 3 .int false := fun q h => by cases h; exact ⟨by decide +kernel, rfl⟩
theorem ft_4_0 : FT 4 0 (.array .int) true := fun q h => by cases h; exact ⟨by decide +kernel, rfl⟩
theorem ft_5_0 : FT 5 0 (.object "FiveDice$Game") true := fun q h => by cases h; exact ⟨by decide +kernel, rfl⟩
theorem ft_5_1 : FT 5 1 (.array (.array .long)) true := fun q h => by cases h; exact ⟨by decide +kernel, rfl⟩
theorem ft_5_2 : FT 5 2 (.array (.array .long)) true := fun q h => by cases h; exact ⟨by decide +kernel, rfl⟩
theorem ft_6_0 : FT 6 0 (.object "FiveDice$Game") true := fun q h => by cases h; exact ⟨by decide +kernel, rfl⟩
theorem ft_6_1 : FT 6 1 (.object "FiveDice$Turn") true := fun q h => by cases h; exact ⟨by decide +kernel, rfl⟩
theorem ft_6_2 : FT 6 2 (.array .long) true := fun q h => by cases h; exact ⟨by decide +kernel, rfl⟩
theorem ft_7_0 : FT 7 0 (.object "FiveDice$Tally") true := fun q h => by cases h; exact ⟨by decide +kernel, rfl⟩
theorem ft_7_1 : FT 7 1 (.array (.object "FiveDice$Row")) true := fun q h => by cases h; exact ⟨by decide +kernel, rfl⟩
theorem ft_7_2 : FT 7 2 (.object "FiveDice$Game") true := fun q h => by cases h; exact ⟨by decide +kernel, rfl⟩
theorem ft_7_3 : FT 7 3 (.object "FiveDice$Worths") true := fun q h => by cases h; exact ⟨by decide +kernel, rfl⟩
theorem ft_7_4 : FT 7 4 (.object "FiveDice$Chances") true := fun q h => by cases h; exact ⟨by decide +kernel, rfl⟩
theorem ft_7_5 : FT 7 5 .int false := fun q h => by cases h; exact ⟨by decide +kernel, rfl⟩
theorem ft_7_6 : FT 7 6 .int false := fun q h => by cases h; exact ⟨by decide +kernel, rfl⟩
theorem ft_7_7 : FT 7 7 .int false := fun q h => by cases h; exact ⟨by decide +kernel, rfl⟩
theorem ft_7_8 : FT 7 8 .int false := fun q h => by cases h; exact ⟨by decide +kernel, rfl⟩
theorem ft_7_9 : FT 7 9 .boolean false := fun q h => by cases h; exact ⟨by decide +kernel, rfl⟩
theorem ft_7_10 : FT 7 10 .int false := fun q h => by cases h; exact ⟨by decide +kernel, rfl⟩
theorem ft_7_11 : FT 7 11 .int false := fun q h => by cases h; exact ⟨by decide +kernel, rfl⟩
theorem ft_7_12 : FT 7 12 .long false := fun q h => by cases h; exact ⟨by decide +kernel, rfl⟩
theorem ft_7_13 : FT 7 13 .long false := fun q h => by cases h; exact ⟨by decide +kernel, rfl⟩
theorem ft_7_14 : FT 7 14 .boolean false := fun q h => by cases h; exact ⟨by decide +kernel, rfl⟩
theorem ft_7_15 : FT 7 15 .int false := fun q h => by cases h; exact ⟨by decide +kernel, rfl⟩
theorem ft_7_16 : FT 7 16 .int false := fun q h => by cases h; exact ⟨by decide +kernel, rfl⟩
theorem ft_7_17 : FT 7 17 .int false := fun q h => by cases h; exact ⟨by decide +kernel, rfl⟩
theorem ft_8_0 : FT 8 0 .int false := fun q h => by cases h; exact ⟨by decide +kernel, rfl⟩
theorem ft_8_1 : FT 8 1 .int false := fun q h => by cases h; exact ⟨by decide +kernel, rfl⟩
theorem ft_8_2 : FT 8 2 .int false := fun q h => by cases h; exact ⟨by decide +kernel, rfl⟩
theorem ft_8_3 : FT 8 3 .int false := fun q h => by cases h; exact ⟨by decide +kernel, rfl⟩
theorem ft_8_4 : FT 8 4 (.array .int) true := fun q h => by cases h; exact ⟨by decide +kernel, rfl⟩
theorem ft_8_5 : FT 8 5 (.array .int) true := fun q h => by cases h; exact ⟨by decide +kernel, rfl⟩
theorem ft_8_6 : FT 8 6 (.array .int) true := fun q h => by cases h; exact ⟨by decide +kernel, rfl⟩
theorem ft_8_7 : FT 8 7 .boolean false := fun q h => by cases h; exact ⟨by decide +kernel, rfl⟩
theorem ft_8_8 : FT 8 8 .int false := fun q h => by cases h; exact ⟨by decide +kernel, rfl⟩
theorem ft_8_9 : FT 8 9 (.array .int) true := fun q h => by cases h; exact ⟨by decide +kernel, rfl⟩
theorem ft_8_10 : FT 8 10 (.array .int) true := fun q h => by cases h; exact ⟨by decide +kernel, rfl⟩
theorem ft_8_11 : FT 8 11 (.array .int) true := fun q h => by cases h; exact ⟨by decide +kernel, rfl⟩
theorem ft_8_12 : FT 8 12 (.array .int) true := fun q h => by cases h; exact ⟨by decide +kernel, rfl⟩
theorem ft_8_13 : FT 8 13 (.array .int) true := fun q h => by cases h; exact ⟨by decide +kernel, rfl⟩
theorem ft_8_14 : FT 8 14 .int false := fun q h => by cases h; exact ⟨by decide +kernel, rfl⟩
theorem ft_8_15 : FT 8 15 .int false := fun q h => by cases h; exact ⟨by decide +kernel, rfl⟩
theorem ft_8_16 : FT 8 16 (.array .int) true := fun q h => by cases h; exact ⟨by decide +kernel, rfl⟩
theorem ft_8_17 : FT 8 17 .boolean false := fun q h => by cases h; exact ⟨by decide +kernel, rfl⟩
theorem ft_8_18 : FT 8 18 .boolean false := fun q h => by cases h; exact ⟨by decide +kernel, rfl⟩
theorem ft_8_19 : FT 8 19 .int false := fun q h => by cases h; exact ⟨by decide +kernel, rfl⟩
theorem ft_8_20 : FT 8 20 .int false := fun q h => by cases h; exact ⟨by decide +kernel, rfl⟩
theorem ft_8_21 : FT 8 21 .long false := fun q h => by cases h; exact ⟨by decide +kernel, rfl⟩
theorem ft_8_22 : FT 8 22 .long false := fun q h => by cases h; exact ⟨by decide +kernel, rfl⟩
theorem ft_8_23 : FT 8 23 .long false := fun q h => by cases h; exact ⟨by decide +kernel, rfl⟩
theorem ft_8_24 : FT 8 24 (.array .long) true := fun q h => by cases h; exact ⟨by decide +kernel, rfl⟩
theorem ft_8_25 : FT 8 25 (.array .long) true := fun q h => by cases h; exact ⟨by decide +kernel, rfl⟩
theorem ft_8_26 : FT 8 26 (.array .long) true := fun q h => by cases h; exact ⟨by decide +kernel, rfl⟩
theorem ft_8_27 : FT 8 27 (.array .long) true := fun q h => by cases h; exact ⟨by decide +kernel, rfl⟩
theorem ft_8_28 : FT 8 28 (.array .long) true := fun q h => by cases h; exact ⟨by decide +kernel, rfl⟩
theorem ft_8_29 : FT 8 29 (.array .boolean) true := fun q h => by cases h; exact ⟨by decide +kernel, rfl⟩
theorem ft_8_30 : FT 8 30 (.array .int) true := fun q h => by cases h; exact ⟨by decide +kernel, rfl⟩
theorem ft_8_31 : FT 8 31 .int false := fun q h => by cases h; exact ⟨by decide +kernel, rfl⟩
theorem sm_J6_bitCount_0f7a4 : Cond.static yJ6_bitCount_0f7a4 ∈ gt := in_gt 440 (by decide +kernel) rfl
theorem sm_J7_fill_53178 : Cond.static yJ7_fill_53178 ∈ gt := in_gt 377 (by decide +kernel) rfl
theorem sm_J7_fill_bad5a : Cond.static yJ7_fill_bad5a ∈ gt := in_gt 422 (by decide +kernel) rfl
theorem sm_J7_rangeCheck_23922 : Cond.static yJ7_rangeCheck_23922 ∈ gt := in_gt 425 (by decide +kernel) rfl
theorem im_X0_beforeTurn : Cond.instanceMethod yX0_beforeTurn ∈ gt := in_gt 622 (by decide +kernel) rfl
theorem se_X0_beforeTurn : Cond.selects yX0_beforeTurn.cls yX0_beforeTurn yX0_beforeTurn ∈ gt := in_gt 623 (by decide +kernel) rfl
theorem im_X0_forget : Cond.instanceMethod yX0_forget ∈ gt := in_gt 476 (by decide +kernel) rfl
theorem se_X0_forget : Cond.selects yX0_forget.cls yX0_forget yX0_forget ∈ gt := in_gt 477 (by decide +kernel) rfl
theorem im_X0_inTurn : Cond.instanceMethod yX0_inTurn ∈ gt := in_gt 663 (by decide +kernel) rfl
theorem se_X0_inTurn : Cond.selects yX0_inTurn.cls yX0_inTurn yX0_inTurn ∈ gt := in_gt 664 (by decide +kernel) rfl
theorem im_X0_init : Cond.instanceMethod yX0_init ∈ gt := in_gt 206 (by decide +kernel) rfl
theorem im_X0_layGround : Cond.instanceMethod yX0_layGround ∈ gt := in_gt 655 (by decide +kernel) rfl
theorem se_X0_layGround : Cond.selects yX0_layGround.cls yX0_layGround yX0_layGround ∈ gt := in_gt 22 (by decide +kernel) rfl
theorem im_X0_leastOfRow : Cond.instanceMethod yX0_leastOfRow ∈ gt := in_gt 636 (by decide +kernel) rfl
theorem se_X0_leastOfRow : Cond.selects yX0_leastOfRow.cls yX0_leastOfRow yX0_leastOfRow ∈ gt := in_gt 19 (by decide +kernel) rfl
theorem im_X0_makeReady : Cond.instanceMethod yX0_makeReady ∈ gt := in_gt 627 (by decide +kernel) rfl
theorem se_X0_makeReady : Cond.selects yX0_makeReady.cls yX0_makeReady yX0_makeReady ∈ gt := in_gt 17 (by decide +kernel) rfl
theorem im_X0_measureSheets : Cond.instanceMethod yX0_measureSheets ∈ gt := in_gt 631 (by decide +kernel) rfl
theorem se_X0_measureSheets : Cond.selects yX0_measureSheets.cls yX0_measureSheets yX0_measureSheets ∈ gt := in_gt 18 (by decide +kernel) rfl
theorem im_X0_mostOfRow : Cond.instanceMethod yX0_mostOfRow ∈ gt := in_gt 643 (by decide +kernel) rfl
theorem se_X0_mostOfRow : Cond.selects yX0_mostOfRow.cls yX0_mostOfRow yX0_mostOfRow ∈ gt := in_gt 20 (by decide +kernel) rfl
theorem im_X0_ofSheet : Cond.instanceMethod yX0_ofSheet ∈ gt := in_gt 650 (by decide +kernel) rfl
theorem se_X0_ofSheet : Cond.selects yX0_ofSheet.cls yX0_ofSheet yX0_ofSheet ∈ gt := in_gt 21 (by decide +kernel) rfl
theorem im_X1_freeRows : Cond.instanceMethod yX1_freeRows ∈ gt := in_gt 436 (by decide +kernel) rfl
theorem se_X1_freeRows : Cond.selects yX1_freeRows.cls yX1_freeRows yX1_freeRows ∈ gt := in_gt 437 (by decide +kernel) rfl
theorem im_X1_fullSheet : Cond.instanceMethod yX1_fullSheet ∈ gt := in_gt 409 (by decide +kernel) rfl
theorem se_X1_fullSheet : Cond.selects yX1_fullSheet.cls yX1_fullSheet yX1_fullSheet ∈ gt := in_gt 410 (by decide +kernel) rfl
theorem im_X1_init : Cond.instanceMethod yX1_init ∈ gt := in_gt 88 (by decide +kernel) rfl
theorem im_X1_isFree : Cond.instanceMethod yX1_isFree ∈ gt := in_gt 428 (by decide +kernel) rfl
theorem se_X1_isFree : Cond.selects yX1_isFree.cls yX1_isFree yX1_isFree ∈ gt := in_gt 429 (by decide +kernel) rfl
theorem im_X1_pointsAt : Cond.instanceMethod yX1_pointsAt ∈ gt := in_gt 579 (by decide +kernel) rfl
theorem se_X1_pointsAt : Cond.selects yX1_pointsAt.cls yX1_pointsAt yX1_pointsAt ∈ gt := in_gt 580 (by decide +kernel) rfl
theorem im_X1_prepare : Cond.instanceMethod yX1_prepare ∈ gt := in_gt 332 (by decide +kernel) rfl
theorem se_X1_prepare : Cond.selects yX1_prepare.cls yX1_prepare yX1_prepare ∈ gt := in_gt 333 (by decide +kernel) rfl
theorem im_X1_unitBefore : Cond.instanceMethod yX1_unitBefore ∈ gt := in_gt 432 (by decide +kernel) rfl
theorem se_X1_unitBefore : Cond.selects yX1_unitBefore.cls yX1_unitBefore yX1_unitBefore ∈ gt := in_gt 433 (by decide +kernel) rfl
theorem im_X1_writePoints : Cond.instanceMethod yX1_writePoints ∈ gt := in_gt 362 (by decide +kernel) rfl
theorem se_X1_writePoints : Cond.selects yX1_writePoints.cls yX1_writePoints yX1_writePoints ∈ gt := in_gt 363 (by decide +kernel) rfl
theorem im_X2_addLargestDie : Cond.instanceMethod yX2_addLargestDie ∈ gt := in_gt 341 (by decide +kernel) rfl
theorem se_X2_addLargestDie : Cond.selects yX2_addLargestDie.cls yX2_addLargestDie yX2_addLargestDie ∈ gt := in_gt 1 (by decide +kernel) rfl
theorem im_X2_addSmallerDie : Cond.instanceMethod yX2_addSmallerDie ∈ gt := in_gt 348 (by decide +kernel) rfl
theorem se_X2_addSmallerDie : Cond.selects yX2_addSmallerDie.cls yX2_addSmallerDie yX2_addSmallerDie ∈ gt := in_gt 2 (by decide +kernel) rfl
theorem im_X2_build : Cond.instanceMethod yX2_build ∈ gt := in_gt 336 (by decide +kernel) rfl
theorem se_X2_build : Cond.selects yX2_build.cls yX2_build yX2_build ∈ gt := in_gt 337 (by decide +kernel) rfl
theorem sm_X2_figuresOf : Cond.static yX2_figuresOf ∈ gt := in_gt 559 (by decide +kernel) rfl
theorem im_X2_holdsAll : Cond.instanceMethod yX2_holdsAll ∈ gt := in_gt 563 (by decide +kernel) rfl
theorem se_X2_holdsAll : Cond.selects yX2_holdsAll.cls yX2_holdsAll yX2_holdsAll ∈ gt := in_gt 564 (by decide +kernel) rfl
theorem im_X2_init : Cond.instanceMethod yX2_init ∈ gt := in_gt 94 (by decide +kernel) rfl
theorem im_X2_joined : Cond.instanceMethod yX2_joined ∈ gt := in_gt 498 (by decide +kernel) rfl
theorem se_X2_joined : Cond.selects yX2_joined.cls yX2_joined yX2_joined ∈ gt := in_gt 499 (by decide +kernel) rfl
theorem im_X2_partOf : Cond.instanceMethod yX2_partOf ∈ gt := in_gt 555 (by decide +kernel) rfl
theorem se_X2_partOf : Cond.selects yX2_partOf.cls yX2_partOf yX2_partOf ∈ gt := in_gt 556 (by decide +kernel) rfl
theorem im_X2_wholeCount : Cond.instanceMethod yX2_wholeCount ∈ gt := in_gt 366 (by decide +kernel) rfl
theorem se_X2_wholeCount : Cond.selects yX2_wholeCount.cls yX2_wholeCount yX2_wholeCount ∈ gt := in_gt 367 (by decide +kernel) rfl
theorem im_X2_withDie : Cond.instanceMethod yX2_withDie ∈ gt := in_gt 351 (by decide +kernel) rfl
theorem se_X2_withDie : Cond.selects yX2_withDie.cls yX2_withDie yX2_withDie ∈ gt := in_gt 352 (by decide +kernel) rfl
theorem im_X3_become : Cond.instanceMethod yX3_become ∈ gt := in_gt 319 (by decide +kernel) rfl
theorem se_X3_become : Cond.selects yX3_become.cls yX3_become yX3_become ∈ gt := in_gt 320 (by decide +kernel) rfl
theorem im_X3_init : Cond.instanceMethod yX3_init ∈ gt := in_gt 238 (by decide +kernel) rfl
theorem im_X3_pointsOf : Cond.instanceMethod yX3_pointsOf ∈ gt := in_gt 380 (by decide +kernel) rfl
theorem se_X3_pointsOf : Cond.selects yX3_pointsOf.cls yX3_pointsOf yX3_pointsOf ∈ gt := in_gt 381 (by decide +kernel) rfl
theorem im_X4_init : Cond.instanceMethod yX4_init ∈ gt := in_gt 75 (by decide +kernel) rfl
theorem im_X4_longestRun : Cond.instanceMethod yX4_longestRun ∈ gt := in_gt 397 (by decide +kernel) rfl
theorem se_X4_longestRun : Cond.selects yX4_longestRun.cls yX4_longestRun yX4_longestRun ∈ gt := in_gt 398 (by decide +kernel) rfl
theorem im_X4_mostAlike : Cond.instanceMethod yX4_mostAlike ∈ gt := in_gt 388 (by decide +kernel) rfl
theorem se_X4_mostAlike : Cond.selects yX4_mostAlike.cls yX4_mostAlike yX4_mostAlike ∈ gt := in_gt 389 (by decide +kernel) rfl
theorem im_X4_orders : Cond.instanceMethod yX4_orders ∈ gt := in_gt 686 (by decide +kernel) rfl
theorem se_X4_orders : Cond.selects yX4_orders.cls yX4_orders yX4_orders ∈ gt := in_gt 687 (by decide +kernel) rfl
theorem im_X4_read : Cond.instanceMethod yX4_read ∈ gt := in_gt 373 (by decide +kernel) rfl
theorem se_X4_read : Cond.selects yX4_read.cls yX4_read yX4_read ∈ gt := in_gt 374 (by decide +kernel) rfl
theorem im_X4_showing : Cond.instanceMethod yX4_showing ∈ gt := in_gt 384 (by decide +kernel) rfl
theorem se_X4_showing : Cond.selects yX4_showing.cls yX4_showing yX4_showing ∈ gt := in_gt 385 (by decide +kernel) rfl
theorem im_X4_sidesShownBy : Cond.instanceMethod yX4_sidesShownBy ∈ gt := in_gt 401 (by decide +kernel) rfl
theorem se_X4_sidesShownBy : Cond.selects yX4_sidesShownBy.cls yX4_sidesShownBy yX4_sidesShownBy ∈ gt := in_gt 402 (by decide +kernel) rfl
theorem im_X4_total : Cond.instanceMethod yX4_total ∈ gt := in_gt 393 (by decide +kernel) rfl
theorem se_X4_total : Cond.selects yX4_total.cls yX4_total yX4_total ∈ gt := in_gt 394 (by decide +kernel) rfl
theorem im_X5_bestHoldOf : Cond.instanceMethod yX5_bestHoldOf ∈ gt := in_gt 601 (by decide +kernel) rfl
theorem se_X5_bestHoldOf : Cond.selects yX5_bestHoldOf.cls yX5_bestHoldOf yX5_bestHoldOf ∈ gt := in_gt 602 (by decide +kernel) rfl
theorem im_X5_bringToUnit : Cond.instanceMethod yX5_bringToUnit ∈ gt := in_gt 469 (by decide +kernel) rfl
theorem se_X5_bringToUnit : Cond.selects yX5_bringToUnit.cls yX5_bringToUnit yX5_bringToUnit ∈ gt := in_gt 5 (by decide +kernel) rfl
theorem im_X5_chooseHolds : Cond.instanceMethod yX5_chooseHolds ∈ gt := in_gt 473 (by decide +kernel) rfl
theorem se_X5_chooseHolds : Cond.selects yX5_chooseHolds.cls yX5_chooseHolds yX5_chooseHolds ∈ gt := in_gt 6 (by decide +kernel) rfl
theorem im_X5_climb : Cond.instanceMethod yX5_climb ∈ gt := in_gt 455 (by decide +kernel) rfl
theorem se_X5_climb : Cond.selects yX5_climb.cls yX5_climb yX5_climb ∈ gt := in_gt 456 (by decide +kernel) rfl
theorem im_X5_ground : Cond.instanceMethod yX5_ground ∈ gt := in_gt 418 (by decide +kernel) rfl
theorem se_X5_ground : Cond.selects yX5_ground.cls yX5_ground yX5_ground ∈ gt := in_gt 419 (by decide +kernel) rfl
theorem im_X5_init : Cond.instanceMethod yX5_init ∈ gt := in_gt 176 (by decide +kernel) rfl
theorem im_X5_throwOthers : Cond.instanceMethod yX5_throwOthers ∈ gt := in_gt 460 (by decide +kernel) rfl
theorem se_X5_throwOthers : Cond.selects yX5_throwOthers.cls yX5_throwOthers yX5_throwOthers ∈ gt := in_gt 4 (by decide +kernel) rfl
theorem im_X5_valueBefore : Cond.instanceMethod yX5_valueBefore ∈ gt := in_gt 451 (by decide +kernel) rfl
theorem se_X5_valueBefore : Cond.selects yX5_valueBefore.cls yX5_valueBefore yX5_valueBefore ∈ gt := in_gt 452 (by decide +kernel) rfl
theorem im_X5_valueOfHeap : Cond.instanceMethod yX5_valueOfHeap ∈ gt := in_gt 524 (by decide +kernel) rfl
theorem se_X5_valueOfHeap : Cond.selects yX5_valueOfHeap.cls yX5_valueOfHeap yX5_valueOfHeap ∈ gt := in_gt 525 (by decide +kernel) rfl
theorem im_X5_valueOfHold : Cond.instanceMethod yX5_valueOfHold ∈ gt := in_gt 520 (by decide +kernel) rfl
theorem se_X5_valueOfHold : Cond.selects yX5_valueOfHold.cls yX5_valueOfHold yX5_valueOfHold ∈ gt := in_gt 521 (by decide +kernel) rfl
theorem im_X6_bestRowFor : Cond.instanceMethod yX6_bestRowFor ∈ gt := in_gt 612 (by decide +kernel) rfl
theorem se_X6_bestRowFor : Cond.selects yX6_bestRowFor.cls yX6_bestRowFor yX6_bestRowFor ∈ gt := in_gt 613 (by decide +kernel) rfl
theorem im_X6_init : Cond.instanceMethod yX6_init ∈ gt := in_gt 170 (by decide +kernel) rfl
theorem im_X6_layGround : Cond.instanceMethod yX6_layGround ∈ gt := in_gt 414 (by decide +kernel) rfl
theorem se_X6_layGround : Cond.selects yX6_layGround.cls yX6_layGround yX6_layGround ∈ gt := in_gt 3 (by decide +kernel) rfl
theorem im_X6_lookAt : Cond.instanceMethod yX6_lookAt ∈ gt := in_gt 485 (by decide +kernel) rfl
theorem se_X6_lookAt : Cond.selects yX6_lookAt.cls yX6_lookAt yX6_lookAt ∈ gt := in_gt 486 (by decide +kernel) rfl
theorem im_X6_reckonAll : Cond.instanceMethod yX6_reckonAll ∈ gt := in_gt 405 (by decide +kernel) rfl
theorem se_X6_reckonAll : Cond.selects yX6_reckonAll.cls yX6_reckonAll yX6_reckonAll ∈ gt := in_gt 406 (by decide +kernel) rfl
theorem sm_X7_at : Cond.static yX7_at ∈ gt := in_gt 370 (by decide +kernel) rfl
theorem sm_X7_at_ : Cond.static yX7_at_ ∈ gt := in_gt 359 (by decide +kernel) rfl
theorem im_X7_begin : Cond.instanceMethod yX7_begin ∈ gt := in_gt 323 (by decide +kernel) rfl
theorem se_X7_begin : Cond.selects yX7_begin.cls yX7_begin yX7_begin ∈ gt := in_gt 324 (by decide +kernel) rfl
theorem im_X7_bestHold : Cond.instanceMethod yX7_bestHold ∈ gt := in_gt 597 (by decide +kernel) rfl
theorem se_X7_bestHold : Cond.selects yX7_bestHold.cls yX7_bestHold yX7_bestHold ∈ gt := in_gt 598 (by decide +kernel) rfl
theorem im_X7_bestRow : Cond.instanceMethod yX7_bestRow ∈ gt := in_gt 608 (by decide +kernel) rfl
theorem se_X7_bestRow : Cond.selects yX7_bestRow.cls yX7_bestRow yX7_bestRow ∈ gt := in_gt 609 (by decide +kernel) rfl
theorem im_X7_chance : Cond.instanceMethod yX7_chance ∈ gt := in_gt 618 (by decide +kernel) rfl
theorem se_X7_chance : Cond.selects yX7_chance.cls yX7_chance yX7_chance ∈ gt := in_gt 619 (by decide +kernel) rfl
theorem im_X7_comeToHeap : Cond.instanceMethod yX7_comeToHeap ∈ gt := in_gt 504 (by decide +kernel) rfl
theorem se_X7_comeToHeap : Cond.selects yX7_comeToHeap.cls yX7_comeToHeap yX7_comeToHeap ∈ gt := in_gt 8 (by decide +kernel) rfl
theorem im_X7_comeToTurn : Cond.instanceMethod yX7_comeToTurn ∈ gt := in_gt 481 (by decide +kernel) rfl
theorem se_X7_comeToTurn : Cond.selects yX7_comeToTurn.cls yX7_comeToTurn yX7_comeToTurn ∈ gt := in_gt 7 (by decide +kernel) rfl
theorem im_X7_count : Cond.instanceMethod yX7_count ∈ gt := in_gt 697 (by decide +kernel) rfl
theorem se_X7_count : Cond.selects yX7_count.cls yX7_count yX7_count ∈ gt := in_gt 698 (by decide +kernel) rfl
theorem im_X7_dice : Cond.instanceMethod yX7_dice ∈ gt := in_gt 311 (by decide +kernel) rfl
theorem se_X7_dice : Cond.selects yX7_dice.cls yX7_dice yX7_dice ∈ gt := in_gt 312 (by decide +kernel) rfl
theorem im_X7_draw : Cond.instanceMethod yX7_draw ∈ gt := in_gt 533 (by decide +kernel) rfl
theorem se_X7_draw : Cond.selects yX7_draw.cls yX7_draw yX7_draw ∈ gt := in_gt 534 (by decide +kernel) rfl
theorem im_X7_end : Cond.instanceMethod yX7_end ∈ gt := in_gt 490 (by decide +kernel) rfl
theorem se_X7_end : Cond.selects yX7_end.cls yX7_end yX7_end ∈ gt := in_gt 491 (by decide +kernel) rfl
theorem im_X7_fall : Cond.instanceMethod yX7_fall ∈ gt := in_gt 494 (by decide +kernel) rfl
theorem se_X7_fall : Cond.selects yX7_fall.cls yX7_fall yX7_fall ∈ gt := in_gt 495 (by decide +kernel) rfl
theorem im_X7_fill : Cond.instanceMethod yX7_fill ∈ gt := in_gt 567 (by decide +kernel) rfl
theorem se_X7_fill : Cond.selects yX7_fill.cls yX7_fill yX7_fill ∈ gt := in_gt 568 (by decide +kernel) rfl
theorem im_X7_filled : Cond.instanceMethod yX7_filled ∈ gt := in_gt 693 (by decide +kernel) rfl
theorem se_X7_filled : Cond.selects yX7_filled.cls yX7_filled yX7_filled ∈ gt := in_gt 694 (by decide +kernel) rfl
theorem im_X7_hasHeap : Cond.instanceMethod yX7_hasHeap ∈ gt := in_gt 552 (by decide +kernel) rfl
theorem se_X7_hasHeap : Cond.selects yX7_hasHeap.cls yX7_hasHeap yX7_hasHeap ∈ gt := in_gt 14 (by decide +kernel) rfl
theorem im_X7_hold : Cond.instanceMethod yX7_hold ∈ gt := in_gt 543 (by decide +kernel) rfl
theorem se_X7_hold : Cond.selects yX7_hold.cls yX7_hold yX7_hold ∈ gt := in_gt 544 (by decide +kernel) rfl
theorem im_X7_init : Cond.instanceMethod yX7_init ∈ gt := in_gt 67 (by decide +kernel) rfl
theorem im_X7_isFilled : Cond.instanceMethod yX7_isFilled ∈ gt := in_gt 576 (by decide +kernel) rfl
theorem se_X7_isFilled : Cond.selects yX7_isFilled.cls yX7_isFilled yX7_isFilled ∈ gt := in_gt 16 (by decide +kernel) rfl
theorem im_X7_isLarge : Cond.instanceMethod yX7_isLarge ∈ gt := in_gt 328 (by decide +kernel) rfl
theorem se_X7_isLarge : Cond.selects yX7_isLarge.cls yX7_isLarge yX7_isLarge ∈ gt := in_gt 0 (by decide +kernel) rfl
theorem im_X7_isRow : Cond.instanceMethod yX7_isRow ∈ gt := in_gt 572 (by decide +kernel) rfl
theorem se_X7_isRow : Cond.selects yX7_isRow.cls yX7_isRow yX7_isRow ∈ gt := in_gt 15 (by decide +kernel) rfl
theorem im_X7_luck : Cond.instanceMethod yX7_luck ∈ gt := in_gt 668 (by decide +kernel) rfl
theorem se_X7_luck : Cond.selects yX7_luck.cls yX7_luck yX7_luck ∈ gt := in_gt 669 (by decide +kernel) rfl
theorem im_X7_mayHold : Cond.instanceMethod yX7_mayHold ∈ gt := in_gt 548 (by decide +kernel) rfl
theorem se_X7_mayHold : Cond.selects yX7_mayHold.cls yX7_mayHold yX7_mayHold ∈ gt := in_gt 13 (by decide +kernel) rfl
theorem im_X7_points : Cond.instanceMethod yX7_points ∈ gt := in_gt 676 (by decide +kernel) rfl
theorem se_X7_points : Cond.selects yX7_points.cls yX7_points yX7_points ∈ gt := in_gt 677 (by decide +kernel) rfl
theorem im_X7_row : Cond.instanceMethod yX7_row ∈ gt := in_gt 315 (by decide +kernel) rfl
theorem se_X7_row : Cond.selects yX7_row.cls yX7_row yX7_row ∈ gt := in_gt 316 (by decide +kernel) rfl
theorem sm_X7_sideOf : Cond.static yX7_sideOf ∈ gt := in_gt 539 (by decide +kernel) rfl
theorem im_X7_slip : Cond.instanceMethod yX7_slip ∈ gt := in_gt 672 (by decide +kernel) rfl
theorem se_X7_slip : Cond.selects yX7_slip.cls yX7_slip yX7_slip ∈ gt := in_gt 673 (by decide +kernel) rfl
theorem im_X7_stand : Cond.instanceMethod yX7_stand ∈ gt := in_gt 508 (by decide +kernel) rfl
theorem se_X7_stand : Cond.selects yX7_stand.cls yX7_stand yX7_stand ∈ gt := in_gt 9 (by decide +kernel) rfl
theorem im_X7_unit : Cond.instanceMethod yX7_unit ∈ gt := in_gt 583 (by decide +kernel) rfl
theorem se_X7_unit : Cond.selects yX7_unit.cls yX7_unit yX7_unit ∈ gt := in_gt 584 (by decide +kernel) rfl
theorem im_X7_unitPower : Cond.instanceMethod yX7_unitPower ∈ gt := in_gt 529 (by decide +kernel) rfl
theorem se_X7_unitPower : Cond.selects yX7_unitPower.cls yX7_unitPower yX7_unitPower ∈ gt := in_gt 12 (by decide +kernel) rfl
theorem im_X7_valueIn : Cond.instanceMethod yX7_valueIn ∈ gt := in_gt 517 (by decide +kernel) rfl
theorem se_X7_valueIn : Cond.selects yX7_valueIn.cls yX7_valueIn yX7_valueIn ∈ gt := in_gt 11 (by decide +kernel) rfl
theorem im_X7_ways : Cond.instanceMethod yX7_ways ∈ gt := in_gt 682 (by decide +kernel) rfl
theorem se_X7_ways : Cond.selects yX7_ways.cls yX7_ways yX7_ways ∈ gt := in_gt 683 (by decide +kernel) rfl
theorem im_X7_worth : Cond.instanceMethod yX7_worth ∈ gt := in_gt 588 (by decide +kernel) rfl
theorem se_X7_worth : Cond.selects yX7_worth.cls yX7_worth yX7_worth ∈ gt := in_gt 589 (by decide +kernel) rfl
theorem im_X7_worthHere : Cond.instanceMethod yX7_worthHere ∈ gt := in_gt 513 (by decide +kernel) rfl
theorem se_X7_worthHere : Cond.selects yX7_worthHere.cls yX7_worthHere yX7_worthHere ∈ gt := in_gt 10 (by decide +kernel) rfl
theorem im_X7_worthOf : Cond.instanceMethod yX7_worthOf ∈ gt := in_gt 592 (by decide +kernel) rfl
theorem se_X7_worthOf : Cond.selects yX7_worthOf.cls yX7_worthOf yX7_worthOf ∈ gt := in_gt 593 (by decide +kernel) rfl
theorem im_X8_ask : Cond.instanceMethod yX8_ask ∈ gt := in_gt 969 (by decide +kernel) rfl
theorem se_X8_ask : Cond.selects yX8_ask.cls yX8_ask yX8_ask ∈ gt := in_gt 47 (by decide +kernel) rfl
theorem im_X8_begin : Cond.instanceMethod yX8_begin ∈ gt := in_gt 818 (by decide +kernel) rfl
theorem se_X8_begin : Cond.selects yX8_begin.cls yX8_begin yX8_begin ∈ gt := in_gt 819 (by decide +kernel) rfl
theorem im_X8_bestHold : Cond.instanceMethod yX8_bestHold ∈ gt := in_gt 948 (by decide +kernel) rfl
theorem se_X8_bestHold : Cond.selects yX8_bestHold.cls yX8_bestHold yX8_bestHold ∈ gt := in_gt 949 (by decide +kernel) rfl
theorem im_X8_bestRow : Cond.instanceMethod yX8_bestRow ∈ gt := in_gt 956 (by decide +kernel) rfl
theorem se_X8_bestRow : Cond.selects yX8_bestRow.cls yX8_bestRow yX8_bestRow ∈ gt := in_gt 957 (by decide +kernel) rfl
theorem im_X8_bestRowOf : Cond.instanceMethod yX8_bestRowOf ∈ gt := in_gt 848 (by decide +kernel) rfl
theorem se_X8_bestRowOf : Cond.selects yX8_bestRowOf.cls yX8_bestRowOf yX8_bestRowOf ∈ gt := in_gt 29 (by decide +kernel) rfl
theorem im_X8_came : Cond.instanceMethod yX8_came ∈ gt := in_gt 889 (by decide +kernel) rfl
theorem se_X8_came : Cond.selects yX8_came.cls yX8_came yX8_came ∈ gt := in_gt 37 (by decide +kernel) rfl
theorem im_X8_chance : Cond.instanceMethod yX8_chance ∈ gt := in_gt 960 (by decide +kernel) rfl
theorem se_X8_chance : Cond.selects yX8_chance.cls yX8_chance yX8_chance ∈ gt := in_gt 961 (by decide +kernel) rfl
theorem im_X8_chanceOf : Cond.instanceMethod yX8_chanceOf ∈ gt := in_gt 973 (by decide +kernel) rfl
theorem se_X8_chanceOf : Cond.selects yX8_chanceOf.cls yX8_chanceOf yX8_chanceOf ∈ gt := in_gt 48 (by decide +kernel) rfl
theorem im_X8_count : Cond.instanceMethod yX8_count ∈ gt := in_gt 1000 (by decide +kernel) rfl
theorem se_X8_count : Cond.selects yX8_count.cls yX8_count yX8_count ∈ gt := in_gt 1001 (by decide +kernel) rfl
theorem im_X8_dice : Cond.instanceMethod yX8_dice ∈ gt := in_gt 807 (by decide +kernel) rfl
theorem se_X8_dice : Cond.selects yX8_dice.cls yX8_dice yX8_dice ∈ gt := in_gt 808 (by decide +kernel) rfl
theorem im_X8_draw : Cond.instanceMethod yX8_draw ∈ gt := in_gt 908 (by decide +kernel) rfl
theorem se_X8_draw : Cond.selects yX8_draw.cls yX8_draw yX8_draw ∈ gt := in_gt 909 (by decide +kernel) rfl
theorem im_X8_end : Cond.instanceMethod yX8_end ∈ gt := in_gt 872 (by decide +kernel) rfl
theorem se_X8_end : Cond.selects yX8_end.cls yX8_end yX8_end ∈ gt := in_gt 873 (by decide +kernel) rfl
theorem im_X8_fall : Cond.instanceMethod yX8_fall ∈ gt := in_gt 876 (by decide +kernel) rfl
theorem se_X8_fall : Cond.selects yX8_fall.cls yX8_fall yX8_fall ∈ gt := in_gt 877 (by decide +kernel) rfl
theorem im_X8_fill : Cond.instanceMethod yX8_fill ∈ gt := in_gt 930 (by decide +kernel) rfl
theorem se_X8_fill : Cond.selects yX8_fill.cls yX8_fill yX8_fill ∈ gt := in_gt 931 (by decide +kernel) rfl
theorem im_X8_filled : Cond.instanceMethod yX8_filled ∈ gt := in_gt 996 (by decide +kernel) rfl
theorem se_X8_filled : Cond.selects yX8_filled.cls yX8_filled yX8_filled ∈ gt := in_gt 997 (by decide +kernel) rfl
theorem im_X8_findChanceTurn : Cond.instanceMethod yX8_findChanceTurn ∈ gt := in_gt 977 (by decide +kernel) rfl
theorem se_X8_findChanceTurn : Cond.selects yX8_findChanceTurn.cls yX8_findChanceTurn yX8_findChanceTurn ∈ gt := in_gt 49 (by decide +kernel) rfl
theorem im_X8_findHeaps : Cond.instanceMethod yX8_findHeaps ∈ gt := in_gt 832 (by decide +kernel) rfl
theorem se_X8_findHeaps : Cond.selects yX8_findHeaps.cls yX8_findHeaps yX8_findHeaps ∈ gt := in_gt 25 (by decide +kernel) rfl
theorem im_X8_findThrown : Cond.instanceMethod yX8_findThrown ∈ gt := in_gt 865 (by decide +kernel) rfl
theorem se_X8_findThrown : Cond.selects yX8_findThrown.cls yX8_findThrown yX8_findThrown ∈ gt := in_gt 33 (by decide +kernel) rfl
theorem im_X8_findTurn : Cond.instanceMethod yX8_findTurn ∈ gt := in_gt 861 (by decide +kernel) rfl
theorem se_X8_findTurn : Cond.selects yX8_findTurn.cls yX8_findTurn yX8_findTurn ∈ gt := in_gt 32 (by decide +kernel) rfl
theorem im_X8_findWorths : Cond.instanceMethod yX8_findWorths ∈ gt := in_gt 844 (by decide +kernel) rfl
theorem se_X8_findWorths : Cond.selects yX8_findWorths.cls yX8_findWorths yX8_findWorths ∈ gt := in_gt 28 (by decide +kernel) rfl
theorem im_X8_heapOf : Cond.instanceMethod yX8_heapOf ∈ gt := in_gt 927 (by decide +kernel) rfl
theorem se_X8_heapOf : Cond.selects yX8_heapOf.cls yX8_heapOf yX8_heapOf ∈ gt := in_gt 44 (by decide +kernel) rfl
theorem im_X8_heldOf : Cond.instanceMethod yX8_heldOf ∈ gt := in_gt 923 (by decide +kernel) rfl
theorem se_X8_heldOf : Cond.selects yX8_heldOf.cls yX8_heldOf yX8_heldOf ∈ gt := in_gt 43 (by decide +kernel) rfl
theorem im_X8_hold : Cond.instanceMethod yX8_hold ∈ gt := in_gt 914 (by decide +kernel) rfl
theorem se_X8_hold : Cond.selects yX8_hold.cls yX8_hold yX8_hold ∈ gt := in_gt 915 (by decide +kernel) rfl
theorem im_X8_holdWorth : Cond.instanceMethod yX8_holdWorth ∈ gt := in_gt 901 (by decide +kernel) rfl
theorem se_X8_holdWorth : Cond.selects yX8_holdWorth.cls yX8_holdWorth yX8_holdWorth ∈ gt := in_gt 40 (by decide +kernel) rfl
theorem sm_X8_in : Cond.static yX8_in ∈ gt := in_gt 811 (by decide +kernel) rfl
theorem im_X8_init : Cond.instanceMethod yX8_init ∈ gt := in_gt 704 (by decide +kernel) rfl
theorem im_X8_isBetter : Cond.instanceMethod yX8_isBetter ∈ gt := in_gt 953 (by decide +kernel) rfl
theorem se_X8_isBetter : Cond.selects yX8_isBetter.cls yX8_isBetter yX8_isBetter ∈ gt := in_gt 45 (by decide +kernel) rfl
theorem im_X8_isLarge : Cond.instanceMethod yX8_isLarge ∈ gt := in_gt 827 (by decide +kernel) rfl
theorem se_X8_isLarge : Cond.selects yX8_isLarge.cls yX8_isLarge yX8_isLarge ∈ gt := in_gt 24 (by decide +kernel) rfl
theorem im_X8_isOver : Cond.instanceMethod yX8_isOver ∈ gt := in_gt 885 (by decide +kernel) rfl
theorem se_X8_isOver : Cond.selects yX8_isOver.cls yX8_isOver yX8_isOver ∈ gt := in_gt 36 (by decide +kernel) rfl
theorem im_X8_isPart : Cond.instanceMethod yX8_isPart ∈ gt := in_gt 869 (by decide +kernel) rfl
theorem se_X8_isPart : Cond.selects yX8_isPart.cls yX8_isPart yX8_isPart ∈ gt := in_gt 34 (by decide +kernel) rfl
theorem im_X8_luck : Cond.instanceMethod yX8_luck ∈ gt := in_gt 980 (by decide +kernel) rfl
theorem se_X8_luck : Cond.selects yX8_luck.cls yX8_luck yX8_luck ∈ gt := in_gt 981 (by decide +kernel) rfl
theorem im_X8_mayFall : Cond.instanceMethod yX8_mayFall ∈ gt := in_gt 881 (by decide +kernel) rfl
theorem se_X8_mayFall : Cond.selects yX8_mayFall.cls yX8_mayFall yX8_mayFall ∈ gt := in_gt 35 (by decide +kernel) rfl
theorem im_X8_mayHold : Cond.instanceMethod yX8_mayHold ∈ gt := in_gt 919 (by decide +kernel) rfl
theorem se_X8_mayHold : Cond.selects yX8_mayHold.cls yX8_mayHold yX8_mayHold ∈ gt := in_gt 42 (by decide +kernel) rfl
theorem im_X8_open : Cond.instanceMethod yX8_open ∈ gt := in_gt 852 (by decide +kernel) rfl
theorem se_X8_open : Cond.selects yX8_open.cls yX8_open yX8_open ∈ gt := in_gt 30 (by decide +kernel) rfl
theorem im_X8_placeOf : Cond.instanceMethod yX8_placeOf ∈ gt := in_gt 836 (by decide +kernel) rfl
theorem se_X8_placeOf : Cond.selects yX8_placeOf.cls yX8_placeOf yX8_placeOf ∈ gt := in_gt 26 (by decide +kernel) rfl
theorem im_X8_points : Cond.instanceMethod yX8_points ∈ gt := in_gt 988 (by decide +kernel) rfl
theorem se_X8_points : Cond.selects yX8_points.cls yX8_points yX8_points ∈ gt := in_gt 989 (by decide +kernel) rfl
theorem im_X8_pointsIn : Cond.instanceMethod yX8_pointsIn ∈ gt := in_gt 840 (by decide +kernel) rfl
theorem se_X8_pointsIn : Cond.selects yX8_pointsIn.cls yX8_pointsIn yX8_pointsIn ∈ gt := in_gt 27 (by decide +kernel) rfl
theorem im_X8_power : Cond.instanceMethod yX8_power ∈ gt := in_gt 823 (by decide +kernel) rfl
theorem se_X8_power : Cond.selects yX8_power.cls yX8_power yX8_power ∈ gt := in_gt 23 (by decide +kernel) rfl
theorem im_X8_row : Cond.instanceMethod yX8_row ∈ gt := in_gt 814 (by decide +kernel) rfl
theorem se_X8_row : Cond.selects yX8_row.cls yX8_row yX8_row ∈ gt := in_gt 815 (by decide +kernel) rfl
theorem im_X8_slip : Cond.instanceMethod yX8_slip ∈ gt := in_gt 984 (by decide +kernel) rfl
theorem se_X8_slip : Cond.selects yX8_slip.cls yX8_slip yX8_slip ∈ gt := in_gt 985 (by decide +kernel) rfl
theorem im_X8_stand : Cond.instanceMethod yX8_stand ∈ gt := in_gt 893 (by decide +kernel) rfl
theorem se_X8_stand : Cond.selects yX8_stand.cls yX8_stand yX8_stand ∈ gt := in_gt 38 (by decide +kernel) rfl
theorem im_X8_unit : Cond.instanceMethod yX8_unit ∈ gt := in_gt 934 (by decide +kernel) rfl
theorem se_X8_unit : Cond.selects yX8_unit.cls yX8_unit yX8_unit ∈ gt := in_gt 935 (by decide +kernel) rfl
theorem im_X8_unitHere : Cond.instanceMethod yX8_unitHere ∈ gt := in_gt 905 (by decide +kernel) rfl
theorem se_X8_unitHere : Cond.selects yX8_unitHere.cls yX8_unitHere yX8_unitHere ∈ gt := in_gt 41 (by decide +kernel) rfl
theorem im_X8_unitOf : Cond.instanceMethod yX8_unitOf ∈ gt := in_gt 856 (by decide +kernel) rfl
theorem se_X8_unitOf : Cond.selects yX8_unitOf.cls yX8_unitOf yX8_unitOf ∈ gt := in_gt 31 (by decide +kernel) rfl
theorem im_X8_wants : Cond.instanceMethod yX8_wants ∈ gt := in_gt 965 (by decide +kernel) rfl
theorem se_X8_wants : Cond.selects yX8_wants.cls yX8_wants yX8_wants ∈ gt := in_gt 46 (by decide +kernel) rfl
theorem im_X8_ways : Cond.instanceMethod yX8_ways ∈ gt := in_gt 992 (by decide +kernel) rfl
theorem se_X8_ways : Cond.selects yX8_ways.cls yX8_ways yX8_ways ∈ gt := in_gt 993 (by decide +kernel) rfl
theorem im_X8_worth : Cond.instanceMethod yX8_worth ∈ gt := in_gt 939 (by decide +kernel) rfl
theorem se_X8_worth : Cond.selects yX8_worth.cls yX8_worth yX8_worth ∈ gt := in_gt 940 (by decide +kernel) rfl
theorem im_X8_worthHere : Cond.instanceMethod yX8_worthHere ∈ gt := in_gt 897 (by decide +kernel) rfl
theorem se_X8_worthHere : Cond.selects yX8_worthHere.cls yX8_worthHere yX8_worthHere ∈ gt := in_gt 39 (by decide +kernel) rfl
theorem im_X8_worthOf : Cond.instanceMethod yX8_worthOf ∈ gt := in_gt 943 (by decide +kernel) rfl
theorem se_X8_worthOf : Cond.selects yX8_worthOf.cls yX8_worthOf yX8_worthOf ∈ gt := in_gt 944 (by decide +kernel) rfl
theorem w_mx1 : Cond.static Lib.Math.max.name ∈ gt := in_gt 344 (by decide +kernel) rfl
theorem w_mx2 : Cond.code Lib.Math.max.name Lib.Math.max.code 2 (some .int) ∈ gt := in_gt 345 (by decide +kernel) rfl
theorem w_mi1 : Cond.static Lib.Math.min.name ∈ gt := in_gt 355 (by decide +kernel) rfl
theorem w_mi2 : Cond.code Lib.Math.min.name Lib.Math.min.code 2 (some .int) ∈ gt := in_gt 356 (by decide +kernel) rfl
theorem w_ml1 : Cond.static Lib.MathLoose.max_long.x ∈ gt := in_gt 448 (by decide +kernel) rfl
theorem w_ml2 : Cond.code Lib.MathLoose.max_long.x Lib.MathLoose.max_long.code 4 (some .long) ∈ gt := in_gt 449 (by decide +kernel) rfl
theorem w_mth : Cond.initialized "java/lang/Math" ∈ gt := in_gt 60 (by decide +kernel) rfl
theorem w_oi2 : Cond.instanceMethod objectInit ∈ gt := in_gt 70 (by decide +kernel) rfl
theorem w_oi3 : Cond.code objectInit ⟨#[0xb1]⟩ 1 none ∈ gt := by decide +kernel
theorem w_ac2 : Cond.native arraycopyName ∈ gt := in_gt 465 (by decide +kernel) rfl
theorem w_ac3 : Cond.static arraycopyName ∈ gt := in_gt 464 (by decide +kernel) rfl
theorem w_ac4 : Cond.initialized "java/lang/System" ∈ gt := in_gt 63 (by decide +kernel) rfl
theorem w_aI : Cond.arrayClass .int ∈ gt := by decide +kernel
theorem w_aJ : Cond.arrayClass .long ∈ gt := by decide +kernel
theorem w_aZ : Cond.arrayClass .boolean ∈ gt := by decide +kernel
