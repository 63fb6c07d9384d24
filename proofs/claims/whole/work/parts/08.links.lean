def RL : String := "BoltsByOrderLaw"
theorem fl_X0_9 : FL RX0 9 0 0 := gt_at 96 (by decide +kernel) (by decide +kernel)
theorem fl_X6_97 : FL RX6 97 0 0 := gt_at 97 (by decide +kernel) (by decide +kernel)
theorem fl_X1_64 : FL RX1 64 0 0 := gt_at 98 (by decide +kernel) (by decide +kernel)
theorem fl_X0_15 : FL RX0 15 0 1 := gt_at 99 (by decide +kernel) (by decide +kernel)
theorem fl_X6_105 : FL RX6 105 0 1 := gt_at 100 (by decide +kernel) (by decide +kernel)
theorem fl_X1_78 : FL RX1 78 0 1 := gt_at 101 (by decide +kernel) (by decide +kernel)
theorem fl_X0_18 : FL RX0 18 0 2 := gt_at 102 (by decide +kernel) (by decide +kernel)
theorem fl_X2_111 : FL RX2 111 0 2 := gt_at 103 (by decide +kernel) (by decide +kernel)
theorem fl_X1_105 : FL RX1 105 0 2 := gt_at 104 (by decide +kernel) (by decide +kernel)
theorem fl_X0_21 : FL RX0 21 0 3 := gt_at 105 (by decide +kernel) (by decide +kernel)
theorem fl_X0_24 : FL RX0 24 0 4 := gt_at 106 (by decide +kernel) (by decide +kernel)
theorem fl_X3_9 : FL RX3 9 3 0 := gt_at 125 (by decide +kernel) (by decide +kernel)
theorem fl_X6_139 : FL RX6 139 3 0 := gt_at 126 (by decide +kernel) (by decide +kernel)
theorem fl_X3_15 : FL RX3 15 3 1 := gt_at 127 (by decide +kernel) (by decide +kernel)
theorem fl_X6_120 : FL RX6 120 3 1 := gt_at 128 (by decide +kernel) (by decide +kernel)
theorem fl_X3_18 : FL RX3 18 3 2 := gt_at 129 (by decide +kernel) (by decide +kernel)
theorem fl_X2_94 : FL RX2 94 3 2 := gt_at 130 (by decide +kernel) (by decide +kernel)
theorem fl_X6_124 : FL RX6 124 3 2 := gt_at 131 (by decide +kernel) (by decide +kernel)
theorem fl_X3_21 : FL RX3 21 3 3 := gt_at 132 (by decide +kernel) (by decide +kernel)
theorem fl_X2_101 : FL RX2 101 3 3 := gt_at 133 (by decide +kernel) (by decide +kernel)
theorem fl_X6_130 : FL RX6 130 3 3 := gt_at 134 (by decide +kernel) (by decide +kernel)
theorem fl_X3_24 : FL RX3 24 3 4 := gt_at 135 (by decide +kernel) (by decide +kernel)
theorem fl_X2_105 : FL RX2 105 3 4 := gt_at 136 (by decide +kernel) (by decide +kernel)
theorem fl_X6_133 : FL RX6 133 3 4 := gt_at 137 (by decide +kernel) (by decide +kernel)
theorem fl_X3_27 : FL RX3 27 3 5 := gt_at 138 (by decide +kernel) (by decide +kernel)
theorem fl_X6_146 : FL RX6 146 3 5 := gt_at 139 (by decide +kernel) (by decide +kernel)
theorem fl_X1_95 : FL RX1 95 3 5 := gt_at 140 (by decide +kernel) (by decide +kernel)
theorem fl_X3_30 : FL RX3 30 3 6 := gt_at 141 (by decide +kernel) (by decide +kernel)
theorem fl_X1_89 : FL RX1 89 3 6 := gt_at 142 (by decide +kernel) (by decide +kernel)
theorem fl_X6_178 : FL RX6 178 3 6 := gt_at 143 (by decide +kernel) (by decide +kernel)
theorem fl_X1_12 : FL RX1 12 1 0 := gt_at 159 (by decide +kernel) (by decide +kernel)
theorem fl_X6_55 : FL RX6 55 1 0 := gt_at 160 (by decide +kernel) (by decide +kernel)
theorem fl_X2_56 : FL RX2 56 1 0 := gt_at 161 (by decide +kernel) (by decide +kernel)
theorem fl_X1_20 : FL RX1 20 1 1 := gt_at 162 (by decide +kernel) (by decide +kernel)
theorem fl_X6_93 : FL RX6 93 1 1 := gt_at 163 (by decide +kernel) (by decide +kernel)
theorem fl_X1_25 : FL RX1 25 1 2 := gt_at 164 (by decide +kernel) (by decide +kernel)
theorem fl_X6_86 : FL RX6 86 1 2 := gt_at 165 (by decide +kernel) (by decide +kernel)
theorem fl_X1_29 : FL RX1 29 1 3 := gt_at 166 (by decide +kernel) (by decide +kernel)
theorem fl_X6_153 : FL RX6 153 1 3 := gt_at 167 (by decide +kernel) (by decide +kernel)
theorem fl_X1_32 : FL RX1 32 1 4 := gt_at 168 (by decide +kernel) (by decide +kernel)
theorem fl_X6_169 : FL RX6 169 1 4 := gt_at 169 (by decide +kernel) (by decide +kernel)
theorem fl_X1_35 : FL RX1 35 1 5 := gt_at 170 (by decide +kernel) (by decide +kernel)
theorem fl_X6_166 : FL RX6 166 1 5 := gt_at 171 (by decide +kernel) (by decide +kernel)
theorem fl_X1_38 : FL RX1 38 1 6 := gt_at 172 (by decide +kernel) (by decide +kernel)
theorem fl_X5_9 : FL RX5 9 5 0 := gt_at 201 (by decide +kernel) (by decide +kernel)
theorem fl_X2_145 : FL RX2 145 5 0 := gt_at 202 (by decide +kernel) (by decide +kernel)
theorem fl_X5_15 : FL RX5 15 5 1 := gt_at 203 (by decide +kernel) (by decide +kernel)
theorem fl_X2_157 : FL RX2 157 5 1 := gt_at 204 (by decide +kernel) (by decide +kernel)
theorem fl_X6_213 : FL RX6 213 5 1 := gt_at 205 (by decide +kernel) (by decide +kernel)
theorem fl_X2_12 : FL RX2 12 2 0 := gt_at 211 (by decide +kernel) (by decide +kernel)
theorem fl_X6_209 : FL RX6 209 2 0 := gt_at 212 (by decide +kernel) (by decide +kernel)
theorem fl_X2_18 : FL RX2 18 2 1 := gt_at 213 (by decide +kernel) (by decide +kernel)
theorem fl_X2_22 : FL RX2 22 2 2 := gt_at 214 (by decide +kernel) (by decide +kernel)
theorem fl_X2_25 : FL RX2 25 2 3 := gt_at 215 (by decide +kernel) (by decide +kernel)
theorem fl_X2_28 : FL RX2 28 2 4 := gt_at 216 (by decide +kernel) (by decide +kernel)
theorem fl_X4_9 : FL RX4 9 4 0 := gt_at 235 (by decide +kernel) (by decide +kernel)
theorem fl_X6_242 : FL RX6 242 4 0 := gt_at 236 (by decide +kernel) (by decide +kernel)
theorem fl_X4_15 : FL RX4 15 4 1 := gt_at 237 (by decide +kernel) (by decide +kernel)
theorem fl_X6_254 : FL RX6 254 4 1 := gt_at 238 (by decide +kernel) (by decide +kernel)
theorem fl_X4_19 : FL RX4 19 4 2 := gt_at 239 (by decide +kernel) (by decide +kernel)
theorem fl_X6_238 : FL RX6 238 4 2 := gt_at 240 (by decide +kernel) (by decide +kernel)
theorem fl_X6_10 : FL RX6 10 6 0 := gt_at 249 (by decide +kernel) (by decide +kernel)
theorem fl_X6_16 : FL RX6 16 6 1 := gt_at 250 (by decide +kernel) (by decide +kernel)
theorem fl_X6_19 : FL RX6 19 6 2 := gt_at 251 (by decide +kernel) (by decide +kernel)
theorem fl_X6_22 : FL RX6 22 6 3 := gt_at 252 (by decide +kernel) (by decide +kernel)
theorem fl_X6_29 : FL RX6 29 6 4 := gt_at 253 (by decide +kernel) (by decide +kernel)
theorem fl_X6_35 : FL RX6 35 6 5 := gt_at 254 (by decide +kernel) (by decide +kernel)
theorem fl_X6_40 : FL RX6 40 6 6 := gt_at 255 (by decide +kernel) (by decide +kernel)
theorem fl_X7_7 : FL RX7 7 7 0 := gt_at 840 (by decide +kernel) (by decide +kernel)
theorem fl_X7_13 : FL RX7 13 7 1 := gt_at 841 (by decide +kernel) (by decide +kernel)
theorem fl_X7_16 : FL RX7 16 7 2 := gt_at 842 (by decide +kernel) (by decide +kernel)
theorem fl_X7_133 : FL RX7 133 7 3 := gt_at 843 (by decide +kernel) (by decide +kernel)
theorem fl_X7_137 : FL RX7 137 7 4 := gt_at 844 (by decide +kernel) (by decide +kernel)
theorem fl_X7_140 : FL RX7 140 7 5 := gt_at 845 (by decide +kernel) (by decide +kernel)
theorem fl_X7_143 : FL RX7 143 7 6 := gt_at 846 (by decide +kernel) (by decide +kernel)
theorem fl_X7_19 : FL RX7 19 7 7 := gt_at 847 (by decide +kernel) (by decide +kernel)
theorem fl_X7_157 : FL RX7 157 7 8 := gt_at 848 (by decide +kernel) (by decide +kernel)
theorem fl_X7_22 : FL RX7 22 7 9 := gt_at 849 (by decide +kernel) (by decide +kernel)
theorem fl_X7_172 : FL RX7 172 7 10 := gt_at 850 (by decide +kernel) (by decide +kernel)
theorem fl_X7_190 : FL RX7 190 7 11 := gt_at 851 (by decide +kernel) (by decide +kernel)
theorem fl_X7_178 : FL RX7 178 7 12 := gt_at 852 (by decide +kernel) (by decide +kernel)
theorem fl_X7_175 : FL RX7 175 7 13 := gt_at 853 (by decide +kernel) (by decide +kernel)
theorem fl_X7_193 : FL RX7 193 7 14 := gt_at 854 (by decide +kernel) (by decide +kernel)
theorem fl_X7_197 : FL RX7 197 7 15 := gt_at 855 (by decide +kernel) (by decide +kernel)
theorem fl_X7_222 : FL RX7 222 7 16 := gt_at 856 (by decide +kernel) (by decide +kernel)
theorem fl_X7_25 : FL RX7 25 7 17 := gt_at 857 (by decide +kernel) (by decide +kernel)
theorem fl_X7_28 : FL RX7 28 7 18 := gt_at 858 (by decide +kernel) (by decide +kernel)
theorem fl_X7_31 : FL RX7 31 7 19 := gt_at 859 (by decide +kernel) (by decide +kernel)
theorem fl_X7_35 : FL RX7 35 7 20 := gt_at 860 (by decide +kernel) (by decide +kernel)
theorem fl_X7_38 : FL RX7 38 7 21 := gt_at 861 (by decide +kernel) (by decide +kernel)
theorem fl_X7_41 : FL RX7 41 7 22 := gt_at 862 (by decide +kernel) (by decide +kernel)
theorem fl_X7_293 : FL RX7 293 7 23 := gt_at 863 (by decide +kernel) (by decide +kernel)
theorem ml_L_13 : Cond.methodLink RL 13 yX6_cloud ∈ gt := gt_at 271 (by decide +kernel) (by decide +kernel)
theorem ml_X6_44 : Cond.methodLink RX6 44 yX0_mayBe ∈ gt := gt_at 275 (by decide +kernel) (by decide +kernel)
theorem ml_X6_51 : Cond.methodLink RX6 51 yX6_tell ∈ gt := gt_at 286 (by decide +kernel) (by decide +kernel)
theorem ml_X6_66 : Cond.methodLink RX6 66 yX6_isWithin ∈ gt := gt_at 290 (by decide +kernel) (by decide +kernel)
theorem ml_X6_59 : Cond.methodLink RX6 59 yX0_part ∈ gt := gt_at 291 (by decide +kernel) (by decide +kernel)
theorem ml_X6_62 : Cond.methodLink RX6 62 yX0_setPart ∈ gt := gt_at 295 (by decide +kernel) (by decide +kernel)
theorem ml_L_18 : Cond.methodLink RL 18 yX6_cloudOf ∈ gt := gt_at 299 (by decide +kernel) (by decide +kernel)
theorem ml_L_23 : Cond.methodLink RL 23 yX6_rod ∈ gt := gt_at 303 (by decide +kernel) (by decide +kernel)
theorem ml_X6_70 : Cond.methodLink RX6 70 yX6_isKind ∈ gt := gt_at 307 (by decide +kernel) (by decide +kernel)
theorem ml_X6_74 : Cond.methodLink RX6 74 yX6_isPlace ∈ gt := gt_at 310 (by decide +kernel) (by decide +kernel)
theorem ml_X6_77 : Cond.methodLink RX6 77 yX1_isFull ∈ gt := gt_at 313 (by decide +kernel) (by decide +kernel)
theorem ml_X6_82 : Cond.methodLink RX6 82 yX1_add ∈ gt := gt_at 318 (by decide +kernel) (by decide +kernel)
theorem ml_X1_49 : Cond.methodLink RX1 49 yX3_becomeNew ∈ gt := gt_at 322 (by decide +kernel) (by decide +kernel)
theorem ml_L_27 : Cond.methodLink RL 27 yX6_of ∈ gt := gt_at 326 (by decide +kernel) (by decide +kernel)
theorem ml_X6_90 : Cond.methodLink RX6 90 yX6_isRod ∈ gt := gt_at 330 (by decide +kernel) (by decide +kernel)
theorem ml_X6_100 : Cond.methodLink RX6 100 yX3_drawsFrom ∈ gt := gt_at 334 (by decide +kernel) (by decide +kernel)
theorem ml_X3_33 : Cond.methodLink RX3 33 yJ9_abs ∈ gt := gt_at 338 (by decide +kernel) (by decide +kernel)
theorem ml_X3_39 : Cond.methodLink RX3 39 yJ9_max ∈ gt := gt_at 341 (by decide +kernel) (by decide +kernel)
theorem ml_X6_108 : Cond.methodLink RX6 108 yX1_clock ∈ gt := gt_at 344 (by decide +kernel) (by decide +kernel)
theorem ml_X6_112 : Cond.methodLink RX6 112 yX3_owesFor ∈ gt := gt_at 348 (by decide +kernel) (by decide +kernel)
theorem ml_X3_43 : Cond.methodLink RX3 43 yX3_isPaidAt ∈ gt := gt_at 352 (by decide +kernel) (by decide +kernel)
theorem ml_X3_47 : Cond.methodLink RX3 47 yX3_paidHours ∈ gt := gt_at 356 (by decide +kernel) (by decide +kernel)
theorem ml_X6_116 : Cond.methodLink RX6 116 yX3_isPaidAt ∈ gt := gt_at 360 (by decide +kernel) (by decide +kernel)
theorem ml_X6_119 : Cond.methodLink RX6 119 yX3_part ∈ gt := gt_at 361 (by decide +kernel) (by decide +kernel)
theorem ml_L_31 : Cond.methodLink RL 31 yX6_set ∈ gt := gt_at 365 (by decide +kernel) (by decide +kernel)
theorem ml_X6_121 : Cond.methodLink RX6 121 yX6_isHeight ∈ gt := gt_at 369 (by decide +kernel) (by decide +kernel)
theorem ml_L_36 : Cond.methodLink RL 36 yX6_pays ∈ gt := gt_at 372 (by decide +kernel) (by decide +kernel)
theorem ml_X6_127 : Cond.methodLink RX6 127 yX6_isClock ∈ gt := gt_at 376 (by decide +kernel) (by decide +kernel)
theorem ml_X6_136 : Cond.methodLink RX6 136 yX3_paidHours ∈ gt := gt_at 379 (by decide +kernel) (by decide +kernel)
theorem ml_L_40 : Cond.methodLink RL 40 yX6_turn ∈ gt := gt_at 380 (by decide +kernel) (by decide +kernel)
theorem ml_L_44 : Cond.methodLink RL 44 yX6_as ∈ gt := gt_at 384 (by decide +kernel) (by decide +kernel)
theorem ml_X6_142 : Cond.methodLink RX6 142 yX3_isOf ∈ gt := gt_at 388 (by decide +kernel) (by decide +kernel)
theorem ml_L_48 : Cond.methodLink RL 48 yX6_down ∈ gt := gt_at 393 (by decide +kernel) (by decide +kernel)
theorem ml_X6_149 : Cond.methodLink RX6 149 yX1_takeDown ∈ gt := gt_at 397 (by decide +kernel) (by decide +kernel)
theorem ml_L_52 : Cond.methodLink RL 52 yX6_settle ∈ gt := gt_at 401 (by decide +kernel) (by decide +kernel)
theorem ml_L_56 : Cond.methodLink RL 56 yX6_hours ∈ gt := gt_at 405 (by decide +kernel) (by decide +kernel)
theorem ml_X6_157 : Cond.methodLink RX6 157 yX1_goHours ∈ gt := gt_at 410 (by decide +kernel) (by decide +kernel)
theorem ml_X1_98 : Cond.methodLink RX1 98 yX1_aim ∈ gt := gt_at 414 (by decide +kernel) (by decide +kernel)
theorem ml_X1_57 : Cond.methodLink RX1 57 yX1_targetFrom ∈ gt := gt_at 418 (by decide +kernel) (by decide +kernel)
theorem ml_X1_53 : Cond.methodLink RX1 53 yX3_drawsFrom ∈ gt := gt_at 422 (by decide +kernel) (by decide +kernel)
theorem ml_X1_101 : Cond.methodLink RX1 101 yX1_goHour ∈ gt := gt_at 423 (by decide +kernel) (by decide +kernel)
theorem ml_X1_60 : Cond.methodLink RX1 60 yX0_isBreaking ∈ gt := gt_at 427 (by decide +kernel) (by decide +kernel)
theorem ml_X1_67 : Cond.methodLink RX1 67 yX1_strike ∈ gt := gt_at 431 (by decide +kernel) (by decide +kernel)
theorem ml_X1_81 : Cond.methodLink RX1 81 yX1_clock ∈ gt := gt_at 436 (by decide +kernel) (by decide +kernel)
theorem ml_X1_85 : Cond.methodLink RX1 85 yX3_owesFor ∈ gt := gt_at 437 (by decide +kernel) (by decide +kernel)
theorem ml_X6_266 : Cond.methodLink RX6 266 yJ9_min ∈ gt := gt_at 442 (by decide +kernel) (by decide +kernel)
theorem ml_X1_71 : Cond.methodLink RX1 71 yX0_passHour ∈ gt := gt_at 445 (by decide +kernel) (by decide +kernel)
theorem ml_X0_38 : Cond.methodLink RX0 38 yX0_isBreaking ∈ gt := gt_at 449 (by decide +kernel) (by decide +kernel)
theorem ml_X0_42 : Cond.methodLink RX0 42 yX0_goOn ∈ gt := gt_at 450 (by decide +kernel) (by decide +kernel)
theorem ml_X0_49 : Cond.methodLink RX0 49 yJ9_min ∈ gt := gt_at 455 (by decide +kernel) (by decide +kernel)
theorem ml_X6_160 : Cond.methodLink RX6 160 yX1_partsOfAll ∈ gt := gt_at 456 (by decide +kernel) (by decide +kernel)
theorem ml_X1_108 : Cond.methodLink RX1 108 yX3_part ∈ gt := gt_at 460 (by decide +kernel) (by decide +kernel)
theorem ml_L_60 : Cond.methodLink RL 60 yX6_days ∈ gt := gt_at 461 (by decide +kernel) (by decide +kernel)
theorem ml_X6_163 : Cond.methodLink RX6 163 yX1_drawDrift ∈ gt := gt_at 465 (by decide +kernel) (by decide +kernel)
theorem ml_L_64 : Cond.methodLink RL 64 yX6_seed ∈ gt := gt_at 470 (by decide +kernel) (by decide +kernel)
theorem ml_L_68 : Cond.methodLink RL 68 yX6_now ∈ gt := gt_at 474 (by decide +kernel) (by decide +kernel)
theorem ml_X6_172 : Cond.methodLink RX6 172 yX1_paidRods ∈ gt := gt_at 478 (by decide +kernel) (by decide +kernel)
theorem ml_X1_114 : Cond.methodLink RX1 114 yX3_isPaidAt ∈ gt := gt_at 482 (by decide +kernel) (by decide +kernel)
theorem ml_L_72 : Cond.methodLink RL 72 yX6_on ∈ gt := gt_at 483 (by decide +kernel) (by decide +kernel)
theorem ml_X6_175 : Cond.methodLink RX6 175 yX6_raiseGhost ∈ gt := gt_at 487 (by decide +kernel) (by decide +kernel)
theorem ml_X6_224 : Cond.methodLink RX6 224 yX1_takeFrom ∈ gt := gt_at 491 (by decide +kernel) (by decide +kernel)
theorem ml_X1_42 : Cond.methodLink RX1 42 yX0_takeFrom ∈ gt := gt_at 495 (by decide +kernel) (by decide +kernel)
theorem ml_X1_46 : Cond.methodLink RX1 46 yX3_takeFrom ∈ gt := gt_at 499 (by decide +kernel) (by decide +kernel)
theorem ml_L_76 : Cond.methodLink RL 76 yX6_next ∈ gt := gt_at 503 (by decide +kernel) (by decide +kernel)
theorem ml_X6_181 : Cond.methodLink RX6 181 yX6_leadGhostToBolt ∈ gt := gt_at 507 (by decide +kernel) (by decide +kernel)
theorem ml_X6_292 : Cond.methodLink RX6 292 yX0_isBreaking ∈ gt := gt_at 511 (by decide +kernel) (by decide +kernel)
theorem ml_X6_295 : Cond.methodLink RX6 295 yX0_goOn ∈ gt := gt_at 512 (by decide +kernel) (by decide +kernel)
theorem ml_X6_185 : Cond.methodLink RX6 185 yX1_targetFrom ∈ gt := gt_at 514 (by decide +kernel) (by decide +kernel)
theorem ml_L_80 : Cond.methodLink RL 80 yX6_struck ∈ gt := gt_at 515 (by decide +kernel) (by decide +kernel)
theorem ml_L_84 : Cond.methodLink RL 84 yX6_reach ∈ gt := gt_at 519 (by decide +kernel) (by decide +kernel)
theorem ml_L_88 : Cond.methodLink RL 88 yX6_steals ∈ gt := gt_at 523 (by decide +kernel) (by decide +kernel)
theorem ml_X6_188 : Cond.methodLink RX6 188 yX6_isGhostStruck ∈ gt := gt_at 527 (by decide +kernel) (by decide +kernel)
theorem ml_L_92 : Cond.methodLink RL 92 yX6_ducks ∈ gt := gt_at 531 (by decide +kernel) (by decide +kernel)
theorem ml_L_96 : Cond.methodLink RL 96 yX6_place ∈ gt := gt_at 535 (by decide +kernel) (by decide +kernel)
theorem ml_L_100 : Cond.methodLink RL 100 yX6_thief ∈ gt := gt_at 539 (by decide +kernel) (by decide +kernel)
theorem ml_L_104 : Cond.methodLink RL 104 yX6_kind ∈ gt := gt_at 543 (by decide +kernel) (by decide +kernel)
theorem ml_L_108 : Cond.methodLink RL 108 yX6_clocks ∈ gt := gt_at 547 (by decide +kernel) (by decide +kernel)
theorem ml_X6_191 : Cond.methodLink RX6 191 yX6_clocksOfBolts ∈ gt := gt_at 551 (by decide +kernel) (by decide +kernel)
theorem ml_X6_276 : Cond.methodLink RX6 276 yX1_aim ∈ gt := gt_at 555 (by decide +kernel) (by decide +kernel)
theorem ml_X6_298 : Cond.methodLink RX6 298 yX1_boltStrikes ∈ gt := gt_at 556 (by decide +kernel) (by decide +kernel)
theorem ml_X6_279 : Cond.methodLink RX6 279 yX1_goHour ∈ gt := gt_at 560 (by decide +kernel) (by decide +kernel)
theorem ml_L_112 : Cond.methodLink RL 112 yX6_covers ∈ gt := gt_at 561 (by decide +kernel) (by decide +kernel)
theorem ml_X6_194 : Cond.methodLink RX6 194 yX6_bestFrom ∈ gt := gt_at 565 (by decide +kernel) (by decide +kernel)
theorem ml_X6_197 : Cond.methodLink RX6 197 yX6_hoursToCover ∈ gt := gt_at 568 (by decide +kernel) (by decide +kernel)
theorem ml_X6_302 : Cond.methodLink RX6 302 yJ6_numberOfLeadingZeros ∈ gt := gt_at 572 (by decide +kernel) (by decide +kernel)
theorem ml_L_116 : Cond.methodLink RL 116 yX6_from ∈ gt := gt_at 576 (by decide +kernel) (by decide +kernel)
theorem ml_L_120 : Cond.methodLink RL 120 yX6_strays ∈ gt := gt_at 580 (by decide +kernel) (by decide +kernel)
theorem ml_L_124 : Cond.methodLink RL 124 yX6_fork ∈ gt := gt_at 584 (by decide +kernel) (by decide +kernel)
theorem ml_X6_200 : Cond.methodLink RX6 200 yX1_drawsOfAll ∈ gt := gt_at 588 (by decide +kernel) (by decide +kernel)
theorem ml_X6_203 : Cond.methodLink RX6 203 yX1_forked ∈ gt := gt_at 592 (by decide +kernel) (by decide +kernel)
theorem ml_X6_206 : Cond.methodLink RX6 206 yX6_commonDivisor ∈ gt := gt_at 596 (by decide +kernel) (by decide +kernel)
theorem ml_L_128 : Cond.methodLink RL 128 yX6_share ∈ gt := gt_at 599 (by decide +kernel) (by decide +kernel)
theorem ml_L_132 : Cond.methodLink RL 132 yX6_feed ∈ gt := gt_at 603 (by decide +kernel) (by decide +kernel)
theorem ml_X6_218 : Cond.methodLink RX6 218 yX5_add ∈ gt := gt_at 607 (by decide +kernel) (by decide +kernel)
theorem ml_L_136 : Cond.methodLink RL 136 yX6_wipe ∈ gt := gt_at 611 (by decide +kernel) (by decide +kernel)
theorem ml_L_141 : Cond.methodLink RL 141 yX6_plain ∈ gt := gt_at 615 (by decide +kernel) (by decide +kernel)
theorem ml_X6_220 : Cond.methodLink RX6 220 yX2_layOut ∈ gt := gt_at 619 (by decide +kernel) (by decide +kernel)
theorem ml_X2_31 : Cond.methodLink RX2 31 yX2_goToToken ∈ gt := gt_at 623 (by decide +kernel) (by decide +kernel)
theorem ml_X2_160 : Cond.methodLink RX2 160 yX2_sortOf ∈ gt := gt_at 627 (by decide +kernel) (by decide +kernel)
theorem ml_X2_164 : Cond.methodLink RX2 164 yX2_numberTold ∈ gt := gt_at 630 (by decide +kernel) (by decide +kernel)
theorem ml_X2_34 : Cond.methodLink RX2 34 yX2_layItem ∈ gt := gt_at 634 (by decide +kernel) (by decide +kernel)
theorem ml_X2_38 : Cond.methodLink RX2 38 yX2_kindTold ∈ gt := gt_at 638 (by decide +kernel) (by decide +kernel)
theorem ml_X2_127 : Cond.methodLink RX2 127 yX2_isWord ∈ gt := gt_at 643 (by decide +kernel) (by decide +kernel)
theorem ml_X2_140 : Cond.methodLink RX2 140 yJ0_length ∈ gt := gt_at 647 (by decide +kernel) (by decide +kernel)
theorem ml_J0_335 : Cond.methodLink RJ0 335 yJ0_coder ∈ gt := gt_at 651 (by decide +kernel) (by decide +kernel)
theorem ml_X2_149 : Cond.methodLink RX2 149 yJ0_charAt ∈ gt := gt_at 657 (by decide +kernel) (by decide +kernel)
theorem ml_J0_492 : Cond.methodLink RJ0 492 yJ0_isLatin1 ∈ gt := gt_at 661 (by decide +kernel) (by decide +kernel)
theorem ml_J0_495 : Cond.methodLink RJ0 495 yJ1_charAt ∈ gt := gt_at 665 (by decide +kernel) (by decide +kernel)
theorem ml_J1_9 : Cond.methodLink RJ1 9 yJ0_checkIndex ∈ gt := gt_at 668 (by decide +kernel) (by decide +kernel)
theorem ml_J0_1059 : Cond.methodLink RJ0 1059 yJ3_checkIndex ∈ gt := gt_at 673 (by decide +kernel) (by decide +kernel)
theorem ml_J0_498 : Cond.methodLink RJ0 498 yJ2_charAt ∈ gt := gt_at 676 (by decide +kernel) (by decide +kernel)
theorem ml_J2_67 : Cond.methodLink RJ2 67 yJ2_checkIndex ∈ gt := gt_at 679 (by decide +kernel) (by decide +kernel)
theorem ml_J2_48 : Cond.methodLink RJ2 48 yJ2_length ∈ gt := gt_at 682 (by decide +kernel) (by decide +kernel)
theorem ml_J2_414 : Cond.methodLink RJ2 414 yJ0_checkIndex ∈ gt := gt_at 685 (by decide +kernel) (by decide +kernel)
theorem ml_J2_71 : Cond.methodLink RJ2 71 yJ2_getChar ∈ gt := gt_at 686 (by decide +kernel) (by decide +kernel)
theorem ml_X2_46 : Cond.methodLink RX2 46 yX2_layRod ∈ gt := gt_at 701 (by decide +kernel) (by decide +kernel)
theorem ml_X2_75 : Cond.methodLink RX2 75 yX1_isFull ∈ gt := gt_at 705 (by decide +kernel) (by decide +kernel)
theorem ml_X2_52 : Cond.methodLink RX2 52 yX2_takeWord ∈ gt := gt_at 707 (by decide +kernel) (by decide +kernel)
theorem ml_X2_81 : Cond.methodLink RX2 81 yX2_isNumber ∈ gt := gt_at 711 (by decide +kernel) (by decide +kernel)
theorem ml_X2_85 : Cond.methodLink RX2 85 yX2_takeNumber ∈ gt := gt_at 716 (by decide +kernel) (by decide +kernel)
theorem ml_X2_88 : Cond.methodLink RX2 88 yX1_add ∈ gt := gt_at 720 (by decide +kernel) (by decide +kernel)
theorem ml_X2_61 : Cond.methodLink RX2 61 yX2_layCloud ∈ gt := gt_at 725 (by decide +kernel) (by decide +kernel)
theorem ml_X2_69 : Cond.methodLink RX2 69 yX2_takeCloudPart ∈ gt := gt_at 729 (by decide +kernel) (by decide +kernel)
theorem ml_X2_118 : Cond.methodLink RX2 118 yX0_mayBe ∈ gt := gt_at 733 (by decide +kernel) (by decide +kernel)
theorem ml_X2_121 : Cond.methodLink RX2 121 yX0_setPart ∈ gt := gt_at 734 (by decide +kernel) (by decide +kernel)
theorem ml_L_145 : Cond.methodLink RL 145 yX6_sheet ∈ gt := gt_at 742 (by decide +kernel) (by decide +kernel)
theorem ml_X6_228 : Cond.methodLink RX6 228 yX6_isSheet ∈ gt := gt_at 746 (by decide +kernel) (by decide +kernel)
theorem ml_X6_231 : Cond.methodLink RX6 231 yX4_mayHave ∈ gt := gt_at 749 (by decide +kernel) (by decide +kernel)
theorem ml_X6_235 : Cond.methodLink RX6 235 yX4_layNew ∈ gt := gt_at 753 (by decide +kernel) (by decide +kernel)
theorem ml_L_151 : Cond.methodLink RL 151 yX6_write ∈ gt := gt_at 757 (by decide +kernel) (by decide +kernel)
theorem ml_X6_239 : Cond.methodLink RX6 239 yX6_findingOfSheet ∈ gt := gt_at 761 (by decide +kernel) (by decide +kernel)
theorem ml_X6_250 : Cond.methodLink RX6 250 yX4_isMissing ∈ gt := gt_at 765 (by decide +kernel) (by decide +kernel)
theorem ml_X6_246 : Cond.methodLink RX6 246 yX4_put ∈ gt := gt_at 770 (by decide +kernel) (by decide +kernel)
theorem ml_L_156 : Cond.methodLink RL 156 yX6_copy ∈ gt := gt_at 774 (by decide +kernel) (by decide +kernel)
theorem ml_X6_257 : Cond.methodLink RX6 257 yX4_has ∈ gt := gt_at 778 (by decide +kernel) (by decide +kernel)
theorem ml_L_161 : Cond.methodLink RL 161 yX6_lays ∈ gt := gt_at 785 (by decide +kernel) (by decide +kernel)
theorem ml_L_165 : Cond.methodLink RL 165 yX6_book ∈ gt := gt_at 790 (by decide +kernel) (by decide +kernel)
theorem ml_X6_273 : Cond.methodLink RX6 273 yX6_findingOfBook ∈ gt := gt_at 794 (by decide +kernel) (by decide +kernel)
theorem ml_L_169 : Cond.methodLink RL 169 yX6_read ∈ gt := gt_at 798 (by decide +kernel) (by decide +kernel)
theorem ml_X6_282 : Cond.methodLink RX6 282 yX0_takeFrom ∈ gt := gt_at 802 (by decide +kernel) (by decide +kernel)
theorem ml_X6_285 : Cond.methodLink RX6 285 yX6_isBooked ∈ gt := gt_at 803 (by decide +kernel) (by decide +kernel)
theorem ml_X6_307 : Cond.methodLink RX6 307 yX6_held ∈ gt := gt_at 807 (by decide +kernel) (by decide +kernel)
theorem ml_X6_310 : Cond.methodLink RX6 310 yX0_passHour ∈ gt := gt_at 808 (by decide +kernel) (by decide +kernel)
theorem ml_L_173 : Cond.methodLink RL 173 yX6_image ∈ gt := gt_at 809 (by decide +kernel) (by decide +kernel)
theorem ml_L_177 : Cond.methodLink RL 177 yX6_undo ∈ gt := gt_at 813 (by decide +kernel) (by decide +kernel)
theorem ml_L_181 : Cond.methodLink RL 181 yX6_tear ∈ gt := gt_at 817 (by decide +kernel) (by decide +kernel)
theorem ml_L_185 : Cond.methodLink RL 185 yX6_count ∈ gt := gt_at 821 (by decide +kernel) (by decide +kernel)
theorem ml_X6_289 : Cond.methodLink RX6 289 yX1_paidHoursOfAll ∈ gt := gt_at 825 (by decide +kernel) (by decide +kernel)
theorem ml_X1_111 : Cond.methodLink RX1 111 yX3_paidHours ∈ gt := gt_at 829 (by decide +kernel) (by decide +kernel)
theorem ml_L_189 : Cond.methodLink RL 189 yX6_status ∈ gt := gt_at 830 (by decide +kernel) (by decide +kernel)
theorem ml_L_17 : Cond.methodLink RL 17 yX7_cloud ∈ gt := gt_at 913 (by decide +kernel) (by decide +kernel)
theorem ml_X7_49 : Cond.methodLink RX7 49 yX7_isPlace ∈ gt := gt_at 917 (by decide +kernel) (by decide +kernel)
theorem ml_X7_45 : Cond.methodLink RX7 45 yX7_in ∈ gt := gt_at 920 (by decide +kernel) (by decide +kernel)
theorem ml_X7_53 : Cond.methodLink RX7 53 yX7_finds ∈ gt := gt_at 924 (by decide +kernel) (by decide +kernel)
theorem ml_L_22 : Cond.methodLink RL 22 yX7_cloudOf ∈ gt := gt_at 928 (by decide +kernel) (by decide +kernel)
theorem ml_L_26 : Cond.methodLink RL 26 yX7_rod ∈ gt := gt_at 932 (by decide +kernel) (by decide +kernel)
theorem ml_X7_61 : Cond.methodLink RX7 61 yX7_isKind ∈ gt := gt_at 936 (by decide +kernel) (by decide +kernel)
theorem ml_X7_65 : Cond.methodLink RX7 65 yX7_addRod ∈ gt := gt_at 940 (by decide +kernel) (by decide +kernel)
theorem ml_X7_57 : Cond.methodLink RX7 57 yX7_puts ∈ gt := gt_at 944 (by decide +kernel) (by decide +kernel)
theorem ml_L_30 : Cond.methodLink RL 30 yX7_of ∈ gt := gt_at 948 (by decide +kernel) (by decide +kernel)
theorem ml_X7_87 : Cond.methodLink RX7 87 yX7_isRod ∈ gt := gt_at 952 (by decide +kernel) (by decide +kernel)
theorem ml_X7_90 : Cond.methodLink RX7 90 yX7_draws ∈ gt := gt_at 956 (by decide +kernel) (by decide +kernel)
theorem ml_X7_69 : Cond.methodLink RX7 69 yX7_its ∈ gt := gt_at 960 (by decide +kernel) (by decide +kernel)
theorem ml_X7_73 : Cond.methodLink RX7 73 yX7_held ∈ gt := gt_at 964 (by decide +kernel) (by decide +kernel)
theorem ml_X7_93 : Cond.methodLink RX7 93 yX7_owes ∈ gt := gt_at 967 (by decide +kernel) (by decide +kernel)
theorem ml_X7_84 : Cond.methodLink RX7 84 yX7_isPaid ∈ gt := gt_at 971 (by decide +kernel) (by decide +kernel)
theorem ml_X7_77 : Cond.methodLink RX7 77 yX7_clock ∈ gt := gt_at 975 (by decide +kernel) (by decide +kernel)
theorem ml_X7_81 : Cond.methodLink RX7 81 yX7_paidMany ∈ gt := gt_at 979 (by decide +kernel) (by decide +kernel)
theorem ml_L_35 : Cond.methodLink RL 35 yX7_set ∈ gt := gt_at 983 (by decide +kernel) (by decide +kernel)
theorem ml_L_39 : Cond.methodLink RL 39 yX7_pays ∈ gt := gt_at 987 (by decide +kernel) (by decide +kernel)
theorem ml_L_43 : Cond.methodLink RL 43 yX7_turn ∈ gt := gt_at 991 (by decide +kernel) (by decide +kernel)
theorem ml_L_47 : Cond.methodLink RL 47 yX7_as ∈ gt := gt_at 995 (by decide +kernel) (by decide +kernel)
theorem ml_L_51 : Cond.methodLink RL 51 yX7_down ∈ gt := gt_at 1000 (by decide +kernel) (by decide +kernel)
theorem ml_X7_97 : Cond.methodLink RX7 97 yX7_comesDown ∈ gt := gt_at 1004 (by decide +kernel) (by decide +kernel)
theorem ml_L_55 : Cond.methodLink RL 55 yX7_settle ∈ gt := gt_at 1008 (by decide +kernel) (by decide +kernel)
theorem ml_L_59 : Cond.methodLink RL 59 yX7_hours ∈ gt := gt_at 1012 (by decide +kernel) (by decide +kernel)
theorem ml_X7_116 : Cond.methodLink RX7 116 yX7_passes ∈ gt := gt_at 1017 (by decide +kernel) (by decide +kernel)
theorem ml_X7_112 : Cond.methodLink RX7 112 yX7_oneHour ∈ gt := gt_at 1021 (by decide +kernel) (by decide +kernel)
theorem ml_X7_105 : Cond.methodLink RX7 105 yX7_doesBreak ∈ gt := gt_at 1025 (by decide +kernel) (by decide +kernel)
theorem ml_X7_109 : Cond.methodLink RX7 109 yX7_bolt ∈ gt := gt_at 1029 (by decide +kernel) (by decide +kernel)
theorem ml_X7_101 : Cond.methodLink RX7 101 yX7_struckAt ∈ gt := gt_at 1033 (by decide +kernel) (by decide +kernel)
theorem ml_X7_119 : Cond.methodLink RX7 119 yX7_sumOf ∈ gt := gt_at 1038 (by decide +kernel) (by decide +kernel)
theorem ml_L_63 : Cond.methodLink RL 63 yX7_days ∈ gt := gt_at 1042 (by decide +kernel) (by decide +kernel)
theorem ml_L_67 : Cond.methodLink RL 67 yX7_seed ∈ gt := gt_at 1047 (by decide +kernel) (by decide +kernel)
theorem ml_L_71 : Cond.methodLink RL 71 yX7_now ∈ gt := gt_at 1051 (by decide +kernel) (by decide +kernel)
theorem ml_X7_123 : Cond.methodLink RX7 123 yX7_paidOnes ∈ gt := gt_at 1055 (by decide +kernel) (by decide +kernel)
theorem ml_L_75 : Cond.methodLink RL 75 yX7_on ∈ gt := gt_at 1059 (by decide +kernel) (by decide +kernel)
theorem ml_X7_130 : Cond.methodLink RX7 130 yX7_onOf ∈ gt := gt_at 1063 (by decide +kernel) (by decide +kernel)
theorem ml_X7_126 : Cond.methodLink RX7 126 yX7_moveAll ∈ gt := gt_at 1067 (by decide +kernel) (by decide +kernel)
theorem ml_L_79 : Cond.methodLink RL 79 yX7_next ∈ gt := gt_at 1071 (by decide +kernel) (by decide +kernel)
theorem ml_X7_146 : Cond.methodLink RX7 146 yX7_findNext ∈ gt := gt_at 1075 (by decide +kernel) (by decide +kernel)
theorem ml_L_83 : Cond.methodLink RL 83 yX7_struck ∈ gt := gt_at 1080 (by decide +kernel) (by decide +kernel)
theorem ml_L_87 : Cond.methodLink RL 87 yX7_reach ∈ gt := gt_at 1084 (by decide +kernel) (by decide +kernel)
theorem ml_L_91 : Cond.methodLink RL 91 yX7_steals ∈ gt := gt_at 1088 (by decide +kernel) (by decide +kernel)
theorem ml_X7_150 : Cond.methodLink RX7 150 yX7_isStruckBy ∈ gt := gt_at 1092 (by decide +kernel) (by decide +kernel)
theorem ml_L_95 : Cond.methodLink RL 95 yX7_ducks ∈ gt := gt_at 1096 (by decide +kernel) (by decide +kernel)
theorem ml_L_99 : Cond.methodLink RL 99 yX7_place ∈ gt := gt_at 1100 (by decide +kernel) (by decide +kernel)
theorem ml_L_103 : Cond.methodLink RL 103 yX7_thief ∈ gt := gt_at 1104 (by decide +kernel) (by decide +kernel)
theorem ml_L_107 : Cond.methodLink RL 107 yX7_kind ∈ gt := gt_at 1108 (by decide +kernel) (by decide +kernel)
theorem ml_L_111 : Cond.methodLink RL 111 yX7_clocks ∈ gt := gt_at 1112 (by decide +kernel) (by decide +kernel)
theorem ml_X7_154 : Cond.methodLink RX7 154 yX7_clocksOf ∈ gt := gt_at 1116 (by decide +kernel) (by decide +kernel)
theorem ml_L_115 : Cond.methodLink RL 115 yX7_covers ∈ gt := gt_at 1120 (by decide +kernel) (by decide +kernel)
theorem ml_X7_163 : Cond.methodLink RX7 163 yX7_fewest ∈ gt := gt_at 1124 (by decide +kernel) (by decide +kernel)
theorem ml_X7_160 : Cond.methodLink RX7 160 yX7_doesCover ∈ gt := gt_at 1128 (by decide +kernel) (by decide +kernel)
theorem ml_L_119 : Cond.methodLink RL 119 yX7_from ∈ gt := gt_at 1131 (by decide +kernel) (by decide +kernel)
theorem ml_L_123 : Cond.methodLink RL 123 yX7_strays ∈ gt := gt_at 1135 (by decide +kernel) (by decide +kernel)
theorem ml_L_127 : Cond.methodLink RL 127 yX7_fork ∈ gt := gt_at 1139 (by decide +kernel) (by decide +kernel)
theorem ml_X7_166 : Cond.methodLink RX7 166 yX7_drawAll ∈ gt := gt_at 1143 (by decide +kernel) (by decide +kernel)
theorem ml_X7_169 : Cond.methodLink RX7 169 yX7_divisor ∈ gt := gt_at 1147 (by decide +kernel) (by decide +kernel)
theorem ml_L_131 : Cond.methodLink RL 131 yX7_share ∈ gt := gt_at 1150 (by decide +kernel) (by decide +kernel)
theorem ml_L_135 : Cond.methodLink RL 135 yX7_feed ∈ gt := gt_at 1154 (by decide +kernel) (by decide +kernel)
theorem ml_L_140 : Cond.methodLink RL 140 yX7_wipe ∈ gt := gt_at 1158 (by decide +kernel) (by decide +kernel)
theorem ml_L_144 : Cond.methodLink RL 144 yX7_plain ∈ gt := gt_at 1162 (by decide +kernel) (by decide +kernel)
theorem ml_X7_226 : Cond.methodLink RX7 226 yX7_advance ∈ gt := gt_at 1166 (by decide +kernel) (by decide +kernel)
theorem ml_X7_181 : Cond.methodLink RX7 181 yX7_byteAt ∈ gt := gt_at 1170 (by decide +kernel) (by decide +kernel)
theorem ml_X7_184 : Cond.methodLink RX7 184 yX7_isLetter ∈ gt := gt_at 1174 (by decide +kernel) (by decide +kernel)
theorem ml_X7_187 : Cond.methodLink RX7 187 yX7_isDigit ∈ gt := gt_at 1177 (by decide +kernel) (by decide +kernel)
theorem ml_X7_270 : Cond.methodLink RX7 270 yX7_wantItem ∈ gt := gt_at 1183 (by decide +kernel) (by decide +kernel)
theorem ml_X7_252 : Cond.methodLink RX7 252 yX7_kindHere ∈ gt := gt_at 1187 (by decide +kernel) (by decide +kernel)
theorem ml_X7_208 : Cond.methodLink RX7 208 yX7_isWord ∈ gt := gt_at 1192 (by decide +kernel) (by decide +kernel)
theorem ml_X7_255 : Cond.methodLink RX7 255 yX7_wantRod ∈ gt := gt_at 1201 (by decide +kernel) (by decide +kernel)
theorem ml_X7_229 : Cond.methodLink RX7 229 yX7_wantNumber ∈ gt := gt_at 1206 (by decide +kernel) (by decide +kernel)
theorem ml_X7_236 : Cond.methodLink RX7 236 yX7_mayWant ∈ gt := gt_at 1211 (by decide +kernel) (by decide +kernel)
theorem ml_X7_260 : Cond.methodLink RX7 260 yX7_wantCloud ∈ gt := gt_at 1218 (by decide +kernel) (by decide +kernel)
theorem ml_X7_265 : Cond.methodLink RX7 265 yX7_wantRule ∈ gt := gt_at 1227 (by decide +kernel) (by decide +kernel)
theorem ml_L_148 : Cond.methodLink RL 148 yX7_sheet ∈ gt := gt_at 1232 (by decide +kernel) (by decide +kernel)
theorem ml_X7_273 : Cond.methodLink RX7 273 yX7_isSheet ∈ gt := gt_at 1236 (by decide +kernel) (by decide +kernel)
theorem ml_L_155 : Cond.methodLink RL 155 yX7_write ∈ gt := gt_at 1240 (by decide +kernel) (by decide +kernel)
theorem ml_X7_278 : Cond.methodLink RX7 278 yX7_narrow ∈ gt := gt_at 1245 (by decide +kernel) (by decide +kernel)
theorem ml_L_160 : Cond.methodLink RL 160 yX7_copy ∈ gt := gt_at 1248 (by decide +kernel) (by decide +kernel)
theorem ml_X7_282 : Cond.methodLink RX7 282 yX7_isPart ∈ gt := gt_at 1252 (by decide +kernel) (by decide +kernel)
theorem ml_L_164 : Cond.methodLink RL 164 yX7_lays ∈ gt := gt_at 1256 (by decide +kernel) (by decide +kernel)
theorem ml_X7_285 : Cond.methodLink RX7 285 yX7_badSheet ∈ gt := gt_at 1260 (by decide +kernel) (by decide +kernel)
theorem ml_L_168 : Cond.methodLink RL 168 yX7_book ∈ gt := gt_at 1265 (by decide +kernel) (by decide +kernel)
theorem ml_L_172 : Cond.methodLink RL 172 yX7_read ∈ gt := gt_at 1269 (by decide +kernel) (by decide +kernel)
theorem ml_X7_290 : Cond.methodLink RX7 290 yX7_isSo ∈ gt := gt_at 1273 (by decide +kernel) (by decide +kernel)
theorem ml_L_176 : Cond.methodLink RL 176 yX7_image ∈ gt := gt_at 1277 (by decide +kernel) (by decide +kernel)
theorem ml_L_180 : Cond.methodLink RL 180 yX7_undo ∈ gt := gt_at 1281 (by decide +kernel) (by decide +kernel)
theorem ml_L_184 : Cond.methodLink RL 184 yX7_tear ∈ gt := gt_at 1285 (by decide +kernel) (by decide +kernel)
theorem ml_L_188 : Cond.methodLink RL 188 yX7_count ∈ gt := gt_at 1289 (by decide +kernel) (by decide +kernel)
theorem ml_X7_296 : Cond.methodLink RX7 296 yX7_paidAll ∈ gt := gt_at 1293 (by decide +kernel) (by decide +kernel)
theorem ml_L_192 : Cond.methodLink RL 192 yX7_status ∈ gt := gt_at 1297 (by decide +kernel) (by decide +kernel)
set_option maxRecDepth 100000 in
theorem cd_X0_mayBe : cdW mX0_mayBe ∈ gt := gt_at 277 rfl rfl
theorem ms_X0_mayBe : MS mX0_mayBe 2 := ⟨gt_at 276 (by decide +kernel) (by decide +kernel), gt_at 63 (by decide +kernel) (by decide +kernel), cd_X0_mayBe, ⟨rfl, by decide +kernel, by decide +kernel, by decide +kernel⟩⟩
set_option maxRecDepth 100000 in
theorem cd_X0_takeFrom : cdW mX0_takeFrom ∈ gt := gt_at 498 rfl rfl
theorem mv_X0_takeFrom : MV mX0_takeFrom 1 := ⟨gt_at 496 (by decide +kernel) (by decide +kernel), gt_at 497 (by decide +kernel) (by decide +kernel), gt_at 63 (by decide +kernel) (by decide +kernel), cd_X0_takeFrom, ⟨rfl, by decide +kernel, by decide +kernel, by decide +kernel⟩⟩
set_option maxRecDepth 100000 in
theorem cd_X0_part : cdW mX0_part ∈ gt := gt_at 294 rfl rfl
theorem mv_X0_part : MV mX0_part 1 := ⟨gt_at 292 (by decide +kernel) (by decide +kernel), gt_at 293 (by decide +kernel) (by decide +kernel), gt_at 63 (by decide +kernel) (by decide +kernel), cd_X0_part, ⟨rfl, by decide +kernel, by decide +kernel, by decide +kernel⟩⟩
set_option maxRecDepth 100000 in
theorem cd_X0_setPart : cdW mX0_setPart ∈ gt := gt_at 298 rfl rfl
theorem mv_X0_setPart : MV mX0_setPart 2 := ⟨gt_at 296 (by decide +kernel) (by decide +kernel), gt_at 297 (by decide +kernel) (by decide +kernel), gt_at 63 (by decide +kernel) (by decide +kernel), cd_X0_setPart, ⟨rfl, by decide +kernel, by decide +kernel, by decide +kernel⟩⟩
set_option maxRecDepth 100000 in
theorem cd_X0_isBreaking : cdW mX0_isBreaking ∈ gt := gt_at 430 rfl rfl
theorem mv_X0_isBreaking : MV mX0_isBreaking 0 := ⟨gt_at 428 (by decide +kernel) (by decide +kernel), gt_at 429 (by decide +kernel) (by decide +kernel), gt_at 63 (by decide +kernel) (by decide +kernel), cd_X0_isBreaking, ⟨rfl, by decide +kernel, by decide +kernel, by decide +kernel⟩⟩
set_option maxRecDepth 100000 in
theorem cd_X0_passHour : cdW mX0_passHour ∈ gt := gt_at 448 rfl rfl
theorem mv_X0_passHour : MV mX0_passHour 0 := ⟨gt_at 446 (by decide +kernel) (by decide +kernel), gt_at 447 (by decide +kernel) (by decide +kernel), gt_at 63 (by decide +kernel) (by decide +kernel), cd_X0_passHour, ⟨rfl, by decide +kernel, by decide +kernel, by decide +kernel⟩⟩
set_option maxRecDepth 100000 in
theorem cd_X0_goOn : cdW mX0_goOn ∈ gt := gt_at 453 rfl rfl
theorem mv_X0_goOn : MV mX0_goOn 0 := ⟨gt_at 451 (by decide +kernel) (by decide +kernel), gt_at 452 (by decide +kernel) (by decide +kernel), gt_at 63 (by decide +kernel) (by decide +kernel), cd_X0_goOn, ⟨rfl, by decide +kernel, by decide +kernel, by decide +kernel⟩⟩
set_option maxRecDepth 100000 in
theorem cd_X1_takeFrom : cdW mX1_takeFrom ∈ gt := gt_at 494 rfl rfl
theorem mv_X1_takeFrom : MV mX1_takeFrom 1 := ⟨gt_at 492 (by decide +kernel) (by decide +kernel), gt_at 493 (by decide +kernel) (by decide +kernel), gt_at 62 (by decide +kernel) (by decide +kernel), cd_X1_takeFrom, ⟨rfl, by decide +kernel, by decide +kernel, by decide +kernel⟩⟩
set_option maxRecDepth 100000 in
theorem cd_X1_isFull : cdW mX1_isFull ∈ gt := gt_at 316 rfl rfl
theorem mv_X1_isFull : MV mX1_isFull 0 := ⟨gt_at 314 (by decide +kernel) (by decide +kernel), gt_at 315 (by decide +kernel) (by decide +kernel), gt_at 62 (by decide +kernel) (by decide +kernel), cd_X1_isFull, ⟨rfl, by decide +kernel, by decide +kernel, by decide +kernel⟩⟩
set_option maxRecDepth 100000 in
theorem cd_X1_add : cdW mX1_add ∈ gt := gt_at 321 rfl rfl
theorem mv_X1_add : MV mX1_add 2 := ⟨gt_at 319 (by decide +kernel) (by decide +kernel), gt_at 320 (by decide +kernel) (by decide +kernel), gt_at 62 (by decide +kernel) (by decide +kernel), cd_X1_add, ⟨rfl, by decide +kernel, by decide +kernel, by decide +kernel⟩⟩
set_option maxRecDepth 100000 in
theorem cd_X1_takeDown : cdW mX1_takeDown ∈ gt := gt_at 400 rfl rfl
theorem mv_X1_takeDown : MV mX1_takeDown 1 := ⟨gt_at 398 (by decide +kernel) (by decide +kernel), gt_at 399 (by decide +kernel) (by decide +kernel), gt_at 62 (by decide +kernel) (by decide +kernel), cd_X1_takeDown, ⟨rfl, by decide +kernel, by decide +kernel, by decide +kernel⟩⟩
set_option maxRecDepth 100000 in
theorem cd_X1_clock : cdW mX1_clock ∈ gt := gt_at 347 rfl rfl
theorem mv_X1_clock : MV mX1_clock 0 := ⟨gt_at 345 (by decide +kernel) (by decide +kernel), gt_at 346 (by decide +kernel) (by decide +kernel), gt_at 62 (by decide +kernel) (by decide +kernel), cd_X1_clock, ⟨rfl, by decide +kernel, by decide +kernel, by decide +kernel⟩⟩
set_option maxRecDepth 100000 in
theorem cd_X1_targetFrom : cdW mX1_targetFrom ∈ gt := gt_at 421 rfl rfl
theorem mv_X1_targetFrom : MV mX1_targetFrom 1 := ⟨gt_at 419 (by decide +kernel) (by decide +kernel), gt_at 420 (by decide +kernel) (by decide +kernel), gt_at 62 (by decide +kernel) (by decide +kernel), cd_X1_targetFrom, ⟨rfl, by decide +kernel, by decide +kernel, by decide +kernel⟩⟩
set_option maxRecDepth 100000 in
theorem cd_X1_aim : cdW mX1_aim ∈ gt := gt_at 417 rfl rfl
theorem mv_X1_aim : MV mX1_aim 0 := ⟨gt_at 415 (by decide +kernel) (by decide +kernel), gt_at 416 (by decide +kernel) (by decide +kernel), gt_at 62 (by decide +kernel) (by decide +kernel), cd_X1_aim, ⟨rfl, by decide +kernel, by decide +kernel, by decide +kernel⟩⟩
set_option maxRecDepth 100000 in
theorem cd_X1_boltStrikes : cdW mX1_boltStrikes ∈ gt := gt_at 559 rfl rfl
theorem mv_X1_boltStrikes : MV mX1_boltStrikes 1 := ⟨gt_at 557 (by decide +kernel) (by decide +kernel), gt_at 558 (by decide +kernel) (by decide +kernel), gt_at 62 (by decide +kernel) (by decide +kernel), cd_X1_boltStrikes, ⟨rfl, by decide +kernel, by decide +kernel, by decide +kernel⟩⟩
set_option maxRecDepth 100000 in
theorem cd_X1_goHour : cdW mX1_goHour ∈ gt := gt_at 426 rfl rfl
theorem mv_X1_goHour : MV mX1_goHour 0 := ⟨gt_at 424 (by decide +kernel) (by decide +kernel), gt_at 425 (by decide +kernel) (by decide +kernel), gt_at 62 (by decide +kernel) (by decide +kernel), cd_X1_goHour, ⟨rfl, by decide +kernel, by decide +kernel, by decide +kernel⟩⟩
set_option maxRecDepth 100000 in
theorem cd_X1_strike : cdW mX1_strike ∈ gt := gt_at 434 rfl rfl
theorem mv_X1_strike : MV mX1_strike 1 := ⟨gt_at 433 (by decide +kernel) (by decide +kernel), gt_at 2 (by decide +kernel) (by decide +kernel), gt_at 62 (by decide +kernel) (by decide +kernel), cd_X1_strike, ⟨rfl, by decide +kernel, by decide +kernel, by decide +kernel⟩⟩
set_option maxRecDepth 100000 in
theorem cd_X1_goHours : cdW mX1_goHours ∈ gt := gt_at 413 rfl rfl
theorem mv_X1_goHours : MV mX1_goHours 1 := ⟨gt_at 411 (by decide +kernel) (by decide +kernel), gt_at 412 (by decide +kernel) (by decide +kernel), gt_at 62 (by decide +kernel) (by decide +kernel), cd_X1_goHours, ⟨rfl, by decide +kernel, by decide +kernel, by decide +kernel⟩⟩
set_option maxRecDepth 100000 in
theorem cd_X1_drawDrift : cdW mX1_drawDrift ∈ gt := gt_at 468 rfl rfl
theorem mv_X1_drawDrift : MV mX1_drawDrift 0 := ⟨gt_at 466 (by decide +kernel) (by decide +kernel), gt_at 467 (by decide +kernel) (by decide +kernel), gt_at 62 (by decide +kernel) (by decide +kernel), cd_X1_drawDrift, ⟨rfl, by decide +kernel, by decide +kernel, by decide +kernel⟩⟩
set_option maxRecDepth 100000 in
theorem cd_X1_partsOfAll : cdW mX1_partsOfAll ∈ gt := gt_at 459 rfl rfl
theorem mv_X1_partsOfAll : MV mX1_partsOfAll 1 := ⟨gt_at 457 (by decide +kernel) (by decide +kernel), gt_at 458 (by decide +kernel) (by decide +kernel), gt_at 62 (by decide +kernel) (by decide +kernel), cd_X1_partsOfAll, ⟨rfl, by decide +kernel, by decide +kernel, by decide +kernel⟩⟩
set_option maxRecDepth 100000 in
theorem cd_X1_paidHoursOfAll : cdW mX1_paidHoursOfAll ∈ gt := gt_at 828 rfl rfl
theorem mv_X1_paidHoursOfAll : MV mX1_paidHoursOfAll 0 := ⟨gt_at 826 (by decide +kernel) (by decide +kernel), gt_at 827 (by decide +kernel) (by decide +kernel), gt_at 62 (by decide +kernel) (by decide +kernel), cd_X1_paidHoursOfAll, ⟨rfl, by decide +kernel, by decide +kernel, by decide +kernel⟩⟩
set_option maxRecDepth 100000 in
theorem cd_X1_drawsOfAll : cdW mX1_drawsOfAll ∈ gt := gt_at 591 rfl rfl
theorem mv_X1_drawsOfAll : MV mX1_drawsOfAll 0 := ⟨gt_at 589 (by decide +kernel) (by decide +kernel), gt_at 590 (by decide +kernel) (by decide +kernel), gt_at 62 (by decide +kernel) (by decide +kernel), cd_X1_drawsOfAll, ⟨rfl, by decide +kernel, by decide +kernel, by decide +kernel⟩⟩
set_option maxRecDepth 100000 in
theorem cd_X1_forked : cdW mX1_forked ∈ gt := gt_at 595 rfl rfl
theorem mv_X1_forked : MV mX1_forked 1 := ⟨gt_at 593 (by decide +kernel) (by decide +kernel), gt_at 594 (by decide +kernel) (by decide +kernel), gt_at 62 (by decide +kernel) (by decide +kernel), cd_X1_forked, ⟨rfl, by decide +kernel, by decide +kernel, by decide +kernel⟩⟩
set_option maxRecDepth 100000 in
theorem cd_X1_paidRods : cdW mX1_paidRods ∈ gt := gt_at 481 rfl rfl
theorem mv_X1_paidRods : MV mX1_paidRods 0 := ⟨gt_at 479 (by decide +kernel) (by decide +kernel), gt_at 480 (by decide +kernel) (by decide +kernel), gt_at 62 (by decide +kernel) (by decide +kernel), cd_X1_paidRods, ⟨rfl, by decide +kernel, by decide +kernel, by decide +kernel⟩⟩
set_option maxRecDepth 100000 in
theorem cd_X2_layOut : cdW mX2_layOut ∈ gt := gt_at 622 rfl rfl
theorem mv_X2_layOut : MV mX2_layOut 1 := ⟨gt_at 620 (by decide +kernel) (by decide +kernel), gt_at 621 (by decide +kernel) (by decide +kernel), gt_at 65 (by decide +kernel) (by decide +kernel), cd_X2_layOut, ⟨rfl, by decide +kernel, by decide +kernel, by decide +kernel⟩⟩
set_option maxRecDepth 100000 in
theorem cd_X2_layItem : cdW mX2_layItem ∈ gt := gt_at 637 rfl rfl
theorem mv_X2_layItem : MV mX2_layItem 1 := ⟨gt_at 636 (by decide +kernel) (by decide +kernel), gt_at 9 (by decide +kernel) (by decide +kernel), gt_at 65 (by decide +kernel) (by decide +kernel), cd_X2_layItem, ⟨rfl, by decide +kernel, by decide +kernel, by decide +kernel⟩⟩
set_option maxRecDepth 100000 in
theorem cd_X2_layRod : cdW mX2_layRod ∈ gt := gt_at 704 rfl rfl
theorem mv_X2_layRod : MV mX2_layRod 2 := ⟨gt_at 703 (by decide +kernel) (by decide +kernel), gt_at 12 (by decide +kernel) (by decide +kernel), gt_at 65 (by decide +kernel) (by decide +kernel), cd_X2_layRod, ⟨rfl, by decide +kernel, by decide +kernel, by decide +kernel⟩⟩
set_option maxRecDepth 100000 in
theorem cd_X2_layCloud : cdW mX2_layCloud ∈ gt := gt_at 728 rfl rfl
theorem mv_X2_layCloud : MV mX2_layCloud 1 := ⟨gt_at 727 (by decide +kernel) (by decide +kernel), gt_at 16 (by decide +kernel) (by decide +kernel), gt_at 65 (by decide +kernel) (by decide +kernel), cd_X2_layCloud, ⟨rfl, by decide +kernel, by decide +kernel, by decide +kernel⟩⟩
set_option maxRecDepth 100000 in
theorem cd_X2_takeCloudPart : cdW mX2_takeCloudPart ∈ gt := gt_at 732 rfl rfl
theorem mv_X2_takeCloudPart : MV mX2_takeCloudPart 2 := ⟨gt_at 731 (by decide +kernel) (by decide +kernel), gt_at 17 (by decide +kernel) (by decide +kernel), gt_at 65 (by decide +kernel) (by decide +kernel), cd_X2_takeCloudPart, ⟨rfl, by decide +kernel, by decide +kernel, by decide +kernel⟩⟩
set_option maxRecDepth 100000 in
theorem cd_X2_kindTold : cdW mX2_kindTold ∈ gt := gt_at 641 rfl rfl
theorem mv_X2_kindTold : MV mX2_kindTold 0 := ⟨gt_at 640 (by decide +kernel) (by decide +kernel), gt_at 10 (by decide +kernel) (by decide +kernel), gt_at 65 (by decide +kernel) (by decide +kernel), cd_X2_kindTold, ⟨rfl, by decide +kernel, by decide +kernel, by decide +kernel⟩⟩
set_option maxRecDepth 100000 in
theorem cd_X2_isWord : cdW mX2_isWord ∈ gt := gt_at 646 rfl rfl
theorem mv_X2_isWord : MV mX2_isWord 1 := ⟨gt_at 645 (by decide +kernel) (by decide +kernel), gt_at 11 (by decide +kernel) (by decide +kernel), gt_at 65 (by decide +kernel) (by decide +kernel), cd_X2_isWord, ⟨rfl, by decide +kernel, by decide +kernel, by decide +kernel⟩⟩
set_option maxRecDepth 100000 in
theorem cd_X2_takeWord : cdW mX2_takeWord ∈ gt := gt_at 710 rfl rfl
theorem mv_X2_takeWord : MV mX2_takeWord 1 := ⟨gt_at 709 (by decide +kernel) (by decide +kernel), gt_at 13 (by decide +kernel) (by decide +kernel), gt_at 65 (by decide +kernel) (by decide +kernel), cd_X2_takeWord, ⟨rfl, by decide +kernel, by decide +kernel, by decide +kernel⟩⟩
set_option maxRecDepth 100000 in
theorem cd_X2_isNumber : cdW mX2_isNumber ∈ gt := gt_at 714 rfl rfl
theorem mv_X2_isNumber : MV mX2_isNumber 2 := ⟨gt_at 713 (by decide +kernel) (by decide +kernel), gt_at 14 (by decide +kernel) (by decide +kernel), gt_at 65 (by decide +kernel) (by decide +kernel), cd_X2_isNumber, ⟨rfl, by decide +kernel, by decide +kernel, by decide +kernel⟩⟩
set_option maxRecDepth 100000 in
theorem cd_X2_takeNumber : cdW mX2_takeNumber ∈ gt := gt_at 719 rfl rfl
theorem mv_X2_takeNumber : MV mX2_takeNumber 0 := ⟨gt_at 718 (by decide +kernel) (by decide +kernel), gt_at 15 (by decide +kernel) (by decide +kernel), gt_at 65 (by decide +kernel) (by decide +kernel), cd_X2_takeNumber, ⟨rfl, by decide +kernel, by decide +kernel, by decide +kernel⟩⟩
set_option maxRecDepth 100000 in
theorem cd_X2_goToToken : cdW mX2_goToToken ∈ gt := gt_at 626 rfl rfl
theorem mv_X2_goToToken : MV mX2_goToToken 0 := ⟨gt_at 625 (by decide +kernel) (by decide +kernel), gt_at 7 (by decide +kernel) (by decide +kernel), gt_at 65 (by decide +kernel) (by decide +kernel), cd_X2_goToToken, ⟨rfl, by decide +kernel, by decide +kernel, by decide +kernel⟩⟩
set_option maxRecDepth 100000 in
theorem cd_X2_sortOf : cdW mX2_sortOf ∈ gt := gt_at 629 rfl rfl
theorem ms_X2_sortOf : MS mX2_sortOf 1 := ⟨gt_at 628 (by decide +kernel) (by decide +kernel), gt_at 65 (by decide +kernel) (by decide +kernel), cd_X2_sortOf, ⟨rfl, by decide +kernel, by decide +kernel, by decide +kernel⟩⟩
set_option maxRecDepth 100000 in
theorem cd_X2_numberTold : cdW mX2_numberTold ∈ gt := gt_at 633 rfl rfl
theorem mv_X2_numberTold : MV mX2_numberTold 0 := ⟨gt_at 632 (by decide +kernel) (by decide +kernel), gt_at 8 (by decide +kernel) (by decide +kernel), gt_at 65 (by decide +kernel) (by decide +kernel), cd_X2_numberTold, ⟨rfl, by decide +kernel, by decide +kernel, by decide +kernel⟩⟩
set_option maxRecDepth 100000 in
theorem cd_X3_becomeNew : cdW mX3_becomeNew ∈ gt := gt_at 325 rfl rfl
theorem mv_X3_becomeNew : MV mX3_becomeNew 2 := ⟨gt_at 323 (by decide +kernel) (by decide +kernel), gt_at 324 (by decide +kernel) (by decide +kernel), gt_at 64 (by decide +kernel) (by decide +kernel), cd_X3_becomeNew, ⟨rfl, by decide +kernel, by decide +kernel, by decide +kernel⟩⟩
set_option maxRecDepth 100000 in
theorem cd_X3_takeFrom : cdW mX3_takeFrom ∈ gt := gt_at 502 rfl rfl
theorem mv_X3_takeFrom : MV mX3_takeFrom 1 := ⟨gt_at 500 (by decide +kernel) (by decide +kernel), gt_at 501 (by decide +kernel) (by decide +kernel), gt_at 64 (by decide +kernel) (by decide +kernel), cd_X3_takeFrom, ⟨rfl, by decide +kernel, by decide +kernel, by decide +kernel⟩⟩
set_option maxRecDepth 100000 in
theorem cd_X3_part : cdW mX3_part ∈ gt := gt_at 364 rfl rfl
theorem mv_X3_part : MV mX3_part 1 := ⟨gt_at 362 (by decide +kernel) (by decide +kernel), gt_at 363 (by decide +kernel) (by decide +kernel), gt_at 64 (by decide +kernel) (by decide +kernel), cd_X3_part, ⟨rfl, by decide +kernel, by decide +kernel, by decide +kernel⟩⟩
set_option maxRecDepth 100000 in
theorem cd_X3_isOf : cdW mX3_isOf ∈ gt := gt_at 391 rfl rfl
theorem mv_X3_isOf : MV mX3_isOf 1 := ⟨gt_at 389 (by decide +kernel) (by decide +kernel), gt_at 390 (by decide +kernel) (by decide +kernel), gt_at 64 (by decide +kernel) (by decide +kernel), cd_X3_isOf, ⟨rfl, by decide +kernel, by decide +kernel, by decide +kernel⟩⟩
set_option maxRecDepth 100000 in
theorem cd_X3_drawsFrom : cdW mX3_drawsFrom ∈ gt := gt_at 337 rfl rfl
theorem mv_X3_drawsFrom : MV mX3_drawsFrom 1 := ⟨gt_at 335 (by decide +kernel) (by decide +kernel), gt_at 336 (by decide +kernel) (by decide +kernel), gt_at 64 (by decide +kernel) (by decide +kernel), cd_X3_drawsFrom, ⟨rfl, by decide +kernel, by decide +kernel, by decide +kernel⟩⟩
set_option maxRecDepth 100000 in
theorem cd_X3_owesFor : cdW mX3_owesFor ∈ gt := gt_at 351 rfl rfl
theorem mv_X3_owesFor : MV mX3_owesFor 2 := ⟨gt_at 349 (by decide +kernel) (by decide +kernel), gt_at 350 (by decide +kernel) (by decide +kernel), gt_at 64 (by decide +kernel) (by decide +kernel), cd_X3_owesFor, ⟨rfl, by decide +kernel, by decide +kernel, by decide +kernel⟩⟩
set_option maxRecDepth 100000 in
theorem cd_X3_paidHours : cdW mX3_paidHours ∈ gt := gt_at 359 rfl rfl
theorem mv_X3_paidHours : MV mX3_paidHours 0 := ⟨gt_at 357 (by decide +kernel) (by decide +kernel), gt_at 358 (by decide +kernel) (by decide +kernel), gt_at 64 (by decide +kernel) (by decide +kernel), cd_X3_paidHours, ⟨rfl, by decide +kernel, by decide +kernel, by decide +kernel⟩⟩
set_option maxRecDepth 100000 in
theorem cd_X3_isPaidAt : cdW mX3_isPaidAt ∈ gt := gt_at 355 rfl rfl
theorem mv_X3_isPaidAt : MV mX3_isPaidAt 1 := ⟨gt_at 353 (by decide +kernel) (by decide +kernel), gt_at 354 (by decide +kernel) (by decide +kernel), gt_at 64 (by decide +kernel) (by decide +kernel), cd_X3_isPaidAt, ⟨rfl, by decide +kernel, by decide +kernel, by decide +kernel⟩⟩
set_option maxRecDepth 100000 in
theorem cd_X4_mayHave : cdW mX4_mayHave ∈ gt := gt_at 751 rfl rfl
theorem ms_X4_mayHave : MS mX4_mayHave 1 := ⟨gt_at 750 (by decide +kernel) (by decide +kernel), gt_at 67 (by decide +kernel) (by decide +kernel), cd_X4_mayHave, ⟨rfl, by decide +kernel, by decide +kernel, by decide +kernel⟩⟩
set_option maxRecDepth 100000 in
theorem cd_X4_layNew : cdW mX4_layNew ∈ gt := gt_at 756 rfl rfl
theorem mv_X4_layNew : MV mX4_layNew 2 := ⟨gt_at 754 (by decide +kernel) (by decide +kernel), gt_at 755 (by decide +kernel) (by decide +kernel), gt_at 67 (by decide +kernel) (by decide +kernel), cd_X4_layNew, ⟨rfl, by decide +kernel, by decide +kernel, by decide +kernel⟩⟩
set_option maxRecDepth 100000 in
theorem cd_X4_isMissing : cdW mX4_isMissing ∈ gt := gt_at 768 rfl rfl
theorem mv_X4_isMissing : MV mX4_isMissing 0 := ⟨gt_at 766 (by decide +kernel) (by decide +kernel), gt_at 767 (by decide +kernel) (by decide +kernel), gt_at 67 (by decide +kernel) (by decide +kernel), cd_X4_isMissing, ⟨rfl, by decide +kernel, by decide +kernel, by decide +kernel⟩⟩
set_option maxRecDepth 100000 in
theorem cd_X4_put : cdW mX4_put ∈ gt := gt_at 773 rfl rfl
theorem mv_X4_put : MV mX4_put 2 := ⟨gt_at 771 (by decide +kernel) (by decide +kernel), gt_at 772 (by decide +kernel) (by decide +kernel), gt_at 67 (by decide +kernel) (by decide +kernel), cd_X4_put, ⟨rfl, by decide +kernel, by decide +kernel, by decide +kernel⟩⟩
set_option maxRecDepth 100000 in
theorem cd_X4_has : cdW mX4_has ∈ gt := gt_at 781 rfl rfl
theorem mv_X4_has : MV mX4_has 2 := ⟨gt_at 779 (by decide +kernel) (by decide +kernel), gt_at 780 (by decide +kernel) (by decide +kernel), gt_at 67 (by decide +kernel) (by decide +kernel), cd_X4_has, ⟨rfl, by decide +kernel, by decide +kernel, by decide +kernel⟩⟩
set_option maxRecDepth 100000 in
theorem cd_X5_add : cdW mX5_add ∈ gt := gt_at 610 rfl rfl
theorem mv_X5_add : MV mX5_add 1 := ⟨gt_at 608 (by decide +kernel) (by decide +kernel), gt_at 609 (by decide +kernel) (by decide +kernel), gt_at 66 (by decide +kernel) (by decide +kernel), cd_X5_add, ⟨rfl, by decide +kernel, by decide +kernel, by decide +kernel⟩⟩
set_option maxRecDepth 100000 in
theorem cd_X6_cloud : cdW mX6_cloud ∈ gt := gt_at 274 rfl rfl
theorem mv_X6_cloud : MV mX6_cloud 2 := ⟨gt_at 272 (by decide +kernel) (by decide +kernel), gt_at 273 (by decide +kernel) (by decide +kernel), gt_at 61 (by decide +kernel) (by decide +kernel), cd_X6_cloud, ⟨rfl, by decide +kernel, by decide +kernel, by decide +kernel⟩⟩
set_option maxRecDepth 100000 in
theorem cd_X6_cloudOf : cdW mX6_cloudOf ∈ gt := gt_at 302 rfl rfl
theorem mv_X6_cloudOf : MV mX6_cloudOf 1 := ⟨gt_at 300 (by decide +kernel) (by decide +kernel), gt_at 301 (by decide +kernel) (by decide +kernel), gt_at 61 (by decide +kernel) (by decide +kernel), cd_X6_cloudOf, ⟨rfl, by decide +kernel, by decide +kernel, by decide +kernel⟩⟩
set_option maxRecDepth 100000 in
theorem cd_X6_rod : cdW mX6_rod ∈ gt := gt_at 306 rfl rfl
theorem mv_X6_rod : MV mX6_rod 2 := ⟨gt_at 304 (by decide +kernel) (by decide +kernel), gt_at 305 (by decide +kernel) (by decide +kernel), gt_at 61 (by decide +kernel) (by decide +kernel), cd_X6_rod, ⟨rfl, by decide +kernel, by decide +kernel, by decide +kernel⟩⟩
set_option maxRecDepth 100000 in
theorem cd_X6_of : cdW mX6_of ∈ gt := gt_at 329 rfl rfl
theorem mv_X6_of : MV mX6_of 2 := ⟨gt_at 327 (by decide +kernel) (by decide +kernel), gt_at 328 (by decide +kernel) (by decide +kernel), gt_at 61 (by decide +kernel) (by decide +kernel), cd_X6_of, ⟨rfl, by decide +kernel, by decide +kernel, by decide +kernel⟩⟩
set_option maxRecDepth 100000 in
theorem cd_X6_set : cdW mX6_set ∈ gt := gt_at 368 rfl rfl
theorem mv_X6_set : MV mX6_set 3 := ⟨gt_at 366 (by decide +kernel) (by decide +kernel), gt_at 367 (by decide +kernel) (by decide +kernel), gt_at 61 (by decide +kernel) (by decide +kernel), cd_X6_set, ⟨rfl, by decide +kernel, by decide +kernel, by decide +kernel⟩⟩
set_option maxRecDepth 100000 in
theorem cd_X6_pays : cdW mX6_pays ∈ gt := gt_at 375 rfl rfl
theorem mv_X6_pays : MV mX6_pays 3 := ⟨gt_at 373 (by decide +kernel) (by decide +kernel), gt_at 374 (by decide +kernel) (by decide +kernel), gt_at 61 (by decide +kernel) (by decide +kernel), cd_X6_pays, ⟨rfl, by decide +kernel, by decide +kernel, by decide +kernel⟩⟩
set_option maxRecDepth 100000 in
theorem cd_X6_turn : cdW mX6_turn ∈ gt := gt_at 383 rfl rfl
theorem mv_X6_turn : MV mX6_turn 2 := ⟨gt_at 381 (by decide +kernel) (by decide +kernel), gt_at 382 (by decide +kernel) (by decide +kernel), gt_at 61 (by decide +kernel) (by decide +kernel), cd_X6_turn, ⟨rfl, by decide +kernel, by decide +kernel, by decide +kernel⟩⟩
set_option maxRecDepth 100000 in
theorem cd_X6_as : cdW mX6_as ∈ gt := gt_at 387 rfl rfl
theorem mv_X6_as : MV mX6_as 2 := ⟨gt_at 385 (by decide +kernel) (by decide +kernel), gt_at 386 (by decide +kernel) (by decide +kernel), gt_at 61 (by decide +kernel) (by decide +kernel), cd_X6_as, ⟨rfl, by decide +kernel, by decide +kernel, by decide +kernel⟩⟩
set_option maxRecDepth 100000 in
theorem cd_X6_down : cdW mX6_down ∈ gt := gt_at 396 rfl rfl
theorem mv_X6_down : MV mX6_down 1 := ⟨gt_at 394 (by decide +kernel) (by decide +kernel), gt_at 395 (by decide +kernel) (by decide +kernel), gt_at 61 (by decide +kernel) (by decide +kernel), cd_X6_down, ⟨rfl, by decide +kernel, by decide +kernel, by decide +kernel⟩⟩
set_option maxRecDepth 100000 in
theorem cd_X6_settle : cdW mX6_settle ∈ gt := gt_at 404 rfl rfl
theorem mv_X6_settle : MV mX6_settle 1 := ⟨gt_at 402 (by decide +kernel) (by decide +kernel), gt_at 403 (by decide +kernel) (by decide +kernel), gt_at 61 (by decide +kernel) (by decide +kernel), cd_X6_settle, ⟨rfl, by decide +kernel, by decide +kernel, by decide +kernel⟩⟩
set_option maxRecDepth 100000 in
theorem cd_X6_hours : cdW mX6_hours ∈ gt := gt_at 408 rfl rfl
theorem mv_X6_hours : MV mX6_hours 1 := ⟨gt_at 406 (by decide +kernel) (by decide +kernel), gt_at 407 (by decide +kernel) (by decide +kernel), gt_at 61 (by decide +kernel) (by decide +kernel), cd_X6_hours, ⟨rfl, by decide +kernel, by decide +kernel, by decide +kernel⟩⟩
set_option maxRecDepth 100000 in
theorem cd_X6_days : cdW mX6_days ∈ gt := gt_at 464 rfl rfl
theorem mv_X6_days : MV mX6_days 1 := ⟨gt_at 462 (by decide +kernel) (by decide +kernel), gt_at 463 (by decide +kernel) (by decide +kernel), gt_at 61 (by decide +kernel) (by decide +kernel), cd_X6_days, ⟨rfl, by decide +kernel, by decide +kernel, by decide +kernel⟩⟩
set_option maxRecDepth 100000 in
theorem cd_X6_seed : cdW mX6_seed ∈ gt := gt_at 473 rfl rfl
theorem mv_X6_seed : MV mX6_seed 1 := ⟨gt_at 471 (by decide +kernel) (by decide +kernel), gt_at 472 (by decide +kernel) (by decide +kernel), gt_at 61 (by decide +kernel) (by decide +kernel), cd_X6_seed, ⟨rfl, by decide +kernel, by decide +kernel, by decide +kernel⟩⟩
set_option maxRecDepth 100000 in
theorem cd_X6_now : cdW mX6_now ∈ gt := gt_at 477 rfl rfl
theorem mv_X6_now : MV mX6_now 1 := ⟨gt_at 475 (by decide +kernel) (by decide +kernel), gt_at 476 (by decide +kernel) (by decide +kernel), gt_at 61 (by decide +kernel) (by decide +kernel), cd_X6_now, ⟨rfl, by decide +kernel, by decide +kernel, by decide +kernel⟩⟩
set_option maxRecDepth 100000 in
theorem cd_X6_on : cdW mX6_on ∈ gt := gt_at 486 rfl rfl
theorem mv_X6_on : MV mX6_on 3 := ⟨gt_at 484 (by decide +kernel) (by decide +kernel), gt_at 485 (by decide +kernel) (by decide +kernel), gt_at 61 (by decide +kernel) (by decide +kernel), cd_X6_on, ⟨rfl, by decide +kernel, by decide +kernel, by decide +kernel⟩⟩
set_option maxRecDepth 100000 in
theorem cd_X6_next : cdW mX6_next ∈ gt := gt_at 506 rfl rfl
theorem mv_X6_next : MV mX6_next 1 := ⟨gt_at 504 (by decide +kernel) (by decide +kernel), gt_at 505 (by decide +kernel) (by decide +kernel), gt_at 61 (by decide +kernel) (by decide +kernel), cd_X6_next, ⟨rfl, by decide +kernel, by decide +kernel, by decide +kernel⟩⟩
set_option maxRecDepth 100000 in
theorem cd_X6_struck : cdW mX6_struck ∈ gt := gt_at 518 rfl rfl
theorem mv_X6_struck : MV mX6_struck 1 := ⟨gt_at 516 (by decide +kernel) (by decide +kernel), gt_at 517 (by decide +kernel) (by decide +kernel), gt_at 61 (by decide +kernel) (by decide +kernel), cd_X6_struck, ⟨rfl, by decide +kernel, by decide +kernel, by decide +kernel⟩⟩
set_option maxRecDepth 100000 in
theorem cd_X6_reach : cdW mX6_reach ∈ gt := gt_at 522 rfl rfl
theorem mv_X6_reach : MV mX6_reach 1 := ⟨gt_at 520 (by decide +kernel) (by decide +kernel), gt_at 521 (by decide +kernel) (by decide +kernel), gt_at 61 (by decide +kernel) (by decide +kernel), cd_X6_reach, ⟨rfl, by decide +kernel, by decide +kernel, by decide +kernel⟩⟩
set_option maxRecDepth 100000 in
theorem cd_X6_steals : cdW mX6_steals ∈ gt := gt_at 526 rfl rfl
theorem mv_X6_steals : MV mX6_steals 1 := ⟨gt_at 524 (by decide +kernel) (by decide +kernel), gt_at 525 (by decide +kernel) (by decide +kernel), gt_at 61 (by decide +kernel) (by decide +kernel), cd_X6_steals, ⟨rfl, by decide +kernel, by decide +kernel, by decide +kernel⟩⟩
set_option maxRecDepth 100000 in
theorem cd_X6_ducks : cdW mX6_ducks ∈ gt := gt_at 534 rfl rfl
theorem mv_X6_ducks : MV mX6_ducks 1 := ⟨gt_at 532 (by decide +kernel) (by decide +kernel), gt_at 533 (by decide +kernel) (by decide +kernel), gt_at 61 (by decide +kernel) (by decide +kernel), cd_X6_ducks, ⟨rfl, by decide +kernel, by decide +kernel, by decide +kernel⟩⟩
set_option maxRecDepth 100000 in
theorem cd_X6_place : cdW mX6_place ∈ gt := gt_at 538 rfl rfl
theorem mv_X6_place : MV mX6_place 2 := ⟨gt_at 536 (by decide +kernel) (by decide +kernel), gt_at 537 (by decide +kernel) (by decide +kernel), gt_at 61 (by decide +kernel) (by decide +kernel), cd_X6_place, ⟨rfl, by decide +kernel, by decide +kernel, by decide +kernel⟩⟩
set_option maxRecDepth 100000 in
theorem cd_X6_thief : cdW mX6_thief ∈ gt := gt_at 542 rfl rfl
theorem mv_X6_thief : MV mX6_thief 2 := ⟨gt_at 540 (by decide +kernel) (by decide +kernel), gt_at 541 (by decide +kernel) (by decide +kernel), gt_at 61 (by decide +kernel) (by decide +kernel), cd_X6_thief, ⟨rfl, by decide +kernel, by decide +kernel, by decide +kernel⟩⟩
set_option maxRecDepth 100000 in
theorem cd_X6_kind : cdW mX6_kind ∈ gt := gt_at 546 rfl rfl
theorem mv_X6_kind : MV mX6_kind 2 := ⟨gt_at 544 (by decide +kernel) (by decide +kernel), gt_at 545 (by decide +kernel) (by decide +kernel), gt_at 61 (by decide +kernel) (by decide +kernel), cd_X6_kind, ⟨rfl, by decide +kernel, by decide +kernel, by decide +kernel⟩⟩
set_option maxRecDepth 100000 in
theorem cd_X6_clocks : cdW mX6_clocks ∈ gt := gt_at 550 rfl rfl
theorem mv_X6_clocks : MV mX6_clocks 2 := ⟨gt_at 548 (by decide +kernel) (by decide +kernel), gt_at 549 (by decide +kernel) (by decide +kernel), gt_at 61 (by decide +kernel) (by decide +kernel), cd_X6_clocks, ⟨rfl, by decide +kernel, by decide +kernel, by decide +kernel⟩⟩
set_option maxRecDepth 100000 in
theorem cd_X6_covers : cdW mX6_covers ∈ gt := gt_at 564 rfl rfl
theorem mv_X6_covers : MV mX6_covers 2 := ⟨gt_at 562 (by decide +kernel) (by decide +kernel), gt_at 563 (by decide +kernel) (by decide +kernel), gt_at 61 (by decide +kernel) (by decide +kernel), cd_X6_covers, ⟨rfl, by decide +kernel, by decide +kernel, by decide +kernel⟩⟩
set_option maxRecDepth 100000 in
theorem cd_X6_from : cdW mX6_from ∈ gt := gt_at 579 rfl rfl
theorem mv_X6_from : MV mX6_from 2 := ⟨gt_at 577 (by decide +kernel) (by decide +kernel), gt_at 578 (by decide +kernel) (by decide +kernel), gt_at 61 (by decide +kernel) (by decide +kernel), cd_X6_from, ⟨rfl, by decide +kernel, by decide +kernel, by decide +kernel⟩⟩
set_option maxRecDepth 100000 in
theorem cd_X6_strays : cdW mX6_strays ∈ gt := gt_at 583 rfl rfl
theorem mv_X6_strays : MV mX6_strays 1 := ⟨gt_at 581 (by decide +kernel) (by decide +kernel), gt_at 582 (by decide +kernel) (by decide +kernel), gt_at 61 (by decide +kernel) (by decide +kernel), cd_X6_strays, ⟨rfl, by decide +kernel, by decide +kernel, by decide +kernel⟩⟩
set_option maxRecDepth 100000 in
theorem cd_X6_fork : cdW mX6_fork ∈ gt := gt_at 587 rfl rfl
theorem mv_X6_fork : MV mX6_fork 2 := ⟨gt_at 585 (by decide +kernel) (by decide +kernel), gt_at 586 (by decide +kernel) (by decide +kernel), gt_at 61 (by decide +kernel) (by decide +kernel), cd_X6_fork, ⟨rfl, by decide +kernel, by decide +kernel, by decide +kernel⟩⟩
set_option maxRecDepth 100000 in
theorem cd_X6_share : cdW mX6_share ∈ gt := gt_at 602 rfl rfl
theorem mv_X6_share : MV mX6_share 1 := ⟨gt_at 600 (by decide +kernel) (by decide +kernel), gt_at 601 (by decide +kernel) (by decide +kernel), gt_at 61 (by decide +kernel) (by decide +kernel), cd_X6_share, ⟨rfl, by decide +kernel, by decide +kernel, by decide +kernel⟩⟩
set_option maxRecDepth 100000 in
theorem cd_X6_feed : cdW mX6_feed ∈ gt := gt_at 606 rfl rfl
theorem mv_X6_feed : MV mX6_feed 2 := ⟨gt_at 604 (by decide +kernel) (by decide +kernel), gt_at 605 (by decide +kernel) (by decide +kernel), gt_at 61 (by decide +kernel) (by decide +kernel), cd_X6_feed, ⟨rfl, by decide +kernel, by decide +kernel, by decide +kernel⟩⟩
set_option maxRecDepth 100000 in
theorem cd_X6_wipe : cdW mX6_wipe ∈ gt := gt_at 614 rfl rfl
theorem mv_X6_wipe : MV mX6_wipe 0 := ⟨gt_at 612 (by decide +kernel) (by decide +kernel), gt_at 613 (by decide +kernel) (by decide +kernel), gt_at 61 (by decide +kernel) (by decide +kernel), cd_X6_wipe, ⟨rfl, by decide +kernel, by decide +kernel, by decide +kernel⟩⟩
set_option maxRecDepth 100000 in
theorem cd_X6_plain : cdW mX6_plain ∈ gt := gt_at 618 rfl rfl
theorem mv_X6_plain : MV mX6_plain 0 := ⟨gt_at 616 (by decide +kernel) (by decide +kernel), gt_at 617 (by decide +kernel) (by decide +kernel), gt_at 61 (by decide +kernel) (by decide +kernel), cd_X6_plain, ⟨rfl, by decide +kernel, by decide +kernel, by decide +kernel⟩⟩
set_option maxRecDepth 100000 in
theorem cd_X6_sheet : cdW mX6_sheet ∈ gt := gt_at 745 rfl rfl
theorem mv_X6_sheet : MV mX6_sheet 3 := ⟨gt_at 743 (by decide +kernel) (by decide +kernel), gt_at 744 (by decide +kernel) (by decide +kernel), gt_at 61 (by decide +kernel) (by decide +kernel), cd_X6_sheet, ⟨rfl, by decide +kernel, by decide +kernel, by decide +kernel⟩⟩
set_option maxRecDepth 100000 in
theorem cd_X6_write : cdW mX6_write ∈ gt := gt_at 760 rfl rfl
theorem mv_X6_write : MV mX6_write 3 := ⟨gt_at 758 (by decide +kernel) (by decide +kernel), gt_at 759 (by decide +kernel) (by decide +kernel), gt_at 61 (by decide +kernel) (by decide +kernel), cd_X6_write, ⟨rfl, by decide +kernel, by decide +kernel, by decide +kernel⟩⟩
set_option maxRecDepth 100000 in
theorem cd_X6_copy : cdW mX6_copy ∈ gt := gt_at 777 rfl rfl
theorem mv_X6_copy : MV mX6_copy 5 := ⟨gt_at 775 (by decide +kernel) (by decide +kernel), gt_at 776 (by decide +kernel) (by decide +kernel), gt_at 61 (by decide +kernel) (by decide +kernel), cd_X6_copy, ⟨rfl, by decide +kernel, by decide +kernel, by decide +kernel⟩⟩
set_option maxRecDepth 100000 in
theorem cd_X6_lays : cdW mX6_lays ∈ gt := gt_at 788 rfl rfl
theorem mv_X6_lays : MV mX6_lays 1 := ⟨gt_at 786 (by decide +kernel) (by decide +kernel), gt_at 787 (by decide +kernel) (by decide +kernel), gt_at 61 (by decide +kernel) (by decide +kernel), cd_X6_lays, ⟨rfl, by decide +kernel, by decide +kernel, by decide +kernel⟩⟩
set_option maxRecDepth 100000 in
theorem cd_X6_book : cdW mX6_book ∈ gt := gt_at 793 rfl rfl
theorem mv_X6_book : MV mX6_book 2 := ⟨gt_at 791 (by decide +kernel) (by decide +kernel), gt_at 792 (by decide +kernel) (by decide +kernel), gt_at 61 (by decide +kernel) (by decide +kernel), cd_X6_book, ⟨rfl, by decide +kernel, by decide +kernel, by decide +kernel⟩⟩
set_option maxRecDepth 100000 in
theorem cd_X6_read : cdW mX6_read ∈ gt := gt_at 801 rfl rfl
theorem mv_X6_read : MV mX6_read 2 := ⟨gt_at 799 (by decide +kernel) (by decide +kernel), gt_at 800 (by decide +kernel) (by decide +kernel), gt_at 61 (by decide +kernel) (by decide +kernel), cd_X6_read, ⟨rfl, by decide +kernel, by decide +kernel, by decide +kernel⟩⟩
set_option maxRecDepth 100000 in
theorem cd_X6_image : cdW mX6_image ∈ gt := gt_at 812 rfl rfl
theorem mv_X6_image : MV mX6_image 0 := ⟨gt_at 810 (by decide +kernel) (by decide +kernel), gt_at 811 (by decide +kernel) (by decide +kernel), gt_at 61 (by decide +kernel) (by decide +kernel), cd_X6_image, ⟨rfl, by decide +kernel, by decide +kernel, by decide +kernel⟩⟩
set_option maxRecDepth 100000 in
theorem cd_X6_undo : cdW mX6_undo ∈ gt := gt_at 816 rfl rfl
theorem mv_X6_undo : MV mX6_undo 0 := ⟨gt_at 814 (by decide +kernel) (by decide +kernel), gt_at 815 (by decide +kernel) (by decide +kernel), gt_at 61 (by decide +kernel) (by decide +kernel), cd_X6_undo, ⟨rfl, by decide +kernel, by decide +kernel, by decide +kernel⟩⟩
set_option maxRecDepth 100000 in
theorem cd_X6_tear : cdW mX6_tear ∈ gt := gt_at 820 rfl rfl
theorem mv_X6_tear : MV mX6_tear 0 := ⟨gt_at 818 (by decide +kernel) (by decide +kernel), gt_at 819 (by decide +kernel) (by decide +kernel), gt_at 61 (by decide +kernel) (by decide +kernel), cd_X6_tear, ⟨rfl, by decide +kernel, by decide +kernel, by decide +kernel⟩⟩
set_option maxRecDepth 100000 in
theorem cd_X6_count : cdW mX6_count ∈ gt := gt_at 824 rfl rfl
theorem mv_X6_count : MV mX6_count 1 := ⟨gt_at 822 (by decide +kernel) (by decide +kernel), gt_at 823 (by decide +kernel) (by decide +kernel), gt_at 61 (by decide +kernel) (by decide +kernel), cd_X6_count, ⟨rfl, by decide +kernel, by decide +kernel, by decide +kernel⟩⟩
set_option maxRecDepth 100000 in
theorem cd_X6_status : cdW mX6_status ∈ gt := gt_at 833 rfl rfl
theorem mv_X6_status : MV mX6_status 1 := ⟨gt_at 831 (by decide +kernel) (by decide +kernel), gt_at 832 (by decide +kernel) (by decide +kernel), gt_at 61 (by decide +kernel) (by decide +kernel), cd_X6_status, ⟨rfl, by decide +kernel, by decide +kernel, by decide +kernel⟩⟩
set_option maxRecDepth 100000 in
theorem cd_X6_tell : cdW mX6_tell ∈ gt := gt_at 289 rfl rfl
theorem mv_X6_tell : MV mX6_tell 1 := ⟨gt_at 288 (by decide +kernel) (by decide +kernel), gt_at 0 (by decide +kernel) (by decide +kernel), gt_at 61 (by decide +kernel) (by decide +kernel), cd_X6_tell, ⟨rfl, by decide +kernel, by decide +kernel, by decide +kernel⟩⟩
set_option maxRecDepth 100000 in
theorem cd_X6_isWithin : cdW mX6_isWithin ∈ gt := gt_at 280 rfl rfl
theorem ms_X6_isWithin : MS mX6_isWithin 3 := ⟨gt_at 279 (by decide +kernel) (by decide +kernel), gt_at 61 (by decide +kernel) (by decide +kernel), cd_X6_isWithin, ⟨rfl, by decide +kernel, by decide +kernel, by decide +kernel⟩⟩
set_option maxRecDepth 100000 in
theorem cd_X6_isRod : cdW mX6_isRod ∈ gt := gt_at 333 rfl rfl
theorem mv_X6_isRod : MV mX6_isRod 1 := ⟨gt_at 332 (by decide +kernel) (by decide +kernel), gt_at 1 (by decide +kernel) (by decide +kernel), gt_at 61 (by decide +kernel) (by decide +kernel), cd_X6_isRod, ⟨rfl, by decide +kernel, by decide +kernel, by decide +kernel⟩⟩
set_option maxRecDepth 100000 in
theorem cd_X6_isKind : cdW mX6_isKind ∈ gt := gt_at 309 rfl rfl
theorem ms_X6_isKind : MS mX6_isKind 1 := ⟨gt_at 308 (by decide +kernel) (by decide +kernel), gt_at 61 (by decide +kernel) (by decide +kernel), cd_X6_isKind, ⟨rfl, by decide +kernel, by decide +kernel, by decide +kernel⟩⟩
set_option maxRecDepth 100000 in
theorem cd_X6_isPlace : cdW mX6_isPlace ∈ gt := gt_at 312 rfl rfl
theorem ms_X6_isPlace : MS mX6_isPlace 1 := ⟨gt_at 311 (by decide +kernel) (by decide +kernel), gt_at 61 (by decide +kernel) (by decide +kernel), cd_X6_isPlace, ⟨rfl, by decide +kernel, by decide +kernel, by decide +kernel⟩⟩
set_option maxRecDepth 100000 in
theorem cd_X6_isHeight : cdW mX6_isHeight ∈ gt := gt_at 371 rfl rfl
theorem ms_X6_isHeight : MS mX6_isHeight 1 := ⟨gt_at 370 (by decide +kernel) (by decide +kernel), gt_at 61 (by decide +kernel) (by decide +kernel), cd_X6_isHeight, ⟨rfl, by decide +kernel, by decide +kernel, by decide +kernel⟩⟩
set_option maxRecDepth 100000 in
theorem cd_X6_isClock : cdW mX6_isClock ∈ gt := gt_at 378 rfl rfl
theorem ms_X6_isClock : MS mX6_isClock 1 := ⟨gt_at 377 (by decide +kernel) (by decide +kernel), gt_at 61 (by decide +kernel) (by decide +kernel), cd_X6_isClock, ⟨rfl, by decide +kernel, by decide +kernel, by decide +kernel⟩⟩
set_option maxRecDepth 100000 in
theorem cd_X6_isSheet : cdW mX6_isSheet ∈ gt := gt_at 748 rfl rfl
theorem ms_X6_isSheet : MS mX6_isSheet 1 := ⟨gt_at 747 (by decide +kernel) (by decide +kernel), gt_at 61 (by decide +kernel) (by decide +kernel), cd_X6_isSheet, ⟨rfl, by decide +kernel, by decide +kernel, by decide +kernel⟩⟩
set_option maxRecDepth 100000 in
theorem cd_X6_findingOfSheet : cdW mX6_findingOfSheet ∈ gt := gt_at 764 rfl rfl
theorem mv_X6_findingOfSheet : MV mX6_findingOfSheet 1 := ⟨gt_at 763 (by decide +kernel) (by decide +kernel), gt_at 18 (by decide +kernel) (by decide +kernel), gt_at 61 (by decide +kernel) (by decide +kernel), cd_X6_findingOfSheet, ⟨rfl, by decide +kernel, by decide +kernel, by decide +kernel⟩⟩
set_option maxRecDepth 100000 in
theorem cd_X6_findingOfBook : cdW mX6_findingOfBook ∈ gt := gt_at 797 rfl rfl
theorem mv_X6_findingOfBook : MV mX6_findingOfBook 2 := ⟨gt_at 796 (by decide +kernel) (by decide +kernel), gt_at 19 (by decide +kernel) (by decide +kernel), gt_at 61 (by decide +kernel) (by decide +kernel), cd_X6_findingOfBook, ⟨rfl, by decide +kernel, by decide +kernel, by decide +kernel⟩⟩
set_option maxRecDepth 100000 in
theorem cd_X6_raiseGhost : cdW mX6_raiseGhost ∈ gt := gt_at 490 rfl rfl
theorem mv_X6_raiseGhost : MV mX6_raiseGhost 0 := ⟨gt_at 489 (by decide +kernel) (by decide +kernel), gt_at 3 (by decide +kernel) (by decide +kernel), gt_at 61 (by decide +kernel) (by decide +kernel), cd_X6_raiseGhost, ⟨rfl, by decide +kernel, by decide +kernel, by decide +kernel⟩⟩
set_option maxRecDepth 100000 in
theorem cd_X6_leadGhostToBolt : cdW mX6_leadGhostToBolt ∈ gt := gt_at 510 rfl rfl
theorem mv_X6_leadGhostToBolt : MV mX6_leadGhostToBolt 0 := ⟨gt_at 509 (by decide +kernel) (by decide +kernel), gt_at 4 (by decide +kernel) (by decide +kernel), gt_at 61 (by decide +kernel) (by decide +kernel), cd_X6_leadGhostToBolt, ⟨rfl, by decide +kernel, by decide +kernel, by decide +kernel⟩⟩
set_option maxRecDepth 100000 in
theorem cd_X6_isGhostStruck : cdW mX6_isGhostStruck ∈ gt := gt_at 530 rfl rfl
theorem mv_X6_isGhostStruck : MV mX6_isGhostStruck 2 := ⟨gt_at 529 (by decide +kernel) (by decide +kernel), gt_at 5 (by decide +kernel) (by decide +kernel), gt_at 61 (by decide +kernel) (by decide +kernel), cd_X6_isGhostStruck, ⟨rfl, by decide +kernel, by decide +kernel, by decide +kernel⟩⟩
set_option maxRecDepth 100000 in
theorem cd_X6_clocksOfBolts : cdW mX6_clocksOfBolts ∈ gt := gt_at 554 rfl rfl
theorem mv_X6_clocksOfBolts : MV mX6_clocksOfBolts 2 := ⟨gt_at 553 (by decide +kernel) (by decide +kernel), gt_at 6 (by decide +kernel) (by decide +kernel), gt_at 61 (by decide +kernel) (by decide +kernel), cd_X6_clocksOfBolts, ⟨rfl, by decide +kernel, by decide +kernel, by decide +kernel⟩⟩
set_option maxRecDepth 100000 in
theorem cd_X6_bestFrom : cdW mX6_bestFrom ∈ gt := gt_at 567 rfl rfl
theorem ms_X6_bestFrom : MS mX6_bestFrom 1 := ⟨gt_at 566 (by decide +kernel) (by decide +kernel), gt_at 61 (by decide +kernel) (by decide +kernel), cd_X6_bestFrom, ⟨rfl, by decide +kernel, by decide +kernel, by decide +kernel⟩⟩
set_option maxRecDepth 100000 in
theorem cd_X6_hoursToCover : cdW mX6_hoursToCover ∈ gt := gt_at 570 rfl rfl
theorem ms_X6_hoursToCover : MS mX6_hoursToCover 2 := ⟨gt_at 569 (by decide +kernel) (by decide +kernel), gt_at 61 (by decide +kernel) (by decide +kernel), cd_X6_hoursToCover, ⟨rfl, by decide +kernel, by decide +kernel, by decide +kernel⟩⟩
set_option maxRecDepth 100000 in
theorem cd_X6_commonDivisor : cdW mX6_commonDivisor ∈ gt := gt_at 598 rfl rfl
theorem ms_X6_commonDivisor : MS mX6_commonDivisor 2 := ⟨gt_at 597 (by decide +kernel) (by decide +kernel), gt_at 61 (by decide +kernel) (by decide +kernel), cd_X6_commonDivisor, ⟨rfl, by decide +kernel, by decide +kernel, by decide +kernel⟩⟩
set_option maxRecDepth 100000 in
theorem cd_X6_isBooked : cdW mX6_isBooked ∈ gt := gt_at 806 rfl rfl
theorem mv_X6_isBooked : MV mX6_isBooked 2 := ⟨gt_at 805 (by decide +kernel) (by decide +kernel), gt_at 20 (by decide +kernel) (by decide +kernel), gt_at 61 (by decide +kernel) (by decide +kernel), cd_X6_isBooked, ⟨rfl, by decide +kernel, by decide +kernel, by decide +kernel⟩⟩
set_option maxRecDepth 100000 in
theorem cd_X6_held : cdW mX6_held ∈ gt := gt_at 440 rfl rfl
theorem ms_X6_held : MS mX6_held 1 := ⟨gt_at 439 (by decide +kernel) (by decide +kernel), gt_at 61 (by decide +kernel) (by decide +kernel), cd_X6_held, ⟨rfl, by decide +kernel, by decide +kernel, by decide +kernel⟩⟩
set_option maxRecDepth 100000 in
theorem cd_X7_in : cdW mX7_in ∈ gt := gt_at 922 rfl rfl
theorem ms_X7_in : MS mX7_in 3 := ⟨gt_at 921 (by decide +kernel) (by decide +kernel), gt_at 68 (by decide +kernel) (by decide +kernel), cd_X7_in, ⟨rfl, by decide +kernel, by decide +kernel, by decide +kernel⟩⟩
set_option maxRecDepth 100000 in
theorem cd_X7_finds : cdW mX7_finds ∈ gt := gt_at 927 rfl rfl
theorem mv_X7_finds : MV mX7_finds 1 := ⟨gt_at 926 (by decide +kernel) (by decide +kernel), gt_at 21 (by decide +kernel) (by decide +kernel), gt_at 68 (by decide +kernel) (by decide +kernel), cd_X7_finds, ⟨rfl, by decide +kernel, by decide +kernel, by decide +kernel⟩⟩
set_option maxRecDepth 100000 in
theorem cd_X7_held : cdW mX7_held ∈ gt := gt_at 966 rfl rfl
theorem ms_X7_held : MS mX7_held 3 := ⟨gt_at 965 (by decide +kernel) (by decide +kernel), gt_at 68 (by decide +kernel) (by decide +kernel), cd_X7_held, ⟨rfl, by decide +kernel, by decide +kernel, by decide +kernel⟩⟩
set_option maxRecDepth 100000 in
theorem cd_X7_its : cdW mX7_its ∈ gt := gt_at 963 rfl rfl
theorem mv_X7_its : MV mX7_its 2 := ⟨gt_at 962 (by decide +kernel) (by decide +kernel), gt_at 26 (by decide +kernel) (by decide +kernel), gt_at 68 (by decide +kernel) (by decide +kernel), cd_X7_its, ⟨rfl, by decide +kernel, by decide +kernel, by decide +kernel⟩⟩
set_option maxRecDepth 100000 in
theorem cd_X7_puts : cdW mX7_puts ∈ gt := gt_at 947 rfl rfl
theorem mv_X7_puts : MV mX7_puts 3 := ⟨gt_at 946 (by decide +kernel) (by decide +kernel), gt_at 23 (by decide +kernel) (by decide +kernel), gt_at 68 (by decide +kernel) (by decide +kernel), cd_X7_puts, ⟨rfl, by decide +kernel, by decide +kernel, by decide +kernel⟩⟩
set_option maxRecDepth 100000 in
theorem cd_X7_isRod : cdW mX7_isRod ∈ gt := gt_at 955 rfl rfl
theorem mv_X7_isRod : MV mX7_isRod 1 := ⟨gt_at 954 (by decide +kernel) (by decide +kernel), gt_at 24 (by decide +kernel) (by decide +kernel), gt_at 68 (by decide +kernel) (by decide +kernel), cd_X7_isRod, ⟨rfl, by decide +kernel, by decide +kernel, by decide +kernel⟩⟩
set_option maxRecDepth 100000 in
theorem cd_X7_isPlace : cdW mX7_isPlace ∈ gt := gt_at 919 rfl rfl
theorem ms_X7_isPlace : MS mX7_isPlace 1 := ⟨gt_at 918 (by decide +kernel) (by decide +kernel), gt_at 68 (by decide +kernel) (by decide +kernel), cd_X7_isPlace, ⟨rfl, by decide +kernel, by decide +kernel, by decide +kernel⟩⟩
set_option maxRecDepth 100000 in
theorem cd_X7_isKind : cdW mX7_isKind ∈ gt := gt_at 938 rfl rfl
theorem ms_X7_isKind : MS mX7_isKind 1 := ⟨gt_at 937 (by decide +kernel) (by decide +kernel), gt_at 68 (by decide +kernel) (by decide +kernel), cd_X7_isKind, ⟨rfl, by decide +kernel, by decide +kernel, by decide +kernel⟩⟩
set_option maxRecDepth 100000 in
theorem cd_X7_cloud : cdW mX7_cloud ∈ gt := gt_at 916 rfl rfl
theorem mv_X7_cloud : MV mX7_cloud 2 := ⟨gt_at 914 (by decide +kernel) (by decide +kernel), gt_at 915 (by decide +kernel) (by decide +kernel), gt_at 68 (by decide +kernel) (by decide +kernel), cd_X7_cloud, ⟨rfl, by decide +kernel, by decide +kernel, by decide +kernel⟩⟩
set_option maxRecDepth 100000 in
theorem cd_X7_cloudOf : cdW mX7_cloudOf ∈ gt := gt_at 931 rfl rfl
theorem mv_X7_cloudOf : MV mX7_cloudOf 1 := ⟨gt_at 929 (by decide +kernel) (by decide +kernel), gt_at 930 (by decide +kernel) (by decide +kernel), gt_at 68 (by decide +kernel) (by decide +kernel), cd_X7_cloudOf, ⟨rfl, by decide +kernel, by decide +kernel, by decide +kernel⟩⟩
set_option maxRecDepth 100000 in
theorem cd_X7_addRod : cdW mX7_addRod ∈ gt := gt_at 943 rfl rfl
theorem mv_X7_addRod : MV mX7_addRod 5 := ⟨gt_at 942 (by decide +kernel) (by decide +kernel), gt_at 22 (by decide +kernel) (by decide +kernel), gt_at 68 (by decide +kernel) (by decide +kernel), cd_X7_addRod, ⟨rfl, by decide +kernel, by decide +kernel, by decide +kernel⟩⟩
set_option maxRecDepth 100000 in
theorem cd_X7_rod : cdW mX7_rod ∈ gt := gt_at 935 rfl rfl
theorem mv_X7_rod : MV mX7_rod 2 := ⟨gt_at 933 (by decide +kernel) (by decide +kernel), gt_at 934 (by decide +kernel) (by decide +kernel), gt_at 68 (by decide +kernel) (by decide +kernel), cd_X7_rod, ⟨rfl, by decide +kernel, by decide +kernel, by decide +kernel⟩⟩
set_option maxRecDepth 100000 in
theorem cd_X7_draws : cdW mX7_draws ∈ gt := gt_at 959 rfl rfl
theorem mv_X7_draws : MV mX7_draws 2 := ⟨gt_at 958 (by decide +kernel) (by decide +kernel), gt_at 25 (by decide +kernel) (by decide +kernel), gt_at 68 (by decide +kernel) (by decide +kernel), cd_X7_draws, ⟨rfl, by decide +kernel, by decide +kernel, by decide +kernel⟩⟩
set_option maxRecDepth 100000 in
theorem cd_X7_clock : cdW mX7_clock ∈ gt := gt_at 978 rfl rfl
theorem mv_X7_clock : MV mX7_clock 0 := ⟨gt_at 977 (by decide +kernel) (by decide +kernel), gt_at 29 (by decide +kernel) (by decide +kernel), gt_at 68 (by decide +kernel) (by decide +kernel), cd_X7_clock, ⟨rfl, by decide +kernel, by decide +kernel, by decide +kernel⟩⟩
set_option maxRecDepth 100000 in
theorem cd_X7_paidMany : cdW mX7_paidMany ∈ gt := gt_at 982 rfl rfl
theorem mv_X7_paidMany : MV mX7_paidMany 1 := ⟨gt_at 981 (by decide +kernel) (by decide +kernel), gt_at 30 (by decide +kernel) (by decide +kernel), gt_at 68 (by decide +kernel) (by decide +kernel), cd_X7_paidMany, ⟨rfl, by decide +kernel, by decide +kernel, by decide +kernel⟩⟩
set_option maxRecDepth 100000 in
theorem cd_X7_isPaid : cdW mX7_isPaid ∈ gt := gt_at 974 rfl rfl
theorem mv_X7_isPaid : MV mX7_isPaid 1 := ⟨gt_at 973 (by decide +kernel) (by decide +kernel), gt_at 28 (by decide +kernel) (by decide +kernel), gt_at 68 (by decide +kernel) (by decide +kernel), cd_X7_isPaid, ⟨rfl, by decide +kernel, by decide +kernel, by decide +kernel⟩⟩
set_option maxRecDepth 100000 in
theorem cd_X7_owes : cdW mX7_owes ∈ gt := gt_at 970 rfl rfl
theorem mv_X7_owes : MV mX7_owes 2 := ⟨gt_at 969 (by decide +kernel) (by decide +kernel), gt_at 27 (by decide +kernel) (by decide +kernel), gt_at 68 (by decide +kernel) (by decide +kernel), cd_X7_owes, ⟨rfl, by decide +kernel, by decide +kernel, by decide +kernel⟩⟩
set_option maxRecDepth 100000 in
theorem cd_X7_of : cdW mX7_of ∈ gt := gt_at 951 rfl rfl
theorem mv_X7_of : MV mX7_of 2 := ⟨gt_at 949 (by decide +kernel) (by decide +kernel), gt_at 950 (by decide +kernel) (by decide +kernel), gt_at 68 (by decide +kernel) (by decide +kernel), cd_X7_of, ⟨rfl, by decide +kernel, by decide +kernel, by decide +kernel⟩⟩
set_option maxRecDepth 100000 in
theorem cd_X7_set : cdW mX7_set ∈ gt := gt_at 986 rfl rfl
theorem mv_X7_set : MV mX7_set 3 := ⟨gt_at 984 (by decide +kernel) (by decide +kernel), gt_at 985 (by decide +kernel) (by decide +kernel), gt_at 68 (by decide +kernel) (by decide +kernel), cd_X7_set, ⟨rfl, by decide +kernel, by decide +kernel, by decide +kernel⟩⟩
set_option maxRecDepth 100000 in
theorem cd_X7_pays : cdW mX7_pays ∈ gt := gt_at 990 rfl rfl
theorem mv_X7_pays : MV mX7_pays 3 := ⟨gt_at 988 (by decide +kernel) (by decide +kernel), gt_at 989 (by decide +kernel) (by decide +kernel), gt_at 68 (by decide +kernel) (by decide +kernel), cd_X7_pays, ⟨rfl, by decide +kernel, by decide +kernel, by decide +kernel⟩⟩
set_option maxRecDepth 100000 in
theorem cd_X7_turn : cdW mX7_turn ∈ gt := gt_at 994 rfl rfl
theorem mv_X7_turn : MV mX7_turn 2 := ⟨gt_at 992 (by decide +kernel) (by decide +kernel), gt_at 993 (by decide +kernel) (by decide +kernel), gt_at 68 (by decide +kernel) (by decide +kernel), cd_X7_turn, ⟨rfl, by decide +kernel, by decide +kernel, by decide +kernel⟩⟩
set_option maxRecDepth 100000 in
theorem cd_X7_as : cdW mX7_as ∈ gt := gt_at 998 rfl rfl
theorem mv_X7_as : MV mX7_as 2 := ⟨gt_at 996 (by decide +kernel) (by decide +kernel), gt_at 997 (by decide +kernel) (by decide +kernel), gt_at 68 (by decide +kernel) (by decide +kernel), cd_X7_as, ⟨rfl, by decide +kernel, by decide +kernel, by decide +kernel⟩⟩
set_option maxRecDepth 100000 in
theorem cd_X7_comesDown : cdW mX7_comesDown ∈ gt := gt_at 1007 rfl rfl
theorem mv_X7_comesDown : MV mX7_comesDown 1 := ⟨gt_at 1006 (by decide +kernel) (by decide +kernel), gt_at 31 (by decide +kernel) (by decide +kernel), gt_at 68 (by decide +kernel) (by decide +kernel), cd_X7_comesDown, ⟨rfl, by decide +kernel, by decide +kernel, by decide +kernel⟩⟩
set_option maxRecDepth 100000 in
theorem cd_X7_down : cdW mX7_down ∈ gt := gt_at 1003 rfl rfl
theorem mv_X7_down : MV mX7_down 1 := ⟨gt_at 1001 (by decide +kernel) (by decide +kernel), gt_at 1002 (by decide +kernel) (by decide +kernel), gt_at 68 (by decide +kernel) (by decide +kernel), cd_X7_down, ⟨rfl, by decide +kernel, by decide +kernel, by decide +kernel⟩⟩
set_option maxRecDepth 100000 in
theorem cd_X7_settle : cdW mX7_settle ∈ gt := gt_at 1011 rfl rfl
theorem mv_X7_settle : MV mX7_settle 1 := ⟨gt_at 1009 (by decide +kernel) (by decide +kernel), gt_at 1010 (by decide +kernel) (by decide +kernel), gt_at 68 (by decide +kernel) (by decide +kernel), cd_X7_settle, ⟨rfl, by decide +kernel, by decide +kernel, by decide +kernel⟩⟩
set_option maxRecDepth 100000 in
theorem cd_X7_struckAt : cdW mX7_struckAt ∈ gt := gt_at 1036 rfl rfl
theorem mv_X7_struckAt : MV mX7_struckAt 1 := ⟨gt_at 1035 (by decide +kernel) (by decide +kernel), gt_at 36 (by decide +kernel) (by decide +kernel), gt_at 68 (by decide +kernel) (by decide +kernel), cd_X7_struckAt, ⟨rfl, by decide +kernel, by decide +kernel, by decide +kernel⟩⟩
set_option maxRecDepth 100000 in
theorem cd_X7_doesBreak : cdW mX7_doesBreak ∈ gt := gt_at 1028 rfl rfl
theorem mv_X7_doesBreak : MV mX7_doesBreak 0 := ⟨gt_at 1027 (by decide +kernel) (by decide +kernel), gt_at 34 (by decide +kernel) (by decide +kernel), gt_at 68 (by decide +kernel) (by decide +kernel), cd_X7_doesBreak, ⟨rfl, by decide +kernel, by decide +kernel, by decide +kernel⟩⟩
set_option maxRecDepth 100000 in
theorem cd_X7_bolt : cdW mX7_bolt ∈ gt := gt_at 1032 rfl rfl
theorem mv_X7_bolt : MV mX7_bolt 0 := ⟨gt_at 1031 (by decide +kernel) (by decide +kernel), gt_at 35 (by decide +kernel) (by decide +kernel), gt_at 68 (by decide +kernel) (by decide +kernel), cd_X7_bolt, ⟨rfl, by decide +kernel, by decide +kernel, by decide +kernel⟩⟩
set_option maxRecDepth 100000 in
theorem cd_X7_oneHour : cdW mX7_oneHour ∈ gt := gt_at 1024 rfl rfl
theorem mv_X7_oneHour : MV mX7_oneHour 0 := ⟨gt_at 1023 (by decide +kernel) (by decide +kernel), gt_at 33 (by decide +kernel) (by decide +kernel), gt_at 68 (by decide +kernel) (by decide +kernel), cd_X7_oneHour, ⟨rfl, by decide +kernel, by decide +kernel, by decide +kernel⟩⟩
set_option maxRecDepth 100000 in
theorem cd_X7_passes : cdW mX7_passes ∈ gt := gt_at 1020 rfl rfl
theorem mv_X7_passes : MV mX7_passes 1 := ⟨gt_at 1019 (by decide +kernel) (by decide +kernel), gt_at 32 (by decide +kernel) (by decide +kernel), gt_at 68 (by decide +kernel) (by decide +kernel), cd_X7_passes, ⟨rfl, by decide +kernel, by decide +kernel, by decide +kernel⟩⟩
set_option maxRecDepth 100000 in
theorem cd_X7_sumOf : cdW mX7_sumOf ∈ gt := gt_at 1041 rfl rfl
theorem mv_X7_sumOf : MV mX7_sumOf 1 := ⟨gt_at 1040 (by decide +kernel) (by decide +kernel), gt_at 37 (by decide +kernel) (by decide +kernel), gt_at 68 (by decide +kernel) (by decide +kernel), cd_X7_sumOf, ⟨rfl, by decide +kernel, by decide +kernel, by decide +kernel⟩⟩
set_option maxRecDepth 100000 in
theorem cd_X7_hours : cdW mX7_hours ∈ gt := gt_at 1015 rfl rfl
theorem mv_X7_hours : MV mX7_hours 1 := ⟨gt_at 1013 (by decide +kernel) (by decide +kernel), gt_at 1014 (by decide +kernel) (by decide +kernel), gt_at 68 (by decide +kernel) (by decide +kernel), cd_X7_hours, ⟨rfl, by decide +kernel, by decide +kernel, by decide +kernel⟩⟩
set_option maxRecDepth 100000 in
theorem cd_X7_days : cdW mX7_days ∈ gt := gt_at 1045 rfl rfl
theorem mv_X7_days : MV mX7_days 1 := ⟨gt_at 1043 (by decide +kernel) (by decide +kernel), gt_at 1044 (by decide +kernel) (by decide +kernel), gt_at 68 (by decide +kernel) (by decide +kernel), cd_X7_days, ⟨rfl, by decide +kernel, by decide +kernel, by decide +kernel⟩⟩
set_option maxRecDepth 100000 in
theorem cd_X7_seed : cdW mX7_seed ∈ gt := gt_at 1050 rfl rfl
theorem mv_X7_seed : MV mX7_seed 1 := ⟨gt_at 1048 (by decide +kernel) (by decide +kernel), gt_at 1049 (by decide +kernel) (by decide +kernel), gt_at 68 (by decide +kernel) (by decide +kernel), cd_X7_seed, ⟨rfl, by decide +kernel, by decide +kernel, by decide +kernel⟩⟩
set_option maxRecDepth 100000 in
theorem cd_X7_paidOnes : cdW mX7_paidOnes ∈ gt := gt_at 1058 rfl rfl
theorem mv_X7_paidOnes : MV mX7_paidOnes 0 := ⟨gt_at 1057 (by decide +kernel) (by decide +kernel), gt_at 38 (by decide +kernel) (by decide +kernel), gt_at 68 (by decide +kernel) (by decide +kernel), cd_X7_paidOnes, ⟨rfl, by decide +kernel, by decide +kernel, by decide +kernel⟩⟩
set_option maxRecDepth 100000 in
theorem cd_X7_now : cdW mX7_now ∈ gt := gt_at 1054 rfl rfl
theorem mv_X7_now : MV mX7_now 1 := ⟨gt_at 1052 (by decide +kernel) (by decide +kernel), gt_at 1053 (by decide +kernel) (by decide +kernel), gt_at 68 (by decide +kernel) (by decide +kernel), cd_X7_now, ⟨rfl, by decide +kernel, by decide +kernel, by decide +kernel⟩⟩
set_option maxRecDepth 100000 in
theorem cd_X7_onOf : cdW mX7_onOf ∈ gt := gt_at 1066 rfl rfl
theorem mv_X7_onOf : MV mX7_onOf 3 := ⟨gt_at 1065 (by decide +kernel) (by decide +kernel), gt_at 39 (by decide +kernel) (by decide +kernel), gt_at 68 (by decide +kernel) (by decide +kernel), cd_X7_onOf, ⟨rfl, by decide +kernel, by decide +kernel, by decide +kernel⟩⟩
set_option maxRecDepth 100000 in
theorem cd_X7_on : cdW mX7_on ∈ gt := gt_at 1062 rfl rfl
theorem mv_X7_on : MV mX7_on 3 := ⟨gt_at 1060 (by decide +kernel) (by decide +kernel), gt_at 1061 (by decide +kernel) (by decide +kernel), gt_at 68 (by decide +kernel) (by decide +kernel), cd_X7_on, ⟨rfl, by decide +kernel, by decide +kernel, by decide +kernel⟩⟩
set_option maxRecDepth 100000 in
theorem cd_X7_findNext : cdW mX7_findNext ∈ gt := gt_at 1078 rfl rfl
theorem mv_X7_findNext : MV mX7_findNext 0 := ⟨gt_at 1077 (by decide +kernel) (by decide +kernel), gt_at 41 (by decide +kernel) (by decide +kernel), gt_at 68 (by decide +kernel) (by decide +kernel), cd_X7_findNext, ⟨rfl, by decide +kernel, by decide +kernel, by decide +kernel⟩⟩
set_option maxRecDepth 100000 in
theorem cd_X7_next : cdW mX7_next ∈ gt := gt_at 1074 rfl rfl
theorem mv_X7_next : MV mX7_next 1 := ⟨gt_at 1072 (by decide +kernel) (by decide +kernel), gt_at 1073 (by decide +kernel) (by decide +kernel), gt_at 68 (by decide +kernel) (by decide +kernel), cd_X7_next, ⟨rfl, by decide +kernel, by decide +kernel, by decide +kernel⟩⟩
set_option maxRecDepth 100000 in
theorem cd_X7_struck : cdW mX7_struck ∈ gt := gt_at 1083 rfl rfl
theorem mv_X7_struck : MV mX7_struck 1 := ⟨gt_at 1081 (by decide +kernel) (by decide +kernel), gt_at 1082 (by decide +kernel) (by decide +kernel), gt_at 68 (by decide +kernel) (by decide +kernel), cd_X7_struck, ⟨rfl, by decide +kernel, by decide +kernel, by decide +kernel⟩⟩
set_option maxRecDepth 100000 in
theorem cd_X7_reach : cdW mX7_reach ∈ gt := gt_at 1087 rfl rfl
theorem mv_X7_reach : MV mX7_reach 1 := ⟨gt_at 1085 (by decide +kernel) (by decide +kernel), gt_at 1086 (by decide +kernel) (by decide +kernel), gt_at 68 (by decide +kernel) (by decide +kernel), cd_X7_reach, ⟨rfl, by decide +kernel, by decide +kernel, by decide +kernel⟩⟩
set_option maxRecDepth 100000 in
theorem cd_X7_isStruckBy : cdW mX7_isStruckBy ∈ gt := gt_at 1095 rfl rfl
theorem mv_X7_isStruckBy : MV mX7_isStruckBy 2 := ⟨gt_at 1094 (by decide +kernel) (by decide +kernel), gt_at 42 (by decide +kernel) (by decide +kernel), gt_at 68 (by decide +kernel) (by decide +kernel), cd_X7_isStruckBy, ⟨rfl, by decide +kernel, by decide +kernel, by decide +kernel⟩⟩
set_option maxRecDepth 100000 in
theorem cd_X7_steals : cdW mX7_steals ∈ gt := gt_at 1091 rfl rfl
theorem mv_X7_steals : MV mX7_steals 1 := ⟨gt_at 1089 (by decide +kernel) (by decide +kernel), gt_at 1090 (by decide +kernel) (by decide +kernel), gt_at 68 (by decide +kernel) (by decide +kernel), cd_X7_steals, ⟨rfl, by decide +kernel, by decide +kernel, by decide +kernel⟩⟩
set_option maxRecDepth 100000 in
theorem cd_X7_ducks : cdW mX7_ducks ∈ gt := gt_at 1099 rfl rfl
theorem mv_X7_ducks : MV mX7_ducks 1 := ⟨gt_at 1097 (by decide +kernel) (by decide +kernel), gt_at 1098 (by decide +kernel) (by decide +kernel), gt_at 68 (by decide +kernel) (by decide +kernel), cd_X7_ducks, ⟨rfl, by decide +kernel, by decide +kernel, by decide +kernel⟩⟩
set_option maxRecDepth 100000 in
theorem cd_X7_place : cdW mX7_place ∈ gt := gt_at 1103 rfl rfl
theorem mv_X7_place : MV mX7_place 2 := ⟨gt_at 1101 (by decide +kernel) (by decide +kernel), gt_at 1102 (by decide +kernel) (by decide +kernel), gt_at 68 (by decide +kernel) (by decide +kernel), cd_X7_place, ⟨rfl, by decide +kernel, by decide +kernel, by decide +kernel⟩⟩
set_option maxRecDepth 100000 in
theorem cd_X7_thief : cdW mX7_thief ∈ gt := gt_at 1107 rfl rfl
theorem mv_X7_thief : MV mX7_thief 2 := ⟨gt_at 1105 (by decide +kernel) (by decide +kernel), gt_at 1106 (by decide +kernel) (by decide +kernel), gt_at 68 (by decide +kernel) (by decide +kernel), cd_X7_thief, ⟨rfl, by decide +kernel, by decide +kernel, by decide +kernel⟩⟩
set_option maxRecDepth 100000 in
theorem cd_X7_kind : cdW mX7_kind ∈ gt := gt_at 1111 rfl rfl
theorem mv_X7_kind : MV mX7_kind 2 := ⟨gt_at 1109 (by decide +kernel) (by decide +kernel), gt_at 1110 (by decide +kernel) (by decide +kernel), gt_at 68 (by decide +kernel) (by decide +kernel), cd_X7_kind, ⟨rfl, by decide +kernel, by decide +kernel, by decide +kernel⟩⟩
set_option maxRecDepth 100000 in
theorem cd_X7_clocksOf : cdW mX7_clocksOf ∈ gt := gt_at 1119 rfl rfl
theorem mv_X7_clocksOf : MV mX7_clocksOf 2 := ⟨gt_at 1118 (by decide +kernel) (by decide +kernel), gt_at 43 (by decide +kernel) (by decide +kernel), gt_at 68 (by decide +kernel) (by decide +kernel), cd_X7_clocksOf, ⟨rfl, by decide +kernel, by decide +kernel, by decide +kernel⟩⟩
set_option maxRecDepth 100000 in
theorem cd_X7_clocks : cdW mX7_clocks ∈ gt := gt_at 1115 rfl rfl
theorem mv_X7_clocks : MV mX7_clocks 2 := ⟨gt_at 1113 (by decide +kernel) (by decide +kernel), gt_at 1114 (by decide +kernel) (by decide +kernel), gt_at 68 (by decide +kernel) (by decide +kernel), cd_X7_clocks, ⟨rfl, by decide +kernel, by decide +kernel, by decide +kernel⟩⟩
set_option maxRecDepth 100000 in
theorem cd_X7_doesCover : cdW mX7_doesCover ∈ gt := gt_at 1130 rfl rfl
theorem ms_X7_doesCover : MS mX7_doesCover 3 := ⟨gt_at 1129 (by decide +kernel) (by decide +kernel), gt_at 68 (by decide +kernel) (by decide +kernel), cd_X7_doesCover, ⟨rfl, by decide +kernel, by decide +kernel, by decide +kernel⟩⟩
set_option maxRecDepth 100000 in
theorem cd_X7_fewest : cdW mX7_fewest ∈ gt := gt_at 1127 rfl rfl
theorem mv_X7_fewest : MV mX7_fewest 1 := ⟨gt_at 1126 (by decide +kernel) (by decide +kernel), gt_at 44 (by decide +kernel) (by decide +kernel), gt_at 68 (by decide +kernel) (by decide +kernel), cd_X7_fewest, ⟨rfl, by decide +kernel, by decide +kernel, by decide +kernel⟩⟩
set_option maxRecDepth 100000 in
theorem cd_X7_covers : cdW mX7_covers ∈ gt := gt_at 1123 rfl rfl
theorem mv_X7_covers : MV mX7_covers 2 := ⟨gt_at 1121 (by decide +kernel) (by decide +kernel), gt_at 1122 (by decide +kernel) (by decide +kernel), gt_at 68 (by decide +kernel) (by decide +kernel), cd_X7_covers, ⟨rfl, by decide +kernel, by decide +kernel, by decide +kernel⟩⟩
set_option maxRecDepth 100000 in
theorem cd_X7_from : cdW mX7_from ∈ gt := gt_at 1134 rfl rfl
theorem mv_X7_from : MV mX7_from 2 := ⟨gt_at 1132 (by decide +kernel) (by decide +kernel), gt_at 1133 (by decide +kernel) (by decide +kernel), gt_at 68 (by decide +kernel) (by decide +kernel), cd_X7_from, ⟨rfl, by decide +kernel, by decide +kernel, by decide +kernel⟩⟩
set_option maxRecDepth 100000 in
theorem cd_X7_strays : cdW mX7_strays ∈ gt := gt_at 1138 rfl rfl
theorem mv_X7_strays : MV mX7_strays 1 := ⟨gt_at 1136 (by decide +kernel) (by decide +kernel), gt_at 1137 (by decide +kernel) (by decide +kernel), gt_at 68 (by decide +kernel) (by decide +kernel), cd_X7_strays, ⟨rfl, by decide +kernel, by decide +kernel, by decide +kernel⟩⟩
set_option maxRecDepth 100000 in
theorem cd_X7_drawAll : cdW mX7_drawAll ∈ gt := gt_at 1146 rfl rfl
theorem mv_X7_drawAll : MV mX7_drawAll 0 := ⟨gt_at 1145 (by decide +kernel) (by decide +kernel), gt_at 45 (by decide +kernel) (by decide +kernel), gt_at 68 (by decide +kernel) (by decide +kernel), cd_X7_drawAll, ⟨rfl, by decide +kernel, by decide +kernel, by decide +kernel⟩⟩
set_option maxRecDepth 100000 in
theorem cd_X7_divisor : cdW mX7_divisor ∈ gt := gt_at 1149 rfl rfl
theorem ms_X7_divisor : MS mX7_divisor 2 := ⟨gt_at 1148 (by decide +kernel) (by decide +kernel), gt_at 68 (by decide +kernel) (by decide +kernel), cd_X7_divisor, ⟨rfl, by decide +kernel, by decide +kernel, by decide +kernel⟩⟩
set_option maxRecDepth 100000 in
theorem cd_X7_fork : cdW mX7_fork ∈ gt := gt_at 1142 rfl rfl
theorem mv_X7_fork : MV mX7_fork 2 := ⟨gt_at 1140 (by decide +kernel) (by decide +kernel), gt_at 1141 (by decide +kernel) (by decide +kernel), gt_at 68 (by decide +kernel) (by decide +kernel), cd_X7_fork, ⟨rfl, by decide +kernel, by decide +kernel, by decide +kernel⟩⟩
set_option maxRecDepth 100000 in
theorem cd_X7_share : cdW mX7_share ∈ gt := gt_at 1153 rfl rfl
theorem mv_X7_share : MV mX7_share 1 := ⟨gt_at 1151 (by decide +kernel) (by decide +kernel), gt_at 1152 (by decide +kernel) (by decide +kernel), gt_at 68 (by decide +kernel) (by decide +kernel), cd_X7_share, ⟨rfl, by decide +kernel, by decide +kernel, by decide +kernel⟩⟩
set_option maxRecDepth 100000 in
theorem cd_X7_feed : cdW mX7_feed ∈ gt := gt_at 1157 rfl rfl
theorem mv_X7_feed : MV mX7_feed 2 := ⟨gt_at 1155 (by decide +kernel) (by decide +kernel), gt_at 1156 (by decide +kernel) (by decide +kernel), gt_at 68 (by decide +kernel) (by decide +kernel), cd_X7_feed, ⟨rfl, by decide +kernel, by decide +kernel, by decide +kernel⟩⟩
set_option maxRecDepth 100000 in
theorem cd_X7_wipe : cdW mX7_wipe ∈ gt := gt_at 1161 rfl rfl
theorem mv_X7_wipe : MV mX7_wipe 0 := ⟨gt_at 1159 (by decide +kernel) (by decide +kernel), gt_at 1160 (by decide +kernel) (by decide +kernel), gt_at 68 (by decide +kernel) (by decide +kernel), cd_X7_wipe, ⟨rfl, by decide +kernel, by decide +kernel, by decide +kernel⟩⟩
set_option maxRecDepth 100000 in
theorem cd_X7_byteAt : cdW mX7_byteAt ∈ gt := gt_at 1173 rfl rfl
theorem mv_X7_byteAt : MV mX7_byteAt 1 := ⟨gt_at 1172 (by decide +kernel) (by decide +kernel), gt_at 47 (by decide +kernel) (by decide +kernel), gt_at 68 (by decide +kernel) (by decide +kernel), cd_X7_byteAt, ⟨rfl, by decide +kernel, by decide +kernel, by decide +kernel⟩⟩
set_option maxRecDepth 100000 in
theorem cd_X7_isLetter : cdW mX7_isLetter ∈ gt := gt_at 1176 rfl rfl
theorem ms_X7_isLetter : MS mX7_isLetter 1 := ⟨gt_at 1175 (by decide +kernel) (by decide +kernel), gt_at 68 (by decide +kernel) (by decide +kernel), cd_X7_isLetter, ⟨rfl, by decide +kernel, by decide +kernel, by decide +kernel⟩⟩
set_option maxRecDepth 100000 in
theorem cd_X7_isDigit : cdW mX7_isDigit ∈ gt := gt_at 1179 rfl rfl
theorem ms_X7_isDigit : MS mX7_isDigit 1 := ⟨gt_at 1178 (by decide +kernel) (by decide +kernel), gt_at 68 (by decide +kernel) (by decide +kernel), cd_X7_isDigit, ⟨rfl, by decide +kernel, by decide +kernel, by decide +kernel⟩⟩
set_option maxRecDepth 100000 in
theorem cd_X7_advance : cdW mX7_advance ∈ gt := gt_at 1169 rfl rfl
theorem mv_X7_advance : MV mX7_advance 0 := ⟨gt_at 1168 (by decide +kernel) (by decide +kernel), gt_at 46 (by decide +kernel) (by decide +kernel), gt_at 68 (by decide +kernel) (by decide +kernel), cd_X7_advance, ⟨rfl, by decide +kernel, by decide +kernel, by decide +kernel⟩⟩
set_option maxRecDepth 100000 in
theorem cd_X7_isWord : cdW mX7_isWord ∈ gt := gt_at 1195 rfl rfl
theorem mv_X7_isWord : MV mX7_isWord 1 := ⟨gt_at 1194 (by decide +kernel) (by decide +kernel), gt_at 50 (by decide +kernel) (by decide +kernel), gt_at 68 (by decide +kernel) (by decide +kernel), cd_X7_isWord, ⟨rfl, by decide +kernel, by decide +kernel, by decide +kernel⟩⟩
set_option maxRecDepth 100000 in
theorem cd_X7_kindHere : cdW mX7_kindHere ∈ gt := gt_at 1190 rfl rfl
theorem mv_X7_kindHere : MV mX7_kindHere 0 := ⟨gt_at 1189 (by decide +kernel) (by decide +kernel), gt_at 49 (by decide +kernel) (by decide +kernel), gt_at 68 (by decide +kernel) (by decide +kernel), cd_X7_kindHere, ⟨rfl, by decide +kernel, by decide +kernel, by decide +kernel⟩⟩
set_option maxRecDepth 100000 in
theorem cd_X7_wantNumber : cdW mX7_wantNumber ∈ gt := gt_at 1209 rfl rfl
theorem mv_X7_wantNumber : MV mX7_wantNumber 2 := ⟨gt_at 1208 (by decide +kernel) (by decide +kernel), gt_at 52 (by decide +kernel) (by decide +kernel), gt_at 68 (by decide +kernel) (by decide +kernel), cd_X7_wantNumber, ⟨rfl, by decide +kernel, by decide +kernel, by decide +kernel⟩⟩
set_option maxRecDepth 100000 in
theorem cd_X7_mayWant : cdW mX7_mayWant ∈ gt := gt_at 1214 rfl rfl
theorem mv_X7_mayWant : MV mX7_mayWant 4 := ⟨gt_at 1213 (by decide +kernel) (by decide +kernel), gt_at 53 (by decide +kernel) (by decide +kernel), gt_at 68 (by decide +kernel) (by decide +kernel), cd_X7_mayWant, ⟨rfl, by decide +kernel, by decide +kernel, by decide +kernel⟩⟩
set_option maxRecDepth 100000 in
theorem cd_X7_wantRod : cdW mX7_wantRod ∈ gt := gt_at 1204 rfl rfl
theorem mv_X7_wantRod : MV mX7_wantRod 1 := ⟨gt_at 1203 (by decide +kernel) (by decide +kernel), gt_at 51 (by decide +kernel) (by decide +kernel), gt_at 68 (by decide +kernel) (by decide +kernel), cd_X7_wantRod, ⟨rfl, by decide +kernel, by decide +kernel, by decide +kernel⟩⟩
set_option maxRecDepth 100000 in
theorem cd_X7_wantCloud : cdW mX7_wantCloud ∈ gt := gt_at 1221 rfl rfl
theorem mv_X7_wantCloud : MV mX7_wantCloud 0 := ⟨gt_at 1220 (by decide +kernel) (by decide +kernel), gt_at 54 (by decide +kernel) (by decide +kernel), gt_at 68 (by decide +kernel) (by decide +kernel), cd_X7_wantCloud, ⟨rfl, by decide +kernel, by decide +kernel, by decide +kernel⟩⟩
set_option maxRecDepth 100000 in
theorem cd_X7_wantRule : cdW mX7_wantRule ∈ gt := gt_at 1230 rfl rfl
theorem mv_X7_wantRule : MV mX7_wantRule 3 := ⟨gt_at 1229 (by decide +kernel) (by decide +kernel), gt_at 55 (by decide +kernel) (by decide +kernel), gt_at 68 (by decide +kernel) (by decide +kernel), cd_X7_wantRule, ⟨rfl, by decide +kernel, by decide +kernel, by decide +kernel⟩⟩
set_option maxRecDepth 100000 in
theorem cd_X7_wantItem : cdW mX7_wantItem ∈ gt := gt_at 1186 rfl rfl
theorem mv_X7_wantItem : MV mX7_wantItem 0 := ⟨gt_at 1185 (by decide +kernel) (by decide +kernel), gt_at 48 (by decide +kernel) (by decide +kernel), gt_at 68 (by decide +kernel) (by decide +kernel), cd_X7_wantItem, ⟨rfl, by decide +kernel, by decide +kernel, by decide +kernel⟩⟩
set_option maxRecDepth 100000 in
theorem cd_X7_plain : cdW mX7_plain ∈ gt := gt_at 1165 rfl rfl
theorem mv_X7_plain : MV mX7_plain 0 := ⟨gt_at 1163 (by decide +kernel) (by decide +kernel), gt_at 1164 (by decide +kernel) (by decide +kernel), gt_at 68 (by decide +kernel) (by decide +kernel), cd_X7_plain, ⟨rfl, by decide +kernel, by decide +kernel, by decide +kernel⟩⟩
set_option maxRecDepth 100000 in
theorem cd_X7_isSheet : cdW mX7_isSheet ∈ gt := gt_at 1238 rfl rfl
theorem ms_X7_isSheet : MS mX7_isSheet 1 := ⟨gt_at 1237 (by decide +kernel) (by decide +kernel), gt_at 68 (by decide +kernel) (by decide +kernel), cd_X7_isSheet, ⟨rfl, by decide +kernel, by decide +kernel, by decide +kernel⟩⟩
set_option maxRecDepth 100000 in
theorem cd_X7_narrow : cdW mX7_narrow ∈ gt := gt_at 1247 rfl rfl
theorem ms_X7_narrow : MS mX7_narrow 2 := ⟨gt_at 1246 (by decide +kernel) (by decide +kernel), gt_at 68 (by decide +kernel) (by decide +kernel), cd_X7_narrow, ⟨rfl, by decide +kernel, by decide +kernel, by decide +kernel⟩⟩
set_option maxRecDepth 100000 in
theorem cd_X7_sheet : cdW mX7_sheet ∈ gt := gt_at 1235 rfl rfl
theorem mv_X7_sheet : MV mX7_sheet 3 := ⟨gt_at 1233 (by decide +kernel) (by decide +kernel), gt_at 1234 (by decide +kernel) (by decide +kernel), gt_at 68 (by decide +kernel) (by decide +kernel), cd_X7_sheet, ⟨rfl, by decide +kernel, by decide +kernel, by decide +kernel⟩⟩
set_option maxRecDepth 100000 in
theorem cd_X7_write : cdW mX7_write ∈ gt := gt_at 1243 rfl rfl
theorem mv_X7_write : MV mX7_write 3 := ⟨gt_at 1241 (by decide +kernel) (by decide +kernel), gt_at 1242 (by decide +kernel) (by decide +kernel), gt_at 68 (by decide +kernel) (by decide +kernel), cd_X7_write, ⟨rfl, by decide +kernel, by decide +kernel, by decide +kernel⟩⟩
set_option maxRecDepth 100000 in
theorem cd_X7_isPart : cdW mX7_isPart ∈ gt := gt_at 1255 rfl rfl
theorem mv_X7_isPart : MV mX7_isPart 3 := ⟨gt_at 1254 (by decide +kernel) (by decide +kernel), gt_at 56 (by decide +kernel) (by decide +kernel), gt_at 68 (by decide +kernel) (by decide +kernel), cd_X7_isPart, ⟨rfl, by decide +kernel, by decide +kernel, by decide +kernel⟩⟩
set_option maxRecDepth 100000 in
theorem cd_X7_copy : cdW mX7_copy ∈ gt := gt_at 1251 rfl rfl
theorem mv_X7_copy : MV mX7_copy 5 := ⟨gt_at 1249 (by decide +kernel) (by decide +kernel), gt_at 1250 (by decide +kernel) (by decide +kernel), gt_at 68 (by decide +kernel) (by decide +kernel), cd_X7_copy, ⟨rfl, by decide +kernel, by decide +kernel, by decide +kernel⟩⟩
set_option maxRecDepth 100000 in
theorem cd_X7_badSheet : cdW mX7_badSheet ∈ gt := gt_at 1263 rfl rfl
theorem mv_X7_badSheet : MV mX7_badSheet 1 := ⟨gt_at 1262 (by decide +kernel) (by decide +kernel), gt_at 57 (by decide +kernel) (by decide +kernel), gt_at 68 (by decide +kernel) (by decide +kernel), cd_X7_badSheet, ⟨rfl, by decide +kernel, by decide +kernel, by decide +kernel⟩⟩
set_option maxRecDepth 100000 in
theorem cd_X7_lays : cdW mX7_lays ∈ gt := gt_at 1259 rfl rfl
theorem mv_X7_lays : MV mX7_lays 1 := ⟨gt_at 1257 (by decide +kernel) (by decide +kernel), gt_at 1258 (by decide +kernel) (by decide +kernel), gt_at 68 (by decide +kernel) (by decide +kernel), cd_X7_lays, ⟨rfl, by decide +kernel, by decide +kernel, by decide +kernel⟩⟩
set_option maxRecDepth 100000 in
theorem cd_X7_book : cdW mX7_book ∈ gt := gt_at 1268 rfl rfl
theorem mv_X7_book : MV mX7_book 2 := ⟨gt_at 1266 (by decide +kernel) (by decide +kernel), gt_at 1267 (by decide +kernel) (by decide +kernel), gt_at 68 (by decide +kernel) (by decide +kernel), cd_X7_book, ⟨rfl, by decide +kernel, by decide +kernel, by decide +kernel⟩⟩
set_option maxRecDepth 100000 in
theorem cd_X7_isSo : cdW mX7_isSo ∈ gt := gt_at 1276 rfl rfl
theorem mv_X7_isSo : MV mX7_isSo 2 := ⟨gt_at 1275 (by decide +kernel) (by decide +kernel), gt_at 58 (by decide +kernel) (by decide +kernel), gt_at 68 (by decide +kernel) (by decide +kernel), cd_X7_isSo, ⟨rfl, by decide +kernel, by decide +kernel, by decide +kernel⟩⟩
set_option maxRecDepth 100000 in
theorem cd_X7_read : cdW mX7_read ∈ gt := gt_at 1272 rfl rfl
theorem mv_X7_read : MV mX7_read 2 := ⟨gt_at 1270 (by decide +kernel) (by decide +kernel), gt_at 1271 (by decide +kernel) (by decide +kernel), gt_at 68 (by decide +kernel) (by decide +kernel), cd_X7_read, ⟨rfl, by decide +kernel, by decide +kernel, by decide +kernel⟩⟩
set_option maxRecDepth 100000 in
theorem cd_X7_moveAll : cdW mX7_moveAll ∈ gt := gt_at 1070 rfl rfl
theorem mv_X7_moveAll : MV mX7_moveAll 2 := ⟨gt_at 1069 (by decide +kernel) (by decide +kernel), gt_at 40 (by decide +kernel) (by decide +kernel), gt_at 68 (by decide +kernel) (by decide +kernel), cd_X7_moveAll, ⟨rfl, by decide +kernel, by decide +kernel, by decide +kernel⟩⟩
set_option maxRecDepth 100000 in
theorem cd_X7_image : cdW mX7_image ∈ gt := gt_at 1280 rfl rfl
theorem mv_X7_image : MV mX7_image 0 := ⟨gt_at 1278 (by decide +kernel) (by decide +kernel), gt_at 1279 (by decide +kernel) (by decide +kernel), gt_at 68 (by decide +kernel) (by decide +kernel), cd_X7_image, ⟨rfl, by decide +kernel, by decide +kernel, by decide +kernel⟩⟩
set_option maxRecDepth 100000 in
theorem cd_X7_undo : cdW mX7_undo ∈ gt := gt_at 1284 rfl rfl
theorem mv_X7_undo : MV mX7_undo 0 := ⟨gt_at 1282 (by decide +kernel) (by decide +kernel), gt_at 1283 (by decide +kernel) (by decide +kernel), gt_at 68 (by decide +kernel) (by decide +kernel), cd_X7_undo, ⟨rfl, by decide +kernel, by decide +kernel, by decide +kernel⟩⟩
set_option maxRecDepth 100000 in
theorem cd_X7_tear : cdW mX7_tear ∈ gt := gt_at 1288 rfl rfl
theorem mv_X7_tear : MV mX7_tear 0 := ⟨gt_at 1286 (by decide +kernel) (by decide +kernel), gt_at 1287 (by decide +kernel) (by decide +kernel), gt_at 68 (by decide +kernel) (by decide +kernel), cd_X7_tear, ⟨rfl, by decide +kernel, by decide +kernel, by decide +kernel⟩⟩
set_option maxRecDepth 100000 in
theorem cd_X7_paidAll : cdW mX7_paidAll ∈ gt := gt_at 1296 rfl rfl
theorem mv_X7_paidAll : MV mX7_paidAll 0 := ⟨gt_at 1295 (by decide +kernel) (by decide +kernel), gt_at 59 (by decide +kernel) (by decide +kernel), gt_at 68 (by decide +kernel) (by decide +kernel), cd_X7_paidAll, ⟨rfl, by decide +kernel, by decide +kernel, by decide +kernel⟩⟩
set_option maxRecDepth 100000 in
theorem cd_X7_count : cdW mX7_count ∈ gt := gt_at 1292 rfl rfl
theorem mv_X7_count : MV mX7_count 1 := ⟨gt_at 1290 (by decide +kernel) (by decide +kernel), gt_at 1291 (by decide +kernel) (by decide +kernel), gt_at 68 (by decide +kernel) (by decide +kernel), cd_X7_count, ⟨rfl, by decide +kernel, by decide +kernel, by decide +kernel⟩⟩
set_option maxRecDepth 100000 in
theorem cd_X7_status : cdW mX7_status ∈ gt := gt_at 1300 rfl rfl
theorem mv_X7_status : MV mX7_status 1 := ⟨gt_at 1298 (by decide +kernel) (by decide +kernel), gt_at 1299 (by decide +kernel) (by decide +kernel), gt_at 68 (by decide +kernel) (by decide +kernel), cd_X7_status, ⟨rfl, by decide +kernel, by decide +kernel, by decide +kernel⟩⟩
set_option maxRecDepth 100000 in
theorem cd_J6_numberOfLeadingZeros : cdW mJ6_numberOfLeadingZeros ∈ gt := gt_at 574 rfl rfl
theorem ms_J6_numberOfLeadingZeros : MS mJ6_numberOfLeadingZeros 1 := ⟨gt_at 573 (by decide +kernel) (by decide +kernel), gt_at 70 (by decide +kernel) (by decide +kernel), cd_J6_numberOfLeadingZeros, ⟨rfl, by decide +kernel, by decide +kernel, by decide +kernel⟩⟩
set_option maxRecDepth 100000 in
theorem cd_J0_length : cdW mJ0_length ∈ gt := gt_at 650 rfl rfl
theorem mv_J0_length : MV mJ0_length 0 := ⟨gt_at 648 (by decide +kernel) (by decide +kernel), gt_at 649 (by decide +kernel) (by decide +kernel), gt_at 71 (by decide +kernel) (by decide +kernel), cd_J0_length, ⟨rfl, by decide +kernel, by decide +kernel, by decide +kernel⟩⟩
set_option maxRecDepth 100000 in
theorem cd_J0_charAt : cdW mJ0_charAt ∈ gt := gt_at 660 rfl rfl
theorem mv_J0_charAt : MV mJ0_charAt 1 := ⟨gt_at 658 (by decide +kernel) (by decide +kernel), gt_at 659 (by decide +kernel) (by decide +kernel), gt_at 71 (by decide +kernel) (by decide +kernel), cd_J0_charAt, ⟨rfl, by decide +kernel, by decide +kernel, by decide +kernel⟩⟩
set_option maxRecDepth 100000 in
theorem cd_J0_coder : cdW mJ0_coder ∈ gt := gt_at 654 rfl rfl
theorem mv_J0_coder : MV mJ0_coder 0 := ⟨gt_at 652 (by decide +kernel) (by decide +kernel), gt_at 653 (by decide +kernel) (by decide +kernel), gt_at 71 (by decide +kernel) (by decide +kernel), cd_J0_coder, ⟨rfl, by decide +kernel, by decide +kernel, by decide +kernel⟩⟩
set_option maxRecDepth 100000 in
theorem cd_J0_isLatin1 : cdW mJ0_isLatin1 ∈ gt := gt_at 664 rfl rfl
theorem mv_J0_isLatin1 : MV mJ0_isLatin1 0 := ⟨gt_at 662 (by decide +kernel) (by decide +kernel), gt_at 663 (by decide +kernel) (by decide +kernel), gt_at 71 (by decide +kernel) (by decide +kernel), cd_J0_isLatin1, ⟨rfl, by decide +kernel, by decide +kernel, by decide +kernel⟩⟩
set_option maxRecDepth 100000 in
theorem cd_J0_checkIndex : cdW mJ0_checkIndex ∈ gt := gt_at 670 rfl rfl
theorem ms_J0_checkIndex : MS mJ0_checkIndex 2 := ⟨gt_at 669 (by decide +kernel) (by decide +kernel), gt_at 71 (by decide +kernel) (by decide +kernel), cd_J0_checkIndex, ⟨rfl, by decide +kernel, by decide +kernel, by decide +kernel⟩⟩
set_option maxRecDepth 100000 in
theorem cd_J1_charAt : cdW mJ1_charAt ∈ gt := gt_at 667 rfl rfl
theorem ms_J1_charAt : MS mJ1_charAt 2 := ⟨gt_at 666 (by decide +kernel) (by decide +kernel), gt_at 72 (by decide +kernel) (by decide +kernel), cd_J1_charAt, ⟨rfl, by decide +kernel, by decide +kernel, by decide +kernel⟩⟩
set_option maxRecDepth 100000 in
theorem cd_J2_getChar : cdW mJ2_getChar ∈ gt := gt_at 688 rfl rfl
theorem ms_J2_getChar : MS mJ2_getChar 2 := ⟨gt_at 687 (by decide +kernel) (by decide +kernel), gt_at 74 (by decide +kernel) (by decide +kernel), cd_J2_getChar, ⟨rfl, by decide +kernel, by decide +kernel, by decide +kernel⟩⟩
set_option maxRecDepth 100000 in
theorem cd_J2_length : cdW mJ2_length ∈ gt := gt_at 684 rfl rfl
theorem ms_J2_length : MS mJ2_length 1 := ⟨gt_at 683 (by decide +kernel) (by decide +kernel), gt_at 74 (by decide +kernel) (by decide +kernel), cd_J2_length, ⟨rfl, by decide +kernel, by decide +kernel, by decide +kernel⟩⟩
set_option maxRecDepth 100000 in
theorem cd_J2_charAt : cdW mJ2_charAt ∈ gt := gt_at 678 rfl rfl
theorem ms_J2_charAt : MS mJ2_charAt 2 := ⟨gt_at 677 (by decide +kernel) (by decide +kernel), gt_at 74 (by decide +kernel) (by decide +kernel), cd_J2_charAt, ⟨rfl, by decide +kernel, by decide +kernel, by decide +kernel⟩⟩
set_option maxRecDepth 100000 in
theorem cd_J2_checkIndex : cdW mJ2_checkIndex ∈ gt := gt_at 681 rfl rfl
theorem ms_J2_checkIndex : MS mJ2_checkIndex 2 := ⟨gt_at 680 (by decide +kernel) (by decide +kernel), gt_at 74 (by decide +kernel) (by decide +kernel), cd_J2_checkIndex, ⟨rfl, by decide +kernel, by decide +kernel, by decide +kernel⟩⟩
set_option maxRecDepth 100000 in
theorem cd_J3_checkIndex : cdW mJ3_checkIndex ∈ gt := gt_at 675 rfl rfl
theorem ms_J3_checkIndex : MS mJ3_checkIndex 3 := ⟨gt_at 674 (by decide +kernel) (by decide +kernel), gt_at 73 (by decide +kernel) (by decide +kernel), cd_J3_checkIndex, ⟨rfl, by decide +kernel, by decide +kernel, by decide +kernel⟩⟩
theorem kc_X6_50 : Cond.constant RX6 50 (-1000000001) ∈ gt := gt_at 285 (by decide +kernel) (by decide +kernel)
theorem kc_X6_81 : Cond.constant RX6 81 (-1000000002) ∈ gt := gt_at 317 (by decide +kernel) (by decide +kernel)
theorem kc_X6_145 : Cond.constant RX6 145 (-1000000003) ∈ gt := gt_at 392 (by decide +kernel) (by decide +kernel)
theorem kc_X6_156 : Cond.constant RX6 156 (-1000000005) ∈ gt := gt_at 409 (by decide +kernel) (by decide +kernel)
theorem kc_X6_313 : Cond.constant RX6 313 99999 ∈ gt := gt_at 441 (by decide +kernel) (by decide +kernel)
theorem kc_X1_104 : Cond.constant RX1 104 1103515245 ∈ gt := gt_at 469 (by decide +kernel) (by decide +kernel)
theorem kc_X6_184 : Cond.constant RX6 184 (-1000000004) ∈ gt := gt_at 513 (by decide +kernel) (by decide +kernel)
theorem kc_X6_301 : Cond.constant RX6 301 16777215 ∈ gt := gt_at 571 (by decide +kernel) (by decide +kernel)
theorem kc_J6_264 : Cond.constant RJ6 264 65536 ∈ gt := gt_at 575 (by decide +kernel) (by decide +kernel)
theorem kc_X6_234 : Cond.constant RX6 234 (-1000000007) ∈ gt := gt_at 752 (by decide +kernel) (by decide +kernel)
theorem kc_X6_253 : Cond.constant RX6 253 (-1000000006) ∈ gt := gt_at 769 (by decide +kernel) (by decide +kernel)
theorem kc_X7_44 : Cond.constant RX7 44 (-1000000001) ∈ gt := gt_at 923 (by decide +kernel) (by decide +kernel)
theorem kc_X7_64 : Cond.constant RX7 64 (-1000000002) ∈ gt := gt_at 939 (by decide +kernel) (by decide +kernel)
theorem kc_X7_96 : Cond.constant RX7 96 (-1000000003) ∈ gt := gt_at 999 (by decide +kernel) (by decide +kernel)
theorem kc_X7_115 : Cond.constant RX7 115 (-1000000005) ∈ gt := gt_at 1016 (by decide +kernel) (by decide +kernel)
theorem kc_X7_104 : Cond.constant RX7 104 99999 ∈ gt := gt_at 1037 (by decide +kernel) (by decide +kernel)
theorem kc_X7_122 : Cond.constant RX7 122 1103515245 ∈ gt := gt_at 1046 (by decide +kernel) (by decide +kernel)
theorem kc_X7_149 : Cond.constant RX7 149 (-1000000004) ∈ gt := gt_at 1079 (by decide +kernel) (by decide +kernel)
theorem kc_X7_276 : Cond.constant RX7 276 (-1000000007) ∈ gt := gt_at 1239 (by decide +kernel) (by decide +kernel)
theorem kc_X7_277 : Cond.constant RX7 277 (-1000000006) ∈ gt := gt_at 1244 (by decide +kernel) (by decide +kernel)
theorem kl_X6_271 : Cond.constantLong RX6 271 60 ∈ gt := gt_at 789 (by decide +kernel) (by decide +kernel)
theorem kl_X7_200 : Cond.constantLong RX7 200 27 ∈ gt := gt_at 1180 (by decide +kernel) (by decide +kernel)
theorem kl_X7_202 : Cond.constantLong RX7 202 96 ∈ gt := gt_at 1181 (by decide +kernel) (by decide +kernel)
theorem kl_X7_204 : Cond.constantLong RX7 204 (-1) ∈ gt := gt_at 1182 (by decide +kernel) (by decide +kernel)
theorem kl_X7_206 : Cond.constantLong RX7 206 13531 ∈ gt := gt_at 1191 (by decide +kernel) (by decide +kernel)
theorem kl_X7_212 : Cond.constantLong RX7 212 51345081 ∈ gt := gt_at 1196 (by decide +kernel) (by decide +kernel)
theorem kl_X7_214 : Cond.constantLong RX7 214 223619 ∈ gt := gt_at 1197 (by decide +kernel) (by decide +kernel)
theorem kl_X7_216 : Cond.constantLong RX7 216 10973 ∈ gt := gt_at 1198 (by decide +kernel) (by decide +kernel)
theorem kl_X7_218 : Cond.constantLong RX7 218 865614912780 ∈ gt := gt_at 1199 (by decide +kernel) (by decide +kernel)
theorem kl_X7_220 : Cond.constantLong RX7 220 6414557904 ∈ gt := gt_at 1200 (by decide +kernel) (by decide +kernel)
theorem kl_X7_232 : Cond.constantLong RX7 232 47 ∈ gt := gt_at 1205 (by decide +kernel) (by decide +kernel)
theorem kl_X7_234 : Cond.constantLong RX7 234 164222 ∈ gt := gt_at 1210 (by decide +kernel) (by decide +kernel)
theorem kl_X7_240 : Cond.constantLong RX7 240 131638 ∈ gt := gt_at 1215 (by decide +kernel) (by decide +kernel)
theorem kl_X7_242 : Cond.constantLong RX7 242 555 ∈ gt := gt_at 1216 (by decide +kernel) (by decide +kernel)
theorem kl_X7_258 : Cond.constantLong RX7 258 1842025 ∈ gt := gt_at 1217 (by decide +kernel) (by decide +kernel)
theorem kl_X7_244 : Cond.constantLong RX7 244 47331248 ∈ gt := gt_at 1222 (by decide +kernel) (by decide +kernel)
theorem kl_X7_246 : Cond.constantLong RX7 246 240023 ∈ gt := gt_at 1223 (by decide +kernel) (by decide +kernel)
theorem kl_X7_248 : Cond.constantLong RX7 248 9748424 ∈ gt := gt_at 1224 (by decide +kernel) (by decide +kernel)
theorem kl_X7_250 : Cond.constantLong RX7 250 10497936 ∈ gt := gt_at 1225 (by decide +kernel) (by decide +kernel)
theorem kl_X7_263 : Cond.constantLong RX7 263 4085956 ∈ gt := gt_at 1226 (by decide +kernel) (by decide +kernel)
theorem kl_X7_268 : Cond.constantLong RX7 268 38363212 ∈ gt := gt_at 1231 (by decide +kernel) (by decide +kernel)
theorem kl_X7_288 : Cond.constantLong RX7 288 60 ∈ gt := gt_at 1264 (by decide +kernel) (by decide +kernel)
theorem kl_L_149 : Cond.constantLong RL 149 4294967295 ∈ gt := gt_at 1301 (by decide +kernel) (by decide +kernel)
