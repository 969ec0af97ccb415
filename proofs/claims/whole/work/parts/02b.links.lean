theorem lk_11_17 : aMth 11 17 = some (mX8_init, true) := rfl
theorem lk_11_24 : aMth 11 24 = some (mX10_init, true) := rfl
theorem lk_11_38 : aMth 11 38 = some (mX0_init, true) := rfl
theorem lk_11_45 : aMth 11 45 = some (mX3_init, true) := rfl
theorem lk_11_52 : aMth 11 52 = some (mX2_init, false) := rfl
theorem lk_11_59 : aMth 11 59 = some (mX5_init, false) := rfl
theorem lk_11_70 : aMth 11 70 = some (mX1_init, true) := rfl
theorem lk_11_77 : aMth 11 77 = some (mX4_init, false) := rfl
theorem lk_11_89 : aMth 11 89 = some (mX7_init, false) := rfl
theorem lk_11_96 : aMth 11 96 = some (mX6_init, true) := rfl
theorem lk_11_97 : aMth 11 97 = some (mX11_isThing, false) := rfl
theorem lk_11_101 : aMth 11 101 = some (mX11_isHouse, false) := rfl
theorem lk_11_104 : aMth 11 104 = some (mX7_isOpen, false) := rfl
theorem lk_11_108 : aMth 11 108 = some (mX11_ownerOf, false) := rfl
theorem lk_11_112 : aMth 11 112 = some (mX11_isWithin, false) := rfl
theorem lk_11_119 : aMth 11 119 = some (mX8_append, false) := rfl
theorem lk_11_123 : aMth 11 123 = some (mX8_readInto, false) := rfl
theorem lk_11_130 : aMth 11 130 = some (mX10_become, false) := rfl
theorem lk_11_134 : aMth 11 134 = some (mX0_forget, false) := rfl
theorem lk_11_138 : aMth 11 138 = some (mX11_isSet, false) := rfl
theorem lk_11_148 : aMth 11 148 = some (mX11_oneIf, false) := rfl
theorem lk_11_164 : aMth 11 164 = some (mX1_change, false) := rfl
theorem lk_11_168 : aMth 11 168 = some (mX11_isExchange, false) := rfl
theorem lk_11_172 : aMth 11 172 = some (mX4_take, false) := rfl
theorem lk_11_175 : aMth 11 175 = some (mX4_gained, false) := rfl
theorem lk_11_179 : aMth 11 179 = some (mX4_isGood, false) := rfl
theorem lk_11_183 : aMth 11 183 = some (mX11_isTwoHouses, false) := rfl
theorem lk_11_186 : aMth 11 186 = some (mX4_bestSet, false) := rfl
theorem lk_11_190 : aMth 11 190 = some (mX4_evenPrice, false) := rfl
theorem lk_11_193 : aMth 11 193 = some (mX4_sumOfGains, false) := rfl
theorem lk_11_196 : aMth 11 196 = some (mX11_isPrice, false) := rfl
theorem lk_11_202 : aMth 11 202 = some (mX7_begin, false) := rfl
theorem lk_11_212 : aMth 11 212 = some (mX7_partyOf, false) := rfl
theorem lk_11_215 : aMth 11 215 = some (mX7_add, false) := rfl
theorem lk_11_224 : aMth 11 224 = some (mX7_offerKind, false) := rfl
theorem lk_11_227 : aMth 11 227 = some (mX7_suits, false) := rfl
theorem lk_11_231 : aMth 11 231 = some (mX11_agree, false) := rfl
theorem lk_11_234 : aMth 11 234 = some (mX7_sideAt, false) := rfl
theorem lk_11_237 : aMth 11 237 = some (mX7_setAt, false) := rfl
theorem lk_11_240 : aMth 11 240 = some (mX7_priceAt, false) := rfl
theorem lk_11_243 : aMth 11 243 = some (mX11_letMachineSpeak, false) := rfl
theorem lk_11_246 : aMth 11 246 = some (mX7_hasWord, false) := rfl
theorem lk_11_249 : aMth 11 249 = some (mX7_kindAt, false) := rfl
theorem lk_11_252 : aMth 11 252 = some (mX7_isOffer, false) := rfl
theorem lk_11_255 : aMth 11 255 = some (mX7_saidBy, false) := rfl
theorem lk_11_258 : aMth 11 258 = some (mX4_pool, false) := rfl
theorem lk_11_261 : aMth 11 261 = some (mJ6_bitCount_0f7a4, false) := rfl
theorem lk_11_266 : aMth 11 266 = some (mX11_countGuesses, false) := rfl
theorem lk_11_269 : aMth 11 269 = some (mX0_valueOf, false) := rfl
theorem lk_11_274 : aMth 11 274 = some (mX0_betterBy, false) := rfl
theorem lk_11_277 : aMth 11 277 = none := by decide +kernel
theorem lk_11_284 : aMth 11 284 = some (mX0_shareOf, false) := rfl
theorem lk_11_288 : aMth 11 288 = some (mX1_wouldRather, false) := rfl
theorem lk_11_291 : aMth 11 291 = some (mX11_isDebt, false) := rfl
theorem lk_11_294 : aMth 11 294 = some (mX11_isHour, false) := rfl
theorem lk_11_297 : aMth 11 297 = some (mX2_add, false) := rfl
theorem lk_11_300 : aMth 11 300 = some (mX11_isEvent, false) := rfl
theorem lk_11_303 : aMth 11 303 = some (mX2_hasTerm, false) := rfl
theorem lk_11_306 : aMth 11 306 = some (mX2_hasHappened, false) := rfl
theorem lk_11_309 : aMth 11 309 = some (mX2_record, false) := rfl
theorem lk_11_312 : aMth 11 312 = some (mX2_isBar, false) := rfl
theorem lk_11_327 : aMth 11 327 = some (mX9_isPaid, false) := rfl
theorem lk_11_334 : aMth 11 334 = some (mX2_settle, false) := rfl
theorem lk_11_337 : aMth 11 337 = some (mX2_stateOf, false) := rfl
theorem lk_11_343 : aMth 11 343 = some (mX2_owedBy, false) := rfl
theorem lk_11_346 : aMth 11 346 = some (mX5_put, false) := rfl
theorem lk_11_352 : aMth 11 352 = some (mX5_beside, false) := rfl
theorem lk_11_355 : aMth 11 355 = some (mX11_isSum, false) := rfl
theorem lk_11_358 : aMth 11 358 = some (mX5_climb, false) := rfl
theorem lk_11_361 : aMth 11 361 = some (mX11_isSheet, false) := rfl
theorem lk_11_364 : aMth 11 364 = some (mX11_isLane, false) := rfl
theorem lk_11_367 : aMth 11 367 = some (mX6_renew, false) := rfl
theorem lk_11_371 : aMth 11 371 = some (mX6_isMissing, false) := rfl
theorem lk_11_374 : aMth 11 374 = some (mX6_lose, false) := rfl
theorem lk_11_377 : aMth 11 377 = some (mX6_refusal, false) := rfl
theorem lk_11_380 : aMth 11 380 = some (mX6_put, false) := rfl
theorem lk_11_382 : aMth 11 382 = some (mX6_areWithin, false) := rfl
theorem lk_11_388 : aMth 11 388 = some (mX10_tellAlone, false) := rfl
theorem lk_11_392 : aMth 11 392 = some (mX11_hasBit, false) := rfl
theorem lk_11_395 : aMth 11 395 = some (mX3_rank, false) := rfl
theorem lk_11_399 : aMth 11 399 = some (mX3_choose, false) := rfl
theorem lk_11_412 : aMth 11 412 = some (mX4_suppose, false) := rfl
theorem lk_11_416 : aMth 11 416 = some (mX11_makeGuess, false) := rfl
theorem lk_11_419 : aMth 11 419 = some (mX11_wouldHaveSaid, false) := rfl
theorem lk_11_423 : aMth 11 423 = some (mX7_isWord, false) := rfl
theorem lk_0_20 : aMth 0 20 = some (mX0_renew, false) := rfl
theorem lk_0_24 : aMth 0 24 = some (mX0_thingsOf, false) := rfl
theorem lk_0_28 : aMth 0 28 = some (mX0_valueOf, false) := rfl
theorem lk_0_32 : aMth 0 32 = some (mX11_hasBit, true) := rfl
theorem lk_0_51 : aMth 0 51 = some (mX0_valueOrZero, false) := rfl
theorem lk_0_54 : aMth 0 54 = some (mJ6_bitCount_0f7a4, false) := rfl
theorem lk_0_60 : aMth 0 60 = some (mX0_ordersWith, false) := rfl
theorem lk_0_66 : aMth 0 66 = some (mX0_fill, false) := rfl
theorem lk_0_70 : aMth 0 70 = some (mJ6_numberOfTrailingZeros_0f7a4, false) := rfl
theorem lk_0_73 : aMth 0 73 = some (mX0_worthOrNone, false) := rfl
theorem lk_0_77 : aMth 0 77 = some (mX0_mostParted, false) := rfl
theorem lk_0_85 : aMth 0 85 = none := by decide +kernel
theorem lk_1_21 : aMth 1 21 = some (mX10_init, true) := rfl
theorem lk_1_29 : aMth 1 29 = none := by decide +kernel
theorem lk_2_27 : aMth 2 27 = some (mX9_init, true) := rfl
theorem lk_2_50 : aMth 2 50 = some (mX2_hasHappened, false) := rfl
theorem lk_2_54 : aMth 2 54 = some (mX2_endOf, false) := rfl
theorem lk_2_58 : aMth 2 58 = some (mX2_isKnown, false) := rfl
theorem lk_2_62 : aMth 2 62 = some (mX2_breakOf, false) := rfl
theorem lk_2_66 : aMth 2 66 = some (mX9_isPaidBy, false) := rfl
theorem lk_2_72 : aMth 2 72 = some (mX2_stateOf, false) := rfl
theorem lk_2_75 : aMth 2 75 = some (mX2_isBar, false) := rfl
theorem lk_3_19 : aMth 3 19 = some (mX4_isInPool, false) := rfl
theorem lk_3_25 : aMth 3 25 = some (mX4_isBarredTo, false) := rfl
theorem lk_3_29 : aMth 3 29 = some (mX3_insert, false) := rfl
theorem lk_3_33 : aMth 3 33 = some (mX4_worthThen, false) := rfl
theorem lk_3_37 : aMth 3 37 = some (mX1_levelAt, false) := rfl
theorem lk_3_49 : aMth 3 49 = some (mX7_suits, false) := rfl
theorem lk_3_58 : aMth 3 58 = some (mX7_sideAt, false) := rfl
theorem lk_3_61 : aMth 3 61 = some (mX4_priceFor, false) := rfl
theorem lk_3_65 : aMth 3 65 = some (mX11_isPrice, true) := rfl
theorem lk_3_68 : aMth 3 68 = some (mX7_offerKind, false) := rfl
theorem lk_4_9 : aMth 4 9 = some (mX4_take, false) := rfl
theorem lk_4_46 : aMth 4 46 = some (mX4_pool, false) := rfl
theorem lk_4_60 : aMth 4 60 = some (mX4_worthThen, false) := rfl
theorem lk_4_64 : aMth 4 64 = some (mX4_gained, false) := rfl
theorem lk_4_68 : aMth 4 68 = some (mX4_isOpenToBoth, false) := rfl
theorem lk_4_72 : aMth 4 72 = some (mX11_isWithin, true) := rfl
theorem lk_4_76 : aMth 4 76 = some (mX4_isInPool, false) := rfl
theorem lk_4_79 : aMth 4 79 = some (mX4_sumOfGains, false) := rfl
theorem lk_5_13 : aMth 5 13 = some (mX5_sum, false) := rfl
theorem lk_6_22 : aMth 6 22 = some (mX6_isMissing, false) := rfl
theorem lk_6_26 : aMth 6 26 = some (mX11_isWithin, true) := rfl
theorem lk_7_41 : aMth 7 41 = some (mX7_sideAt, false) := rfl
theorem lk_7_45 : aMth 7 45 = some (mX7_hasWord, false) := rfl
theorem lk_7_49 : aMth 7 49 = some (mX7_isOffer, false) := rfl
theorem lk_7_52 : aMth 7 52 = some (mX7_setAt, false) := rfl
theorem lk_7_55 : aMth 7 55 = some (mX7_priceAt, false) := rfl
theorem lk_7_58 : aMth 7 58 = some (mX4_isGood, false) := rfl
theorem lk_7_64 : aMth 7 64 = some (mX4_gained, false) := rfl
theorem lk_7_68 : aMth 7 68 = some (mX7_isOpen, false) := rfl
theorem lk_8_15 : aMth 8 15 = some (mX11_isWithin, true) := rfl
theorem lk_8_19 : aMth 8 19 = some (mX8_byteOf, false) := rfl
theorem lk_8_27 : aMth 8 27 = some (mX10_clear, false) := rfl
theorem lk_8_35 : aMth 8 35 = some (mX8_readClauses, false) := rfl
theorem lk_8_39 : aMth 8 39 = some (mX8_readClause, false) := rfl
theorem lk_8_42 : aMth 8 42 = some (mX8_next, false) := rfl
theorem lk_8_49 : aMth 8 49 = some (mX8_faultAt, false) := rfl
theorem lk_8_53 : aMth 8 53 = some (mX8_readLetters, false) := rfl
theorem lk_8_56 : aMth 8 56 = some (mX10_addBar, false) := rfl
theorem lk_8_60 : aMth 8 60 = some (mX8_readNumber, false) := rfl
theorem lk_8_64 : aMth 8 64 = some (mX8_letterBit, false) := rfl
theorem lk_8_67 : aMth 8 67 = some (mX8_isDigit, false) := rfl
theorem lk_8_71 : aMth 8 71 = none := by decide +kernel
theorem lk_8_77 : aMth 8 77 = some (mX10_addNumber, false) := rfl
theorem lk_9_13 : aMth 9 13 = some (mX9_isPaid, false) := rfl
theorem lk_10_23 : aMth 10 23 = some (mX10_clear, false) := rfl
theorem lk_10_26 : aMth 10 26 = some (mJ6_numberOfTrailingZeros_0f7a4, false) := rfl
theorem lk_13_9 : aMth 13 9 = some (mX11_init, false) := rfl
theorem lk_13_12 : aMth 13 12 = some (mX12_init, false) := rfl
theorem lk_13_13 : aMth 13 13 = some (mX11_own, false) := rfl
theorem lk_13_17 : aMth 13 17 = some (mX12_own, false) := rfl
theorem lk_13_18 : aMth 13 18 = some (mX11_coins, false) := rfl
theorem lk_13_21 : aMth 13 21 = some (mX12_coins, false) := rfl
theorem lk_13_24 : aMth 13 24 = some (mX11_type, false) := rfl
theorem lk_13_28 : aMth 13 28 = some (mX12_type, false) := rfl
theorem lk_13_29 : aMth 13 29 = some (mX11_wish, false) := rfl
theorem lk_13_33 : aMth 13 33 = some (mX12_wish, false) := rfl
theorem lk_13_34 : aMth 13 34 = some (mX11_worth, false) := rfl
theorem lk_13_37 : aMth 13 37 = some (mX12_worth, false) := rfl
theorem lk_13_38 : aMth 13 38 = some (mX11_barred, false) := rfl
theorem lk_13_41 : aMth 13 41 = some (mX12_barred, false) := rfl
theorem lk_13_42 : aMth 13 42 = some (mX11_told, false) := rfl
theorem lk_13_45 : aMth 13 45 = some (mX12_told, false) := rfl
theorem lk_13_46 : aMth 13 46 = some (mX11_set, false) := rfl
theorem lk_13_50 : aMth 13 50 = some (mX12_set, false) := rfl
theorem lk_13_51 : aMth 13 51 = some (mX11_gain, false) := rfl
theorem lk_13_55 : aMth 13 55 = some (mX12_gain, false) := rfl
theorem lk_13_56 : aMth 13 56 = some (mX11_good, false) := rfl
theorem lk_13_60 : aMth 13 60 = some (mX12_good, false) := rfl
theorem lk_13_61 : aMth 13 61 = some (mX11_best, false) := rfl
theorem lk_13_64 : aMth 13 64 = some (mX12_best, false) := rfl
theorem lk_13_65 : aMth 13 65 = some (mX11_talk, false) := rfl
theorem lk_13_68 : aMth 13 68 = some (mX12_talk, false) := rfl
theorem lk_13_69 : aMth 13 69 = some (mX11_talks, false) := rfl
theorem lk_13_72 : aMth 13 72 = some (mX12_talks, false) := rfl
theorem lk_13_73 : aMth 13 73 = some (mX11_ask, false) := rfl
theorem lk_13_76 : aMth 13 76 = some (mX12_ask, false) := rfl
theorem lk_13_77 : aMth 13 77 = some (mX11_offer, false) := rfl
theorem lk_13_80 : aMth 13 80 = some (mX12_offer, false) := rfl
theorem lk_13_81 : aMth 13 81 = some (mX11_yes, false) := rfl
theorem lk_13_85 : aMth 13 85 = some (mX12_yes, false) := rfl
theorem lk_13_86 : aMth 13 86 = some (mX11_walk, false) := rfl
theorem lk_13_89 : aMth 13 89 = some (mX12_walk, false) := rfl
theorem lk_13_90 : aMth 13 90 = some (mX11_says, false) := rfl
theorem lk_13_93 : aMth 13 93 = some (mX12_says, false) := rfl
theorem lk_13_94 : aMth 13 94 = some (mX11_runs, false) := rfl
theorem lk_13_97 : aMth 13 97 = some (mX12_runs, false) := rfl
theorem lk_13_98 : aMth 13 98 = some (mX11_word, false) := rfl
theorem lk_13_101 : aMth 13 101 = some (mX12_word, false) := rfl
theorem lk_13_102 : aMth 13 102 = some (mX11_offered, false) := rfl
theorem lk_13_105 : aMth 13 105 = some (mX12_offered, false) := rfl
theorem lk_13_106 : aMth 13 106 = some (mX11_learnt, false) := rfl
theorem lk_13_109 : aMth 13 109 = some (mX12_learnt, false) := rfl
theorem lk_13_110 : aMth 13 110 = some (mX11_value, false) := rfl
theorem lk_13_113 : aMth 13 113 = some (mX12_value, false) := rfl
theorem lk_13_114 : aMth 13 114 = some (mX11_unrest, false) := rfl
theorem lk_13_117 : aMth 13 117 = some (mX12_unrest, false) := rfl
theorem lk_13_118 : aMth 13 118 = some (mX11_leaves, false) := rfl
theorem lk_13_121 : aMth 13 121 = some (mX12_leaves, false) := rfl
theorem lk_13_122 : aMth 13 122 = some (mX11_share, false) := rfl
theorem lk_13_126 : aMth 13 126 = some (mX12_share, false) := rfl
theorem lk_13_127 : aMth 13 127 = some (mX11_envy, false) := rfl
theorem lk_13_130 : aMth 13 130 = some (mX12_envy, false) := rfl
theorem lk_13_131 : aMth 13 131 = some (mX11_due, false) := rfl
theorem lk_13_134 : aMth 13 134 = some (mX12_due, false) := rfl
theorem lk_13_135 : aMth 13 135 = some (mX11_when, false) := rfl
theorem lk_13_138 : aMth 13 138 = some (mX12_when, false) := rfl
theorem lk_13_139 : aMth 13 139 = some (mX11_mend, false) := rfl
theorem lk_13_142 : aMth 13 142 = some (mX12_mend, false) := rfl
theorem lk_13_143 : aMth 13 143 = some (mX11_bar, false) := rfl
theorem lk_13_146 : aMth 13 146 = some (mX12_bar, false) := rfl
theorem lk_13_147 : aMth 13 147 = some (mX11_happen, false) := rfl
theorem lk_13_150 : aMth 13 150 = some (mX12_happen, false) := rfl
theorem lk_13_151 : aMth 13 151 = some (mX11_pay, false) := rfl
theorem lk_13_154 : aMth 13 154 = some (mX12_pay, false) := rfl
theorem lk_13_155 : aMth 13 155 = some (mX11_state, false) := rfl
theorem lk_13_158 : aMth 13 158 = some (mX12_state, false) := rfl
theorem lk_13_159 : aMth 13 159 = some (mX11_end, false) := rfl
theorem lk_13_162 : aMth 13 162 = some (mX12_end, false) := rfl
theorem lk_13_163 : aMth 13 163 = some (mX11_owes, false) := rfl
theorem lk_13_166 : aMth 13 166 = some (mX12_owes, false) := rfl
theorem lk_13_167 : aMth 13 167 = some (mX11_row, false) := rfl
theorem lk_13_170 : aMth 13 170 = some (mX12_row, false) := rfl
theorem lk_13_171 : aMth 13 171 = some (mX11_root, false) := rfl
theorem lk_13_174 : aMth 13 174 = some (mX12_root, false) := rfl
theorem lk_13_175 : aMth 13 175 = some (mX11_proof, false) := rfl
theorem lk_13_178 : aMth 13 178 = some (mX12_proof, false) := rfl
theorem lk_13_179 : aMth 13 179 = some (mX11_proves, false) := rfl
theorem lk_13_182 : aMth 13 182 = some (mX12_proves, false) := rfl
theorem lk_13_183 : aMth 13 183 = some (mX11_sheet, false) := rfl
theorem lk_13_186 : aMth 13 186 = some (mX12_sheet, false) := rfl
theorem lk_13_187 : aMth 13 187 = some (mX11_drop, false) := rfl
theorem lk_13_190 : aMth 13 190 = some (mX12_drop, false) := rfl
theorem lk_13_191 : aMth 13 191 = some (mX11_item, false) := rfl
theorem lk_13_194 : aMth 13 194 = some (mX12_item, false) := rfl
theorem lk_13_195 : aMth 13 195 = some (mX11_wishes, false) := rfl
theorem lk_13_198 : aMth 13 198 = some (mX12_wishes, false) := rfl
theorem lk_12_133 : aMth 12 133 = some (mX12_in, false) := rfl
theorem lk_12_143 : aMth 12 143 = some (mX12_isHouse, false) := rfl
theorem lk_12_147 : aMth 12 147 = some (mX12_isTalking, false) := rfl
theorem lk_12_167 : aMth 12 167 = some (mX12_next, false) := rfl
theorem lk_12_179 : aMth 12 179 = some (mX12_readLetters, false) := rfl
theorem lk_12_182 : aMth 12 182 = some (mX12_readNumber, false) := rfl
theorem lk_12_185 : aMth 12 185 = some (mX12_readClause, false) := rfl
theorem lk_12_188 : aMth 12 188 = some (mX12_readAll, false) := rfl
theorem lk_12_191 : aMth 12 191 = some (mX12_keepClause, false) := rfl
theorem lk_12_197 : aMth 12 197 = some (mX12_isSet, false) := rfl
theorem lk_12_200 : aMth 12 200 = some (mX12_worthOf, false) := rfl
theorem lk_12_204 : aMth 12 204 = some (mX12_isBarred, false) := rfl
theorem lk_12_208 : aMth 12 208 = some (mX12_thingsOf, false) := rfl
theorem lk_12_220 : aMth 12 220 = some (mX12_isExchange, false) := rfl
theorem lk_12_224 : aMth 12 224 = some (mX12_moreBy, false) := rfl
theorem lk_12_227 : aMth 12 227 = some (mX12_isFree, false) := rfl
theorem lk_12_230 : aMth 12 230 = some (mX12_isGood, false) := rfl
theorem lk_12_259 : aMth 12 259 = some (mX12_whose, false) := rfl
theorem lk_12_262 : aMth 12 262 = some (mX12_say, false) := rfl
theorem lk_12_266 : aMth 12 266 = some (mX12_isOffer, false) := rfl
theorem lk_12_269 : aMth 12 269 = some (mX12_sayOffer, false) := rfl
theorem lk_12_272 : aMth 12 272 = some (mX12_yesGain, false) := rfl
theorem lk_12_275 : aMth 12 275 = some (mX12_agree, false) := rfl
theorem lk_12_281 : aMth 12 281 = some (mX12_addChoice, false) := rfl
theorem lk_12_285 : aMth 12 285 = some (mX12_levelOf, false) := rfl
theorem lk_12_288 : aMth 12 288 = some (mX12_findChoices, false) := rfl
theorem lk_12_292 : aMth 12 292 = some (mX12_machineWord, false) := rfl
theorem lk_12_298 : aMth 12 298 = some (mX12_aloneWorth, false) := rfl
theorem lk_12_301 : aMth 12 301 = some (mX12_saidBy, false) := rfl
theorem lk_12_304 : aMth 12 304 = some (mX12_wouldSay, false) := rfl
theorem lk_12_309 : aMth 12 309 = some (mX12_findValue, false) := rfl
theorem lk_12_312 : aMth 12 312 = some (mX12_betterBy, false) := rfl
theorem lk_12_322 : aMth 12 322 = some (mX12_isDebt, false) := rfl
theorem lk_12_326 : aMth 12 326 = some (mX12_isHour, false) := rfl
theorem lk_12_329 : aMth 12 329 = some (mX12_addTerm, false) := rfl
theorem lk_12_335 : aMth 12 335 = some (mX12_isTerm, false) := rfl
theorem lk_12_338 : aMth 12 338 = some (mX12_isKnown, false) := rfl
theorem lk_12_341 : aMth 12 341 = some (mX12_findStates, false) := rfl
theorem lk_12_344 : aMth 12 344 = some (mX12_sumOf, false) := rfl
theorem lk_12_349 : aMth 12 349 = some (mX12_sumFrom, false) := rfl
theorem lk_12_354 : aMth 12 354 = some (mX12_isSum, false) := rfl
theorem lk_12_357 : aMth 12 357 = some (mX12_sumBeside, false) := rfl
theorem lk_12_361 : aMth 12 361 = some (mX12_isSheet, false) := rfl
theorem lk_12_364 : aMth 12 364 = some (mX12_against, false) := rfl
theorem fl_8_11 : aFld 8 11 = some (8, 0) := by decide +kernel
theorem fl_8_23 : aFld 8 23 = some (8, 1) := by decide +kernel
theorem fl_8_32 : aFld 8 32 = some (8, 2) := by decide +kernel
theorem fl_10_19 : aFld 10 19 = some (10, 0) := by decide +kernel
theorem fl_8_46 : aFld 8 46 = some (10, 0) := by decide +kernel
theorem fl_11_161 : aFld 11 161 = some (10, 0) := by decide +kernel
theorem fl_10_9 : aFld 10 9 = some (10, 1) := by decide +kernel
theorem fl_1_39 : aFld 1 39 = some (10, 1) := by decide +kernel
theorem fl_0_42 : aFld 0 42 = some (10, 1) := by decide +kernel
theorem fl_11_141 : aFld 11 141 = some (10, 1) := by decide +kernel
theorem fl_4_56 : aFld 4 56 = some (10, 1) := by decide +kernel
theorem fl_10_15 : aFld 10 15 = some (10, 2) := by decide +kernel
theorem fl_1_35 : aFld 1 35 = some (10, 2) := by decide +kernel
theorem fl_4_50 : aFld 4 50 = some (10, 2) := by decide +kernel
theorem fl_11_144 : aFld 11 144 = some (10, 2) := by decide +kernel
theorem fl_0_81 : aFld 0 81 = some (10, 2) := by decide +kernel
theorem fl_0_11 : aFld 0 11 = some (0, 0) := by decide +kernel
theorem fl_0_16 : aFld 0 16 = some (0, 1) := by decide +kernel
theorem fl_3_55 : aFld 3 55 = some (3, 0) := by decide +kernel
theorem fl_11_403 : aFld 11 403 = some (3, 0) := by decide +kernel
theorem fl_3_43 : aFld 3 43 = some (3, 1) := by decide +kernel
theorem fl_11_406 : aFld 11 406 = some (3, 1) := by decide +kernel
theorem fl_3_46 : aFld 3 46 = some (3, 2) := by decide +kernel
theorem fl_11_409 : aFld 11 409 = some (3, 2) := by decide +kernel
theorem fl_3_9 : aFld 3 9 = some (3, 3) := by decide +kernel
theorem fl_3_15 : aFld 3 15 = some (3, 4) := by decide +kernel
theorem fl_2_32 : aFld 2 32 = some (9, 0) := by decide +kernel
theorem fl_2_35 : aFld 2 35 = some (9, 1) := by decide +kernel
theorem fl_11_319 : aFld 11 319 = some (9, 1) := by decide +kernel
theorem fl_2_38 : aFld 2 38 = some (9, 2) := by decide +kernel
theorem fl_11_324 : aFld 11 324 = some (9, 2) := by decide +kernel
theorem fl_2_41 : aFld 2 41 = some (9, 3) := by decide +kernel
theorem fl_11_330 : aFld 11 330 = some (9, 3) := by decide +kernel
theorem fl_2_44 : aFld 2 44 = some (9, 4) := by decide +kernel
theorem fl_2_47 : aFld 2 47 = some (9, 5) := by decide +kernel
theorem fl_9_9 : aFld 9 9 = some (9, 6) := by decide +kernel
theorem fl_2_69 : aFld 2 69 = some (9, 6) := by decide +kernel
theorem fl_11_331 : aFld 11 331 = some (9, 6) := by decide +kernel
theorem fl_2_13 : aFld 2 13 = some (2, 0) := by decide +kernel
theorem fl_11_315 : aFld 11 315 = some (2, 0) := by decide +kernel
theorem fl_2_17 : aFld 2 17 = some (2, 1) := by decide +kernel
theorem fl_11_340 : aFld 11 340 = some (2, 1) := by decide +kernel
theorem fl_2_28 : aFld 2 28 = some (2, 2) := by decide +kernel
theorem fl_2_21 : aFld 2 21 = some (2, 3) := by decide +kernel
theorem fl_2_24 : aFld 2 24 = some (2, 4) := by decide +kernel
theorem fl_5_9 : aFld 5 9 = some (5, 0) := by decide +kernel
theorem fl_11_349 : aFld 11 349 = some (5, 0) := by decide +kernel
theorem fl_11_71 : aFld 11 71 = some (1, 0) := by decide +kernel
theorem fl_4_15 : aFld 4 15 = some (1, 0) := by decide +kernel
theorem fl_1_43 : aFld 1 43 = some (1, 0) := by decide +kernel
theorem fl_0_48 : aFld 0 48 = some (1, 0) := by decide +kernel
theorem fl_1_7 : aFld 1 7 = some (1, 1) := by decide +kernel
theorem fl_4_27 : aFld 4 27 = some (1, 1) := by decide +kernel
theorem fl_11_116 : aFld 11 116 = some (1, 1) := by decide +kernel
theorem fl_1_26 : aFld 1 26 = some (1, 2) := by decide +kernel
theorem fl_11_152 : aFld 11 152 = some (1, 2) := by decide +kernel
theorem fl_1_13 : aFld 1 13 = some (1, 3) := by decide +kernel
theorem fl_11_155 : aFld 11 155 = some (1, 3) := by decide +kernel
theorem fl_1_16 : aFld 1 16 = some (1, 4) := by decide +kernel
theorem fl_11_158 : aFld 11 158 = some (1, 4) := by decide +kernel
theorem fl_1_22 : aFld 1 22 = some (1, 5) := by decide +kernel
theorem fl_4_36 : aFld 4 36 = some (1, 5) := by decide +kernel
theorem fl_0_36 : aFld 0 36 = some (1, 5) := by decide +kernel
theorem fl_11_127 : aFld 11 127 = some (1, 5) := by decide +kernel
theorem fl_4_21 : aFld 4 21 = some (4, 0) := by decide +kernel
theorem fl_4_24 : aFld 4 24 = some (4, 1) := by decide +kernel
theorem fl_4_30 : aFld 4 30 = some (4, 2) := by decide +kernel
theorem fl_4_33 : aFld 4 33 = some (4, 3) := by decide +kernel
theorem fl_4_40 : aFld 4 40 = some (4, 4) := by decide +kernel
theorem fl_4_43 : aFld 4 43 = some (4, 5) := by decide +kernel
theorem fl_7_11 : aFld 7 11 = some (7, 0) := by decide +kernel
theorem fl_11_206 : aFld 11 206 = some (7, 0) := by decide +kernel
theorem fl_7_32 : aFld 7 32 = some (7, 1) := by decide +kernel
theorem fl_11_218 : aFld 11 218 = some (7, 1) := by decide +kernel
theorem fl_7_15 : aFld 7 15 = some (7, 2) := by decide +kernel
theorem fl_11_221 : aFld 11 221 = some (7, 2) := by decide +kernel
theorem fl_7_38 : aFld 7 38 = some (7, 3) := by decide +kernel
theorem fl_11_209 : aFld 11 209 = some (7, 3) := by decide +kernel
theorem fl_7_35 : aFld 7 35 = some (7, 4) := by decide +kernel
theorem fl_7_28 : aFld 7 28 = some (7, 5) := by decide +kernel
theorem fl_11_199 : aFld 11 199 = some (7, 5) := by decide +kernel
theorem fl_7_18 : aFld 7 18 = some (7, 6) := by decide +kernel
theorem fl_7_22 : aFld 7 22 = some (7, 7) := by decide +kernel
theorem fl_7_25 : aFld 7 25 = some (7, 8) := by decide +kernel
theorem fl_6_11 : aFld 6 11 = some (6, 0) := by decide +kernel
theorem fl_11_385 : aFld 11 385 = some (6, 0) := by decide +kernel
theorem fl_6_15 : aFld 6 15 = some (6, 1) := by decide +kernel
theorem fl_6_19 : aFld 6 19 = some (6, 2) := by decide +kernel
theorem fl_11_11 : aFld 11 11 = some (11, 0) := by decide +kernel
theorem fl_11_18 : aFld 11 18 = some (11, 1) := by decide +kernel
theorem fl_11_25 : aFld 11 25 = some (11, 2) := by decide +kernel
theorem fl_11_29 : aFld 11 29 = some (11, 3) := by decide +kernel
theorem fl_11_32 : aFld 11 32 = some (11, 4) := by decide +kernel
theorem fl_11_39 : aFld 11 39 = some (11, 5) := by decide +kernel
theorem fl_11_80 : aFld 11 80 = some (11, 6) := by decide +kernel
theorem fl_11_84 : aFld 11 84 = some (11, 7) := by decide +kernel
theorem fl_11_92 : aFld 11 92 = some (11, 8) := by decide +kernel
theorem fl_11_46 : aFld 11 46 = some (11, 9) := by decide +kernel
theorem fl_11_53 : aFld 11 53 = some (11, 10) := by decide +kernel
theorem fl_11_60 : aFld 11 60 = some (11, 11) := by decide +kernel
theorem fl_11_66 : aFld 11 66 = some (11, 12) := by decide +kernel
theorem fl_12_7 : aFld 12 7 = some (12, 0) := by decide +kernel
theorem fl_12_13 : aFld 12 13 = some (12, 1) := by decide +kernel
theorem fl_12_16 : aFld 12 16 = some (12, 2) := by decide +kernel
theorem fl_12_19 : aFld 12 19 = some (12, 3) := by decide +kernel
theorem fl_12_22 : aFld 12 22 = some (12, 4) := by decide +kernel
theorem fl_12_25 : aFld 12 25 = some (12, 5) := by decide +kernel
theorem fl_12_28 : aFld 12 28 = some (12, 6) := by decide +kernel
theorem fl_12_31 : aFld 12 31 = some (12, 7) := by decide +kernel
theorem fl_12_34 : aFld 12 34 = some (12, 8) := by decide +kernel
theorem fl_12_38 : aFld 12 38 = some (12, 9) := by decide +kernel
theorem fl_12_161 : aFld 12 161 = some (12, 10) := by decide +kernel
theorem fl_12_164 : aFld 12 164 = some (12, 11) := by decide +kernel
theorem fl_12_41 : aFld 12 41 = some (12, 12) := by decide +kernel
theorem fl_12_44 : aFld 12 44 = some (12, 13) := by decide +kernel
theorem fl_12_47 : aFld 12 47 = some (12, 14) := by decide +kernel
theorem fl_12_137 : aFld 12 137 = some (12, 15) := by decide +kernel
theorem fl_12_235 : aFld 12 235 = some (12, 16) := by decide +kernel
theorem fl_12_238 : aFld 12 238 = some (12, 17) := by decide +kernel
theorem fl_12_241 : aFld 12 241 = some (12, 18) := by decide +kernel
theorem fl_12_244 : aFld 12 244 = some (12, 19) := by decide +kernel
theorem fl_12_50 : aFld 12 50 = some (12, 20) := by decide +kernel
theorem fl_12_53 : aFld 12 53 = some (12, 21) := by decide +kernel
theorem fl_12_56 : aFld 12 56 = some (12, 22) := by decide +kernel
theorem fl_12_247 : aFld 12 247 = some (12, 23) := by decide +kernel
theorem fl_12_250 : aFld 12 250 = some (12, 24) := by decide +kernel
theorem fl_12_253 : aFld 12 253 = some (12, 25) := by decide +kernel
theorem fl_12_256 : aFld 12 256 = some (12, 26) := by decide +kernel
theorem fl_12_59 : aFld 12 59 = some (12, 27) := by decide +kernel
theorem fl_12_62 : aFld 12 62 = some (12, 28) := by decide +kernel
theorem fl_12_278 : aFld 12 278 = some (12, 29) := by decide +kernel
theorem fl_12_65 : aFld 12 65 = some (12, 30) := by decide +kernel
theorem fl_12_295 : aFld 12 295 = some (12, 31) := by decide +kernel
theorem fl_12_68 : aFld 12 68 = some (12, 32) := by decide +kernel
theorem fl_12_71 : aFld 12 71 = some (12, 33) := by decide +kernel
theorem fl_12_74 : aFld 12 74 = some (12, 34) := by decide +kernel
theorem fl_12_77 : aFld 12 77 = some (12, 35) := by decide +kernel
theorem fl_12_80 : aFld 12 80 = some (12, 36) := by decide +kernel
theorem fl_12_319 : aFld 12 319 = some (12, 37) := by decide +kernel
theorem fl_12_83 : aFld 12 83 = some (12, 38) := by decide +kernel
theorem fl_12_86 : aFld 12 86 = some (12, 39) := by decide +kernel
theorem fl_12_89 : aFld 12 89 = some (12, 40) := by decide +kernel
theorem fl_12_92 : aFld 12 92 = some (12, 41) := by decide +kernel
theorem fl_12_95 : aFld 12 95 = some (12, 42) := by decide +kernel
theorem fl_12_98 : aFld 12 98 = some (12, 43) := by decide +kernel
theorem fl_12_101 : aFld 12 101 = some (12, 44) := by decide +kernel
theorem fl_12_104 : aFld 12 104 = some (12, 45) := by decide +kernel
theorem fl_12_107 : aFld 12 107 = some (12, 46) := by decide +kernel
theorem fl_12_110 : aFld 12 110 = some (12, 47) := by decide +kernel
theorem fl_12_113 : aFld 12 113 = some (12, 48) := by decide +kernel
theorem fl_12_116 : aFld 12 116 = some (12, 49) := by decide +kernel
theorem fl_12_119 : aFld 12 119 = some (12, 50) := by decide +kernel
theorem fl_12_122 : aFld 12 122 = some (12, 51) := by decide +kernel
theorem fl_12_125 : aFld 12 125 = some (12, 52) := by decide +kernel
theorem fl_12_128 : aFld 12 128 = some (12, 53) := by decide +kernel
theorem cs_14_265 : aCst 14 265 = some (1431655765) := by decide +kernel
theorem cs_14_266 : aCst 14 266 = some (858993459) := by decide +kernel
theorem cs_14_267 : aCst 14 267 = some (252645135) := by decide +kernel
theorem cs_14_264 : aCst 14 264 = some (65536) := by decide +kernel
theorem cs_0_31 : aCst 0 31 = some (-1000000) := by decide +kernel
theorem cs_11_273 : aCst 11 273 = some (-1000000) := by decide +kernel
theorem cl_11_282 : aCsL 11 282 = some (-2147483649) := by decide +kernel
theorem cl_12_141 : aCsL 12 141 = some (5) := by decide +kernel
theorem cl_12_131 : aCsL 12 131 = some (3) := by decide +kernel
theorem cl_12_151 : aCsL 12 151 = some (9999) := by decide +kernel
theorem cl_12_153 : aCsL 12 153 = some (8) := by decide +kernel
theorem cl_12_155 : aCsL 12 155 = some (255) := by decide +kernel
theorem cl_12_157 : aCsL 12 157 = some (32) := by decide +kernel
theorem cl_12_159 : aCsL 12 159 = some (126) := by decide +kernel
theorem cl_12_171 : aCsL 12 171 = some (97) := by decide +kernel
theorem cl_12_173 : aCsL 12 173 = some (102) := by decide +kernel
theorem cl_12_175 : aCsL 12 175 = some (48) := by decide +kernel
theorem cl_12_177 : aCsL 12 177 = some (57) := by decide +kernel
theorem cl_12_195 : aCsL 12 195 = some (63) := by decide +kernel
theorem cl_12_212 : aCsL 12 212 = some (2) := by decide +kernel
theorem cl_12_214 : aCsL 12 214 = some (99) := by decide +kernel
theorem cl_12_216 : aCsL 12 216 = some (999) := by decide +kernel
theorem cl_12_218 : aCsL 12 218 = some (-999) := by decide +kernel
theorem cl_12_233 : aCsL 12 233 = some (20) := by decide +kernel
theorem cl_12_307 : aCsL 12 307 = some (15) := by decide +kernel
theorem cl_12_315 : aCsL 12 315 = some (-2147483649) := by decide +kernel
theorem cl_12_317 : aCsL 12 317 = some (6) := by decide +kernel
theorem cl_12_333 : aCsL 12 333 = some (9) := by decide +kernel
theorem cl_12_347 : aCsL 12 347 = some (7) := by decide +kernel
theorem cl_12_352 : aCsL 12 352 = some (9972) := by decide +kernel
theorem cl_12_368 : aCsL 12 368 = some (-99) := by decide +kernel
theorem cl_13_22 : aCsL 13 22 = some (4294967295) := by decide +kernel
