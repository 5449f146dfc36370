theorem cX0 : z_cls 0 RX0 TX0 8 := ⟨rfl, fun w hw => by
  obtain ⟨k, hk, rfl⟩ := List.mem_map.mp hw
  have hk := List.mem_range.mp hk
  match k, hk with
  | 0, _ => exact w_160
  | 1, _ => exact w_162
  | 2, _ => exact w_164
  | 3, _ => exact w_166
  | 4, _ => exact w_168
  | 5, _ => exact w_170
  | 6, _ => exact w_172
  | 7, _ => exact w_174
  | n + 8, hk => exact absurd hk (by omega)
  , rfl, tyX0_ok, nmX0⟩
theorem cX1 : z_cls 1 RX1 TX1 3 := ⟨rfl, fun w hw => by
  obtain ⟨k, hk, rfl⟩ := List.mem_map.mp hw
  have hk := List.mem_range.mp hk
  match k, hk with
  | 0, _ => exact w_232
  | 1, _ => exact w_234
  | 2, _ => exact w_236
  | n + 3, hk => exact absurd hk (by omega)
  , rfl, tyX1_ok, nmX1⟩
theorem cX2 : z_cls 2 RX2 TX2 2 := ⟨rfl, fun w hw => by
  obtain ⟨k, hk, rfl⟩ := List.mem_map.mp hw
  have hk := List.mem_range.mp hk
  match k, hk with
  | 0, _ => exact w_398
  | 1, _ => exact w_400
  | n + 2, hk => exact absurd hk (by omega)
  , rfl, tyX2_ok, nmX2⟩
theorem cX3 : z_cls 3 RX3 TX3 12 := ⟨rfl, fun w hw => by
  obtain ⟨k, hk, rfl⟩ := List.mem_map.mp hw
  have hk := List.mem_range.mp hk
  match k, hk with
  | 0, _ => exact w_98
  | 1, _ => exact w_100
  | 2, _ => exact w_102
  | 3, _ => exact w_104
  | 4, _ => exact w_106
  | 5, _ => exact w_108
  | 6, _ => exact w_110
  | 7, _ => exact w_112
  | 8, _ => exact w_114
  | 9, _ => exact w_116
  | 10, _ => exact w_118
  | 11, _ => exact w_120
  | n + 12, hk => exact absurd hk (by omega)
  , rfl, tyX3_ok, nmX3⟩
theorem cX4 : z_cls 4 RX4 TX4 11 := ⟨rfl, fun w hw => by
  obtain ⟨k, hk, rfl⟩ := List.mem_map.mp hw
  have hk := List.mem_range.mp hk
  match k, hk with
  | 0, _ => exact w_304
  | 1, _ => exact w_306
  | 2, _ => exact w_308
  | 3, _ => exact w_310
  | 4, _ => exact w_312
  | 5, _ => exact w_314
  | 6, _ => exact w_316
  | 7, _ => exact w_318
  | 8, _ => exact w_320
  | 9, _ => exact w_322
  | 10, _ => exact w_324
  | n + 11, hk => exact absurd hk (by omega)
  , rfl, tyX4_ok, nmX4⟩
theorem cX5 : z_cls 5 RX5 TX5 8 := ⟨rfl, fun w hw => by
  obtain ⟨k, hk, rfl⟩ := List.mem_map.mp hw
  have hk := List.mem_range.mp hk
  match k, hk with
  | 0, _ => exact w_205
  | 1, _ => exact w_207
  | 2, _ => exact w_209
  | 3, _ => exact w_211
  | 4, _ => exact w_213
  | 5, _ => exact w_215
  | 6, _ => exact w_217
  | 7, _ => exact w_219
  | n + 8, hk => exact absurd hk (by omega)
  , rfl, tyX5_ok, nmX5⟩
theorem cX6 : z_cls 6 RX6 TX6 13 := ⟨rfl, fun w hw => by
  obtain ⟨k, hk, rfl⟩ := List.mem_map.mp hw
  have hk := List.mem_range.mp hk
  match k, hk with
  | 0, _ => exact w_360
  | 1, _ => exact w_362
  | 2, _ => exact w_364
  | 3, _ => exact w_366
  | 4, _ => exact w_368
  | 5, _ => exact w_370
  | 6, _ => exact w_372
  | 7, _ => exact w_374
  | 8, _ => exact w_376
  | 9, _ => exact w_378
  | 10, _ => exact w_380
  | 11, _ => exact w_382
  | 12, _ => exact w_384
  | n + 13, hk => exact absurd hk (by omega)
  , rfl, tyX6_ok, nmX6⟩
theorem cX7 : z_cls 7 RX7 TX7 9 := ⟨rfl, fun w hw => by
  obtain ⟨k, hk, rfl⟩ := List.mem_map.mp hw
  have hk := List.mem_range.mp hk
  match k, hk with
  | 0, _ => exact w_262
  | 1, _ => exact w_264
  | 2, _ => exact w_266
  | 3, _ => exact w_268
  | 4, _ => exact w_270
  | 5, _ => exact w_272
  | 6, _ => exact w_274
  | 7, _ => exact w_276
  | 8, _ => exact w_278
  | n + 9, hk => exact absurd hk (by omega)
  , rfl, tyX7_ok, nmX7⟩
theorem cX8 : z_cls 8 RX8 TX8 2 := ⟨rfl, fun w hw => by
  obtain ⟨k, hk, rfl⟩ := List.mem_map.mp hw
  have hk := List.mem_range.mp hk
  match k, hk with
  | 0, _ => exact w_45
  | 1, _ => exact w_47
  | n + 2, hk => exact absurd hk (by omega)
  , rfl, tyX8_ok, nmX8⟩
theorem cX9 : z_cls 9 RX9 TX9 5 := ⟨rfl, fun w hw => by
  obtain ⟨k, hk, rfl⟩ := List.mem_map.mp hw
  have hk := List.mem_range.mp hk
  match k, hk with
  | 0, _ => exact w_408
  | 1, _ => exact w_410
  | 2, _ => exact w_412
  | 3, _ => exact w_414
  | 4, _ => exact w_416
  | n + 5, hk => exact absurd hk (by omega)
  , rfl, tyX9_ok, nmX9⟩
theorem cX10 : z_cls 10 RX10 TX10 26 := ⟨rfl, fun w hw => by
  obtain ⟨k, hk, rfl⟩ := List.mem_map.mp hw
  have hk := List.mem_range.mp hk
  match k, hk with
  | 0, _ => exact w_1113
  | 1, _ => exact w_1115
  | 2, _ => exact w_1117
  | 3, _ => exact w_1119
  | 4, _ => exact w_1121
  | 5, _ => exact w_1123
  | 6, _ => exact w_1125
  | 7, _ => exact w_1127
  | 8, _ => exact w_1129
  | 9, _ => exact w_1131
  | 10, _ => exact w_1133
  | 11, _ => exact w_1135
  | 12, _ => exact w_1137
  | 13, _ => exact w_1139
  | 14, _ => exact w_1141
  | 15, _ => exact w_1143
  | 16, _ => exact w_1145
  | 17, _ => exact w_1147
  | 18, _ => exact w_1149
  | 19, _ => exact w_1151
  | 20, _ => exact w_1153
  | 21, _ => exact w_1155
  | 22, _ => exact w_1157
  | 23, _ => exact w_1159
  | 24, _ => exact w_1161
  | 25, _ => exact w_1163
  | n + 26, hk => exact absurd hk (by omega)
  , rfl, tyX10_ok, nmX10⟩
def iX8_init : Z_M := (yX8_init, cX8_init, 1, none, RX8, 1, 20)
def iX3_setNode : Z_M := (yX3_setNode, cX3_setNode, 7, none, RX3, 0, 0)
def iX3_setFirst : Z_M := (yX3_setFirst, cX3_setFirst, 2, none, RX3, 1, 26)
def iX3_init : Z_M := (yX3_init, cX3_init, 1, none, RX3, 2, 47)
def iX0_admit : Z_M := (yX0_admit, cX0_admit, 4, (some .int), RX0, 0, 0)
def iX0_clear : Z_M := (yX0_clear, cX0_clear, 1, none, RX0, 1, 23)
def iX0_init : Z_M := (yX0_init, cX0_init, 1, none, RX0, 2, 43)
def iX5_init : Z_M := (yX5_init, cX5_init, 1, none, RX5, 1, 20)
def iX1_init : Z_M := (yX1_init, cX1_init, 1, none, RX1, 1, 20)
def iX7_init : Z_M := (yX7_init, cX7_init, 1, none, RX7, 3, 67)
def iX4_init : Z_M := (yX4_init, cX4_init, 1, none, RX4, 3, 67)
def iX6_init : Z_M := (yX6_init, cX6_init, 1, none, RX6, 1, 20)
def iX2_init : Z_M := (yX2_init, cX2_init, 1, none, RX2, 1, 20)
def iX9_init : Z_M := (yX9_init, cX9_init, 1, none, RX9, 4, 87)
def iX10_atFirst : Z_M := (yX10_atFirst, cX10_atFirst, 2, none, RX10, 0, 0)
def iX10_joins : Z_M := (yX10_joins, cX10_joins, 4, none, RX10, 0, 0)
def iX10_taken : Z_M := (yX10_taken, cX10_taken, 2, none, RX10, 1, 23)
def iX10_init : Z_M := (yX10_init, cX10_init, 1, none, RX10, 2, 44)
def iX8_append : Z_M := (yX8_append, cX8_append, 3, none, RX8, 0, 0)
def iX9_feed : Z_M := (yX9_feed, cX9_feed, 7, (some .int), RX9, 1, 22)
def iX10_four : Z_M := (yX10_four, cX10_four, 3, none, RX10, 0, 0)
def iX10_feed : Z_M := (yX10_feed, cX10_feed, 6, (some .int), RX10, 1, 22)
def iX9_end : Z_M := (yX9_end, cX9_end, 2, (some .int), RX9, 0, 0)
def iX10_in : Z_M := (yX10_in, cX10_in, 3, (some .boolean), RX10, 0, 0)
def iX10_end : Z_M := (yX10_end, cX10_end, 2, (some .int), RX10, 1, 22)
def iX8_copyFrom : Z_M := (yX8_copyFrom, cX8_copyFrom, 2, none, RX8, 1, 26)
def iX4_skipBlanks : Z_M := (yX4_skipBlanks, cX4_skipBlanks, 1, none, RX4, 0, 0)
def iX4_isDigit : Z_M := (yX4_isDigit, cX4_isDigit, 1, (some .boolean), RX4, 0, 0)
def iX4_digits : Z_M := (yX4_digits, cX4_digits, 2, (some .int), RX4, 1, 20)
def iX4_isLetter : Z_M := (yX4_isLetter, cX4_isLetter, 1, (some .boolean), RX4, 0, 0)
def iX4_wordFrom : Z_M := (yX4_wordFrom, cX4_wordFrom, 2, (some .int), RX4, 6, 129)
def iX4_letters : Z_M := (yX4_letters, cX4_letters, 2, (some .int), RX4, 7, 150)
def iX4_sign : Z_M := (yX4_sign, cX4_sign, 2, (some .int), RX4, 0, 0)
def iX4_scan : Z_M := (yX4_scan, cX4_scan, 2, none, RX4, 8, 171)
def iX4_breakOff : Z_M := (yX4_breakOff, cX4_breakOff, 1, none, RX4, 0, 0)
def iX4_goOn : Z_M := (yX4_goOn, cX4_goOn, 1, none, RX4, 0, 0)
def iX4_slipHere : Z_M := (yX4_slipHere, cX4_slipHere, 2, none, RX4, 0, 0)
def iX4_number : Z_M := (yX4_number, cX4_number, 4, (some .int), RX4, 1, 21)
def iX4_readNode : Z_M := (yX4_readNode, cX4_readNode, 6, none, RX4, 2, 44)
def iJ9_min_7cf53 : Z_M := (yJ9_min_7cf53, cJ9_min_7cf53, 2, (some .int), RJ9, 0, 0)
def iX4_readLevel : Z_M := (yX4_readLevel, cX4_readLevel, 5, none, RX4, 3, 69)
def iX4_readRank : Z_M := (yX4_readRank, cX4_readRank, 2, none, RX4, 2, 44)
def iX4_readOpens : Z_M := (yX4_readOpens, cX4_readOpens, 2, none, RX4, 2, 44)
def iX4_readClause : Z_M := (yX4_readClause, cX4_readClause, 2, none, RX4, 4, 93)
def iX4_read : Z_M := (yX4_read, cX4_read, 2, none, RX4, 5, 114)
def iX4_faultKind : Z_M := (yX4_faultKind, cX4_faultKind, 1, (some .int), RX4, 0, 0)
def iX4_faultPlace : Z_M := (yX4_faultPlace, cX4_faultPlace, 1, (some .int), RX4, 0, 0)
def iX3_copyFrom : Z_M := (yX3_copyFrom, cX3_copyFrom, 2, none, RX3, 1, 26)
def iJ7_fill_53178 : Z_M := (yJ7_fill_53178, cJ7_fill_53178, 4, none, RJ7, 0, 0)
def iX1_clear : Z_M := (yX1_clear, cX1_clear, 1, none, RX1, 1, 23)
def iX7_beginAnew : Z_M := (yX7_beginAnew, cX7_beginAnew, 1, none, RX7, 2, 43)
def iX9_plan : Z_M := (yX9_plan, cX9_plan, 1, (some .int), RX9, 9, 192)
def iX10_see : Z_M := (yX10_see, cX10_see, 1, (some .int), RX10, 0, 0)
def iX10_token : Z_M := (yX10_token, cX10_token, 3, none, RX10, 1, 22)
def iX10_fails : Z_M := (yX10_fails, cX10_fails, 1, (some .boolean), RX10, 0, 0)
def iX10_addsFault : Z_M := (yX10_addsFault, cX10_addsFault, 3, none, RX10, 0, 0)
def iX10_takes : Z_M := (yX10_takes, cX10_takes, 4, (some .boolean), RX10, 2, 44)
def iX10_nodeBy : Z_M := (yX10_nodeBy, cX10_nodeBy, 3, (some .int), RX10, 0, 0)
def iX10_lesser : Z_M := (yX10_lesser, cX10_lesser, 2, (some .int), RX10, 0, 0)
def iX10_formOf : Z_M := (yX10_formOf, cX10_formOf, 6, (some .boolean), RX10, 3, 67)
def iX10_line : Z_M := (yX10_line, cX10_line, 4, (some .boolean), RX10, 4, 92)
def iX10_readText : Z_M := (yX10_readText, cX10_readText, 2, (some .boolean), RX10, 5, 115)
def iX10_plan : Z_M := (yX10_plan, cX10_plan, 1, (some .int), RX10, 6, 136)
def iX9_fault : Z_M := (yX9_fault, cX9_fault, 2, (some .int), RX9, 0, 0)
def iX10_fault : Z_M := (yX10_fault, cX10_fault, 2, (some .int), RX10, 0, 0)
def iX9_months : Z_M := (yX9_months, cX9_months, 2, (some .int), RX9, 0, 0)
def iX10_now : Z_M := (yX10_now, cX10_now, 1, (some .int), RX10, 0, 0)
def iX10_months : Z_M := (yX10_months, cX10_months, 2, (some .int), RX10, 1, 22)
def iX0_has : Z_M := (yX0_has, cX0_has, 2, (some .boolean), RX0, 0, 0)
def iX0_hasLeft : Z_M := (yX0_hasLeft, cX0_hasLeft, 2, (some .boolean), RX0, 0, 0)
def iX0_works : Z_M := (yX0_works, cX0_works, 2, (some .boolean), RX0, 1, 21)
def iX9_join : Z_M := (yX9_join, cX9_join, 3, (some .int), RX9, 2, 42)
def iX10_isSeller : Z_M := (yX10_isSeller, cX10_isSeller, 2, (some .boolean), RX10, 1, 22)
def iX10_ofSeller : Z_M := (yX10_ofSeller, cX10_ofSeller, 3, (some .int), RX10, 0, 0)
def iX10_hasQuit : Z_M := (yX10_hasQuit, cX10_hasQuit, 2, (some .boolean), RX10, 1, 22)
def iX10_join : Z_M := (yX10_join, cX10_join, 2, (some .int), RX10, 2, 43)
def iX9_lastTreeMonth : Z_M := (yX9_lastTreeMonth, cX9_lastTreeMonth, 1, (some .int), RX9, 1, 21)
def iX0_sponsorAt : Z_M := (yX0_sponsorAt, cX0_sponsorAt, 5, (some .int), RX0, 0, 0)
def iX0_hasMoveOf : Z_M := (yX0_hasMoveOf, cX0_hasMoveOf, 4, (some .boolean), RX0, 0, 0)
def iX0_isUpFrom : Z_M := (yX0_isUpFrom, cX0_isUpFrom, 6, (some .boolean), RX0, 1, 24)
def iX9_makesRing : Z_M := (yX9_makesRing, cX9_makesRing, 6, (some .boolean), RX9, 2, 49)
def iX9_reasonAgainst : Z_M := (yX9_reasonAgainst, cX9_reasonAgainst, 5, (some .int), RX9, 3, 74)
def iX0_putMove : Z_M := (yX0_putMove, cX0_putMove, 8, none, RX0, 0, 0)
def iX9_move : Z_M := (yX9_move, cX9_move, 5, (some .int), RX9, 4, 98)
def iX10_sponsorAt : Z_M := (yX10_sponsorAt, cX10_sponsorAt, 8, (some .int), RX10, 1, 22)
def iX10_laysMonth : Z_M := (yX10_laysMonth, cX10_laysMonth, 3, none, RX10, 2, 49)
def iX10_stepsUp : Z_M := (yX10_stepsUp, cX10_stepsUp, 5, (some .int), RX10, 0, 0)
def iX10_turnsRound : Z_M := (yX10_turnsRound, cX10_turnsRound, 4, (some .boolean), RX10, 3, 71)
def iX10_moveAt : Z_M := (yX10_moveAt, cX10_moveAt, 4, (some .int), RX10, 1, 22)
def iX10_reason : Z_M := (yX10_reason, cX10_reason, 5, (some .int), RX10, 4, 94)
def iX10_setSeller : Z_M := (yX10_setSeller, cX10_setSeller, 4, none, RX10, 0, 0)
def iX10_move : Z_M := (yX10_move, cX10_move, 6, (some .int), RX10, 5, 118)
def iX5_fact : Z_M := (yX5_fact, cX5_fact, 4, (some .int), RX5, 0, 0)
def iX5_levelOf : Z_M := (yX5_levelOf, cX5_levelOf, 4, (some .int), RX5, 1, 23)
def iX9_net : Z_M := (yX9_net, cX9_net, 2, (some .int), RX9, 0, 0)
def iX5_netPay : Z_M := (yX5_netPay, cX5_netPay, 3, (some .int), RX5, 1, 23)
def iJ9_max_7cf53 : Z_M := (yJ9_max_7cf53, cJ9_max_7cf53, 2, (some .int), RJ9, 0, 0)
def iX7_vested : Z_M := (yX7_vested, cX7_vested, 8, (some .int), RX7, 2, 45)
def iX7_notVested : Z_M := (yX7_notVested, cX7_notVested, 5, (some .int), RX7, 3, 72)
def iX1_write : Z_M := (yX1_write, cX1_write, 7, none, RX1, 1, 21)
def iX9_quit : Z_M := (yX9_quit, cX9_quit, 3, (some .int), RX9, 4, 96)
def iX10_ofSale : Z_M := (yX10_ofSale, cX10_ofSale, 3, (some .int), RX10, 0, 0)
def iX10_ofLevel : Z_M := (yX10_ofLevel, cX10_ofLevel, 4, (some .int), RX10, 1, 22)
def iX10_net : Z_M := (yX10_net, cX10_net, 3, (some .int), RX10, 1, 22)
def iX10_netPay : Z_M := (yX10_netPay, cX10_netPay, 3, (some .int), RX10, 2, 45)
def iX10_greater : Z_M := (yX10_greater, cX10_greater, 2, (some .int), RX10, 0, 0)
def iX10_vestedAt : Z_M := (yX10_vestedAt, cX10_vestedAt, 8, (some .int), RX10, 2, 45)
def iX10_notVested : Z_M := (yX10_notVested, cX10_notVested, 5, (some .int), RX10, 3, 72)
def iX10_writes : Z_M := (yX10_writes, cX10_writes, 7, none, RX10, 1, 23)
def iX10_quit : Z_M := (yX10_quit, cX10_quit, 3, (some .int), RX10, 4, 96)
def iX9_canSell : Z_M := (yX9_canSell, cX9_canSell, 3, (some .boolean), RX9, 2, 42)
def iX5_add : Z_M := (yX5_add, cX5_add, 6, (some .int), RX5, 0, 0)
def iX6_clearRow : Z_M := (yX6_clearRow, cX6_clearRow, 2, none, RX6, 0, 0)
def iX5_netAmount : Z_M := (yX5_netAmount, cX5_netAmount, 2, (some .int), RX5, 1, 21)
def iX6_laySales : Z_M := (yX6_laySales, cX6_laySales, 7, none, RX6, 2, 42)
def iX6_lay : Z_M := (yX6_lay, cX6_lay, 5, none, RX6, 3, 68)
def iX6_countUpwards : Z_M := (yX6_countUpwards, cX6_countUpwards, 4, none, RX6, 1, 21)
def iJ6_bitCount_0f7a4 : Z_M := (yJ6_bitCount_0f7a4, cJ6_bitCount_0f7a4, 1, (some .int), RJ6, 0, 0)
def iX6_activeLegs : Z_M := (yX6_activeLegs, cX6_activeLegs, 2, (some .int), RX6, 1, 20)
def iX3_rankFor : Z_M := (yX3_rankFor, cX3_rankFor, 4, (some .int), RX3, 0, 0)
def iX6_settle : Z_M := (yX6_settle, cX6_settle, 4, none, RX6, 2, 44)
def iX6_look : Z_M := (yX6_look, cX6_look, 3, none, RX6, 4, 92)
def iX6_isActive : Z_M := (yX6_isActive, cX6_isActive, 2, (some .boolean), RX6, 0, 0)
def iX3_leafPercent : Z_M := (yX3_leafPercent, cX3_leafPercent, 5, (some .int), RX3, 1, 21)
def iX3_joinedPercent : Z_M := (yX3_joinedPercent, cX3_joinedPercent, 3, (some .int), RX3, 1, 21)
def iX3_percentOf : Z_M := (yX3_percentOf, cX3_percentOf, 7, (some .int), RX3, 2, 45)
def iX2_takeLevel : Z_M := (yX2_takeLevel, cX2_takeLevel, 15, none, RX2, 3, 71)
def iX2_fact : Z_M := (yX2_fact, cX2_fact, 3, (some .int), RX2, 0, 0)
def iX2_payUp : Z_M := (yX2_payUp, cX2_payUp, 8, none, RX2, 4, 105)
def iX5_keep : Z_M := (yX5_keep, cX5_keep, 3, none, RX5, 1, 26)
def iX7_note : Z_M := (yX7_note, cX7_note, 5, none, RX7, 2, 47)
def iX9_sell : Z_M := (yX9_sell, cX9_sell, 7, (some .int), RX9, 5, 132)
def iX10_canSell : Z_M := (yX10_canSell, cX10_canSell, 4, (some .boolean), RX10, 2, 43)
def iX10_laysOwn : Z_M := (yX10_laysOwn, cX10_laysOwn, 2, none, RX10, 2, 44)
def iX10_isActive : Z_M := (yX10_isActive, cX10_isActive, 4, (some .boolean), RX10, 2, 43)
def iX10_belowOf : Z_M := (yX10_belowOf, cX10_belowOf, 4, (some .int), RX10, 1, 24)
def iX10_has : Z_M := (yX10_has, cX10_has, 2, (some .boolean), RX10, 0, 0)
def iX10_volumeOf : Z_M := (yX10_volumeOf, cX10_volumeOf, 4, (some .int), RX10, 1, 21)
def iX10_groupOf : Z_M := (yX10_groupOf, cX10_groupOf, 5, (some .int), RX10, 2, 47)
def iX10_directOf : Z_M := (yX10_directOf, cX10_directOf, 4, (some .int), RX10, 0, 0)
def iX10_legsOf : Z_M := (yX10_legsOf, cX10_legsOf, 5, (some .int), RX10, 3, 66)
def iX10_rankBy : Z_M := (yX10_rankBy, cX10_rankBy, 5, (some .int), RX10, 0, 0)
def iX10_rankOf : Z_M := (yX10_rankOf, cX10_rankOf, 2, (some .int), RX10, 4, 90)
def iX10_ones : Z_M := (yX10_ones, cX10_ones, 3, (some .int), RX10, 1, 21)
def iX10_leaf : Z_M := (yX10_leaf, cX10_leaf, 5, (some .int), RX10, 5, 111)
def iX10_percentOf : Z_M := (yX10_percentOf, cX10_percentOf, 9, (some .int), RX10, 6, 135)
def iX10_takesLevel : Z_M := (yX10_takesLevel, cX10_takesLevel, 11, (some .int), RX10, 7, 163)
def iX10_pays : Z_M := (yX10_pays, cX10_pays, 6, none, RX10, 8, 193)
def iX10_sell : Z_M := (yX10_sell, cX10_sell, 7, (some .int), RX10, 9, 218)
def iX5_has : Z_M := (yX5_has, cX5_has, 2, (some .boolean), RX5, 0, 0)
def iX9_back : Z_M := (yX9_back, cX9_back, 9, (some .int), RX9, 3, 71)
def iX10_isSale : Z_M := (yX10_isSale, cX10_isSale, 2, (some .boolean), RX10, 1, 22)
def iX10_back : Z_M := (yX10_back, cX10_back, 8, (some .int), RX10, 3, 67)
def iX7_earned : Z_M := (yX7_earned, cX7_earned, 6, (some .int), RX7, 3, 72)
def iX7_balance : Z_M := (yX7_balance, cX7_balance, 2, (some .int), RX7, 4, 97)
def iX9_draw : Z_M := (yX9_draw, cX9_draw, 3, (some .int), RX9, 5, 118)
def iX10_earnedAt : Z_M := (yX10_earnedAt, cX10_earnedAt, 7, (some .int), RX10, 3, 72)
def iX10_balanceOf : Z_M := (yX10_balanceOf, cX10_balanceOf, 2, (some .int), RX10, 4, 98)
def iX10_draw : Z_M := (yX10_draw, cX10_draw, 3, (some .int), RX10, 5, 119)
def iX9_rule : Z_M := (yX9_rule, cX9_rule, 3, (some .int), RX9, 0, 0)
def iX10_rule : Z_M := (yX10_rule, cX10_rule, 3, (some .int), RX10, 1, 22)
def iX9_greatestRank : Z_M := (yX9_greatestRank, cX9_greatestRank, 6, (some .int), RX9, 5, 114)
def iX5_countOf : Z_M := (yX5_countOf, cX5_countOf, 4, (some .int), RX5, 0, 0)
def iX7_vestedOfSale : Z_M := (yX7_vestedOfSale, cX7_vestedOfSale, 4, (some .int), RX7, 3, 72)
def iX7_exposed : Z_M := (yX7_exposed, cX7_exposed, 4, (some .int), RX7, 4, 95)
def iX9_seller : Z_M := (yX9_seller, cX9_seller, 4, (some .int), RX9, 6, 139)
def iX10_bestRank : Z_M := (yX10_bestRank, cX10_bestRank, 7, (some .int), RX10, 5, 111)
def iX10_salesOf : Z_M := (yX10_salesOf, cX10_salesOf, 4, (some .int), RX10, 1, 22)
def iX10_exposedOf : Z_M := (yX10_exposedOf, cX10_exposedOf, 5, (some .int), RX10, 3, 72)
def iX10_seller : Z_M := (yX10_seller, cX10_seller, 3, (some .int), RX10, 6, 137)
def iX9_openSponsors : Z_M := (yX9_openSponsors, cX9_openSponsors, 5, (some .int), RX9, 4, 98)
def iX6_uplineLength : Z_M := (yX6_uplineLength, cX6_uplineLength, 4, (some .int), RX6, 0, 0)
def iX9_tree : Z_M := (yX9_tree, cX9_tree, 5, (some .int), RX9, 5, 122)
def iX10_sumOf : Z_M := (yX10_sumOf, cX10_sumOf, 4, (some .int), RX10, 2, 44)
def iX10_generations : Z_M := (yX10_generations, cX10_generations, 5, (some .int), RX10, 2, 47)
def iX10_couldMove : Z_M := (yX10_couldMove, cX10_couldMove, 5, (some .int), RX10, 5, 118)
def iX10_ofTree : Z_M := (yX10_ofTree, cX10_ofTree, 4, (some .int), RX10, 6, 142)
def iX10_tree : Z_M := (yX10_tree, cX10_tree, 6, (some .int), RX10, 7, 165)
def iX9_moved : Z_M := (yX9_moved, cX9_moved, 5, (some .int), RX9, 1, 21)
def iX10_moved : Z_M := (yX10_moved, cX10_moved, 7, (some .int), RX10, 2, 43)
def iX9_why : Z_M := (yX9_why, cX9_why, 4, (some .int), RX9, 4, 98)
def iX10_why : Z_M := (yX10_why, cX10_why, 4, (some .int), RX10, 5, 118)
def iX9_common : Z_M := (yX9_common, cX9_common, 7, (some .int), RX9, 5, 114)
def iX10_isAt : Z_M := (yX10_isAt, cX10_isAt, 3, (some .boolean), RX10, 2, 43)
def iX10_common : Z_M := (yX10_common, cX10_common, 5, (some .int), RX10, 3, 71)
def iX5_together : Z_M := (yX5_together, cX5_together, 5, (some .int), RX5, 1, 23)
def iX5_netPays : Z_M := (yX5_netPays, cX5_netPays, 4, (some .int), RX5, 2, 45)
def iX9_staleInScene : Z_M := (yX9_staleInScene, cX9_staleInScene, 6, (some .boolean), RX9, 1, 23)
def iX9_isStale : Z_M := (yX9_isStale, cX9_isStale, 2, (some .boolean), RX9, 5, 114)
def iX7_fillBalances : Z_M := (yX7_fillBalances, cX7_fillBalances, 5, none, RX7, 3, 72)
def iX7_debtorsWithout : Z_M := (yX7_debtorsWithout, cX7_debtorsWithout, 4, (some .int), RX7, 4, 96)
def iX9_sale : Z_M := (yX9_sale, cX9_sale, 4, (some .int), RX9, 6, 135)
def iX10_paysOf : Z_M := (yX10_paysOf, cX10_paysOf, 5, (some .int), RX10, 2, 45)
def iX10_netPaysOf : Z_M := (yX10_netPaysOf, cX10_netPaysOf, 4, (some .int), RX10, 3, 67)
def iX10_laysRepaid : Z_M := (yX10_laysRepaid, cX10_laysRepaid, 2, (some .boolean), RX10, 9, 218)
def iX10_isStale : Z_M := (yX10_isStale, cX10_isStale, 4, (some .boolean), RX10, 10, 239)
def iX10_spillOf : Z_M := (yX10_spillOf, cX10_spillOf, 4, (some .int), RX10, 4, 98)
def iX10_sale : Z_M := (yX10_sale, cX10_sale, 3, (some .int), RX10, 11, 262)
def iX9_pay : Z_M := (yX9_pay, cX9_pay, 5, (some .int), RX9, 3, 72)
def iX10_pay : Z_M := (yX10_pay, cX10_pay, 5, (some .int), RX10, 3, 72)
def iX6_addSale : Z_M := (yX6_addSale, cX6_addSale, 3, none, RX6, 0, 0)
def iX6_lookWithSale : Z_M := (yX6_lookWithSale, cX6_lookWithSale, 4, none, RX6, 4, 92)
def iX2_answer : Z_M := (yX2_answer, cX2_answer, 3, (some .int), RX2, 1, 22)
def iX9_quote : Z_M := (yX9_quote, cX9_quote, 5, (some .int), RX9, 5, 132)
def iX10_ofPaid : Z_M := (yX10_ofPaid, cX10_ofPaid, 3, (some .int), RX10, 1, 22)
def iX10_quote : Z_M := (yX10_quote, cX10_quote, 5, (some .int), RX10, 9, 218)
def iX9_repaid : Z_M := (yX9_repaid, cX9_repaid, 5, (some .int), RX9, 5, 132)
def iX10_repaid : Z_M := (yX10_repaid, cX10_repaid, 5, (some .int), RX10, 10, 239)
def iX9_gap : Z_M := (yX9_gap, cX9_gap, 7, (some .int), RX9, 5, 114)
def iX10_gap : Z_M := (yX10_gap, cX10_gap, 7, (some .int), RX10, 4, 90)
def iX9_lifts : Z_M := (yX9_lifts, cX9_lifts, 6, (some .boolean), RX9, 1, 23)
def iX9_leastLift : Z_M := (yX9_leastLift, cX9_leastLift, 7, (some .int), RX9, 2, 48)
def iX9_lift : Z_M := (yX9_lift, cX9_lift, 5, (some .int), RX9, 5, 114)
def iX10_lacksOf : Z_M := (yX10_lacksOf, cX10_lacksOf, 2, (some .int), RX10, 1, 20)
def iX10_lifts : Z_M := (yX10_lifts, cX10_lifts, 8, (some .boolean), RX10, 4, 90)
def iX10_lift : Z_M := (yX10_lift, cX10_lift, 7, (some .int), RX10, 5, 117)
def iX6_lookWithNewcomer : Z_M := (yX6_lookWithNewcomer, cX6_lookWithNewcomer, 5, none, RX6, 4, 92)
def iX9_paidByNewcomer : Z_M := (yX9_paidByNewcomer, cX9_paidByNewcomer, 6, (some .int), RX9, 5, 132)
def iX9_place : Z_M := (yX9_place, cX9_place, 8, (some .int), RX9, 6, 157)
def iX10_paidBy : Z_M := (yX10_paidBy, cX10_paidBy, 6, (some .int), RX10, 9, 218)
def iX10_place : Z_M := (yX10_place, cX10_place, 8, (some .int), RX10, 10, 243)
def iX9_due : Z_M := (yX9_due, cX9_due, 3, (some .int), RX9, 4, 97)
def iX10_due : Z_M := (yX10_due, cX10_due, 3, (some .int), RX10, 4, 98)
def iX9_ready : Z_M := (yX9_ready, cX9_ready, 4, (some .int), RX9, 4, 97)
def iX10_ready : Z_M := (yX10_ready, cX10_ready, 4, (some .int), RX10, 4, 98)
def iX1_fact : Z_M := (yX1_fact, cX1_fact, 5, (some .int), RX1, 0, 0)
def iX9_journal : Z_M := (yX9_journal, cX9_journal, 4, (some .int), RX9, 1, 24)
def iX10_journal : Z_M := (yX10_journal, cX10_journal, 5, (some .int), RX10, 2, 43)
def iX5_allAmounts : Z_M := (yX5_allAmounts, cX5_allAmounts, 3, (some .int), RX5, 0, 0)
def iX5_allNetAmounts : Z_M := (yX5_allNetAmounts, cX5_allNetAmounts, 3, (some .int), RX5, 2, 42)
def iX5_allTogether : Z_M := (yX5_allTogether, cX5_allTogether, 4, (some .int), RX5, 2, 47)
def iX5_allNetPays : Z_M := (yX5_allNetPays, cX5_allNetPays, 3, (some .int), RX5, 3, 68)
def iX7_allVested : Z_M := (yX7_allVested, cX7_allVested, 3, (some .int), RX7, 4, 95)
def iX7_allNotVested : Z_M := (yX7_allNotVested, cX7_allNotVested, 4, (some .int), RX7, 4, 96)
def iX0_allDrawn : Z_M := (yX0_allDrawn, cX0_allDrawn, 3, (some .int), RX0, 0, 0)
def iX7_allDebts : Z_M := (yX7_allDebts, cX7_allDebts, 3, (some .int), RX7, 4, 96)
def iX0_leavers : Z_M := (yX0_leavers, cX0_leavers, 3, (some .int), RX0, 1, 21)
def iX9_activeNow : Z_M := (yX9_activeNow, cX9_activeNow, 1, (some .int), RX9, 5, 114)
def iX9_staleSales : Z_M := (yX9_staleSales, cX9_staleSales, 3, (some .int), RX9, 5, 114)
def iX9_greatestNow : Z_M := (yX9_greatestNow, cX9_greatestNow, 4, (some .int), RX9, 5, 114)
def iX9_books : Z_M := (yX9_books, cX9_books, 3, (some .int), RX9, 6, 137)
def iX10_ofSales : Z_M := (yX10_ofSales, cX10_ofSales, 4, (some .int), RX10, 11, 262)
def iX10_ofAll : Z_M := (yX10_ofAll, cX10_ofAll, 6, (some .int), RX10, 5, 119)
def iX10_activeNow : Z_M := (yX10_activeNow, cX10_activeNow, 3, (some .int), RX10, 3, 66)
def iX10_greatest : Z_M := (yX10_greatest, cX10_greatest, 4, (some .int), RX10, 5, 111)
def iX10_books : Z_M := (yX10_books, cX10_books, 2, (some .int), RX10, 12, 285)
def iX0_copyFrom : Z_M := (yX0_copyFrom, cX0_copyFrom, 2, none, RX0, 1, 26)
def iX5_copyFrom : Z_M := (yX5_copyFrom, cX5_copyFrom, 2, none, RX5, 1, 26)
def iX1_copyFrom : Z_M := (yX1_copyFrom, cX1_copyFrom, 2, none, RX1, 1, 26)
def iX7_copyFrom : Z_M := (yX7_copyFrom, cX7_copyFrom, 2, none, RX7, 2, 47)
def iX9_image : Z_M := (yX9_image, cX9_image, 2, (some .boolean), RX9, 4, 87)
def iX10_copyAll : Z_M := (yX10_copyAll, cX10_copyAll, 4, none, RX10, 0, 0)
def iX10_image : Z_M := (yX10_image, cX10_image, 2, (some .boolean), RX10, 1, 23)
def iX9_again : Z_M := (yX9_again, cX9_again, 2, (some .boolean), RX9, 3, 68)
def iX10_again : Z_M := (yX10_again, cX10_again, 2, (some .boolean), RX10, 1, 23)
def iL_law : Z_M := (yL_law, code, 4, some .boolean, RL, 13, 306)
def z_okV (J : Z_M) (c : Nat) (T : u_T) (N n : Nat) : Prop := z_cls c J.1.cls T N ∧ Cond.instanceMethod J.1 ∈ Z_W ∧ Cond.selects J.1.cls J.1 J.1 ∈ Z_W ∧ Cond.initialized J.1.cls ∈ Z_W ∧ Cond.code J.1 J.2.1 J.2.2.1 J.2.2.2.1 ∈ Z_W ∧ z_dsc J.1 n
def z_okS (J : Z_M) (n : Nat) : Prop := Cond.static J.1 ∈ Z_W ∧ Cond.initialized J.1.cls ∈ Z_W ∧ Cond.code J.1 J.2.1 J.2.2.1 J.2.2.2.1 ∈ Z_W ∧ z_dsc J.1 n
def z_okI (J : Z_M) (n : Nat) : Prop := Cond.instanceMethod J.1 ∈ Z_W ∧ Cond.initialized J.1.cls ∈ Z_W ∧ Cond.code J.1 J.2.1 J.2.2.1 J.2.2.2.1 ∈ Z_W ∧ z_dsc J.1 n
theorem oX8_init : z_okI iX8_init 0 := ⟨w_37, w_3, w_38, ⟨by decide, by decide, by decide +kernel⟩⟩
theorem oX3_setNode : z_okV iX3_setNode 3 TX3 12 5 := ⟨cX3, w_62, w_63, w_4, w_64, ⟨by decide, by decide, by decide +kernel⟩⟩
theorem oX3_setFirst : z_okV iX3_setFirst 3 TX3 12 0 := ⟨cX3, w_58, w_59, w_4, w_60, ⟨by decide, by decide, by decide +kernel⟩⟩
theorem oX3_init : z_okI iX3_init 0 := ⟨w_54, w_4, w_55, ⟨by decide, by decide, by decide +kernel⟩⟩
theorem oX0_admit : z_okV iX0_admit 0 TX0 8 2 := ⟨cX0, w_135, w_136, w_5, w_137, ⟨by decide, by decide, by decide +kernel⟩⟩
theorem oX0_clear : z_okV iX0_clear 0 TX0 8 0 := ⟨cX0, w_131, w_132, w_5, w_133, ⟨by decide, by decide, by decide +kernel⟩⟩
theorem oX0_init : z_okI iX0_init 0 := ⟨w_127, w_5, w_128, ⟨by decide, by decide, by decide +kernel⟩⟩
theorem oX5_init : z_okI iX5_init 0 := ⟨w_180, w_6, w_181, ⟨by decide, by decide, by decide +kernel⟩⟩
theorem oX1_init : z_okI iX1_init 0 := ⟨w_225, w_7, w_226, ⟨by decide, by decide, by decide +kernel⟩⟩
theorem oX7_init : z_okI iX7_init 0 := ⟨w_31, w_2, w_32, ⟨by decide, by decide, by decide +kernel⟩⟩
theorem oX4_init : z_okI iX4_init 0 := ⟨w_285, w_8, w_286, ⟨by decide, by decide, by decide +kernel⟩⟩
theorem oX6_init : z_okI iX6_init 0 := ⟨w_330, w_9, w_331, ⟨by decide, by decide, by decide +kernel⟩⟩
theorem oX2_init : z_okI iX2_init 0 := ⟨w_390, w_10, w_391, ⟨by decide, by decide, by decide +kernel⟩⟩
theorem oX9_init : z_okI iX9_init 0 := ⟨w_23, w_1, w_24, ⟨by decide, by decide, by decide +kernel⟩⟩
theorem oX10_atFirst : z_okV iX10_atFirst 10 TX10 26 0 := ⟨cX10, w_1077, v_41, w_11, w_1078, ⟨by decide, by decide, by decide +kernel⟩⟩
theorem oX10_joins : z_okV iX10_joins 10 TX10 26 1 := ⟨cX10, w_1085, v_43, w_11, w_1086, ⟨by decide, by decide, by decide +kernel⟩⟩
theorem oX10_taken : z_okV iX10_taken 10 TX10 26 0 := ⟨cX10, w_1081, v_42, w_11, w_1082, ⟨by decide, by decide, by decide +kernel⟩⟩
theorem oX10_init : z_okI iX10_init 0 := ⟨w_1072, w_11, w_1073, ⟨by decide, by decide, by decide +kernel⟩⟩
theorem oX8_append : z_okV iX8_append 8 TX8 2 1 := ⟨cX8, w_424, w_425, w_3, w_426, ⟨by decide, by decide, by decide +kernel⟩⟩
theorem oX9_feed : z_okV iX9_feed 9 TX9 5 5 := ⟨cX9, w_420, w_421, w_1, w_422, ⟨by decide, by decide, by decide +kernel⟩⟩
theorem oX10_four : z_okV iX10_four 10 TX10 26 1 := ⟨cX10, w_1173, v_44, w_11, w_1174, ⟨by decide, by decide, by decide +kernel⟩⟩
theorem oX10_feed : z_okV iX10_feed 10 TX10 26 5 := ⟨cX10, w_1168, w_1169, w_11, w_1170, ⟨by decide, by decide, by decide +kernel⟩⟩
theorem oX9_end : z_okV iX9_end 9 TX9 5 1 := ⟨cX9, w_428, w_429, w_1, w_430, ⟨by decide, by decide, by decide +kernel⟩⟩
theorem oX10_in : z_okS iX10_in 3 := ⟨w_1180, w_11, w_1181, ⟨by decide, by decide, by decide +kernel⟩⟩
theorem oX10_end : z_okV iX10_end 10 TX10 26 1 := ⟨cX10, w_1176, w_1177, w_11, w_1178, ⟨by decide, by decide, by decide +kernel⟩⟩
theorem oX8_copyFrom : z_okV iX8_copyFrom 8 TX8 2 1 := ⟨cX8, w_440, w_441, w_3, w_442, ⟨by decide, by decide, by decide +kernel⟩⟩
theorem oX4_skipBlanks : z_okV iX4_skipBlanks 4 TX4 11 0 := ⟨cX4, w_448, v_0, w_8, w_449, ⟨by decide, by decide, by decide +kernel⟩⟩
theorem oX4_isDigit : z_okV iX4_isDigit 4 TX4 11 0 := ⟨cX4, w_452, v_1, w_8, w_453, ⟨by decide, by decide, by decide +kernel⟩⟩
theorem oX4_digits : z_okV iX4_digits 4 TX4 11 0 := ⟨cX4, w_456, v_2, w_8, w_457, ⟨by decide, by decide, by decide +kernel⟩⟩
theorem oX4_isLetter : z_okV iX4_isLetter 4 TX4 11 0 := ⟨cX4, w_460, v_3, w_8, w_461, ⟨by decide, by decide, by decide +kernel⟩⟩
theorem oX4_wordFrom : z_okV iX4_wordFrom 4 TX4 11 1 := ⟨cX4, w_468, v_5, w_8, w_469, ⟨by decide, by decide, by decide +kernel⟩⟩
theorem oX4_letters : z_okV iX4_letters 4 TX4 11 0 := ⟨cX4, w_464, v_4, w_8, w_465, ⟨by decide, by decide, by decide +kernel⟩⟩
theorem oX4_sign : z_okV iX4_sign 4 TX4 11 0 := ⟨cX4, w_538, v_7, w_8, w_539, ⟨by decide, by decide, by decide +kernel⟩⟩
theorem oX4_scan : z_okV iX4_scan 4 TX4 11 1 := ⟨cX4, w_436, w_437, w_8, w_438, ⟨by decide, by decide, by decide +kernel⟩⟩
theorem oX4_breakOff : z_okV iX4_breakOff 4 TX4 11 0 := ⟨cX4, w_551, v_9, w_8, w_552, ⟨by decide, by decide, by decide +kernel⟩⟩
theorem oX4_goOn : z_okV iX4_goOn 4 TX4 11 0 := ⟨cX4, w_555, v_10, w_8, w_556, ⟨by decide, by decide, by decide +kernel⟩⟩
theorem oX4_slipHere : z_okV iX4_slipHere 4 TX4 11 1 := ⟨cX4, w_567, v_13, w_8, w_568, ⟨by decide, by decide, by decide +kernel⟩⟩
theorem oX4_number : z_okV iX4_number 4 TX4 11 2 := ⟨cX4, w_563, v_12, w_8, w_564, ⟨by decide, by decide, by decide +kernel⟩⟩
theorem oX4_readNode : z_okV iX4_readNode 4 TX4 11 2 := ⟨cX4, w_571, v_14, w_8, w_572, ⟨by decide, by decide, by decide +kernel⟩⟩
theorem oJ9_min_7cf53 : z_okS iJ9_min_7cf53 2 := ⟨w_575, w_17, w_576, ⟨by decide, by decide, by decide +kernel⟩⟩
theorem oX4_readLevel : z_okV iX4_readLevel 4 TX4 11 0 := ⟨cX4, w_559, v_11, w_8, w_560, ⟨by decide, by decide, by decide +kernel⟩⟩
theorem oX4_readRank : z_okV iX4_readRank 4 TX4 11 0 := ⟨cX4, w_579, v_15, w_8, w_580, ⟨by decide, by decide, by decide +kernel⟩⟩
theorem oX4_readOpens : z_okV iX4_readOpens 4 TX4 11 0 := ⟨cX4, w_583, v_16, w_8, w_584, ⟨by decide, by decide, by decide +kernel⟩⟩
theorem oX4_readClause : z_okV iX4_readClause 4 TX4 11 0 := ⟨cX4, w_547, v_8, w_8, w_548, ⟨by decide, by decide, by decide +kernel⟩⟩
theorem oX4_read : z_okV iX4_read 4 TX4 11 0 := ⟨cX4, w_541, w_542, w_8, w_543, ⟨by decide, by decide, by decide +kernel⟩⟩
theorem oX4_faultKind : z_okV iX4_faultKind 4 TX4 11 0 := ⟨cX4, w_586, w_587, w_8, w_588, ⟨by decide, by decide, by decide +kernel⟩⟩
theorem oX4_faultPlace : z_okV iX4_faultPlace 4 TX4 11 0 := ⟨cX4, w_590, w_591, w_8, w_592, ⟨by decide, by decide, by decide +kernel⟩⟩
theorem oX3_copyFrom : z_okV iX3_copyFrom 3 TX3 12 1 := ⟨cX3, w_594, w_595, w_4, w_596, ⟨by decide, by decide, by decide +kernel⟩⟩
theorem oJ7_fill_53178 : z_okS iJ7_fill_53178 2 := ⟨w_608, w_18, w_609, ⟨by decide, by decide, by decide +kernel⟩⟩
theorem oX1_clear : z_okV iX1_clear 1 TX1 3 0 := ⟨cX1, w_604, w_605, w_7, w_606, ⟨by decide, by decide, by decide +kernel⟩⟩
theorem oX7_beginAnew : z_okV iX7_beginAnew 7 TX7 9 0 := ⟨cX7, w_599, w_600, w_2, w_601, ⟨by decide, by decide, by decide +kernel⟩⟩
theorem oX9_plan : z_okV iX9_plan 9 TX9 5 0 := ⟨cX9, w_432, w_433, w_1, w_434, ⟨by decide, by decide, by decide +kernel⟩⟩
theorem oX10_see : z_okV iX10_see 10 TX10 26 0 := ⟨cX10, w_1196, v_47, w_11, w_1197, ⟨by decide, by decide, by decide +kernel⟩⟩
theorem oX10_token : z_okV iX10_token 10 TX10 26 0 := ⟨cX10, w_1192, v_46, w_11, w_1193, ⟨by decide, by decide, by decide +kernel⟩⟩
theorem oX10_fails : z_okV iX10_fails 10 TX10 26 0 := ⟨cX10, w_1209, v_50, w_11, w_1210, ⟨by decide, by decide, by decide +kernel⟩⟩
theorem oX10_addsFault : z_okV iX10_addsFault 10 TX10 26 2 := ⟨cX10, w_1213, v_51, w_11, w_1214, ⟨by decide, by decide, by decide +kernel⟩⟩
theorem oX10_takes : z_okV iX10_takes 10 TX10 26 3 := ⟨cX10, w_1205, v_49, w_11, w_1206, ⟨by decide, by decide, by decide +kernel⟩⟩
theorem oX10_nodeBy : z_okV iX10_nodeBy 10 TX10 26 1 := ⟨cX10, w_1221, v_53, w_11, w_1222, ⟨by decide, by decide, by decide +kernel⟩⟩
theorem oX10_lesser : z_okS iX10_lesser 2 := ⟨w_1231, w_11, w_1232, ⟨by decide, by decide, by decide +kernel⟩⟩
theorem oX10_formOf : z_okV iX10_formOf 10 TX10 26 1 := ⟨cX10, w_1217, v_52, w_11, w_1218, ⟨by decide, by decide, by decide +kernel⟩⟩
theorem oX10_line : z_okV iX10_line 10 TX10 26 1 := ⟨cX10, w_1200, v_48, w_11, w_1201, ⟨by decide, by decide, by decide +kernel⟩⟩
theorem oX10_readText : z_okV iX10_readText 10 TX10 26 0 := ⟨cX10, w_1188, v_45, w_11, w_1189, ⟨by decide, by decide, by decide +kernel⟩⟩
theorem oX10_plan : z_okV iX10_plan 10 TX10 26 0 := ⟨cX10, w_1183, w_1184, w_11, w_1185, ⟨by decide, by decide, by decide +kernel⟩⟩
theorem oX9_fault : z_okV iX9_fault 9 TX9 5 1 := ⟨cX9, w_611, w_612, w_1, w_613, ⟨by decide, by decide, by decide +kernel⟩⟩
theorem oX10_fault : z_okV iX10_fault 10 TX10 26 1 := ⟨cX10, w_1240, w_1241, w_11, w_1242, ⟨by decide, by decide, by decide +kernel⟩⟩
theorem oX9_months : z_okV iX9_months 9 TX9 5 1 := ⟨cX9, w_615, w_616, w_1, w_617, ⟨by decide, by decide, by decide +kernel⟩⟩
theorem oX10_now : z_okV iX10_now 10 TX10 26 0 := ⟨cX10, w_1249, v_54, w_11, w_1250, ⟨by decide, by decide, by decide +kernel⟩⟩
theorem oX10_months : z_okV iX10_months 10 TX10 26 1 := ⟨cX10, w_1244, w_1245, w_11, w_1246, ⟨by decide, by decide, by decide +kernel⟩⟩
theorem oX0_has : z_okV iX0_has 0 TX0 8 1 := ⟨cX0, w_627, w_628, w_5, w_629, ⟨by decide, by decide, by decide +kernel⟩⟩
theorem oX0_hasLeft : z_okV iX0_hasLeft 0 TX0 8 1 := ⟨cX0, w_631, w_632, w_5, w_633, ⟨by decide, by decide, by decide +kernel⟩⟩
theorem oX0_works : z_okV iX0_works 0 TX0 8 1 := ⟨cX0, w_623, w_624, w_5, w_625, ⟨by decide, by decide, by decide +kernel⟩⟩
theorem oX9_join : z_okV iX9_join 9 TX9 5 1 := ⟨cX9, w_619, w_620, w_1, w_621, ⟨by decide, by decide, by decide +kernel⟩⟩
theorem oX10_isSeller : z_okV iX10_isSeller 10 TX10 26 1 := ⟨cX10, w_1257, v_55, w_11, w_1258, ⟨by decide, by decide, by decide +kernel⟩⟩
theorem oX10_ofSeller : z_okV iX10_ofSeller 10 TX10 26 2 := ⟨cX10, w_1265, v_57, w_11, w_1266, ⟨by decide, by decide, by decide +kernel⟩⟩
theorem oX10_hasQuit : z_okV iX10_hasQuit 10 TX10 26 1 := ⟨cX10, w_1261, v_56, w_11, w_1262, ⟨by decide, by decide, by decide +kernel⟩⟩
theorem oX10_join : z_okV iX10_join 10 TX10 26 1 := ⟨cX10, w_1252, w_1253, w_11, w_1254, ⟨by decide, by decide, by decide +kernel⟩⟩
theorem oX9_lastTreeMonth : z_okV iX9_lastTreeMonth 9 TX9 5 0 := ⟨cX9, w_646, v_18, w_1, w_647, ⟨by decide, by decide, by decide +kernel⟩⟩
theorem oX0_sponsorAt : z_okV iX0_sponsorAt 0 TX0 8 2 := ⟨cX0, w_651, w_652, w_5, w_653, ⟨by decide, by decide, by decide +kernel⟩⟩
theorem oX0_hasMoveOf : z_okV iX0_hasMoveOf 0 TX0 8 2 := ⟨cX0, w_659, w_660, w_5, w_661, ⟨by decide, by decide, by decide +kernel⟩⟩
theorem oX0_isUpFrom : z_okV iX0_isUpFrom 0 TX0 8 3 := ⟨cX0, w_663, w_664, w_5, w_665, ⟨by decide, by decide, by decide +kernel⟩⟩
theorem oX9_makesRing : z_okV iX9_makesRing 9 TX9 5 3 := ⟨cX9, w_656, v_19, w_1, w_657, ⟨by decide, by decide, by decide +kernel⟩⟩
theorem oX9_reasonAgainst : z_okV iX9_reasonAgainst 9 TX9 5 3 := ⟨cX9, w_641, v_17, w_1, w_642, ⟨by decide, by decide, by decide +kernel⟩⟩
theorem oX0_putMove : z_okV iX0_putMove 0 TX0 8 3 := ⟨cX0, w_668, w_669, w_5, w_670, ⟨by decide, by decide, by decide +kernel⟩⟩
theorem oX9_move : z_okV iX9_move 9 TX9 5 3 := ⟨cX9, w_636, w_637, w_1, w_638, ⟨by decide, by decide, by decide +kernel⟩⟩
theorem oX10_sponsorAt : z_okV iX10_sponsorAt 10 TX10 26 2 := ⟨cX10, w_1277, v_59, w_11, w_1278, ⟨by decide, by decide, by decide +kernel⟩⟩
theorem oX10_laysMonth : z_okV iX10_laysMonth 10 TX10 26 1 := ⟨cX10, w_1285, v_61, w_11, w_1286, ⟨by decide, by decide, by decide +kernel⟩⟩
theorem oX10_stepsUp : z_okV iX10_stepsUp 10 TX10 26 2 := ⟨cX10, w_1289, v_62, w_11, w_1290, ⟨by decide, by decide, by decide +kernel⟩⟩
theorem oX10_turnsRound : z_okV iX10_turnsRound 10 TX10 26 1 := ⟨cX10, w_1281, v_60, w_11, w_1282, ⟨by decide, by decide, by decide +kernel⟩⟩
theorem oX10_moveAt : z_okV iX10_moveAt 10 TX10 26 2 := ⟨cX10, w_1293, v_63, w_11, w_1294, ⟨by decide, by decide, by decide +kernel⟩⟩
theorem oX10_reason : z_okV iX10_reason 10 TX10 26 3 := ⟨cX10, w_1273, v_58, w_11, w_1274, ⟨by decide, by decide, by decide +kernel⟩⟩
theorem oX10_setSeller : z_okV iX10_setSeller 10 TX10 26 3 := ⟨cX10, w_1301, v_64, w_11, w_1302, ⟨by decide, by decide, by decide +kernel⟩⟩
theorem oX10_move : z_okV iX10_move 10 TX10 26 3 := ⟨cX10, w_1296, w_1297, w_11, w_1298, ⟨by decide, by decide, by decide +kernel⟩⟩
theorem oX5_fact : z_okV iX5_fact 5 TX5 8 3 := ⟨cX5, w_684, w_685, w_6, w_686, ⟨by decide, by decide, by decide +kernel⟩⟩
theorem oX5_levelOf : z_okV iX5_levelOf 5 TX5 8 2 := ⟨cX5, w_680, w_681, w_6, w_682, ⟨by decide, by decide, by decide +kernel⟩⟩
theorem oX9_net : z_okS iX9_net 2 := ⟨w_692, w_1, w_693, ⟨by decide, by decide, by decide +kernel⟩⟩
theorem oX5_netPay : z_okV iX5_netPay 5 TX5 8 2 := ⟨cX5, w_688, w_689, w_6, w_690, ⟨by decide, by decide, by decide +kernel⟩⟩
theorem oJ9_max_7cf53 : z_okS iJ9_max_7cf53 2 := ⟨w_702, w_17, w_703, ⟨by decide, by decide, by decide +kernel⟩⟩
theorem oX7_vested : z_okV iX7_vested 7 TX7 9 3 := ⟨cX7, w_695, w_696, w_2, w_697, ⟨by decide, by decide, by decide +kernel⟩⟩
theorem oX7_notVested : z_okV iX7_notVested 7 TX7 9 1 := ⟨cX7, w_676, w_677, w_2, w_678, ⟨by decide, by decide, by decide +kernel⟩⟩
theorem oX1_write : z_okV iX1_write 1 TX1 3 5 := ⟨cX1, w_705, w_706, w_7, w_707, ⟨by decide, by decide, by decide +kernel⟩⟩
theorem oX9_quit : z_okV iX9_quit 9 TX9 5 1 := ⟨cX9, w_672, w_673, w_1, w_674, ⟨by decide, by decide, by decide +kernel⟩⟩
theorem oX10_ofSale : z_okV iX10_ofSale 10 TX10 26 2 := ⟨cX10, w_1313, v_66, w_11, w_1314, ⟨by decide, by decide, by decide +kernel⟩⟩
theorem oX10_ofLevel : z_okV iX10_ofLevel 10 TX10 26 3 := ⟨cX10, w_1317, v_67, w_11, w_1318, ⟨by decide, by decide, by decide +kernel⟩⟩
theorem oX10_net : z_okV iX10_net 10 TX10 26 2 := ⟨cX10, w_1325, v_69, w_11, w_1326, ⟨by decide, by decide, by decide +kernel⟩⟩
theorem oX10_netPay : z_okV iX10_netPay 10 TX10 26 2 := ⟨cX10, w_1321, v_68, w_11, w_1322, ⟨by decide, by decide, by decide +kernel⟩⟩
theorem oX10_greater : z_okS iX10_greater 2 := ⟨w_1332, w_11, w_1333, ⟨by decide, by decide, by decide +kernel⟩⟩
theorem oX10_vestedAt : z_okV iX10_vestedAt 10 TX10 26 3 := ⟨cX10, w_1329, v_70, w_11, w_1330, ⟨by decide, by decide, by decide +kernel⟩⟩
theorem oX10_notVested : z_okV iX10_notVested 10 TX10 26 1 := ⟨cX10, w_1309, v_65, w_11, w_1310, ⟨by decide, by decide, by decide +kernel⟩⟩
theorem oX10_writes : z_okV iX10_writes 10 TX10 26 4 := ⟨cX10, w_1336, v_71, w_11, w_1337, ⟨by decide, by decide, by decide +kernel⟩⟩
theorem oX10_quit : z_okV iX10_quit 10 TX10 26 1 := ⟨cX10, w_1304, w_1305, w_11, w_1306, ⟨by decide, by decide, by decide +kernel⟩⟩
theorem oX9_canSell : z_okV iX9_canSell 9 TX9 5 2 := ⟨cX9, w_715, v_20, w_1, w_716, ⟨by decide, by decide, by decide +kernel⟩⟩
theorem oX5_add : z_okV iX5_add 5 TX5 8 4 := ⟨cX5, w_718, w_719, w_6, w_720, ⟨by decide, by decide, by decide +kernel⟩⟩
theorem oX6_clearRow : z_okV iX6_clearRow 6 TX6 13 1 := ⟨cX6, w_731, v_22, w_9, w_732, ⟨by decide, by decide, by decide +kernel⟩⟩
theorem oX5_netAmount : z_okV iX5_netAmount 5 TX5 8 1 := ⟨cX5, w_740, w_741, w_6, w_742, ⟨by decide, by decide, by decide +kernel⟩⟩
theorem oX6_laySales : z_okV iX6_laySales 6 TX6 13 2 := ⟨cX6, w_737, v_23, w_9, w_738, ⟨by decide, by decide, by decide +kernel⟩⟩
theorem oX6_lay : z_okV iX6_lay 6 TX6 13 2 := ⟨cX6, w_727, v_21, w_9, w_728, ⟨by decide, by decide, by decide +kernel⟩⟩
theorem oX6_countUpwards : z_okV iX6_countUpwards 6 TX6 13 1 := ⟨cX6, w_749, v_25, w_9, w_750, ⟨by decide, by decide, by decide +kernel⟩⟩
theorem oJ6_bitCount_0f7a4 : z_okS iJ6_bitCount_0f7a4 1 := ⟨w_757, w_19, w_758, ⟨by decide, by decide, by decide +kernel⟩⟩
theorem oX6_activeLegs : z_okV iX6_activeLegs 6 TX6 13 1 := ⟨cX6, w_753, w_754, w_9, w_755, ⟨by decide, by decide, by decide +kernel⟩⟩
theorem oX3_rankFor : z_okV iX3_rankFor 3 TX3 12 2 := ⟨cX3, w_763, w_764, w_4, w_765, ⟨by decide, by decide, by decide +kernel⟩⟩
theorem oX6_settle : z_okV iX6_settle 6 TX6 13 1 := ⟨cX6, w_745, v_24, w_9, w_746, ⟨by decide, by decide, by decide +kernel⟩⟩
theorem oX6_look : z_okV iX6_look 6 TX6 13 2 := ⟨cX6, w_722, w_723, w_9, w_724, ⟨by decide, by decide, by decide +kernel⟩⟩
theorem oX6_isActive : z_okV iX6_isActive 6 TX6 13 1 := ⟨cX6, w_771, w_772, w_9, w_773, ⟨by decide, by decide, by decide +kernel⟩⟩
theorem oX3_leafPercent : z_okV iX3_leafPercent 3 TX3 12 4 := ⟨cX3, w_785, v_27, w_4, w_786, ⟨by decide, by decide, by decide +kernel⟩⟩
theorem oX3_joinedPercent : z_okS iX3_joinedPercent 3 := ⟨w_789, w_4, w_790, ⟨by decide, by decide, by decide +kernel⟩⟩
theorem oX3_percentOf : z_okV iX3_percentOf 3 TX3 12 4 := ⟨cX3, w_780, w_781, w_4, w_782, ⟨by decide, by decide, by decide +kernel⟩⟩
theorem oX2_takeLevel : z_okV iX2_takeLevel 2 TX2 2 5 := ⟨cX2, w_776, v_26, w_10, w_777, ⟨by decide, by decide, by decide +kernel⟩⟩
theorem oX2_fact : z_okV iX2_fact 2 TX2 2 2 := ⟨cX2, w_794, w_795, w_10, w_796, ⟨by decide, by decide, by decide +kernel⟩⟩
theorem oX2_payUp : z_okV iX2_payUp 2 TX2 2 4 := ⟨cX2, w_767, w_768, w_10, w_769, ⟨by decide, by decide, by decide +kernel⟩⟩
theorem oX5_keep : z_okV iX5_keep 5 TX5 8 2 := ⟨cX5, w_798, w_799, w_6, w_800, ⟨by decide, by decide, by decide +kernel⟩⟩
theorem oX7_note : z_okV iX7_note 7 TX7 9 4 := ⟨cX7, w_804, w_805, w_2, w_806, ⟨by decide, by decide, by decide +kernel⟩⟩
theorem oX9_sell : z_okV iX9_sell 9 TX9 5 3 := ⟨cX9, w_710, w_711, w_1, w_712, ⟨by decide, by decide, by decide +kernel⟩⟩
theorem oX10_canSell : z_okV iX10_canSell 10 TX10 26 3 := ⟨cX10, w_1344, v_72, w_11, w_1345, ⟨by decide, by decide, by decide +kernel⟩⟩
theorem oX10_laysOwn : z_okV iX10_laysOwn 10 TX10 26 0 := ⟨cX10, w_1348, v_73, w_11, w_1349, ⟨by decide, by decide, by decide +kernel⟩⟩
theorem oX10_isActive : z_okV iX10_isActive 10 TX10 26 2 := ⟨cX10, w_1356, v_75, w_11, w_1357, ⟨by decide, by decide, by decide +kernel⟩⟩
theorem oX10_belowOf : z_okV iX10_belowOf 10 TX10 26 1 := ⟨cX10, w_1372, v_79, w_11, w_1373, ⟨by decide, by decide, by decide +kernel⟩⟩
theorem oX10_has : z_okS iX10_has 2 := ⟨w_1375, w_11, w_1376, ⟨by decide, by decide, by decide +kernel⟩⟩
theorem oX10_volumeOf : z_okV iX10_volumeOf 10 TX10 26 1 := ⟨cX10, w_1379, v_80, w_11, w_1380, ⟨by decide, by decide, by decide +kernel⟩⟩
theorem oX10_groupOf : z_okV iX10_groupOf 10 TX10 26 1 := ⟨cX10, w_1368, v_78, w_11, w_1369, ⟨by decide, by decide, by decide +kernel⟩⟩
theorem oX10_directOf : z_okV iX10_directOf 10 TX10 26 1 := ⟨cX10, w_1387, v_82, w_11, w_1388, ⟨by decide, by decide, by decide +kernel⟩⟩
theorem oX10_legsOf : z_okV iX10_legsOf 10 TX10 26 1 := ⟨cX10, w_1383, v_81, w_11, w_1384, ⟨by decide, by decide, by decide +kernel⟩⟩
theorem oX10_rankBy : z_okV iX10_rankBy 10 TX10 26 2 := ⟨cX10, w_1391, v_83, w_11, w_1392, ⟨by decide, by decide, by decide +kernel⟩⟩
theorem oX10_rankOf : z_okV iX10_rankOf 10 TX10 26 1 := ⟨cX10, w_1364, v_77, w_11, w_1365, ⟨by decide, by decide, by decide +kernel⟩⟩
theorem oX10_ones : z_okS iX10_ones 1 := ⟨w_1402, w_11, w_1403, ⟨by decide, by decide, by decide +kernel⟩⟩
theorem oX10_leaf : z_okV iX10_leaf 10 TX10 26 2 := ⟨cX10, w_1399, v_85, w_11, w_1400, ⟨by decide, by decide, by decide +kernel⟩⟩
theorem oX10_percentOf : z_okV iX10_percentOf 10 TX10 26 2 := ⟨cX10, w_1395, v_84, w_11, w_1396, ⟨by decide, by decide, by decide +kernel⟩⟩
theorem oX10_takesLevel : z_okV iX10_takesLevel 10 TX10 26 4 := ⟨cX10, w_1360, v_76, w_11, w_1361, ⟨by decide, by decide, by decide +kernel⟩⟩
theorem oX10_pays : z_okV iX10_pays 10 TX10 26 2 := ⟨cX10, w_1352, v_74, w_11, w_1353, ⟨by decide, by decide, by decide +kernel⟩⟩
theorem oX10_sell : z_okV iX10_sell 10 TX10 26 3 := ⟨cX10, w_1339, w_1340, w_11, w_1341, ⟨by decide, by decide, by decide +kernel⟩⟩
theorem oX5_has : z_okV iX5_has 5 TX5 8 1 := ⟨cX5, w_813, w_814, w_6, w_815, ⟨by decide, by decide, by decide +kernel⟩⟩
theorem oX9_back : z_okV iX9_back 9 TX9 5 2 := ⟨cX9, w_809, w_810, w_1, w_811, ⟨by decide, by decide, by decide +kernel⟩⟩
theorem oX10_isSale : z_okV iX10_isSale 10 TX10 26 1 := ⟨cX10, w_1410, v_86, w_11, w_1411, ⟨by decide, by decide, by decide +kernel⟩⟩
theorem oX10_back : z_okV iX10_back 10 TX10 26 2 := ⟨cX10, w_1405, w_1406, w_11, w_1407, ⟨by decide, by decide, by decide +kernel⟩⟩
theorem oX7_earned : z_okV iX7_earned 7 TX7 9 2 := ⟨cX7, w_827, w_828, w_2, w_829, ⟨by decide, by decide, by decide +kernel⟩⟩
theorem oX7_balance : z_okV iX7_balance 7 TX7 9 1 := ⟨cX7, w_823, w_824, w_2, w_825, ⟨by decide, by decide, by decide +kernel⟩⟩
theorem oX9_draw : z_okV iX9_draw 9 TX9 5 2 := ⟨cX9, w_819, w_820, w_1, w_821, ⟨by decide, by decide, by decide +kernel⟩⟩
theorem oX10_earnedAt : z_okV iX10_earnedAt 10 TX10 26 3 := ⟨cX10, w_1422, v_88, w_11, w_1423, ⟨by decide, by decide, by decide +kernel⟩⟩
theorem oX10_balanceOf : z_okV iX10_balanceOf 10 TX10 26 1 := ⟨cX10, w_1418, v_87, w_11, w_1419, ⟨by decide, by decide, by decide +kernel⟩⟩
theorem oX10_draw : z_okV iX10_draw 10 TX10 26 2 := ⟨cX10, w_1413, w_1414, w_11, w_1415, ⟨by decide, by decide, by decide +kernel⟩⟩
theorem oX9_rule : z_okV iX9_rule 9 TX9 5 1 := ⟨cX9, w_831, w_832, w_1, w_833, ⟨by decide, by decide, by decide +kernel⟩⟩
theorem oX10_rule : z_okV iX10_rule 10 TX10 26 1 := ⟨cX10, w_1425, w_1426, w_11, w_1427, ⟨by decide, by decide, by decide +kernel⟩⟩
theorem oX9_greatestRank : z_okV iX9_greatestRank 9 TX9 5 2 := ⟨cX9, w_842, v_28, w_1, w_843, ⟨by decide, by decide, by decide +kernel⟩⟩
theorem oX5_countOf : z_okV iX5_countOf 5 TX5 8 1 := ⟨cX5, w_845, w_846, w_6, w_847, ⟨by decide, by decide, by decide +kernel⟩⟩
theorem oX7_vestedOfSale : z_okV iX7_vestedOfSale 7 TX7 9 1 := ⟨cX7, w_854, v_29, w_2, w_855, ⟨by decide, by decide, by decide +kernel⟩⟩
theorem oX7_exposed : z_okV iX7_exposed 7 TX7 9 1 := ⟨cX7, w_849, w_850, w_2, w_851, ⟨by decide, by decide, by decide +kernel⟩⟩
theorem oX9_seller : z_okV iX9_seller 9 TX9 5 2 := ⟨cX9, w_835, w_836, w_1, w_837, ⟨by decide, by decide, by decide +kernel⟩⟩
theorem oX10_bestRank : z_okV iX10_bestRank 10 TX10 26 2 := ⟨cX10, w_1435, v_89, w_11, w_1436, ⟨by decide, by decide, by decide +kernel⟩⟩
theorem oX10_salesOf : z_okV iX10_salesOf 10 TX10 26 1 := ⟨cX10, w_1439, v_90, w_11, w_1440, ⟨by decide, by decide, by decide +kernel⟩⟩
theorem oX10_exposedOf : z_okV iX10_exposedOf 10 TX10 26 1 := ⟨cX10, w_1443, v_91, w_11, w_1444, ⟨by decide, by decide, by decide +kernel⟩⟩
theorem oX10_seller : z_okV iX10_seller 10 TX10 26 2 := ⟨cX10, w_1429, w_1430, w_11, w_1431, ⟨by decide, by decide, by decide +kernel⟩⟩
theorem oX9_openSponsors : z_okV iX9_openSponsors 9 TX9 5 2 := ⟨cX9, w_862, v_30, w_1, w_863, ⟨by decide, by decide, by decide +kernel⟩⟩
theorem oX6_uplineLength : z_okV iX6_uplineLength 6 TX6 13 1 := ⟨cX6, w_865, w_866, w_9, w_867, ⟨by decide, by decide, by decide +kernel⟩⟩
theorem oX9_tree : z_okV iX9_tree 9 TX9 5 3 := ⟨cX9, w_857, w_858, w_1, w_859, ⟨by decide, by decide, by decide +kernel⟩⟩
theorem oX10_sumOf : z_okV iX10_sumOf 10 TX10 26 1 := ⟨cX10, w_1455, v_93, w_11, w_1456, ⟨by decide, by decide, by decide +kernel⟩⟩
theorem oX10_generations : z_okV iX10_generations 10 TX10 26 1 := ⟨cX10, w_1459, v_94, w_11, w_1460, ⟨by decide, by decide, by decide +kernel⟩⟩
theorem oX10_couldMove : z_okV iX10_couldMove 10 TX10 26 2 := ⟨cX10, w_1463, v_95, w_11, w_1464, ⟨by decide, by decide, by decide +kernel⟩⟩
theorem oX10_ofTree : z_okV iX10_ofTree 10 TX10 26 3 := ⟨cX10, w_1451, v_92, w_11, w_1452, ⟨by decide, by decide, by decide +kernel⟩⟩
theorem oX10_tree : z_okV iX10_tree 10 TX10 26 3 := ⟨cX10, w_1446, w_1447, w_11, w_1448, ⟨by decide, by decide, by decide +kernel⟩⟩
theorem oX9_moved : z_okV iX9_moved 9 TX9 5 3 := ⟨cX9, w_869, w_870, w_1, w_871, ⟨by decide, by decide, by decide +kernel⟩⟩
theorem oX10_moved : z_okV iX10_moved 10 TX10 26 3 := ⟨cX10, w_1466, w_1467, w_11, w_1468, ⟨by decide, by decide, by decide +kernel⟩⟩
theorem oX9_why : z_okV iX9_why 9 TX9 5 3 := ⟨cX9, w_873, w_874, w_1, w_875, ⟨by decide, by decide, by decide +kernel⟩⟩
theorem oX10_why : z_okV iX10_why 10 TX10 26 3 := ⟨cX10, w_1268, w_1269, w_11, w_1270, ⟨by decide, by decide, by decide +kernel⟩⟩
theorem oX9_common : z_okV iX9_common 9 TX9 5 3 := ⟨cX9, w_877, w_878, w_1, w_879, ⟨by decide, by decide, by decide +kernel⟩⟩
theorem oX10_isAt : z_okV iX10_isAt 10 TX10 26 2 := ⟨cX10, w_1475, v_96, w_11, w_1476, ⟨by decide, by decide, by decide +kernel⟩⟩
theorem oX10_common : z_okV iX10_common 10 TX10 26 3 := ⟨cX10, w_1470, w_1471, w_11, w_1472, ⟨by decide, by decide, by decide +kernel⟩⟩
theorem oX5_together : z_okV iX5_together 5 TX5 8 2 := ⟨cX5, w_886, w_887, w_6, w_888, ⟨by decide, by decide, by decide +kernel⟩⟩
theorem oX5_netPays : z_okV iX5_netPays 5 TX5 8 1 := ⟨cX5, w_890, w_891, w_6, w_892, ⟨by decide, by decide, by decide +kernel⟩⟩
theorem oX9_staleInScene : z_okV iX9_staleInScene 9 TX9 5 1 := ⟨cX9, w_900, v_32, w_1, w_901, ⟨by decide, by decide, by decide +kernel⟩⟩
theorem oX9_isStale : z_okV iX9_isStale 9 TX9 5 1 := ⟨cX9, w_896, v_31, w_1, w_897, ⟨by decide, by decide, by decide +kernel⟩⟩
theorem oX7_fillBalances : z_okV iX7_fillBalances 7 TX7 9 1 := ⟨cX7, w_909, v_33, w_2, w_910, ⟨by decide, by decide, by decide +kernel⟩⟩
theorem oX7_debtorsWithout : z_okV iX7_debtorsWithout 7 TX7 9 1 := ⟨cX7, w_904, w_905, w_2, w_906, ⟨by decide, by decide, by decide +kernel⟩⟩
theorem oX9_sale : z_okV iX9_sale 9 TX9 5 2 := ⟨cX9, w_881, w_882, w_1, w_883, ⟨by decide, by decide, by decide +kernel⟩⟩
theorem oX10_paysOf : z_okV iX10_paysOf 10 TX10 26 2 := ⟨cX10, w_1483, v_97, w_11, w_1484, ⟨by decide, by decide, by decide +kernel⟩⟩
theorem oX10_netPaysOf : z_okV iX10_netPaysOf 10 TX10 26 1 := ⟨cX10, w_1487, v_98, w_11, w_1488, ⟨by decide, by decide, by decide +kernel⟩⟩
theorem oX10_laysRepaid : z_okV iX10_laysRepaid 10 TX10 26 1 := ⟨cX10, w_1495, v_100, w_11, w_1496, ⟨by decide, by decide, by decide +kernel⟩⟩
theorem oX10_isStale : z_okV iX10_isStale 10 TX10 26 1 := ⟨cX10, w_1491, v_99, w_11, w_1492, ⟨by decide, by decide, by decide +kernel⟩⟩
theorem oX10_spillOf : z_okV iX10_spillOf 10 TX10 26 1 := ⟨cX10, w_1499, v_101, w_11, w_1500, ⟨by decide, by decide, by decide +kernel⟩⟩
theorem oX10_sale : z_okV iX10_sale 10 TX10 26 2 := ⟨cX10, w_1478, w_1479, w_11, w_1480, ⟨by decide, by decide, by decide +kernel⟩⟩
theorem oX9_pay : z_okV iX9_pay 9 TX9 5 3 := ⟨cX9, w_912, w_913, w_1, w_914, ⟨by decide, by decide, by decide +kernel⟩⟩
theorem oX10_pay : z_okV iX10_pay 10 TX10 26 3 := ⟨cX10, w_1502, w_1503, w_11, w_1504, ⟨by decide, by decide, by decide +kernel⟩⟩
theorem oX6_addSale : z_okV iX6_addSale 6 TX6 13 2 := ⟨cX6, w_927, v_34, w_9, w_928, ⟨by decide, by decide, by decide +kernel⟩⟩
theorem oX6_lookWithSale : z_okV iX6_lookWithSale 6 TX6 13 3 := ⟨cX6, w_922, w_923, w_9, w_924, ⟨by decide, by decide, by decide +kernel⟩⟩
theorem oX2_answer : z_okV iX2_answer 2 TX2 2 2 := ⟨cX2, w_930, w_931, w_10, w_932, ⟨by decide, by decide, by decide +kernel⟩⟩
theorem oX9_quote : z_okV iX9_quote 9 TX9 5 4 := ⟨cX9, w_918, w_919, w_1, w_920, ⟨by decide, by decide, by decide +kernel⟩⟩
theorem oX10_ofPaid : z_okV iX10_ofPaid 10 TX10 26 2 := ⟨cX10, w_1511, v_102, w_11, w_1512, ⟨by decide, by decide, by decide +kernel⟩⟩
theorem oX10_quote : z_okV iX10_quote 10 TX10 26 4 := ⟨cX10, w_1506, w_1507, w_11, w_1508, ⟨by decide, by decide, by decide +kernel⟩⟩
theorem oX9_repaid : z_okV iX9_repaid 9 TX9 5 3 := ⟨cX9, w_934, w_935, w_1, w_936, ⟨by decide, by decide, by decide +kernel⟩⟩
theorem oX10_repaid : z_okV iX10_repaid 10 TX10 26 3 := ⟨cX10, w_1514, w_1515, w_11, w_1516, ⟨by decide, by decide, by decide +kernel⟩⟩
theorem oX9_gap : z_okV iX9_gap 9 TX9 5 2 := ⟨cX9, w_938, w_939, w_1, w_940, ⟨by decide, by decide, by decide +kernel⟩⟩
theorem oX10_gap : z_okV iX10_gap 10 TX10 26 2 := ⟨cX10, w_1518, w_1519, w_11, w_1520, ⟨by decide, by decide, by decide +kernel⟩⟩
theorem oX9_lifts : z_okV iX9_lifts 9 TX9 5 3 := ⟨cX9, w_954, v_36, w_1, w_955, ⟨by decide, by decide, by decide +kernel⟩⟩
theorem oX9_leastLift : z_okV iX9_leastLift 9 TX9 5 2 := ⟨cX9, w_949, v_35, w_1, w_950, ⟨by decide, by decide, by decide +kernel⟩⟩
theorem oX9_lift : z_okV iX9_lift 9 TX9 5 3 := ⟨cX9, w_944, w_945, w_1, w_946, ⟨by decide, by decide, by decide +kernel⟩⟩
theorem oX10_lacksOf : z_okV iX10_lacksOf 10 TX10 26 1 := ⟨cX10, w_1531, v_104, w_11, w_1532, ⟨by decide, by decide, by decide +kernel⟩⟩
theorem oX10_lifts : z_okV iX10_lifts 10 TX10 26 3 := ⟨cX10, w_1527, v_103, w_11, w_1528, ⟨by decide, by decide, by decide +kernel⟩⟩
theorem oX10_lift : z_okV iX10_lift 10 TX10 26 3 := ⟨cX10, w_1522, w_1523, w_11, w_1524, ⟨by decide, by decide, by decide +kernel⟩⟩
theorem oX6_lookWithNewcomer : z_okV iX6_lookWithNewcomer 6 TX6 13 3 := ⟨cX6, w_966, w_967, w_9, w_968, ⟨by decide, by decide, by decide +kernel⟩⟩
theorem oX9_paidByNewcomer : z_okV iX9_paidByNewcomer 9 TX9 5 3 := ⟨cX9, w_963, v_37, w_1, w_964, ⟨by decide, by decide, by decide +kernel⟩⟩
theorem oX9_place : z_okV iX9_place 9 TX9 5 3 := ⟨cX9, w_958, w_959, w_1, w_960, ⟨by decide, by decide, by decide +kernel⟩⟩
theorem oX10_paidBy : z_okV iX10_paidBy 10 TX10 26 3 := ⟨cX10, w_1539, v_105, w_11, w_1540, ⟨by decide, by decide, by decide +kernel⟩⟩
theorem oX10_place : z_okV iX10_place 10 TX10 26 3 := ⟨cX10, w_1534, w_1535, w_11, w_1536, ⟨by decide, by decide, by decide +kernel⟩⟩
theorem oX9_due : z_okV iX9_due 9 TX9 5 2 := ⟨cX9, w_970, w_971, w_1, w_972, ⟨by decide, by decide, by decide +kernel⟩⟩
theorem oX10_due : z_okV iX10_due 10 TX10 26 2 := ⟨cX10, w_1542, w_1543, w_11, w_1544, ⟨by decide, by decide, by decide +kernel⟩⟩
theorem oX9_ready : z_okV iX9_ready 9 TX9 5 2 := ⟨cX9, w_974, w_975, w_1, w_976, ⟨by decide, by decide, by decide +kernel⟩⟩
theorem oX10_ready : z_okV iX10_ready 10 TX10 26 2 := ⟨cX10, w_1546, w_1547, w_11, w_1548, ⟨by decide, by decide, by decide +kernel⟩⟩
theorem oX1_fact : z_okV iX1_fact 1 TX1 3 3 := ⟨cX1, w_982, w_983, w_7, w_984, ⟨by decide, by decide, by decide +kernel⟩⟩
theorem oX9_journal : z_okV iX9_journal 9 TX9 5 3 := ⟨cX9, w_978, w_979, w_1, w_980, ⟨by decide, by decide, by decide +kernel⟩⟩
theorem oX10_journal : z_okV iX10_journal 10 TX10 26 3 := ⟨cX10, w_1550, w_1551, w_11, w_1552, ⟨by decide, by decide, by decide +kernel⟩⟩
theorem oX5_allAmounts : z_okV iX5_allAmounts 5 TX5 8 0 := ⟨cX5, w_990, w_991, w_6, w_992, ⟨by decide, by decide, by decide +kernel⟩⟩
theorem oX5_allNetAmounts : z_okV iX5_allNetAmounts 5 TX5 8 0 := ⟨cX5, w_994, w_995, w_6, w_996, ⟨by decide, by decide, by decide +kernel⟩⟩
theorem oX5_allTogether : z_okV iX5_allTogether 5 TX5 8 1 := ⟨cX5, w_999, w_1000, w_6, w_1001, ⟨by decide, by decide, by decide +kernel⟩⟩
theorem oX5_allNetPays : z_okV iX5_allNetPays 5 TX5 8 0 := ⟨cX5, w_1004, w_1005, w_6, w_1006, ⟨by decide, by decide, by decide +kernel⟩⟩
theorem oX7_allVested : z_okV iX7_allVested 7 TX7 9 0 := ⟨cX7, w_1009, w_1010, w_2, w_1011, ⟨by decide, by decide, by decide +kernel⟩⟩
theorem oX7_allNotVested : z_okV iX7_allNotVested 7 TX7 9 1 := ⟨cX7, w_1013, w_1014, w_2, w_1015, ⟨by decide, by decide, by decide +kernel⟩⟩
theorem oX0_allDrawn : z_okV iX0_allDrawn 0 TX0 8 0 := ⟨cX0, w_1018, w_1019, w_5, w_1020, ⟨by decide, by decide, by decide +kernel⟩⟩
theorem oX7_allDebts : z_okV iX7_allDebts 7 TX7 9 0 := ⟨cX7, w_1022, w_1023, w_2, w_1024, ⟨by decide, by decide, by decide +kernel⟩⟩
theorem oX0_leavers : z_okV iX0_leavers 0 TX0 8 0 := ⟨cX0, w_1026, w_1027, w_5, w_1028, ⟨by decide, by decide, by decide +kernel⟩⟩
theorem oX9_activeNow : z_okV iX9_activeNow 9 TX9 5 0 := ⟨cX9, w_1031, v_38, w_1, w_1032, ⟨by decide, by decide, by decide +kernel⟩⟩
theorem oX9_staleSales : z_okV iX9_staleSales 9 TX9 5 0 := ⟨cX9, w_1035, v_39, w_1, w_1036, ⟨by decide, by decide, by decide +kernel⟩⟩
theorem oX9_greatestNow : z_okV iX9_greatestNow 9 TX9 5 1 := ⟨cX9, w_1039, v_40, w_1, w_1040, ⟨by decide, by decide, by decide +kernel⟩⟩
theorem oX9_books : z_okV iX9_books 9 TX9 5 1 := ⟨cX9, w_986, w_987, w_1, w_988, ⟨by decide, by decide, by decide +kernel⟩⟩
theorem oX10_ofSales : z_okV iX10_ofSales 10 TX10 26 1 := ⟨cX10, w_1559, v_106, w_11, w_1560, ⟨by decide, by decide, by decide +kernel⟩⟩
theorem oX10_ofAll : z_okV iX10_ofAll 10 TX10 26 1 := ⟨cX10, w_1563, v_107, w_11, w_1564, ⟨by decide, by decide, by decide +kernel⟩⟩
theorem oX10_activeNow : z_okV iX10_activeNow 10 TX10 26 0 := ⟨cX10, w_1567, v_108, w_11, w_1568, ⟨by decide, by decide, by decide +kernel⟩⟩
theorem oX10_greatest : z_okV iX10_greatest 10 TX10 26 1 := ⟨cX10, w_1571, v_109, w_11, w_1572, ⟨by decide, by decide, by decide +kernel⟩⟩
theorem oX10_books : z_okV iX10_books 10 TX10 26 1 := ⟨cX10, w_1554, w_1555, w_11, w_1556, ⟨by decide, by decide, by decide +kernel⟩⟩
theorem oX0_copyFrom : z_okV iX0_copyFrom 0 TX0 8 1 := ⟨cX0, w_1052, w_1053, w_5, w_1054, ⟨by decide, by decide, by decide +kernel⟩⟩
theorem oX5_copyFrom : z_okV iX5_copyFrom 5 TX5 8 1 := ⟨cX5, w_1057, w_1058, w_6, w_1059, ⟨by decide, by decide, by decide +kernel⟩⟩
theorem oX1_copyFrom : z_okV iX1_copyFrom 1 TX1 3 1 := ⟨cX1, w_1061, w_1062, w_7, w_1063, ⟨by decide, by decide, by decide +kernel⟩⟩
theorem oX7_copyFrom : z_okV iX7_copyFrom 7 TX7 9 1 := ⟨cX7, w_1046, w_1047, w_2, w_1048, ⟨by decide, by decide, by decide +kernel⟩⟩
theorem oX9_image : z_okV iX9_image 9 TX9 5 1 := ⟨cX9, w_1042, w_1043, w_1, w_1044, ⟨by decide, by decide, by decide +kernel⟩⟩
theorem oX10_copyAll : z_okV iX10_copyAll 10 TX10 26 2 := ⟨cX10, w_1579, v_110, w_11, w_1580, ⟨by decide, by decide, by decide +kernel⟩⟩
theorem oX10_image : z_okV iX10_image 10 TX10 26 1 := ⟨cX10, w_1574, w_1575, w_11, w_1576, ⟨by decide, by decide, by decide +kernel⟩⟩
theorem oX9_again : z_okV iX9_again 9 TX9 5 1 := ⟨cX9, w_1066, w_1067, w_1, w_1068, ⟨by decide, by decide, by decide +kernel⟩⟩
theorem oX10_again : z_okV iX10_again 10 TX10 26 1 := ⟨cX10, w_1582, w_1583, w_11, w_1584, ⟨by decide, by decide, by decide +kernel⟩⟩
theorem z_cVP {G : Z_G} {I : Z_M} {E : Type} {pc : Nat} {la : List (Option Value)} {h : Z_H} {k : E → Option (Int32 × Z_H)} {rest : List Value} {J : Z_M} {As : List Value} {idx : Nat} {st : List Value} {f : Option Int32} {g : Int32 → Option E} {ty : FieldType} {a c N : Nat} {T : u_T} (hE : z_EV G) (hM : z_Met G J (.ref a :: As) h (f.bind fun x => some (x, h))) (hrc : ∀ q, (f.bind fun x => some (x, h)) = some q → z_is h a c = true) (ho : z_okV J c T N As.length) (hdg : decode I.2.1 pc = .ok (.invokevirtual idx, 3)) (hst : st = As.reverse ++ .ref a :: rest) (w1 : Cond.methodLink I.2.2.2.2.1 idx J.1 ∈ Z_W) (hrt : J.2.2.2.1 = some ty) (hro : z_room J I = true) (hs : Nat.ble (rest.map fun v => v.category).sum 8 = true) (kk : ∀ x, Z_S G I (pc + 3) la (.int x :: rest) h (g x) k) : Z_S G I pc la st h (f.bind g) k := by
  obtain ⟨o1, o2, o3, o4, o5, o6⟩ := ho
  refine z_callV (K := (f.bind fun x => some (x, h))) (R' := fun x _ => g x) hE hM z_hP hrc o1 hdg hst w1 o2 o3 o4 o5 o6 hro hs (fun x h1 e => ?_)
  obtain rfl := z_eP e
  rw [hrt]
  exact kk x
theorem z_cSP {G : Z_G} {I : Z_M} {E : Type} {pc : Nat} {la : List (Option Value)} {h : Z_H} {k : E → Option (Int32 × Z_H)} {rest : List Value} {J : Z_M} {As : List Value} {idx : Nat} {st : List Value} {f : Option Int32} {g : Int32 → Option E} {ty : FieldType} (hE : z_EV G) (hM : z_Met G J As h (f.bind fun x => some (x, h))) (ho : z_okS J As.length) (hdg : decode I.2.1 pc = .ok (.invokestatic idx, 3)) (hst : st = As.reverse ++ rest) (w1 : Cond.methodLink I.2.2.2.2.1 idx J.1 ∈ Z_W) (hrt : J.2.2.2.1 = some ty) (hro : z_room J I = true) (hs : Nat.ble (rest.map fun v => v.category).sum 8 = true) (kk : ∀ x, Z_S G I (pc + 3) la (.int x :: rest) h (g x) k) : Z_S G I pc la st h (f.bind g) k := by
  obtain ⟨o2, o4, o5, o6⟩ := ho
  refine z_callS (K := (f.bind fun x => some (x, h))) (R' := fun x _ => g x) hE hM z_hP hdg hst w1 o2 o4 o5 o6 hro hs (fun x h1 e => ?_)
  obtain rfl := z_eP e
  rw [hrt]
  exact kk x
theorem z_cNP {G : Z_G} {I : Z_M} {E : Type} {pc : Nat} {la : List (Option Value)} {h : Z_H} {k : E → Option (Int32 × Z_H)} {rest : List Value} {J : Z_M} {As : List Value} {idx : Nat} {st : List Value} {f : Option Int32} {g : Int32 → Option E} {ty : FieldType} {host : String} (hE : z_EV G) (hM : z_Met G J As h (f.bind fun x => some (x, h))) (ho : z_okS J As.length) (hdg : decode I.2.1 pc = .ok (.invokestatic idx, 3)) (hst : st = As.reverse ++ rest) (w1 : ∀ A s, G.2.2.2.1 A s → va_Nw (.methodLinkNest I.2.2.2.2.1 idx J.1 host) s) (hrt : J.2.2.2.1 = some ty) (hro : z_room J I = true) (hs : Nat.ble (rest.map fun v => v.category).sum 8 = true) (kk : ∀ x, Z_S G I (pc + 3) la (.int x :: rest) h (g x) k) : Z_S G I pc la st h (f.bind g) k := by
  obtain ⟨o2, o4, o5, o6⟩ := ho
  refine z_callSN (K := (f.bind fun x => some (x, h))) (R' := fun x _ => g x) hE hM z_hP hdg hst w1 o2 o4 o5 o6 hro hs (fun x h1 e => ?_)
  obtain rfl := z_eP e
  rw [hrt]
  exact kk x
theorem z_cVI {G : Z_G} {I : Z_M} {E : Type} {pc : Nat} {la : List (Option Value)} {h : Z_H} {k : E → Option (Int32 × Z_H)} {rest : List Value} {J : Z_M} {As : List Value} {idx : Nat} {st : List Value} {f : Option (Int32 × Z_H)} {g : Int32 × Z_H → Option E} {ty : FieldType} {a c N : Nat} {T : u_T} (hE : z_EV G) (hM : z_Met G J (.ref a :: As) h (f.bind some)) (hrc : ∀ q, (f.bind some) = some q → z_is h a c = true) (ho : z_okV J c T N As.length) (hdg : decode I.2.1 pc = .ok (.invokevirtual idx, 3)) (hst : st = As.reverse ++ .ref a :: rest) (w1 : Cond.methodLink I.2.2.2.2.1 idx J.1 ∈ Z_W) (hrt : J.2.2.2.1 = some ty) (hro : z_room J I = true) (hs : Nat.ble (rest.map fun v => v.category).sum 8 = true) (kk : ∀ x h1, Z_S G I (pc + 3) la (.int x :: rest) h1 (g (x, h1)) k) : Z_S G I pc la st h (f.bind g) k := by
  obtain ⟨o1, o2, o3, o4, o5, o6⟩ := ho
  refine z_callV (K := (f.bind some)) (R' := fun x h1 => g (x, h1)) hE hM z_hI hrc o1 hdg hst w1 o2 o3 o4 o5 o6 hro hs (fun x h1 e => ?_)
  rw [hrt]
  exact kk x h1
theorem z_cSI {G : Z_G} {I : Z_M} {E : Type} {pc : Nat} {la : List (Option Value)} {h : Z_H} {k : E → Option (Int32 × Z_H)} {rest : List Value} {J : Z_M} {As : List Value} {idx : Nat} {st : List Value} {f : Option (Int32 × Z_H)} {g : Int32 × Z_H → Option E} {ty : FieldType} (hE : z_EV G) (hM : z_Met G J As h (f.bind some)) (ho : z_okS J As.length) (hdg : decode I.2.1 pc = .ok (.invokestatic idx, 3)) (hst : st = As.reverse ++ rest) (w1 : Cond.methodLink I.2.2.2.2.1 idx J.1 ∈ Z_W) (hrt : J.2.2.2.1 = some ty) (hro : z_room J I = true) (hs : Nat.ble (rest.map fun v => v.category).sum 8 = true) (kk : ∀ x h1, Z_S G I (pc + 3) la (.int x :: rest) h1 (g (x, h1)) k) : Z_S G I pc la st h (f.bind g) k := by
  obtain ⟨o2, o4, o5, o6⟩ := ho
  refine z_callS (K := (f.bind some)) (R' := fun x h1 => g (x, h1)) hE hM z_hI hdg hst w1 o2 o4 o5 o6 hro hs (fun x h1 e => ?_)
  rw [hrt]
  exact kk x h1
theorem z_cVV {G : Z_G} {I : Z_M} {E : Type} {pc : Nat} {la : List (Option Value)} {h : Z_H} {k : E → Option (Int32 × Z_H)} {rest : List Value} {J : Z_M} {As : List Value} {idx : Nat} {st : List Value} {f : Option Z_H} {g : Z_H → Option E} {a c N : Nat} {T : u_T} (hE : z_EV G) (hM : z_Met G J (.ref a :: As) h (f.bind fun h1 => some ((0 : Int32), h1))) (hrc : ∀ q, (f.bind fun h1 => some ((0 : Int32), h1)) = some q → z_is h a c = true) (ho : z_okV J c T N As.length) (hdg : decode I.2.1 pc = .ok (.invokevirtual idx, 3)) (hst : st = As.reverse ++ .ref a :: rest) (w1 : Cond.methodLink I.2.2.2.2.1 idx J.1 ∈ Z_W) (hrt : J.2.2.2.1 = none) (hro : z_room J I = true) (hs : Nat.ble (rest.map fun v => v.category).sum 8 = true) (kk : ∀ h1, Z_S G I (pc + 3) la rest h1 (g h1) k) : Z_S G I pc la st h (f.bind g) k := by
  obtain ⟨o1, o2, o3, o4, o5, o6⟩ := ho
  refine z_callV (K := (f.bind fun h1 => some ((0 : Int32), h1))) (R' := fun _ h1 => g h1) hE hM z_hV hrc o1 hdg hst w1 o2 o3 o4 o5 o6 hro hs (fun x h1 e => ?_)
  rw [hrt]
  exact kk h1
theorem z_cSV {G : Z_G} {I : Z_M} {E : Type} {pc : Nat} {la : List (Option Value)} {h : Z_H} {k : E → Option (Int32 × Z_H)} {rest : List Value} {J : Z_M} {As : List Value} {idx : Nat} {st : List Value} {f : Option Z_H} {g : Z_H → Option E} (hE : z_EV G) (hM : z_Met G J As h (f.bind fun h1 => some ((0 : Int32), h1))) (ho : z_okS J As.length) (hdg : decode I.2.1 pc = .ok (.invokestatic idx, 3)) (hst : st = As.reverse ++ rest) (w1 : Cond.methodLink I.2.2.2.2.1 idx J.1 ∈ Z_W) (hrt : J.2.2.2.1 = none) (hro : z_room J I = true) (hs : Nat.ble (rest.map fun v => v.category).sum 8 = true) (kk : ∀ h1, Z_S G I (pc + 3) la rest h1 (g h1) k) : Z_S G I pc la st h (f.bind g) k := by
  obtain ⟨o2, o4, o5, o6⟩ := ho
  refine z_callS (K := (f.bind fun h1 => some ((0 : Int32), h1))) (R' := fun _ h1 => g h1) hE hM z_hV hdg hst w1 o2 o4 o5 o6 hro hs (fun x h1 e => ?_)
  rw [hrt]
  exact kk h1
theorem z_cIV {G : Z_G} {I : Z_M} {E : Type} {pc : Nat} {la : List (Option Value)} {h : Z_H} {k : E → Option (Int32 × Z_H)} {rest : List Value} {J : Z_M} {As : List Value} {idx : Nat} {st : List Value} {f : Option Z_H} {g : Z_H → Option E} {a : Nat} (hE : z_EV G) (hM : z_Met G J (.ref a :: As) h (f.bind fun h1 => some ((0 : Int32), h1))) (ho : z_okI J As.length) (hdg : decode I.2.1 pc = .ok (.invokespecial idx, 3)) (hst : st = As.reverse ++ .ref a :: rest) (w1 : Cond.methodLink I.2.2.2.2.1 idx J.1 ∈ Z_W) (hnm : J.1.name = "<init>") (hrt : J.2.2.2.1 = none) (hro : z_room J I = true) (hs : Nat.ble (rest.map fun v => v.category).sum 8 = true) (kk : ∀ h1, Z_S G I (pc + 3) la rest h1 (g h1) k) : Z_S G I pc la st h (f.bind g) k := by
  obtain ⟨o2, o4, o5, o6⟩ := ho
  refine z_callI (K := (f.bind fun h1 => some ((0 : Int32), h1))) (R' := fun _ h1 => g h1) hE hM z_hV hdg hst hrt hnm w1 o2 o4 o5 o6 hro hs (fun x h1 e => ?_)
  rw [hrt]
  exact kk h1
theorem z_cJV {G : Z_G} {I : Z_M} {E : Type} {pc : Nat} {la : List (Option Value)} {h : Z_H} {k : E → Option (Int32 × Z_H)} {rest : List Value} {J : Z_M} {As : List Value} {idx : Nat} {st : List Value} {f : Option Z_H} {g : Z_H → Option E} {a : Nat} {host : String} (hE : z_EV G) (hM : z_Met G J (.ref a :: As) h (f.bind fun h1 => some ((0 : Int32), h1))) (ho : z_okI J As.length) (hdg : decode I.2.1 pc = .ok (.invokespecial idx, 3)) (hst : st = As.reverse ++ .ref a :: rest) (w1 : ∀ A s, G.2.2.2.1 A s → va_Nw (.methodLinkNest I.2.2.2.2.1 idx J.1 host) s) (hnm : J.1.name = "<init>") (hrt : J.2.2.2.1 = none) (hro : z_room J I = true) (hs : Nat.ble (rest.map fun v => v.category).sum 8 = true) (kk : ∀ h1, Z_S G I (pc + 3) la rest h1 (g h1) k) : Z_S G I pc la st h (f.bind g) k := by
  obtain ⟨o2, o4, o5, o6⟩ := ho
  refine z_callIN (K := (f.bind fun h1 => some ((0 : Int32), h1))) (R' := fun _ h1 => g h1) hE hM z_hV hdg hst hrt hnm w1 o2 o4 o5 o6 hro hs (fun x h1 e => ?_)
  rw [hrt]
  exact kk h1
def Z_nw : List Cond := [(Cond.methodLinkNest "CommissionHouse" 9 ⟨"CommissionHouse$State", "<init>", "()V"⟩ "CommissionHouse"), (Cond.methodLinkNest "CommissionHouse$State" 11 ⟨"CommissionHouse$Tape", "<init>", "()V"⟩ "CommissionHouse"), (Cond.methodLinkNest "CommissionHouse$State" 34 ⟨"CommissionHouse$Sales", "<init>", "()V"⟩ "CommissionHouse"), (Cond.methodLinkNest "CommissionHouse$State" 41 ⟨"CommissionHouse$Journals", "<init>", "()V"⟩ "CommissionHouse"), (Cond.methodLinkNest "CommissionHouse" 22 ⟨"CommissionHouse$Reader", "<init>", "()V"⟩ "CommissionHouse"), (Cond.methodLinkNest "CommissionHouse$Reader" 20 ⟨"CommissionHouse$Tape", "<init>", "()V"⟩ "CommissionHouse"), (Cond.methodLinkNest "CommissionHouse" 29 ⟨"CommissionHouse$Scene", "<init>", "()V"⟩ "CommissionHouse"), (Cond.methodLinkNest "CommissionHouse" 36 ⟨"CommissionHouse$Paying", "<init>", "()V"⟩ "CommissionHouse"), (Cond.methodLinkNest "CommissionHouse$Sales" 48 ⟨"CommissionHouse", "net", "(II)I"⟩ "CommissionHouse")]
theorem Z_nw_in : ∀ w ∈ Z_nw, w ∈ lw_tbl := by
  intro w hw
  simp only [Z_nw, List.mem_cons, List.not_mem_nil, or_false] at hw
  rcases hw with rfl | rfl | rfl | rfl | rfl | rfl | rfl | rfl | rfl
  · exact w_30
  · exact w_36
  · exact w_179
  · exact w_224
  · exact w_284
  · exact w_291
  · exact w_329
  · exact w_389
  · exact w_691
/-- wordFrom: which word lies from x1 up to 'at' -/
def z_spell (h : Z_H) (b : Nat) : Nat → List Int32 → Bool
  | _, [] => true
  | i, x :: l => decide (z_i h b i = x) && z_spell h b (i + 1) l
def z_wrds : List (List Int32 × Int32) := [([108, 101, 118, 101, 108], 4), ([114, 97, 110, 107], 5), ([111, 112, 101, 110, 115], 6), ([113, 117, 111, 116, 97], 7), ([99, 97, 112], 8), ([118, 101, 115, 116], 9), ([119, 105, 110, 100, 111, 119], 10), ([102, 108, 97, 116], 11), ([114, 97, 110, 107, 101, 100], 12), ([119, 105, 100, 101], 13), ([108, 111, 121, 97, 108], 14), ([109, 111, 114, 101], 15), ([108, 101, 115, 115], 16), ([115, 117, 109], 17)]
def z_pick (h : Z_H) (b : Nat) (i n : Nat) : List (List Int32 × Int32) → Int32
  | [] => 1
  | q :: l => if decide (n = q.1.length) && z_spell h b i q.1 then q.2 else z_pick h b i n l
def f_X4_wordFrom (h : Z_H) (a : Nat) (x1 : Int32) : Option Int32 := gd (z_is h a 4) (
  (gR h a 4 1).bind fun b => (gI h a 4 6).bind fun x => (gR h b 8 0).bind fun d =>
    gd (decide (d < z_n h) && (decide (z_k h d = 1) && (decide (z_len h d = 600) && (decide (0 ≤ x1) && (decide (x1 ≤ x) && decide (x ≤ 600)))))) (some (z_pick h d x1.toNatClampNeg (x.toNatClampNeg - x1.toNatClampNeg) z_wrds)))
def z_GG (G : Z_G) : Prop := z_EV G ∧ (∀ w ∈ Z_nw, ∀ A s, G.2.2.2.1 A s → va_Nw w s) ∧ (∀ A s, G.2.2.2.1 A s → va_AO RX7 s) ∧ ∀ h a x1, z_Met G iX4_wordFrom [.ref a, .int x1] h ((f_X4_wordFrom h a x1).bind fun r => some (r, h))
theorem m_X4_wordFrom {G : Z_G} (hG : z_GG G) (h : Z_H) (a : Nat) (x1 : Int32) : z_Met G iX4_wordFrom [.ref a, .int x1] h ((f_X4_wordFrom h a x1).bind fun r => some (r, h)) := hG.2.2.2 h a x1
def FU : Nat := 5000
theorem nw_30 {G : Z_G} (hG : z_GG G) : ∀ A s, G.2.2.2.1 A s → va_Nw (Cond.methodLinkNest "CommissionHouse" 9 ⟨"CommissionHouse$State", "<init>", "()V"⟩ "CommissionHouse") s := hG.2.1 _ (by simp [Z_nw])
theorem nw_36 {G : Z_G} (hG : z_GG G) : ∀ A s, G.2.2.2.1 A s → va_Nw (Cond.methodLinkNest "CommissionHouse$State" 11 ⟨"CommissionHouse$Tape", "<init>", "()V"⟩ "CommissionHouse") s := hG.2.1 _ (by simp [Z_nw])
theorem nw_179 {G : Z_G} (hG : z_GG G) : ∀ A s, G.2.2.2.1 A s → va_Nw (Cond.methodLinkNest "CommissionHouse$State" 34 ⟨"CommissionHouse$Sales", "<init>", "()V"⟩ "CommissionHouse") s := hG.2.1 _ (by simp [Z_nw])
theorem nw_224 {G : Z_G} (hG : z_GG G) : ∀ A s, G.2.2.2.1 A s → va_Nw (Cond.methodLinkNest "CommissionHouse$State" 41 ⟨"CommissionHouse$Journals", "<init>", "()V"⟩ "CommissionHouse") s := hG.2.1 _ (by simp [Z_nw])
theorem nw_284 {G : Z_G} (hG : z_GG G) : ∀ A s, G.2.2.2.1 A s → va_Nw (Cond.methodLinkNest "CommissionHouse" 22 ⟨"CommissionHouse$Reader", "<init>", "()V"⟩ "CommissionHouse") s := hG.2.1 _ (by simp [Z_nw])
theorem nw_291 {G : Z_G} (hG : z_GG G) : ∀ A s, G.2.2.2.1 A s → va_Nw (Cond.methodLinkNest "CommissionHouse$Reader" 20 ⟨"CommissionHouse$Tape", "<init>", "()V"⟩ "CommissionHouse") s := hG.2.1 _ (by simp [Z_nw])
theorem nw_329 {G : Z_G} (hG : z_GG G) : ∀ A s, G.2.2.2.1 A s → va_Nw (Cond.methodLinkNest "CommissionHouse" 29 ⟨"CommissionHouse$Scene", "<init>", "()V"⟩ "CommissionHouse") s := hG.2.1 _ (by simp [Z_nw])
theorem nw_389 {G : Z_G} (hG : z_GG G) : ∀ A s, G.2.2.2.1 A s → va_Nw (Cond.methodLinkNest "CommissionHouse" 36 ⟨"CommissionHouse$Paying", "<init>", "()V"⟩ "CommissionHouse") s := hG.2.1 _ (by simp [Z_nw])
theorem nw_691 {G : Z_G} (hG : z_GG G) : ∀ A s, G.2.2.2.1 A s → va_Nw (Cond.methodLinkNest "CommissionHouse$Sales" 48 ⟨"CommissionHouse", "net", "(II)I"⟩ "CommissionHouse") s := hG.2.1 _ (by simp [Z_nw])
