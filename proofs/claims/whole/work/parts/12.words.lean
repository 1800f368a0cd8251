set_option maxRecDepth 20000 in
theorem ggX0_draw_X5_valueAt : GoodIn wsX0_draw wsX5_valueAt := goodIn_r _ [8, 9, 10, 11, 12, 13, 14, 7, 15, 16, 17, 30, 31, 32, 33, 34] (by decide +kernel) (by decide +kernel)
set_option maxRecDepth 20000 in
theorem gX0_draw_X5_valueAt : GoodIn wsX0_draw (wsV RX0 34 RX5 yX5_valueAt wsX5_valueAt) := goodIn_app (goodIn_of _ (by decide +kernel)) ggX0_draw_X5_valueAt
set_option maxRecDepth 20000 in
theorem ggX0_draw_X0_heightOver : GoodIn wsX0_draw wsX0_heightOver := goodIn_r _ [22, 2, 23, 24, 25, 26, 27, 28, 29] (by decide +kernel) (by decide +kernel)
set_option maxRecDepth 20000 in
theorem gX0_draw_X0_heightOver : GoodIn wsX0_draw (wsV RX0 40 RX0 yX0_heightOver wsX0_heightOver) := goodIn_app (goodIn_of _ (by decide +kernel)) ggX0_draw_X0_heightOver
set_option maxRecDepth 20000 in
theorem ggX0_aim_X0_heightOver : GoodIn wsX0_aim wsX0_heightOver := goodIn_r _ [15, 16, 23, 24, 25, 26, 27, 28, 29] (by decide +kernel) (by decide +kernel)
set_option maxRecDepth 20000 in
theorem gX0_aim_X0_heightOver : GoodIn wsX0_aim (wsV RX0 40 RX0 yX0_heightOver wsX0_heightOver) := goodIn_app (goodIn_of _ (by decide +kernel)) ggX0_aim_X0_heightOver
set_option maxRecDepth 20000 in
theorem ggX0_aim_X8_commonDivisor : GoodIn wsX0_aim wsX8_commonDivisor := goodIn_r _ [19, 20, 21, 9, 22] (by decide +kernel) (by decide +kernel)
set_option maxRecDepth 20000 in
theorem gX0_aim_X8_commonDivisor_n44 : GoodIn wsX0_aim (wsX8_commonDivisor) := ggX0_aim_X8_commonDivisor
set_option maxRecDepth 20000 in
theorem ggX0_tellEnvelope_X0_valueSum : GoodIn wsX0_tellEnvelope wsX0_valueSum := goodIn_r _ [7, 1, 8, 9, 2, 10, 25, 26, 27, 28, 29, 30, 31] (by decide +kernel) (by decide +kernel)
set_option maxRecDepth 20000 in
theorem gX0_tellEnvelope_X0_valueSum : GoodIn wsX0_tellEnvelope (wsV RX0 53 RX0 yX0_valueSum wsX0_valueSum) := goodIn_app (goodIn_of _ (by decide +kernel)) ggX0_tellEnvelope_X0_valueSum
set_option maxRecDepth 20000 in
theorem ggX0_tellEnvelope_X1_become : GoodIn wsX0_tellEnvelope wsX1_become := goodIn_r _ [15, 16, 17, 18, 19, 20, 21, 22, 23, 24, 32, 33] (by decide +kernel) (by decide +kernel)
set_option maxRecDepth 20000 in
theorem gX0_tellEnvelope_X1_become : GoodIn wsX0_tellEnvelope (wsV RX0 57 RX1 yX1_become wsX1_become) := goodIn_app (goodIn_of _ (by decide +kernel)) ggX0_tellEnvelope_X1_become
set_option maxRecDepth 20000 in
theorem ggX0_tellGain_X0_valueSum : GoodIn wsX0_tellGain wsX0_valueSum := goodIn_r _ [8, 1, 3, 9, 2, 10, 25, 26, 27, 28, 29, 30, 31] (by decide +kernel) (by decide +kernel)
set_option maxRecDepth 20000 in
theorem gX0_tellGain_X0_valueSum : GoodIn wsX0_tellGain (wsV RX0 53 RX0 yX0_valueSum wsX0_valueSum) := goodIn_app (goodIn_of _ (by decide +kernel)) ggX0_tellGain_X0_valueSum
set_option maxRecDepth 20000 in
theorem ggX0_tellGain_X1_become : GoodIn wsX0_tellGain wsX1_become := goodIn_r _ [15, 16, 17, 18, 19, 20, 21, 22, 23, 24, 32, 33] (by decide +kernel) (by decide +kernel)
set_option maxRecDepth 20000 in
theorem gX0_tellGain_X1_become : GoodIn wsX0_tellGain (wsV RX0 57 RX1 yX1_become wsX1_become) := goodIn_app (goodIn_of _ (by decide +kernel)) ggX0_tellGain_X1_become
set_option maxRecDepth 20000 in
theorem ggX1_become_X8_commonDivisor : GoodIn wsX1_become wsX8_commonDivisor := goodIn_r _ [5, 6, 7, 8, 9] (by decide +kernel) (by decide +kernel)
set_option maxRecDepth 20000 in
theorem gX1_become_X8_commonDivisor_n16 : GoodIn wsX1_become (wsX8_commonDivisor) := ggX1_become_X8_commonDivisor
set_option maxRecDepth 20000 in
theorem ggX2_init_X7_init : GoodIn wsX2_init wsX7_init := goodIn_r _ [12, 13, 2, 3, 14, 15, 16, 17, 18, 19, 20, 21, 22, 23, 24, 25, 26, 27, 28, 29, 30, 31, 32, 33, 34, 35, 36, 37, 38, 39, 40, 41, 42, 43, 44, 45, 52, 53, 54, 55, 56, 49, 50, 51, 57, 58, 59] (by decide +kernel) (by decide +kernel)
set_option maxRecDepth 20000 in
theorem gX2_init_X7_init : GoodIn wsX2_init (wsX7_init) := ggX2_init_X7_init
set_option maxRecDepth 20000 in
theorem ggX2_note_X7_copyFrom : GoodIn wsX2_note wsX7_copyFrom := goodIn_r _ [7, 8, 9, 10, 11, 12, 13, 14, 15, 16, 17, 18, 19, 20, 21, 22, 23, 24, 25, 26, 27, 28, 29, 30, 31, 32, 33, 37, 38, 39, 40, 41, 42, 43, 44, 45, 46, 47] (by decide +kernel) (by decide +kernel)
set_option maxRecDepth 20000 in
theorem gX2_note_X7_copyFrom : GoodIn wsX2_note (wsV RX2 23 RX7 yX7_copyFrom wsX7_copyFrom) := goodIn_app (goodIn_of _ (by decide +kernel)) ggX2_note_X7_copyFrom
set_option maxRecDepth 20000 in
theorem ggX2_takeBack_X7_copyFrom : GoodIn wsX2_takeBack wsX7_copyFrom := goodIn_r _ [8, 9, 10, 11, 12, 13, 14, 15, 16, 17, 18, 19, 20, 21, 22, 23, 24, 25, 26, 27, 28, 29, 30, 31, 32, 33, 34, 38, 39, 40, 41, 42, 43, 44, 45, 46, 47, 48] (by decide +kernel) (by decide +kernel)
set_option maxRecDepth 20000 in
theorem gX2_takeBack_X7_copyFrom : GoodIn wsX2_takeBack (wsV RX2 23 RX7 yX7_copyFrom wsX7_copyFrom) := goodIn_app (goodIn_of _ (by decide +kernel)) ggX2_takeBack_X7_copyFrom
set_option maxRecDepth 20000 in
theorem ggX3_gather_X3_clear : GoodIn wsX3_gather wsX3_clear := goodIn_r _ [8, 9, 20] (by decide +kernel) (by decide +kernel)
set_option maxRecDepth 20000 in
theorem gX3_gather_X3_clear : GoodIn wsX3_gather (wsV RX3 15 RX3 yX3_clear wsX3_clear) := goodIn_app (goodIn_of _ (by decide +kernel)) ggX3_gather_X3_clear
set_option maxRecDepth 20000 in
theorem ggX3_gather_X3_add : GoodIn wsX3_gather wsX3_add := goodIn_r _ [13, 9, 14, 15, 16, 20] (by decide +kernel) (by decide +kernel)
set_option maxRecDepth 20000 in
theorem gX3_gather_X3_add : GoodIn wsX3_gather (wsV RX3 30 RX3 yX3_add wsX3_add) := goodIn_app (goodIn_of _ (by decide +kernel)) ggX3_gather_X3_add
set_option maxRecDepth 20000 in
theorem ggX3_add_X8_isPosterior : GoodIn wsX3_add wsX8_isPosterior := goodIn_r _ [4] (by decide +kernel) (by decide +kernel)
set_option maxRecDepth 20000 in
theorem gX3_add_X8_isPosterior_n34 : GoodIn wsX3_add (wsX8_isPosterior) := ggX3_add_X8_isPosterior
set_option maxRecDepth 20000 in
theorem ggX3_reduce_X8_commonDivisor : GoodIn wsX3_reduce wsX8_commonDivisor := goodIn_r _ [4, 5, 6, 7, 8] (by decide +kernel) (by decide +kernel)
set_option maxRecDepth 20000 in
theorem gX3_reduce_X8_commonDivisor_n38 : GoodIn wsX3_reduce (wsX8_commonDivisor) := ggX3_reduce_X8_commonDivisor
set_option maxRecDepth 20000 in
theorem ggX3_pourInto_X6_append : GoodIn wsX3_pourInto wsX6_append := goodIn_r _ [7, 8, 9, 10, 11, 12, 13] (by decide +kernel) (by decide +kernel)
set_option maxRecDepth 20000 in
theorem gX3_pourInto_X6_append : GoodIn wsX3_pourInto (wsV RX3 42 RX6 yX6_append wsX6_append) := goodIn_app (goodIn_of _ (by decide +kernel)) ggX3_pourInto_X6_append
set_option maxRecDepth 20000 in
theorem ggX4_firstFault_X4_readNext : GoodIn wsX4_firstFault wsX4_readNext := goodIn_r _ [7, 1, 8, 9, 10, 11, 12, 6, 13, 14, 15, 16, 17, 2, 18, 19, 20, 21, 22, 23, 24, 25, 26, 27, 28, 29, 30, 31, 32, 33, 34, 35, 36, 37, 38, 39, 40, 41, 42, 43, 44, 45, 46, 47, 48] (by decide +kernel) (by decide +kernel)
set_option maxRecDepth 20000 in
theorem gX4_firstFault_X4_readNext : GoodIn wsX4_firstFault (wsV RX4 36 RX4 yX4_readNext wsX4_readNext) := goodIn_app (goodIn_of _ (by decide +kernel)) ggX4_firstFault_X4_readNext
set_option maxRecDepth 20000 in
theorem ggX4_readNext_X4_skip : GoodIn wsX4_readNext wsX4_skip := goodIn_r _ [8, 1, 9, 10, 11, 7, 12, 13, 14, 39, 40, 41, 42, 43, 44] (by decide +kernel) (by decide +kernel)
set_option maxRecDepth 20000 in
theorem gX4_readNext_X4_skip : GoodIn wsX4_readNext (wsV RX4 40 RX4 yX4_skip wsX4_skip) := goodIn_app (goodIn_of _ (by decide +kernel)) ggX4_readNext_X4_skip
set_option maxRecDepth 20000 in
theorem ggX4_readNext_X4_sign : GoodIn wsX4_readNext wsX4_sign := goodIn_r _ [12, 1, 13, 14, 39, 40, 41, 42, 43, 44] (by decide +kernel) (by decide +kernel)
set_option maxRecDepth 20000 in
theorem gX4_readNext_X4_sign : GoodIn wsX4_readNext (wsV RX4 44 RX4 yX4_sign wsX4_sign) := goodIn_app (goodIn_of _ (by decide +kernel)) ggX4_readNext_X4_sign
set_option maxRecDepth 20000 in
theorem ggX4_readNext_X4_readHire : GoodIn wsX4_readNext wsX4_readHire := goodIn_r _ [18, 2, 19, 20, 21, 22, 7, 23, 1, 13, 9, 10, 11, 12, 14, 24, 25, 26, 27, 28, 29, 30, 4, 5, 6, 8, 39, 40, 41, 42, 43, 44] (by decide +kernel) (by decide +kernel)
set_option maxRecDepth 20000 in
theorem gX4_readNext_X4_readHire : GoodIn wsX4_readNext (wsV RX4 48 RX4 yX4_readHire wsX4_readHire) := goodIn_app (goodIn_of _ (by decide +kernel)) ggX4_readNext_X4_readHire
set_option maxRecDepth 20000 in
theorem ggX4_readNext_X4_readDigit : GoodIn wsX4_readNext wsX4_readDigit := goodIn_r _ [34, 1, 9, 10, 11, 7, 12, 13, 14, 27, 28, 29, 30, 2, 19, 39, 40, 41, 42, 43, 44] (by decide +kernel) (by decide +kernel)
set_option maxRecDepth 20000 in
theorem gX4_readNext_X4_readDigit : GoodIn wsX4_readNext (wsV RX4 51 RX4 yX4_readDigit wsX4_readDigit) := goodIn_app (goodIn_of _ (by decide +kernel)) ggX4_readNext_X4_readDigit
set_option maxRecDepth 20000 in
theorem ggX4_readNext_X4_readNumber : GoodIn wsX4_readNext wsX4_readNumber := goodIn_r _ [23, 1, 13, 9, 10, 11, 7, 12, 14, 24, 25, 26, 27, 28, 29, 30, 2, 19, 39, 40, 41, 42, 43, 44] (by decide +kernel) (by decide +kernel)
set_option maxRecDepth 20000 in
theorem gX4_readNext_X4_readNumber : GoodIn wsX4_readNext (wsV RX4 54 RX4 yX4_readNumber wsX4_readNumber) := goodIn_app (goodIn_of _ (by decide +kernel)) ggX4_readNext_X4_readNumber
set_option maxRecDepth 20000 in
theorem ggX4_readNext_X4_readParts : GoodIn wsX4_readNext wsX4_readParts := goodIn_r _ [38, 20, 21, 22, 7, 23, 1, 13, 9, 10, 11, 12, 14, 24, 25, 26, 27, 28, 29, 30, 2, 19, 4, 5, 6, 8, 39, 40, 41, 42, 43, 44] (by decide +kernel) (by decide +kernel)
set_option maxRecDepth 20000 in
theorem gX4_readNext_X4_readParts : GoodIn wsX4_readNext (wsV RX4 57 RX4 yX4_readParts wsX4_readParts) := goodIn_app (goodIn_of _ (by decide +kernel)) ggX4_readNext_X4_readParts
set_option maxRecDepth 20000 in
theorem ggX4_readHire_X4_readNumber : GoodIn wsX4_readHire wsX4_readNumber := goodIn_r _ [7, 8, 9, 10, 11, 12, 6, 13, 14, 15, 16, 17, 18, 19, 20, 21, 1, 2, 26, 27, 28, 29, 30, 31] (by decide +kernel) (by decide +kernel)
set_option maxRecDepth 20000 in
theorem gX4_readHire_X4_readNumber : GoodIn wsX4_readHire (wsV RX4 54 RX4 yX4_readNumber wsX4_readNumber) := goodIn_app (goodIn_of _ (by decide +kernel)) ggX4_readHire_X4_readNumber
set_option maxRecDepth 20000 in
theorem ggX4_readHire_X4_skip : GoodIn wsX4_readHire wsX4_skip := goodIn_r _ [25, 8, 10, 11, 12, 6, 13, 9, 14, 26, 27, 28, 29, 30, 31] (by decide +kernel) (by decide +kernel)
set_option maxRecDepth 20000 in
theorem gX4_readHire_X4_skip : GoodIn wsX4_readHire (wsV RX4 40 RX4 yX4_skip wsX4_skip) := goodIn_app (goodIn_of _ (by decide +kernel)) ggX4_readHire_X4_skip
set_option maxRecDepth 20000 in
theorem ggX4_readParts_X4_readNumber : GoodIn wsX4_readParts wsX4_readNumber := goodIn_r _ [5, 6, 7, 8, 9, 10, 4, 11, 12, 13, 14, 15, 16, 17, 18, 19, 20, 21, 26, 27, 28, 29, 30, 31] (by decide +kernel) (by decide +kernel)
set_option maxRecDepth 20000 in
theorem gX4_readParts_X4_readNumber : GoodIn wsX4_readParts (wsV RX4 54 RX4 yX4_readNumber wsX4_readNumber) := goodIn_app (goodIn_of _ (by decide +kernel)) ggX4_readParts_X4_readNumber
set_option maxRecDepth 20000 in
theorem ggX4_readParts_X4_skip : GoodIn wsX4_readParts wsX4_skip := goodIn_r _ [25, 6, 8, 9, 10, 4, 11, 7, 12, 26, 27, 28, 29, 30, 31] (by decide +kernel) (by decide +kernel)
set_option maxRecDepth 20000 in
theorem gX4_readParts_X4_skip : GoodIn wsX4_readParts (wsV RX4 40 RX4 yX4_skip wsX4_skip) := goodIn_app (goodIn_of _ (by decide +kernel)) ggX4_readParts_X4_skip
set_option maxRecDepth 20000 in
theorem ggX4_readDigit_X4_sign : GoodIn wsX4_readDigit wsX4_sign := goodIn_r _ [6, 1, 7, 8, 15, 16, 17, 18, 19, 20] (by decide +kernel) (by decide +kernel)
set_option maxRecDepth 20000 in
theorem gX4_readDigit_X4_sign : GoodIn wsX4_readDigit (wsV RX4 44 RX4 yX4_sign wsX4_sign) := goodIn_app (goodIn_of _ (by decide +kernel)) ggX4_readDigit_X4_sign
set_option maxRecDepth 20000 in
theorem ggX4_readDigit_X4_tell : GoodIn wsX4_readDigit wsX4_tell := goodIn_r _ [12, 13, 14, 15, 16, 17, 18, 19, 20] (by decide +kernel) (by decide +kernel)
set_option maxRecDepth 20000 in
theorem gX4_readDigit_X4_tell : GoodIn wsX4_readDigit (wsV RX4 60 RX4 yX4_tell wsX4_tell) := goodIn_app (goodIn_of _ (by decide +kernel)) ggX4_readDigit_X4_tell
set_option maxRecDepth 20000 in
theorem ggX4_readNumber_X4_sign : GoodIn wsX4_readNumber wsX4_sign := goodIn_r _ [7, 1, 2, 8, 18, 19, 20, 21, 22, 23] (by decide +kernel) (by decide +kernel)
set_option maxRecDepth 20000 in
theorem gX4_readNumber_X4_sign : GoodIn wsX4_readNumber (wsV RX4 44 RX4 yX4_sign wsX4_sign) := goodIn_app (goodIn_of _ (by decide +kernel)) ggX4_readNumber_X4_sign
set_option maxRecDepth 20000 in
theorem ggX4_readNumber_X4_isDigit : GoodIn wsX4_readNumber wsX4_isDigit := goodIn_r _ [11] (by decide +kernel) (by decide +kernel)
set_option maxRecDepth 20000 in
theorem gX4_readNumber_X4_isDigit : GoodIn wsX4_readNumber (va_wsS RX4 64 yX4_isDigit wsX4_isDigit) := goodIn_app (goodIn_of _ (by decide +kernel)) ggX4_readNumber_X4_isDigit
set_option maxRecDepth 20000 in
theorem ggX4_readNumber_X4_tell : GoodIn wsX4_readNumber wsX4_tell := goodIn_r _ [15, 16, 17, 18, 19, 20, 21, 22, 23] (by decide +kernel) (by decide +kernel)
set_option maxRecDepth 20000 in
theorem gX4_readNumber_X4_tell : GoodIn wsX4_readNumber (wsV RX4 60 RX4 yX4_tell wsX4_tell) := goodIn_app (goodIn_of _ (by decide +kernel)) ggX4_readNumber_X4_tell
set_option maxRecDepth 20000 in
theorem ggX4_skip_X4_sign : GoodIn wsX4_skip wsX4_sign := goodIn_r _ [6, 1, 7, 8, 9, 10, 11, 12, 13, 14] (by decide +kernel) (by decide +kernel)
set_option maxRecDepth 20000 in
theorem gX4_skip_X4_sign : GoodIn wsX4_skip (wsV RX4 44 RX4 yX4_sign wsX4_sign) := goodIn_app (goodIn_of _ (by decide +kernel)) ggX4_skip_X4_sign
set_option maxRecDepth 20000 in
theorem ggX5_remove_X5_has : GoodIn wsX5_remove wsX5_has := goodIn_r _ [10, 1, 11, 12, 13, 14, 15] (by decide +kernel) (by decide +kernel)
set_option maxRecDepth 20000 in
theorem gX5_remove_X5_has : GoodIn wsX5_remove (wsV RX5 34 RX5 yX5_has wsX5_has) := goodIn_app (goodIn_of _ (by decide +kernel)) ggX5_remove_X5_has
set_option maxRecDepth 20000 in
theorem ggX5_leastActing_X5_acts : GoodIn wsX5_leastActing wsX5_acts := goodIn_r _ [5, 6, 7, 8, 9, 10, 11, 12] (by decide +kernel) (by decide +kernel)
set_option maxRecDepth 20000 in
theorem gX5_leastActing_X5_acts : GoodIn wsX5_leastActing (wsV RX5 44 RX5 yX5_acts wsX5_acts) := goodIn_app (goodIn_of _ (by decide +kernel)) ggX5_leastActing_X5_acts
set_option maxRecDepth 20000 in
theorem ggX5_actingAt_X5_acts : GoodIn wsX5_actingAt wsX5_acts := goodIn_r _ [6, 7, 8, 9, 10, 11, 12, 13] (by decide +kernel) (by decide +kernel)
set_option maxRecDepth 20000 in
theorem gX5_actingAt_X5_acts : GoodIn wsX5_actingAt (wsV RX5 44 RX5 yX5_acts wsX5_acts) := goodIn_app (goodIn_of _ (by decide +kernel)) ggX5_actingAt_X5_acts
set_option maxRecDepth 20000 in
theorem ggX5_valueAt_X5_acts : GoodIn wsX5_valueAt wsX5_acts := goodIn_r _ [8, 9, 10, 11, 12, 13, 14, 15] (by decide +kernel) (by decide +kernel)
set_option maxRecDepth 20000 in
theorem gX5_valueAt_X5_acts : GoodIn wsX5_valueAt (wsV RX5 44 RX5 yX5_acts wsX5_acts) := goodIn_app (goodIn_of _ (by decide +kernel)) ggX5_valueAt_X5_acts
set_option maxRecDepth 20000 in
theorem ggX6_becomeOne_X6_append : GoodIn wsX6_becomeOne wsX6_append := goodIn_r _ [6, 1, 7, 8, 9, 10, 11] (by decide +kernel) (by decide +kernel)
set_option maxRecDepth 20000 in
theorem gX6_becomeOne_X6_append : GoodIn wsX6_becomeOne (wsV RX6 26 RX6 yX6_append wsX6_append) := goodIn_app (goodIn_of _ (by decide +kernel)) ggX6_becomeOne_X6_append
set_option maxRecDepth 20000 in
theorem ggX7_init_X5_init : GoodIn wsX7_init wsX5_init := goodIn_r _ [14, 15, 2, 3, 16, 17, 18, 19, 20, 21, 36, 37, 38, 39, 40] (by decide +kernel) (by decide +kernel)
set_option maxRecDepth 20000 in
theorem gX7_init_X5_init_n11 : GoodIn wsX7_init (wsX5_init) := ggX7_init_X5_init
set_option maxRecDepth 20000 in
theorem ggX7_init_X6_init : GoodIn wsX7_init wsX6_init := goodIn_r _ [23, 24, 2, 3, 16, 25, 26, 27, 44, 45, 46] (by decide +kernel) (by decide +kernel)
set_option maxRecDepth 20000 in
theorem gX7_init_X6_init_n20 : GoodIn wsX7_init (wsX6_init) := ggX7_init_X6_init
set_option maxRecDepth 20000 in
theorem ggX7_init_X6_becomeOne : GoodIn wsX7_init wsX6_becomeOne := goodIn_r _ [31, 27, 32, 33, 34, 10, 35, 25, 26, 44, 45, 46] (by decide +kernel) (by decide +kernel)
set_option maxRecDepth 20000 in
theorem gX7_init_X6_becomeOne : GoodIn wsX7_init (wsV RX7 29 RX6 yX6_becomeOne wsX6_becomeOne) := goodIn_app (goodIn_of _ (by decide +kernel)) ggX7_init_X6_becomeOne
set_option maxRecDepth 20000 in
theorem ggX7_copyFrom_X5_copyFrom : GoodIn wsX7_copyFrom wsX5_copyFrom := goodIn_r _ [8, 9, 10, 11, 12, 13, 14, 15, 16, 17, 30, 31, 32, 33, 34] (by decide +kernel) (by decide +kernel)
set_option maxRecDepth 20000 in
theorem gX7_copyFrom_X5_copyFrom : GoodIn wsX7_copyFrom (wsV RX7 33 RX5 yX5_copyFrom wsX5_copyFrom) := goodIn_app (goodIn_of _ (by decide +kernel)) ggX7_copyFrom_X5_copyFrom
set_option maxRecDepth 20000 in
theorem ggX7_copyFrom_X6_copyFrom : GoodIn wsX7_copyFrom wsX6_copyFrom := goodIn_r _ [22, 23, 24, 11, 12, 13, 25, 26, 35, 36, 37] (by decide +kernel) (by decide +kernel)
set_option maxRecDepth 20000 in
theorem gX7_copyFrom_X6_copyFrom : GoodIn wsX7_copyFrom (wsV RX7 37 RX6 yX6_copyFrom wsX6_copyFrom) := goodIn_app (goodIn_of _ (by decide +kernel)) ggX7_copyFrom_X6_copyFrom
set_option maxRecDepth 20000 in
theorem ggX7_movePrior_X6_becomeOne : GoodIn wsX7_movePrior wsX6_becomeOne := goodIn_r _ [7, 8, 9, 10, 11, 6, 12, 13, 14, 18, 19, 20] (by decide +kernel) (by decide +kernel)
set_option maxRecDepth 20000 in
theorem gX7_movePrior_X6_becomeOne : GoodIn wsX7_movePrior (wsV RX7 29 RX6 yX6_becomeOne wsX6_becomeOne) := goodIn_app (goodIn_of _ (by decide +kernel)) ggX7_movePrior_X6_becomeOne
set_option maxRecDepth 20000 in
theorem ggX7_tellMeanValue_X5_valueAt : GoodIn wsX7_tellMeanValue wsX5_valueAt := goodIn_r _ [10, 11, 12, 13, 14, 15, 16, 9, 17, 18, 19, 47, 48, 49, 50, 51] (by decide +kernel) (by decide +kernel)
set_option maxRecDepth 20000 in
theorem gX7_tellMeanValue_X5_valueAt : GoodIn wsX7_tellMeanValue (wsV RX7 50 RX5 yX5_valueAt wsX5_valueAt) := goodIn_app (goodIn_of _ (by decide +kernel)) ggX7_tellMeanValue_X5_valueAt
set_option maxRecDepth 20000 in
theorem ggX7_tellMeanValue_X6_weightSum : GoodIn wsX7_tellMeanValue wsX6_weightSum := goodIn_r _ [24, 25, 26, 44, 45, 46] (by decide +kernel) (by decide +kernel)
set_option maxRecDepth 20000 in
theorem gX7_tellMeanValue_X6_weightSum : GoodIn wsX7_tellMeanValue (wsV RX7 54 RX6 yX6_weightSum wsX6_weightSum) := goodIn_app (goodIn_of _ (by decide +kernel)) ggX7_tellMeanValue_X6_weightSum
set_option maxRecDepth 20000 in
theorem ggX7_tellMeanValue_X1_become : GoodIn wsX7_tellMeanValue wsX1_become := goodIn_r _ [31, 32, 33, 34, 35, 36, 37, 38, 39, 40, 52, 53] (by decide +kernel) (by decide +kernel)
set_option maxRecDepth 20000 in
theorem gX7_tellMeanValue_X1_become : GoodIn wsX7_tellMeanValue (wsV RX7 58 RX1 yX1_become wsX1_become) := goodIn_app (goodIn_of _ (by decide +kernel)) ggX7_tellMeanValue_X1_become
set_option maxRecDepth 20000 in
theorem ggX7_tellMeanWorth_X5_worthAt : GoodIn wsX7_tellMeanWorth wsX5_worthAt := goodIn_r _ [10, 11, 12, 13, 14, 15, 16, 43, 44, 45, 46, 47] (by decide +kernel) (by decide +kernel)
set_option maxRecDepth 20000 in
theorem gX7_tellMeanWorth_X5_worthAt : GoodIn wsX7_tellMeanWorth (wsV RX7 64 RX5 yX5_worthAt wsX5_worthAt) := goodIn_app (goodIn_of _ (by decide +kernel)) ggX7_tellMeanWorth_X5_worthAt
set_option maxRecDepth 20000 in
theorem ggX7_tellMeanWorth_X6_weightSum : GoodIn wsX7_tellMeanWorth wsX6_weightSum := goodIn_r _ [21, 22, 23, 40, 41, 42] (by decide +kernel) (by decide +kernel)
set_option maxRecDepth 20000 in
theorem gX7_tellMeanWorth_X6_weightSum : GoodIn wsX7_tellMeanWorth (wsV RX7 54 RX6 yX6_weightSum wsX6_weightSum) := goodIn_app (goodIn_of _ (by decide +kernel)) ggX7_tellMeanWorth_X6_weightSum
set_option maxRecDepth 20000 in
theorem ggX7_tellMeanWorth_X1_become : GoodIn wsX7_tellMeanWorth wsX1_become := goodIn_r _ [28, 29, 30, 31, 32, 33, 34, 35, 15, 36, 48, 49] (by decide +kernel) (by decide +kernel)
set_option maxRecDepth 20000 in
theorem gX7_tellMeanWorth_X1_become : GoodIn wsX7_tellMeanWorth (wsV RX7 58 RX1 yX1_become wsX1_become) := goodIn_app (goodIn_of _ (by decide +kernel)) ggX7_tellMeanWorth_X1_become
set_option maxRecDepth 20000 in
theorem ggX8_init_X7_init : GoodIn wsX8_init wsX7_init := goodIn_r _ [34, 35, 2, 3, 36, 37, 38, 39, 40, 41, 42, 43, 44, 45, 46, 47, 48, 49, 50, 51, 52, 53, 54, 55, 56, 57, 58, 59, 60, 61, 62, 63, 64, 65, 66, 67, 137, 138, 139, 140, 141, 106, 107, 108, 142, 143, 144] (by decide +kernel) (by decide +kernel)
set_option maxRecDepth 20000 in
theorem gX8_init_X7_init : GoodIn wsX8_init (wsX7_init) := ggX8_init_X7_init
set_option maxRecDepth 20000 in
theorem ggX8_init_X2_init : GoodIn wsX8_init wsX2_init := goodIn_r _ [70, 71, 2, 3, 72, 73, 74, 75, 5, 6, 76, 33, 34, 35, 36, 37, 38, 39, 40, 41, 42, 43, 44, 45, 46, 47, 48, 49, 50, 51, 52, 53, 54, 55, 56, 57, 58, 59, 60, 61, 62, 63, 64, 65, 66, 67, 118, 119, 120, 106, 107, 108, 137, 138, 139, 140, 141, 142, 143, 144] (by decide +kernel) (by decide +kernel)
set_option maxRecDepth 20000 in
theorem gX8_init_X2_init : GoodIn wsX8_init (wsX2_init) := ggX8_init_X2_init
set_option maxRecDepth 20000 in
theorem ggX8_init_X4_init : GoodIn wsX8_init wsX4_init := goodIn_r _ [78, 79, 2, 3, 80, 81, 48, 82, 83, 84, 85, 86, 121, 122, 123, 124, 125, 126] (by decide +kernel) (by decide +kernel)
set_option maxRecDepth 20000 in
theorem gX8_init_X4_init_n33 : GoodIn wsX8_init (wsX4_init) := ggX8_init_X4_init
set_option maxRecDepth 20000 in
theorem ggX8_init_X3_init : GoodIn wsX8_init wsX3_init := goodIn_r _ [88, 89, 2, 3, 48, 90, 127] (by decide +kernel) (by decide +kernel)
set_option maxRecDepth 20000 in
theorem gX8_init_X3_init_n40 : GoodIn wsX8_init (wsX3_init) := ggX8_init_X3_init
set_option maxRecDepth 20000 in
theorem ggX8_init_X0_init : GoodIn wsX8_init wsX0_init := goodIn_r _ [92, 93, 2, 3, 48, 94, 95, 96, 97, 98, 99, 100, 128, 129, 130, 131, 132, 133, 134] (by decide +kernel) (by decide +kernel)
set_option maxRecDepth 20000 in
theorem gX8_init_X0_init_n47 : GoodIn wsX8_init (wsX0_init) := ggX8_init_X0_init
set_option maxRecDepth 20000 in
theorem ggX8_init_X1_init : GoodIn wsX8_init wsX1_init := goodIn_r _ [102, 103, 2, 3, 104, 105, 135, 136] (by decide +kernel) (by decide +kernel)
set_option maxRecDepth 20000 in
theorem gX8_init_X1_init_n54 : GoodIn wsX8_init (wsX1_init) := ggX8_init_X1_init
set_option maxRecDepth 20000 in
theorem ggX8_prior_X2_note : GoodIn wsX8_prior wsX2_note := goodIn_r _ [7, 8, 9, 10, 11, 12, 13, 14, 15, 16, 17, 18, 19, 20, 21, 22, 23, 24, 25, 26, 27, 28, 29, 30, 31, 32, 33, 34, 35, 36, 37, 38, 39, 40, 76, 77, 78, 79, 80, 81, 82, 83, 84, 85, 86, 87, 88, 89] (by decide +kernel) (by decide +kernel)
set_option maxRecDepth 20000 in
theorem gX8_prior_X2_note : GoodIn wsX8_prior (wsV RX8 62 RX2 yX2_note wsX2_note) := goodIn_app (goodIn_of _ (by decide +kernel)) ggX8_prior_X2_note
set_option maxRecDepth 20000 in
theorem ggX8_prior_X7_movePrior : GoodIn wsX8_prior wsX7_movePrior := goodIn_r _ [44, 17, 16, 45, 46, 47, 35, 48, 40, 49, 50, 51, 52, 37, 39, 79, 80, 81, 87, 88, 89] (by decide +kernel) (by decide +kernel)
set_option maxRecDepth 20000 in
theorem gX8_prior_X7_movePrior : GoodIn wsX8_prior (wsV RX8 66 RX7 yX7_movePrior wsX7_movePrior) := goodIn_app (goodIn_of _ (by decide +kernel)) ggX8_prior_X7_movePrior
set_option maxRecDepth 20000 in
theorem ggX8_prior_X8_recorded : GoodIn wsX8_prior wsX8_recorded := goodIn_r _ [57, 1, 58, 59, 60, 6, 61, 9, 62, 63, 64, 65, 66, 67, 68, 69, 70, 71, 72, 73, 74, 75, 76, 77, 78] (by decide +kernel) (by decide +kernel)
set_option maxRecDepth 20000 in
theorem gX8_prior_X8_recorded : GoodIn wsX8_prior (wsV RX8 70 RX8 yX8_recorded wsX8_recorded) := goodIn_app (goodIn_of _ (by decide +kernel)) ggX8_prior_X8_recorded
set_option maxRecDepth 20000 in
theorem ggX8_hire_X2_note : GoodIn wsX8_hire wsX2_note := goodIn_r _ [8, 9, 10, 11, 12, 13, 14, 15, 16, 17, 18, 19, 20, 21, 22, 23, 24, 25, 26, 27, 28, 29, 30, 31, 32, 33, 34, 35, 36, 37, 38, 39, 40, 41, 72, 73, 74, 69, 70, 71, 75, 76, 77, 78, 79, 80, 81, 82] (by decide +kernel) (by decide +kernel)
set_option maxRecDepth 20000 in
theorem gX8_hire_X2_note : GoodIn wsX8_hire (wsV RX8 62 RX2 yX2_note wsX2_note) := goodIn_app (goodIn_of _ (by decide +kernel)) ggX8_hire_X2_note
set_option maxRecDepth 20000 in
theorem ggX8_hire_X5_admit : GoodIn wsX8_hire wsX5_admit := goodIn_r _ [45, 32, 24, 29, 30, 31, 75, 76, 77, 78, 79] (by decide +kernel) (by decide +kernel)
set_option maxRecDepth 20000 in
theorem gX8_hire_X5_admit : GoodIn wsX8_hire (wsV RX8 77 RX5 yX5_admit wsX5_admit) := goodIn_app (goodIn_of _ (by decide +kernel)) ggX8_hire_X5_admit
set_option maxRecDepth 20000 in
theorem ggX8_hire_X8_recorded : GoodIn wsX8_hire wsX8_recorded := goodIn_r _ [50, 1, 51, 52, 53, 7, 54, 10, 55, 56, 57, 58, 59, 60, 61, 62, 63, 64, 65, 66, 67, 68, 72, 73, 74] (by decide +kernel) (by decide +kernel)
set_option maxRecDepth 20000 in
theorem gX8_hire_X8_recorded : GoodIn wsX8_hire (wsV RX8 70 RX8 yX8_recorded wsX8_recorded) := goodIn_app (goodIn_of _ (by decide +kernel)) ggX8_hire_X8_recorded
set_option maxRecDepth 20000 in
theorem ggX8_dismiss_X2_note : GoodIn wsX8_dismiss wsX2_note := goodIn_r _ [8, 9, 10, 11, 12, 13, 14, 15, 16, 17, 18, 19, 20, 21, 22, 23, 24, 25, 26, 27, 28, 29, 30, 31, 32, 33, 34, 35, 36, 37, 38, 39, 40, 41, 76, 77, 78, 73, 74, 75, 79, 80, 81, 82, 83, 84, 85, 86] (by decide +kernel) (by decide +kernel)
set_option maxRecDepth 20000 in
theorem gX8_dismiss_X2_note : GoodIn wsX8_dismiss (wsV RX8 62 RX2 yX2_note wsX2_note) := goodIn_app (goodIn_of _ (by decide +kernel)) ggX8_dismiss_X2_note
set_option maxRecDepth 20000 in
theorem ggX8_dismiss_X5_remove : GoodIn wsX8_dismiss wsX5_remove := goodIn_r _ [45, 32, 24, 29, 30, 31, 46, 47, 48, 22, 49, 79, 80, 81, 82, 83] (by decide +kernel) (by decide +kernel)
set_option maxRecDepth 20000 in
theorem gX8_dismiss_X5_remove : GoodIn wsX8_dismiss (wsV RX8 83 RX5 yX5_remove wsX5_remove) := goodIn_app (goodIn_of _ (by decide +kernel)) ggX8_dismiss_X5_remove
set_option maxRecDepth 20000 in
theorem ggX8_dismiss_X8_recorded : GoodIn wsX8_dismiss wsX8_recorded := goodIn_r _ [54, 1, 55, 56, 57, 7, 58, 10, 59, 60, 61, 62, 63, 64, 65, 66, 67, 68, 69, 70, 71, 72, 76, 77, 78] (by decide +kernel) (by decide +kernel)
set_option maxRecDepth 20000 in
theorem gX8_dismiss_X8_recorded : GoodIn wsX8_dismiss (wsV RX8 70 RX8 yX8_recorded wsX8_recorded) := goodIn_app (goodIn_of _ (by decide +kernel)) ggX8_dismiss_X8_recorded
set_option maxRecDepth 20000 in
theorem ggX8_refine_X2_note : GoodIn wsX8_refine wsX2_note := goodIn_r _ [7, 8, 9, 10, 11, 12, 13, 14, 15, 16, 17, 18, 19, 20, 21, 22, 23, 24, 25, 26, 27, 28, 29, 30, 31, 32, 33, 34, 35, 36, 37, 38, 39, 40, 122, 123, 124, 125, 126, 127, 128, 129, 130, 131, 132, 133, 134, 135] (by decide +kernel) (by decide +kernel)
set_option maxRecDepth 20000 in
theorem gX8_refine_X2_note : GoodIn wsX8_refine (wsV RX8 62 RX2 yX2_note wsX2_note) := goodIn_app (goodIn_of _ (by decide +kernel)) ggX8_refine_X2_note
set_option maxRecDepth 20000 in
theorem ggX8_refine_X8_splitPart : GoodIn wsX8_refine wsX8_splitPart := goodIn_r _ [45, 2, 46, 47, 48, 49, 50, 51, 52, 53, 35, 54, 40, 55, 56, 57, 58, 59, 60, 61, 62, 63, 64, 65, 66, 67, 68, 69, 70, 71, 72, 44, 73, 74, 75, 76, 77, 78, 79, 80, 81, 82, 83, 84, 85, 86, 87, 88, 89, 90, 91, 92, 93, 94, 95, 96, 97, 98, 99, 100, 37, 39, 113, 114, 115, 116, 117, 118, 119, 120, 121, 125, 126, 127, 133, 134, 135, 136] (by decide +kernel) (by decide +kernel)
set_option maxRecDepth 20000 in
theorem gX8_refine_X8_splitPart : GoodIn wsX8_refine (wsV RX8 86 RX8 yX8_splitPart wsX8_splitPart) := goodIn_app (goodIn_of _ (by decide +kernel)) ggX8_refine_X8_splitPart
set_option maxRecDepth 20000 in
theorem ggX8_refine_X8_recorded : GoodIn wsX8_refine wsX8_recorded := goodIn_r _ [104, 1, 105, 106, 107, 6, 108, 9, 109, 110, 111, 87, 112, 113, 114, 115, 116, 117, 118, 119, 120, 121, 122, 123, 124] (by decide +kernel) (by decide +kernel)
set_option maxRecDepth 20000 in
theorem gX8_refine_X8_recorded : GoodIn wsX8_refine (wsV RX8 70 RX8 yX8_recorded wsX8_recorded) := goodIn_app (goodIn_of _ (by decide +kernel)) ggX8_refine_X8_recorded
set_option maxRecDepth 20000 in
theorem ggX8_join_X2_note : GoodIn wsX8_join wsX2_note := goodIn_r _ [7, 8, 9, 10, 11, 12, 13, 14, 15, 16, 17, 18, 19, 20, 21, 22, 23, 24, 25, 26, 27, 28, 29, 30, 31, 32, 33, 34, 35, 36, 37, 38, 39, 40, 122, 123, 124, 125, 126, 127, 128, 129, 130, 131, 132, 133, 134, 135] (by decide +kernel) (by decide +kernel)
set_option maxRecDepth 20000 in
theorem gX8_join_X2_note : GoodIn wsX8_join (wsV RX8 62 RX2 yX2_note wsX2_note) := goodIn_app (goodIn_of _ (by decide +kernel)) ggX8_join_X2_note
set_option maxRecDepth 20000 in
theorem ggX8_join_X8_joinWithNext : GoodIn wsX8_join wsX8_joinWithNext := goodIn_r _ [45, 2, 46, 47, 48, 49, 50, 51, 52, 35, 53, 40, 54, 55, 56, 57, 58, 59, 60, 61, 62, 63, 64, 65, 66, 67, 68, 69, 70, 71, 44, 72, 73, 74, 75, 76, 77, 78, 79, 80, 81, 82, 83, 84, 85, 86, 87, 88, 89, 90, 91, 92, 93, 94, 95, 96, 97, 98, 99, 100, 37, 39, 113, 114, 115, 116, 117, 118, 119, 120, 121, 125, 126, 127, 133, 134, 135, 136] (by decide +kernel) (by decide +kernel)
set_option maxRecDepth 20000 in
theorem gX8_join_X8_joinWithNext : GoodIn wsX8_join (wsV RX8 90 RX8 yX8_joinWithNext wsX8_joinWithNext) := goodIn_app (goodIn_of _ (by decide +kernel)) ggX8_join_X8_joinWithNext
set_option maxRecDepth 20000 in
theorem ggX8_join_X8_recorded : GoodIn wsX8_join wsX8_recorded := goodIn_r _ [104, 1, 105, 106, 107, 6, 108, 9, 109, 110, 111, 87, 112, 113, 114, 115, 116, 117, 118, 119, 120, 121, 122, 123, 124] (by decide +kernel) (by decide +kernel)
set_option maxRecDepth 20000 in
theorem gX8_join_X8_recorded : GoodIn wsX8_join (wsV RX8 70 RX8 yX8_recorded wsX8_recorded) := goodIn_app (goodIn_of _ (by decide +kernel)) ggX8_join_X8_recorded
set_option maxRecDepth 20000 in
theorem ggX8_adopt_X2_note : GoodIn wsX8_adopt wsX2_note := goodIn_r _ [7, 8, 9, 10, 11, 12, 13, 14, 15, 16, 17, 18, 19, 20, 21, 22, 23, 24, 25, 26, 27, 28, 29, 30, 31, 32, 33, 34, 35, 36, 37, 38, 39, 40, 147, 148, 149, 150, 151, 152, 153, 154, 155, 156, 157, 158, 159, 160] (by decide +kernel) (by decide +kernel)
set_option maxRecDepth 20000 in
theorem gX8_adopt_X2_note : GoodIn wsX8_adopt (wsV RX8 62 RX2 yX2_note wsX2_note) := goodIn_app (goodIn_of _ (by decide +kernel)) ggX8_adopt_X2_note
set_option maxRecDepth 20000 in
theorem ggX8_adopt_X8_takeBest : GoodIn wsX8_adopt wsX8_takeBest := goodIn_r _ [45, 46, 2, 47, 48, 49, 50, 51, 52, 53, 54, 55, 56, 57, 58, 59, 60, 61, 62, 63, 64, 21, 65, 31, 30, 29, 66, 67, 68, 69, 28, 23, 70, 71, 72, 73, 74, 75, 76, 77, 78, 79, 80, 81, 82, 83, 84, 85, 86, 44, 87, 88, 89, 90, 91, 92, 93, 94, 95, 96, 97, 98, 99, 100, 101, 102, 103, 104, 105, 106, 107, 108, 109, 110, 111, 112, 113, 114, 115, 116, 117, 118, 119, 120, 121, 122, 123, 124, 35, 125, 40, 37, 39, 138, 139, 140, 141, 142, 143, 144, 145, 146, 150, 151, 152, 161, 162, 163, 164, 165, 166, 167, 153, 154, 155, 156, 157, 168, 158, 159, 160] (by decide +kernel) (by decide +kernel)
set_option maxRecDepth 20000 in
theorem gX8_adopt_X8_takeBest : GoodIn wsX8_adopt (wsV RX8 93 RX8 yX8_takeBest wsX8_takeBest) := goodIn_app (goodIn_of _ (by decide +kernel)) ggX8_adopt_X8_takeBest
set_option maxRecDepth 20000 in
theorem ggX8_adopt_X8_recorded : GoodIn wsX8_adopt wsX8_recorded := goodIn_r _ [129, 1, 130, 131, 132, 6, 133, 9, 134, 135, 136, 84, 137, 138, 139, 140, 141, 142, 143, 144, 145, 146, 147, 148, 149] (by decide +kernel) (by decide +kernel)
set_option maxRecDepth 20000 in
theorem gX8_adopt_X8_recorded : GoodIn wsX8_adopt (wsV RX8 70 RX8 yX8_recorded wsX8_recorded) := goodIn_app (goodIn_of _ (by decide +kernel)) ggX8_adopt_X8_recorded
set_option maxRecDepth 20000 in
theorem ggX8_receiver_X5_has : GoodIn wsX8_receiver wsX5_has := goodIn_r _ [11, 12, 35, 36, 37, 38, 39] (by decide +kernel) (by decide +kernel)
set_option maxRecDepth 20000 in
theorem gX8_receiver_X5_has : GoodIn wsX8_receiver (wsV RX8 97 RX5 yX5_has wsX5_has) := goodIn_app (goodIn_of _ (by decide +kernel)) ggX8_receiver_X5_has
set_option maxRecDepth 20000 in
theorem ggX8_receiver_X5_leastActing : GoodIn wsX8_receiver wsX5_leastActing := goodIn_r _ [16, 17, 18, 19, 10, 20, 21, 22, 35, 36, 37, 38, 39] (by decide +kernel) (by decide +kernel)
set_option maxRecDepth 20000 in
theorem gX8_receiver_X5_leastActing : GoodIn wsX8_receiver (wsV RX8 114 RX5 yX5_leastActing wsX5_leastActing) := goodIn_app (goodIn_of _ (by decide +kernel)) ggX8_receiver_X5_leastActing
set_option maxRecDepth 20000 in
theorem ggX8_part_X6_has : GoodIn wsX8_part wsX6_has := goodIn_r _ [10, 11, 42, 43, 44] (by decide +kernel) (by decide +kernel)
set_option maxRecDepth 20000 in
theorem gX8_part_X6_has : GoodIn wsX8_part (wsV RX8 121 RX6 yX6_has wsX6_has) := goodIn_app (goodIn_of _ (by decide +kernel)) ggX8_part_X6_has
set_option maxRecDepth 20000 in
theorem ggX8_part_X5_actingAt : GoodIn wsX8_part wsX5_actingAt := goodIn_r _ [16, 17, 18, 19, 20, 15, 21, 22, 23, 45, 46, 47, 48, 49] (by decide +kernel) (by decide +kernel)
set_option maxRecDepth 20000 in
theorem gX8_part_X5_actingAt : GoodIn wsX8_part (wsV RX8 130 RX5 yX5_actingAt wsX5_actingAt) := goodIn_app (goodIn_of _ (by decide +kernel)) ggX8_part_X5_actingAt
set_option maxRecDepth 20000 in
theorem ggX8_part_X5_valueAt : GoodIn wsX8_part wsX5_valueAt := goodIn_r _ [27, 17, 28, 29, 18, 19, 20, 15, 21, 22, 23, 45, 46, 47, 48, 49] (by decide +kernel) (by decide +kernel)
set_option maxRecDepth 20000 in
theorem gX8_part_X5_valueAt : GoodIn wsX8_part (wsV RX8 133 RX5 yX5_valueAt wsX5_valueAt) := goodIn_app (goodIn_of _ (by decide +kernel)) ggX8_part_X5_valueAt
set_option maxRecDepth 20000 in
theorem ggX8_value_X8_isPosterior : GoodIn wsX8_value wsX8_isPosterior := goodIn_r _ [6] (by decide +kernel) (by decide +kernel)
set_option maxRecDepth 20000 in
theorem gX8_value_X8_isPosterior : GoodIn wsX8_value (va_wsS RX8 136 yX8_isPosterior wsX8_isPosterior) := goodIn_app (goodIn_of _ (by decide +kernel)) ggX8_value_X8_isPosterior
set_option maxRecDepth 20000 in
theorem ggX8_value_X5_valueAt : GoodIn wsX8_value wsX5_valueAt := goodIn_r _ [11, 12, 13, 14, 15, 16, 17, 10, 18, 19, 20, 33, 34, 35, 36, 37] (by decide +kernel) (by decide +kernel)
set_option maxRecDepth 20000 in
theorem gX8_value_X5_valueAt : GoodIn wsX8_value (wsV RX8 133 RX5 yX5_valueAt wsX5_valueAt) := goodIn_app (goodIn_of _ (by decide +kernel)) ggX8_value_X5_valueAt
set_option maxRecDepth 20000 in
theorem ggX8_mean_X8_isHalfOfFraction : GoodIn wsX8_mean wsX8_isHalfOfFraction := goodIn_r _ [9] (by decide +kernel) (by decide +kernel)
set_option maxRecDepth 20000 in
theorem gX8_mean_X8_isHalfOfFraction : GoodIn wsX8_mean (va_wsS RX8 139 yX8_isHalfOfFraction wsX8_isHalfOfFraction) := goodIn_app (goodIn_of _ (by decide +kernel)) ggX8_mean_X8_isHalfOfFraction
set_option maxRecDepth 20000 in
theorem ggX8_mean_X7_tellMeanValue : GoodIn wsX8_mean wsX7_tellMeanValue := goodIn_r _ [14, 15, 16, 17, 18, 19, 20, 21, 22, 23, 24, 25, 26, 27, 28, 29, 30, 31, 32, 33, 34, 35, 36, 37, 38, 39, 40, 41, 42, 43, 44, 45, 46, 47, 48, 8, 49, 50, 51, 52, 53, 65, 66, 67, 68, 69, 70, 71, 72, 73, 74, 75, 63, 64] (by decide +kernel) (by decide +kernel)
set_option maxRecDepth 20000 in
theorem gX8_mean_X7_tellMeanValue : GoodIn wsX8_mean (wsV RX8 142 RX7 yX7_tellMeanValue wsX7_tellMeanValue) := goodIn_app (goodIn_of _ (by decide +kernel)) ggX8_mean_X7_tellMeanValue
set_option maxRecDepth 20000 in
theorem ggX8_worth_X5_has : GoodIn wsX8_worth wsX5_has := goodIn_r _ [10, 11, 69, 70, 71, 72, 73] (by decide +kernel) (by decide +kernel)
set_option maxRecDepth 20000 in
theorem gX8_worth_X5_has : GoodIn wsX8_worth (wsV RX8 97 RX5 yX5_has wsX5_has) := goodIn_app (goodIn_of _ (by decide +kernel)) ggX8_worth_X5_has
set_option maxRecDepth 20000 in
theorem ggX8_worth_X8_isHalfOfFraction : GoodIn wsX8_worth wsX8_isHalfOfFraction := goodIn_r _ [15] (by decide +kernel) (by decide +kernel)
set_option maxRecDepth 20000 in
theorem gX8_worth_X8_isHalfOfFraction : GoodIn wsX8_worth (va_wsS RX8 139 yX8_isHalfOfFraction wsX8_isHalfOfFraction) := goodIn_app (goodIn_of _ (by decide +kernel)) ggX8_worth_X8_isHalfOfFraction
set_option maxRecDepth 20000 in
theorem ggX8_worth_X7_tellMeanWorth : GoodIn wsX8_worth wsX7_tellMeanWorth := goodIn_r _ [20, 21, 22, 23, 24, 25, 26, 27, 28, 9, 29, 30, 31, 32, 33, 34, 35, 36, 37, 38, 39, 40, 41, 42, 43, 44, 45, 46, 47, 48, 49, 50, 14, 51, 52, 53, 54, 64, 65, 66, 74, 75, 76, 69, 70, 71, 72, 73, 67, 68] (by decide +kernel) (by decide +kernel)
set_option maxRecDepth 20000 in
theorem gX8_worth_X7_tellMeanWorth : GoodIn wsX8_worth (wsV RX8 154 RX7 yX7_tellMeanWorth wsX7_tellMeanWorth) := goodIn_app (goodIn_of _ (by decide +kernel)) ggX8_worth_X7_tellMeanWorth
set_option maxRecDepth 20000 in
theorem ggX8_count_X6_weightSum : GoodIn wsX8_count wsX6_weightSum := goodIn_r _ [15, 16, 17, 120, 121, 122] (by decide +kernel) (by decide +kernel)
set_option maxRecDepth 20000 in
theorem gX8_count_X6_weightSum : GoodIn wsX8_count (wsV RX8 167 RX6 yX6_weightSum wsX6_weightSum) := goodIn_app (goodIn_of _ (by decide +kernel)) ggX8_count_X6_weightSum
set_option maxRecDepth 20000 in
theorem ggX8_count_X8_meanIsEnvelope : GoodIn wsX8_count wsX8_meanIsEnvelope := goodIn_r _ [22, 1, 23, 2, 24, 25, 26, 27, 28, 29, 30, 31, 32, 33, 34, 35, 36, 37, 38, 39, 40, 41, 42, 43, 44, 45, 46, 47, 48, 49, 50, 51, 52, 12, 13, 14, 15, 16, 17, 53, 54, 55, 56, 57, 58, 59, 60, 21, 61, 62, 63, 64, 65, 66, 67, 68, 69, 3, 70, 71, 72, 73, 74, 75, 76, 77, 78, 79, 80, 81, 82, 83, 84, 85, 86, 87, 88, 89, 90, 91, 92, 93, 94, 95, 96, 97, 98, 99, 100, 101, 102, 103, 104, 105, 106, 107, 108, 109, 110, 111, 112, 113, 114, 132, 133, 120, 121, 122, 115, 116, 117, 118, 119, 134, 135, 136, 137, 138, 139, 140] (by decide +kernel) (by decide +kernel)
set_option maxRecDepth 20000 in
theorem gX8_count_X8_meanIsEnvelope : GoodIn wsX8_count (wsV RX8 170 RX8 yX8_meanIsEnvelope wsX8_meanIsEnvelope) := goodIn_app (goodIn_of _ (by decide +kernel)) ggX8_count_X8_meanIsEnvelope
set_option maxRecDepth 20000 in
theorem ggX8_envelope_X8_isPosterior : GoodIn wsX8_envelope wsX8_isPosterior := goodIn_r _ [9] (by decide +kernel) (by decide +kernel)
set_option maxRecDepth 20000 in
theorem gX8_envelope_X8_isPosterior : GoodIn wsX8_envelope (va_wsS RX8 136 yX8_isPosterior wsX8_isPosterior) := goodIn_app (goodIn_of _ (by decide +kernel)) ggX8_envelope_X8_isPosterior
set_option maxRecDepth 20000 in
theorem ggX8_envelope_X8_isHalfOfFraction : GoodIn wsX8_envelope wsX8_isHalfOfFraction := goodIn_r _ [12] (by decide +kernel) (by decide +kernel)
set_option maxRecDepth 20000 in
theorem gX8_envelope_X8_isHalfOfFraction : GoodIn wsX8_envelope (va_wsS RX8 139 yX8_isHalfOfFraction wsX8_isHalfOfFraction) := goodIn_app (goodIn_of _ (by decide +kernel)) ggX8_envelope_X8_isHalfOfFraction
set_option maxRecDepth 20000 in
theorem ggX8_envelope_X8_aimAt : GoodIn wsX8_envelope wsX8_aimAt := goodIn_r _ [16, 1, 17, 18, 19, 20, 21, 22, 23, 24, 25, 26, 27, 28, 29, 30, 31, 32, 33, 34, 35, 36, 37, 38, 39, 40, 41, 42, 43, 44, 45, 46, 47, 48, 49, 50, 51, 52, 53, 54, 55, 56, 57, 8, 58, 59, 60, 61, 77, 78, 79, 80, 81, 82, 83, 84, 85, 88, 89, 90, 91, 92, 93, 94, 95, 96, 97, 98, 99, 100, 101, 102] (by decide +kernel) (by decide +kernel)
set_option maxRecDepth 20000 in
theorem gX8_envelope_X8_aimAt : GoodIn wsX8_envelope (wsV RX8 180 RX8 yX8_aimAt wsX8_aimAt) := goodIn_app (goodIn_of _ (by decide +kernel)) ggX8_envelope_X8_aimAt
set_option maxRecDepth 20000 in
theorem ggX8_envelope_X0_tellEnvelope : GoodIn wsX8_envelope wsX0_tellEnvelope := goodIn_r _ [65, 51, 52, 66, 67, 68, 22, 69, 25, 49, 50, 70, 71, 72, 73, 74, 75, 76, 57, 8, 58, 59, 60, 55, 61, 91, 92, 93, 94, 95, 96, 97, 86, 87] (by decide +kernel) (by decide +kernel)
set_option maxRecDepth 20000 in
theorem gX8_envelope_X0_tellEnvelope : GoodIn wsX8_envelope (wsV RX8 184 RX0 yX0_tellEnvelope wsX0_tellEnvelope) := goodIn_app (goodIn_of _ (by decide +kernel)) ggX8_envelope_X0_tellEnvelope
set_option maxRecDepth 20000 in
theorem ggX8_best_X8_isPosterior : GoodIn wsX8_best wsX8_isPosterior := goodIn_r _ [9] (by decide +kernel) (by decide +kernel)
set_option maxRecDepth 20000 in
theorem gX8_best_X8_isPosterior : GoodIn wsX8_best (va_wsS RX8 136 yX8_isPosterior wsX8_isPosterior) := goodIn_app (goodIn_of _ (by decide +kernel)) ggX8_best_X8_isPosterior
set_option maxRecDepth 20000 in
theorem ggX8_best_X8_aimAt : GoodIn wsX8_best wsX8_aimAt := goodIn_r _ [13, 1, 14, 15, 16, 17, 18, 19, 20, 21, 22, 23, 24, 25, 26, 27, 28, 29, 30, 31, 32, 33, 34, 35, 36, 37, 38, 39, 40, 41, 42, 43, 44, 45, 46, 47, 48, 49, 50, 51, 52, 53, 54, 8, 55, 56, 57, 58, 59, 60, 61, 62, 63, 64, 65, 66, 67, 75, 76, 77, 68, 69, 70, 71, 72, 73, 74, 78, 79, 80, 81, 82] (by decide +kernel) (by decide +kernel)
set_option maxRecDepth 20000 in
theorem gX8_best_X8_aimAt : GoodIn wsX8_best (wsV RX8 180 RX8 yX8_aimAt wsX8_aimAt) := goodIn_app (goodIn_of _ (by decide +kernel)) ggX8_best_X8_aimAt
set_option maxRecDepth 20000 in
theorem ggX8_mostGained_X8_findMostGained : GoodIn wsX8_mostGained wsX8_findMostGained := goodIn_r _ [8, 9, 10, 11, 1, 12, 2, 3, 13, 14, 15, 16, 17, 18, 19, 20, 21, 22, 23, 24, 25, 26, 27, 28, 29, 30, 31, 32, 33, 34, 35, 36, 37, 38, 39, 40, 41, 42, 43, 44, 45, 46, 7, 47, 48, 49, 50, 51, 52, 53, 54, 55, 56, 57, 58, 59, 60, 61, 62, 63, 64, 65, 66, 67, 68, 69, 70, 71, 72, 73, 74, 75, 76, 77, 78, 79, 80, 81, 82, 83, 84, 87, 88, 89, 85, 86, 90, 91, 92, 93, 94, 95, 96, 97, 98, 99, 100, 101] (by decide +kernel) (by decide +kernel)
set_option maxRecDepth 20000 in
theorem gX8_mostGained_X8_findMostGained : GoodIn wsX8_mostGained (wsV RX8 199 RX8 yX8_findMostGained wsX8_findMostGained) := goodIn_app (goodIn_of _ (by decide +kernel)) ggX8_mostGained_X8_findMostGained
set_option maxRecDepth 20000 in
theorem ggX8_put_X4_append : GoodIn wsX8_put wsX4_append := goodIn_r _ [6, 7, 8, 9, 19, 20, 21, 22, 23, 24] (by decide +kernel) (by decide +kernel)
set_option maxRecDepth 20000 in
theorem gX8_put_X4_append : GoodIn wsX8_put (wsV RX8 202 RX4 yX4_append wsX4_append) := goodIn_app (goodIn_of _ (by decide +kernel)) ggX8_put_X4_append
set_option maxRecDepth 20000 in
theorem ggX8_fault_X4_firstFault : GoodIn wsX8_fault wsX4_firstFault := goodIn_r _ [6, 7, 8, 9, 10, 11, 5, 12, 13, 14, 15, 16, 17, 18, 19, 20, 21, 22, 23, 24, 25, 26, 27, 28, 29, 30, 31, 32, 33, 34, 35, 36, 37, 38, 39, 40, 41, 42, 43, 44, 45, 46, 47, 57, 58, 59, 60, 61, 62] (by decide +kernel) (by decide +kernel)
set_option maxRecDepth 20000 in
theorem gX8_fault_X4_firstFault : GoodIn wsX8_fault (wsV RX8 206 RX4 yX4_firstFault wsX4_firstFault) := goodIn_app (goodIn_of _ (by decide +kernel)) ggX8_fault_X4_firstFault
set_option maxRecDepth 20000 in
theorem ggX8_carryOut_X4_firstFault : GoodIn wsX8_carryOut wsX4_firstFault := goodIn_r _ [9, 10, 11, 12, 13, 14, 8, 15, 16, 17, 18, 19, 20, 21, 22, 23, 24, 25, 26, 27, 28, 29, 30, 31, 32, 33, 34, 35, 36, 37, 38, 39, 40, 41, 42, 43, 44, 45, 46, 47, 48, 49, 50, 241, 242, 243, 244, 245, 246] (by decide +kernel) (by decide +kernel)
set_option maxRecDepth 20000 in
theorem gX8_carryOut_X4_firstFault : GoodIn wsX8_carryOut (wsV RX8 206 RX4 yX4_firstFault wsX4_firstFault) := goodIn_app (goodIn_of _ (by decide +kernel)) ggX8_carryOut_X4_firstFault
set_option maxRecDepth 20000 in
theorem ggX8_carryOut_X2_note : GoodIn wsX8_carryOut wsX2_note := goodIn_r _ [55, 56, 57, 58, 59, 60, 61, 62, 63, 64, 65, 66, 67, 68, 69, 70, 71, 72, 73, 74, 75, 76, 77, 78, 79, 80, 81, 82, 83, 84, 85, 86, 87, 88, 247, 248, 249, 250, 251, 252, 253, 254, 255, 256, 257, 258, 259, 260] (by decide +kernel) (by decide +kernel)
set_option maxRecDepth 20000 in
theorem gX8_carryOut_X2_note : GoodIn wsX8_carryOut (wsV RX8 62 RX2 yX2_note wsX2_note) := goodIn_app (goodIn_of _ (by decide +kernel)) ggX8_carryOut_X2_note
set_option maxRecDepth 20000 in
theorem ggX8_carryOut_X8_obeyAll : GoodIn wsX8_carryOut wsX8_obeyAll := goodIn_r _ [93, 1, 94, 4, 95, 13, 14, 8, 15, 10, 16, 17, 18, 19, 20, 21, 22, 23, 24, 25, 11, 26, 27, 28, 29, 30, 31, 32, 33, 34, 35, 36, 37, 38, 39, 40, 41, 42, 43, 44, 45, 46, 47, 48, 49, 50, 96, 97, 98, 92, 99, 100, 3, 101, 102, 103, 104, 105, 106, 107, 108, 69, 109, 79, 71, 76, 77, 78, 110, 111, 112, 113, 114, 115, 116, 117, 118, 119, 120, 61, 121, 65, 64, 122, 123, 124, 83, 125, 88, 126, 127, 128, 129, 85, 87, 130, 131, 132, 133, 134, 135, 136, 137, 138, 139, 140, 141, 142, 143, 144, 145, 146, 147, 148, 149, 150, 151, 152, 153, 154, 155, 156, 157, 158, 159, 160, 161, 162, 163, 164, 165, 166, 167, 168, 169, 170, 171, 172, 173, 174, 175, 176, 177, 178, 179, 180, 181, 182, 183, 184, 185, 186, 187, 188, 189, 190, 191, 192, 193, 194, 195, 196, 197, 198, 199, 200, 201, 202, 203, 204, 205, 206, 207, 208, 209, 210, 211, 212, 213, 214, 215, 216, 217, 218, 219, 232, 233, 234, 235, 236, 237, 238, 239, 240, 241, 242, 243, 244, 245, 246, 250, 251, 252, 253, 254, 255, 256, 257, 258, 259, 260, 261, 262, 263, 264, 265, 266, 267, 268] (by decide +kernel) (by decide +kernel)
set_option maxRecDepth 20000 in
theorem gX8_carryOut_X8_obeyAll : GoodIn wsX8_carryOut (wsV RX8 209 RX8 yX8_obeyAll wsX8_obeyAll) := goodIn_app (goodIn_of _ (by decide +kernel)) ggX8_carryOut_X8_obeyAll
set_option maxRecDepth 20000 in
theorem ggX8_carryOut_X8_recorded : GoodIn wsX8_carryOut wsX8_recorded := goodIn_r _ [223, 2, 224, 225, 226, 54, 227, 57, 228, 229, 230, 158, 231, 232, 233, 234, 235, 236, 237, 238, 239, 240, 247, 248, 249] (by decide +kernel) (by decide +kernel)
set_option maxRecDepth 20000 in
theorem gX8_carryOut_X8_recorded : GoodIn wsX8_carryOut (wsV RX8 70 RX8 yX8_recorded wsX8_recorded) := goodIn_app (goodIn_of _ (by decide +kernel)) ggX8_carryOut_X8_recorded
set_option maxRecDepth 20000 in
theorem ggX8_undo_X2_takeBack : GoodIn wsX8_undo wsX2_takeBack := goodIn_r _ [8, 9, 10, 11, 12, 13, 14, 15, 16, 17, 18, 19, 20, 21, 22, 23, 24, 25, 26, 27, 28, 29, 30, 31, 32, 33, 34, 35, 36, 37, 38, 39, 40, 41, 42, 52, 53, 54, 55, 56, 57, 58, 59, 60, 61, 62, 63, 64, 65] (by decide +kernel) (by decide +kernel)
set_option maxRecDepth 20000 in
theorem gX8_undo_X2_takeBack : GoodIn wsX8_undo (wsV RX8 212 RX2 yX2_takeBack wsX2_takeBack) := goodIn_app (goodIn_of _ (by decide +kernel)) ggX8_undo_X2_takeBack
set_option maxRecDepth 20000 in
theorem ggX8_save_X8_isSlot : GoodIn wsX8_save wsX8_isSlot := goodIn_r _ [8] (by decide +kernel) (by decide +kernel)
set_option maxRecDepth 20000 in
theorem gX8_save_X8_isSlot : GoodIn wsX8_save (va_wsS RX8 215 yX8_isSlot wsX8_isSlot) := goodIn_app (goodIn_of _ (by decide +kernel)) ggX8_save_X8_isSlot
set_option maxRecDepth 20000 in
theorem ggX8_save_X7_copyFrom : GoodIn wsX8_save wsX7_copyFrom := goodIn_r _ [13, 14, 15, 16, 17, 18, 19, 20, 21, 22, 23, 24, 25, 26, 27, 28, 29, 30, 31, 32, 33, 34, 35, 36, 37, 38, 39, 49, 50, 51, 52, 53, 54, 55, 56, 57, 58, 59] (by decide +kernel) (by decide +kernel)
set_option maxRecDepth 20000 in
theorem gX8_save_X7_copyFrom : GoodIn wsX8_save (wsV RX8 218 RX7 yX7_copyFrom wsX7_copyFrom) := goodIn_app (goodIn_of _ (by decide +kernel)) ggX8_save_X7_copyFrom
set_option maxRecDepth 20000 in
theorem ggX8_restore_X8_isSlot : GoodIn wsX8_restore wsX8_isSlot := goodIn_r _ [9] (by decide +kernel) (by decide +kernel)
set_option maxRecDepth 20000 in
theorem gX8_restore_X8_isSlot : GoodIn wsX8_restore (va_wsS RX8 215 yX8_isSlot wsX8_isSlot) := goodIn_app (goodIn_of _ (by decide +kernel)) ggX8_restore_X8_isSlot
set_option maxRecDepth 20000 in
theorem ggX8_restore_X2_note : GoodIn wsX8_restore wsX2_note := goodIn_r _ [14, 15, 16, 17, 18, 19, 20, 21, 22, 23, 24, 25, 26, 27, 28, 29, 30, 31, 32, 33, 34, 35, 36, 37, 38, 39, 40, 41, 42, 43, 44, 45, 46, 47, 74, 75, 76, 71, 72, 73, 77, 78, 79, 80, 81, 82, 83, 84] (by decide +kernel) (by decide +kernel)
set_option maxRecDepth 20000 in
theorem gX8_restore_X2_note : GoodIn wsX8_restore (wsV RX8 62 RX2 yX2_note wsX2_note) := goodIn_app (goodIn_of _ (by decide +kernel)) ggX8_restore_X2_note
set_option maxRecDepth 20000 in
theorem ggX8_restore_X7_copyFrom : GoodIn wsX8_restore wsX7_copyFrom := goodIn_r _ [21, 22, 23, 24, 25, 26, 27, 28, 29, 30, 31, 32, 33, 34, 35, 36, 37, 38, 39, 40, 41, 42, 43, 44, 45, 46, 47, 71, 72, 73, 77, 78, 79, 80, 81, 82, 83, 84] (by decide +kernel) (by decide +kernel)
set_option maxRecDepth 20000 in
theorem gX8_restore_X7_copyFrom : GoodIn wsX8_restore (wsV RX8 218 RX7 yX7_copyFrom wsX7_copyFrom) := goodIn_app (goodIn_of _ (by decide +kernel)) ggX8_restore_X7_copyFrom
set_option maxRecDepth 20000 in
theorem ggX8_restore_X8_recorded : GoodIn wsX8_restore wsX8_recorded := goodIn_r _ [52, 2, 53, 54, 55, 13, 56, 16, 57, 58, 59, 60, 61, 62, 63, 64, 65, 66, 67, 68, 69, 70, 74, 75, 76] (by decide +kernel) (by decide +kernel)
set_option maxRecDepth 20000 in
theorem gX8_restore_X8_recorded : GoodIn wsX8_restore (wsV RX8 70 RX8 yX8_recorded wsX8_recorded) := goodIn_app (goodIn_of _ (by decide +kernel)) ggX8_restore_X8_recorded
set_option maxRecDepth 20000 in
theorem ggX8_recorded_X2_keep : GoodIn wsX8_recorded wsX2_keep := goodIn_r _ [6, 7, 8, 9, 10, 11, 12, 22, 23, 24] (by decide +kernel) (by decide +kernel)
set_option maxRecDepth 20000 in
theorem gX8_recorded_X2_keep : GoodIn wsX8_recorded (wsV RX8 221 RX2 yX2_keep wsX2_keep) := goodIn_app (goodIn_of _ (by decide +kernel)) ggX8_recorded_X2_keep
set_option maxRecDepth 20000 in
theorem ggX8_splitPart_X6_has : GoodIn wsX8_splitPart wsX6_has := goodIn_r _ [11, 12, 74, 75, 76] (by decide +kernel) (by decide +kernel)
set_option maxRecDepth 20000 in
theorem gX8_splitPart_X6_has : GoodIn wsX8_splitPart (wsV RX8 121 RX6 yX6_has wsX6_has) := goodIn_app (goodIn_of _ (by decide +kernel)) ggX8_splitPart_X6_has
set_option maxRecDepth 20000 in
theorem ggX8_splitPart_X3_gather : GoodIn wsX8_splitPart wsX3_gather := goodIn_r _ [17, 18, 19, 20, 21, 22, 23, 16, 24, 25, 26, 27, 28, 29, 30, 31, 32, 74, 75, 76, 77] (by decide +kernel) (by decide +kernel)
set_option maxRecDepth 20000 in
theorem gX8_splitPart_X3_gather : GoodIn wsX8_splitPart (wsV RX8 224 RX3 yX3_gather wsX3_gather) := goodIn_app (goodIn_of _ (by decide +kernel)) ggX8_splitPart_X3_gather
set_option maxRecDepth 20000 in
theorem ggX8_splitPart_X3_add : GoodIn wsX8_splitPart wsX3_add := goodIn_r _ [29, 25, 30, 31, 32, 77] (by decide +kernel) (by decide +kernel)
set_option maxRecDepth 20000 in
theorem gX8_splitPart_X3_add : GoodIn wsX8_splitPart (wsV RX8 228 RX3 yX3_add wsX3_add) := goodIn_app (goodIn_of _ (by decide +kernel)) ggX8_splitPart_X3_add
set_option maxRecDepth 20000 in
theorem ggX8_splitPart_X8_takeMix : GoodIn wsX8_splitPart wsX8_takeMix := goodIn_r _ [37, 6, 1, 2, 4, 38, 39, 40, 16, 41, 25, 42, 31, 43, 44, 45, 46, 47, 48, 49, 50, 51, 52, 53, 54, 55, 18, 56, 57, 58, 10, 59, 12, 60, 61, 62, 63, 64, 65, 66, 67, 68, 69, 70, 71, 72, 73, 74, 75, 76, 77] (by decide +kernel) (by decide +kernel)
set_option maxRecDepth 20000 in
theorem gX8_splitPart_X8_takeMix : GoodIn wsX8_splitPart (wsV RX8 232 RX8 yX8_takeMix wsX8_takeMix) := goodIn_app (goodIn_of _ (by decide +kernel)) ggX8_splitPart_X8_takeMix
set_option maxRecDepth 20000 in
theorem ggX8_joinWithNext_X6_has : GoodIn wsX8_joinWithNext wsX6_has := goodIn_r _ [10, 11, 74, 75, 76] (by decide +kernel) (by decide +kernel)
set_option maxRecDepth 20000 in
theorem gX8_joinWithNext_X6_has : GoodIn wsX8_joinWithNext (wsV RX8 121 RX6 yX6_has wsX6_has) := goodIn_app (goodIn_of _ (by decide +kernel)) ggX8_joinWithNext_X6_has
set_option maxRecDepth 20000 in
theorem ggX8_joinWithNext_X3_gather : GoodIn wsX8_joinWithNext wsX3_gather := goodIn_r _ [16, 17, 18, 19, 20, 21, 22, 15, 23, 24, 25, 26, 27, 28, 29, 30, 31, 74, 75, 76, 77] (by decide +kernel) (by decide +kernel)
set_option maxRecDepth 20000 in
theorem gX8_joinWithNext_X3_gather : GoodIn wsX8_joinWithNext (wsV RX8 224 RX3 yX3_gather wsX3_gather) := goodIn_app (goodIn_of _ (by decide +kernel)) ggX8_joinWithNext_X3_gather
set_option maxRecDepth 20000 in
theorem ggX8_joinWithNext_X3_add : GoodIn wsX8_joinWithNext wsX3_add := goodIn_r _ [28, 24, 29, 30, 31, 77] (by decide +kernel) (by decide +kernel)
set_option maxRecDepth 20000 in
theorem gX8_joinWithNext_X3_add : GoodIn wsX8_joinWithNext (wsV RX8 228 RX3 yX3_add wsX3_add) := goodIn_app (goodIn_of _ (by decide +kernel)) ggX8_joinWithNext_X3_add
set_option maxRecDepth 20000 in
theorem ggX8_joinWithNext_X8_takeMix : GoodIn wsX8_joinWithNext wsX8_takeMix := goodIn_r _ [36, 5, 1, 2, 37, 38, 39, 40, 15, 41, 24, 42, 30, 43, 44, 45, 46, 47, 48, 49, 50, 51, 52, 53, 54, 55, 17, 56, 57, 58, 9, 59, 11, 60, 61, 62, 63, 64, 65, 66, 67, 68, 69, 70, 71, 72, 73, 74, 75, 76, 77] (by decide +kernel) (by decide +kernel)
set_option maxRecDepth 20000 in
theorem gX8_joinWithNext_X8_takeMix : GoodIn wsX8_joinWithNext (wsV RX8 232 RX8 yX8_takeMix wsX8_takeMix) := goodIn_app (goodIn_of _ (by decide +kernel)) ggX8_joinWithNext_X8_takeMix
set_option maxRecDepth 20000 in
theorem ggX8_takeBest_X0_draw : GoodIn wsX8_takeBest wsX0_draw := goodIn_r _ [14, 15, 16, 17, 18, 19, 20, 21, 22, 23, 24, 25, 26, 27, 28, 29, 30, 31, 32, 33, 34, 13, 35, 105, 106, 107, 108, 109, 110, 111, 112, 113, 114, 115, 116] (by decide +kernel) (by decide +kernel)
set_option maxRecDepth 20000 in
theorem gX8_takeBest_X0_draw : GoodIn wsX8_takeBest (wsV RX8 235 RX0 yX0_draw wsX0_draw) := goodIn_app (goodIn_of _ (by decide +kernel)) ggX8_takeBest_X0_draw
set_option maxRecDepth 20000 in
theorem ggX8_takeBest_X0_aim : GoodIn wsX8_takeBest wsX0_aim := goodIn_r _ [39, 15, 17, 40, 41, 42, 43, 44, 45, 46, 47, 32, 33, 34, 13, 35, 16, 48, 49, 50, 51, 52, 53, 105, 106, 107, 108, 109, 110, 111] (by decide +kernel) (by decide +kernel)
set_option maxRecDepth 20000 in
theorem gX8_takeBest_X0_aim : GoodIn wsX8_takeBest (wsV RX8 239 RX0 yX0_aim wsX0_aim) := goodIn_app (goodIn_of _ (by decide +kernel)) ggX8_takeBest_X0_aim
set_option maxRecDepth 20000 in
theorem ggX8_takeBest_X3_clear : GoodIn wsX8_takeBest wsX3_clear := goodIn_r _ [58, 59, 117] (by decide +kernel) (by decide +kernel)
set_option maxRecDepth 20000 in
theorem gX8_takeBest_X3_clear : GoodIn wsX8_takeBest (wsV RX8 242 RX3 yX3_clear wsX3_clear) := goodIn_app (goodIn_of _ (by decide +kernel)) ggX8_takeBest_X3_clear
set_option maxRecDepth 20000 in
theorem ggX8_takeBest_X3_add : GoodIn wsX8_takeBest wsX3_add := goodIn_r _ [63, 59, 64, 49, 65, 117] (by decide +kernel) (by decide +kernel)
set_option maxRecDepth 20000 in
theorem gX8_takeBest_X3_add : GoodIn wsX8_takeBest (wsV RX8 228 RX3 yX3_add wsX3_add) := goodIn_app (goodIn_of _ (by decide +kernel)) ggX8_takeBest_X3_add
set_option maxRecDepth 20000 in
theorem ggX8_takeBest_X8_takeMix : GoodIn wsX8_takeBest wsX8_takeMix := goodIn_r _ [69, 5, 2, 70, 71, 72, 73, 74, 57, 75, 59, 48, 49, 50, 51, 52, 46, 53, 76, 77, 78, 79, 80, 81, 82, 83, 84, 85, 86, 87, 88, 89, 90, 91, 92, 93, 94, 95, 96, 97, 98, 99, 100, 101, 102, 103, 104, 118, 119, 120, 117] (by decide +kernel) (by decide +kernel)
set_option maxRecDepth 20000 in
theorem gX8_takeBest_X8_takeMix : GoodIn wsX8_takeBest (wsV RX8 232 RX8 yX8_takeMix wsX8_takeMix) := goodIn_app (goodIn_of _ (by decide +kernel)) ggX8_takeBest_X8_takeMix
set_option maxRecDepth 20000 in
theorem ggX8_takeTold_X3_clear : GoodIn wsX8_takeTold wsX3_clear := goodIn_r _ [10, 11, 82] (by decide +kernel) (by decide +kernel)
set_option maxRecDepth 20000 in
theorem gX8_takeTold_X3_clear : GoodIn wsX8_takeTold (wsV RX8 242 RX3 yX3_clear wsX3_clear) := goodIn_app (goodIn_of _ (by decide +kernel)) ggX8_takeTold_X3_clear
set_option maxRecDepth 20000 in
theorem ggX8_takeTold_X4_number : GoodIn wsX8_takeTold wsX4_number := goodIn_r _ [16, 17, 18, 73, 74, 75, 76, 77, 78] (by decide +kernel) (by decide +kernel)
set_option maxRecDepth 20000 in
theorem gX8_takeTold_X4_number : GoodIn wsX8_takeTold (wsV RX8 248 RX4 yX4_number wsX4_number) := goodIn_app (goodIn_of _ (by decide +kernel)) ggX8_takeTold_X4_number
set_option maxRecDepth 20000 in
theorem ggX8_takeTold_X8_isPosterior : GoodIn wsX8_takeTold wsX8_isPosterior := goodIn_r _ [22] (by decide +kernel) (by decide +kernel)
set_option maxRecDepth 20000 in
theorem gX8_takeTold_X8_isPosterior : GoodIn wsX8_takeTold (va_wsS RX8 136 yX8_isPosterior wsX8_isPosterior) := goodIn_app (goodIn_of _ (by decide +kernel)) ggX8_takeTold_X8_isPosterior
set_option maxRecDepth 20000 in
theorem ggX8_takeTold_X3_add : GoodIn wsX8_takeTold wsX3_add := goodIn_r _ [26, 11, 20, 21, 22, 82] (by decide +kernel) (by decide +kernel)
set_option maxRecDepth 20000 in
theorem gX8_takeTold_X3_add : GoodIn wsX8_takeTold (wsV RX8 228 RX3 yX3_add wsX3_add) := goodIn_app (goodIn_of _ (by decide +kernel)) ggX8_takeTold_X3_add
set_option maxRecDepth 20000 in
theorem ggX8_takeTold_X3_reduce : GoodIn wsX8_takeTold wsX3_reduce := goodIn_r _ [30, 11, 31, 21, 32, 33, 34, 35, 36, 82] (by decide +kernel) (by decide +kernel)
set_option maxRecDepth 20000 in
theorem gX8_takeTold_X3_reduce : GoodIn wsX8_takeTold (wsV RX8 250 RX3 yX3_reduce wsX3_reduce) := goodIn_app (goodIn_of _ (by decide +kernel)) ggX8_takeTold_X3_reduce
set_option maxRecDepth 20000 in
theorem ggX8_takeTold_X3_fits : GoodIn wsX8_takeTold wsX3_fits := goodIn_r _ [40, 11, 82] (by decide +kernel) (by decide +kernel)
set_option maxRecDepth 20000 in
theorem gX8_takeTold_X3_fits : GoodIn wsX8_takeTold (wsV RX8 253 RX3 yX3_fits wsX3_fits) := goodIn_app (goodIn_of _ (by decide +kernel)) ggX8_takeTold_X3_fits
set_option maxRecDepth 20000 in
theorem ggX8_takeTold_X3_averagesTo : GoodIn wsX8_takeTold wsX3_averagesTo := goodIn_r _ [44, 11, 82] (by decide +kernel) (by decide +kernel)
set_option maxRecDepth 20000 in
theorem gX8_takeTold_X3_averagesTo : GoodIn wsX8_takeTold (wsV RX8 256 RX3 yX3_averagesTo wsX3_averagesTo) := goodIn_app (goodIn_of _ (by decide +kernel)) ggX8_takeTold_X3_averagesTo
set_option maxRecDepth 20000 in
theorem ggX8_takeTold_X8_takeMix : GoodIn wsX8_takeTold wsX8_takeMix := goodIn_r _ [48, 1, 4, 49, 50, 27, 28, 29, 9, 30, 11, 31, 21, 32, 33, 34, 35, 36, 37, 38, 39, 40, 51, 52, 53, 54, 55, 56, 57, 58, 59, 60, 61, 62, 63, 64, 65, 66, 67, 68, 69, 70, 71, 72, 79, 80, 81, 83, 84, 85, 82] (by decide +kernel) (by decide +kernel)
set_option maxRecDepth 20000 in
theorem gX8_takeTold_X8_takeMix : GoodIn wsX8_takeTold (wsV RX8 232 RX8 yX8_takeMix wsX8_takeMix) := goodIn_app (goodIn_of _ (by decide +kernel)) ggX8_takeTold_X8_takeMix
set_option maxRecDepth 20000 in
theorem ggX8_takeMix_X3_reduce : GoodIn wsX8_takeMix wsX3_reduce := goodIn_r _ [9, 10, 11, 12, 13, 14, 15, 16, 17, 50] (by decide +kernel) (by decide +kernel)
set_option maxRecDepth 20000 in
theorem gX8_takeMix_X3_reduce : GoodIn wsX8_takeMix (wsV RX8 250 RX3 yX3_reduce wsX3_reduce) := goodIn_app (goodIn_of _ (by decide +kernel)) ggX8_takeMix_X3_reduce
set_option maxRecDepth 20000 in
theorem ggX8_takeMix_X3_fits : GoodIn wsX8_takeMix wsX3_fits := goodIn_r _ [21, 10, 50] (by decide +kernel) (by decide +kernel)
set_option maxRecDepth 20000 in
theorem gX8_takeMix_X3_fits : GoodIn wsX8_takeMix (wsV RX8 253 RX3 yX3_fits wsX3_fits) := goodIn_app (goodIn_of _ (by decide +kernel)) ggX8_takeMix_X3_fits
set_option maxRecDepth 20000 in
theorem ggX8_takeMix_X3_pourInto : GoodIn wsX8_takeMix wsX3_pourInto := goodIn_r _ [25, 26, 10, 27, 28, 29, 30, 31, 32, 33, 34, 47, 48, 49, 50] (by decide +kernel) (by decide +kernel)
set_option maxRecDepth 20000 in
theorem gX8_takeMix_X3_pourInto : GoodIn wsX8_takeMix (wsV RX8 259 RX3 yX3_pourInto wsX3_pourInto) := goodIn_app (goodIn_of _ (by decide +kernel)) ggX8_takeMix_X3_pourInto
set_option maxRecDepth 20000 in
theorem ggX8_aimAt_X0_draw : GoodIn wsX8_aimAt wsX0_draw := goodIn_r _ [8, 9, 10, 11, 12, 13, 14, 15, 16, 17, 18, 19, 20, 21, 22, 23, 24, 25, 26, 27, 28, 7, 29, 60, 61, 62, 63, 64, 65, 66, 67, 68, 69, 70, 71] (by decide +kernel) (by decide +kernel)
set_option maxRecDepth 20000 in
theorem gX8_aimAt_X0_draw : GoodIn wsX8_aimAt (wsV RX8 235 RX0 yX0_draw wsX0_draw) := goodIn_app (goodIn_of _ (by decide +kernel)) ggX8_aimAt_X0_draw
set_option maxRecDepth 20000 in
theorem ggX8_aimAt_X0_aim : GoodIn wsX8_aimAt wsX0_aim := goodIn_r _ [33, 9, 11, 34, 35, 36, 37, 38, 39, 40, 41, 26, 27, 28, 7, 29, 10, 42, 43, 44, 45, 46, 47, 60, 61, 62, 63, 64, 65, 66] (by decide +kernel) (by decide +kernel)
set_option maxRecDepth 20000 in
theorem gX8_aimAt_X0_aim : GoodIn wsX8_aimAt (wsV RX8 239 RX0 yX0_aim wsX0_aim) := goodIn_app (goodIn_of _ (by decide +kernel)) ggX8_aimAt_X0_aim
set_option maxRecDepth 20000 in
theorem ggX8_meanIsEnvelope_X7_tellMeanValue : GoodIn wsX8_meanIsEnvelope wsX7_tellMeanValue := goodIn_r _ [12, 13, 14, 15, 16, 17, 18, 19, 20, 21, 22, 23, 24, 25, 26, 27, 28, 29, 30, 31, 32, 33, 34, 35, 36, 37, 38, 39, 40, 41, 42, 43, 44, 45, 46, 47, 48, 49, 50, 51, 52, 100, 101, 102, 105, 106, 107, 108, 109, 110, 111, 112, 103, 104] (by decide +kernel) (by decide +kernel)
set_option maxRecDepth 20000 in
theorem gX8_meanIsEnvelope_X7_tellMeanValue : GoodIn wsX8_meanIsEnvelope (wsV RX8 142 RX7 yX7_tellMeanValue wsX7_tellMeanValue) := goodIn_app (goodIn_of _ (by decide +kernel)) ggX8_meanIsEnvelope_X7_tellMeanValue
set_option maxRecDepth 20000 in
theorem ggX8_meanIsEnvelope_X8_aimAt : GoodIn wsX8_meanIsEnvelope wsX8_aimAt := goodIn_r _ [56, 4, 1, 57, 58, 59, 60, 61, 62, 63, 64, 65, 66, 19, 20, 21, 22, 23, 24, 25, 26, 27, 28, 29, 30, 31, 67, 68, 69, 70, 71, 72, 73, 74, 75, 76, 77, 78, 79, 80, 51, 81, 46, 47, 48, 49, 50, 52, 91, 92, 93, 94, 95, 96, 97, 98, 99, 100, 101, 102, 113, 114, 115, 116, 117, 118, 119, 108, 109, 110, 111, 112] (by decide +kernel) (by decide +kernel)
set_option maxRecDepth 20000 in
theorem gX8_meanIsEnvelope_X8_aimAt : GoodIn wsX8_meanIsEnvelope (wsV RX8 180 RX8 yX8_aimAt wsX8_aimAt) := goodIn_app (goodIn_of _ (by decide +kernel)) ggX8_meanIsEnvelope_X8_aimAt
set_option maxRecDepth 20000 in
theorem ggX8_meanIsEnvelope_X0_tellEnvelope : GoodIn wsX8_meanIsEnvelope wsX0_tellEnvelope := goodIn_r _ [85, 77, 78, 86, 87, 88, 61, 89, 64, 75, 76, 90, 40, 41, 42, 43, 44, 45, 46, 47, 48, 49, 50, 51, 52, 113, 114, 115, 116, 117, 118, 119, 103, 104] (by decide +kernel) (by decide +kernel)
set_option maxRecDepth 20000 in
theorem gX8_meanIsEnvelope_X0_tellEnvelope : GoodIn wsX8_meanIsEnvelope (wsV RX8 184 RX0 yX0_tellEnvelope wsX0_tellEnvelope) := goodIn_app (goodIn_of _ (by decide +kernel)) ggX8_meanIsEnvelope_X0_tellEnvelope
set_option maxRecDepth 20000 in
theorem ggX8_findMostGained_X0_draw : GoodIn wsX8_findMostGained wsX0_draw := goodIn_r _ [12, 13, 14, 15, 16, 17, 18, 19, 20, 21, 22, 23, 24, 25, 26, 27, 28, 29, 30, 31, 32, 11, 33, 86, 87, 88, 89, 90, 91, 92, 93, 94, 95, 96, 97] (by decide +kernel) (by decide +kernel)
set_option maxRecDepth 20000 in
theorem gX8_findMostGained_X0_draw : GoodIn wsX8_findMostGained (wsV RX8 235 RX0 yX0_draw wsX0_draw) := goodIn_app (goodIn_of _ (by decide +kernel)) ggX8_findMostGained_X0_draw
set_option maxRecDepth 20000 in
theorem ggX8_findMostGained_X1_become : GoodIn wsX8_findMostGained wsX1_become := goodIn_r _ [38, 39, 40, 41, 42, 43, 44, 45, 46, 47, 84, 85] (by decide +kernel) (by decide +kernel)
set_option maxRecDepth 20000 in
theorem gX8_findMostGained_X1_become : GoodIn wsX8_findMostGained (wsV RX8 263 RX1 yX1_become wsX1_become) := goodIn_app (goodIn_of _ (by decide +kernel)) ggX8_findMostGained_X1_become
set_option maxRecDepth 20000 in
theorem ggX8_findMostGained_X0_aim : GoodIn wsX8_findMostGained wsX0_aim := goodIn_r _ [51, 13, 15, 52, 53, 54, 55, 56, 57, 46, 58, 30, 31, 32, 11, 33, 14, 41, 42, 43, 44, 45, 47, 86, 87, 88, 89, 90, 91, 92] (by decide +kernel) (by decide +kernel)
set_option maxRecDepth 20000 in
theorem gX8_findMostGained_X0_aim : GoodIn wsX8_findMostGained (wsV RX8 239 RX0 yX0_aim wsX0_aim) := goodIn_app (goodIn_of _ (by decide +kernel)) ggX8_findMostGained_X0_aim
set_option maxRecDepth 20000 in
theorem ggX8_findMostGained_X0_tellGain : GoodIn wsX8_findMostGained wsX0_tellGain := goodIn_r _ [62, 54, 55, 14, 63, 64, 65, 11, 66, 52, 53, 67, 35, 36, 37, 38, 39, 40, 41, 42, 43, 44, 45, 46, 47, 86, 87, 88, 89, 90, 91, 92, 84, 85] (by decide +kernel) (by decide +kernel)
set_option maxRecDepth 20000 in
theorem gX8_findMostGained_X0_tellGain : GoodIn wsX8_findMostGained (wsV RX8 266 RX0 yX0_tellGain wsX0_tellGain) := goodIn_app (goodIn_of _ (by decide +kernel)) ggX8_findMostGained_X0_tellGain
set_option maxRecDepth 20000 in
theorem ggX8_findMostGained_X1_isAbove : GoodIn wsX8_findMostGained wsX1_isAbove := goodIn_r _ [71, 39, 40, 84, 85] (by decide +kernel) (by decide +kernel)
set_option maxRecDepth 20000 in
theorem gX8_findMostGained_X1_isAbove : GoodIn wsX8_findMostGained (wsV RX8 269 RX1 yX1_isAbove wsX1_isAbove) := goodIn_app (goodIn_of _ (by decide +kernel)) ggX8_findMostGained_X1_isAbove
set_option maxRecDepth 20000 in
theorem ggX8_obeyAll_X4_readNext : GoodIn wsX8_obeyAll wsX4_readNext := goodIn_r _ [8, 9, 10, 11, 12, 13, 14, 7, 15, 16, 17, 18, 19, 20, 21, 22, 23, 24, 25, 26, 27, 28, 29, 30, 31, 32, 33, 34, 35, 36, 37, 38, 39, 40, 41, 42, 43, 44, 45, 194, 195, 196, 197, 198, 199] (by decide +kernel) (by decide +kernel)
set_option maxRecDepth 20000 in
theorem gX8_obeyAll_X4_readNext : GoodIn wsX8_obeyAll (wsV RX8 276 RX4 yX4_readNext wsX4_readNext) := goodIn_app (goodIn_of _ (by decide +kernel)) ggX8_obeyAll_X4_readNext
set_option maxRecDepth 20000 in
theorem ggX8_obeyAll_X8_obey : GoodIn wsX8_obeyAll wsX8_obey := goodIn_r _ [50, 1, 51, 52, 53, 54, 55, 56, 7, 57, 10, 26, 58, 59, 60, 61, 62, 63, 64, 65, 66, 67, 68, 69, 70, 71, 72, 73, 74, 75, 76, 77, 78, 79, 80, 81, 82, 83, 84, 85, 86, 87, 88, 89, 90, 91, 92, 93, 94, 95, 96, 97, 49, 98, 99, 100, 101, 102, 103, 104, 105, 106, 107, 108, 109, 110, 111, 112, 113, 114, 115, 116, 117, 118, 119, 120, 121, 122, 123, 124, 125, 126, 127, 128, 129, 130, 131, 132, 133, 134, 135, 136, 137, 138, 139, 140, 141, 142, 143, 144, 145, 146, 147, 148, 149, 150, 151, 152, 153, 154, 155, 156, 157, 158, 159, 160, 161, 162, 163, 164, 165, 166, 167, 168, 169, 170, 171, 172, 173, 174, 175, 176, 177, 178, 179, 180, 181, 182, 183, 184, 185, 186, 187, 188, 189, 190, 191, 192, 193, 194, 195, 196, 197, 198, 199, 200, 201, 202, 203, 204, 205, 206, 207, 208, 209, 210, 211, 212, 213, 214, 215, 216, 217, 218] (by decide +kernel) (by decide +kernel)
set_option maxRecDepth 20000 in
theorem gX8_obeyAll_X8_obey : GoodIn wsX8_obeyAll (wsV RX8 279 RX8 yX8_obey wsX8_obey) := goodIn_app (goodIn_of _ (by decide +kernel)) ggX8_obeyAll_X8_obey
set_option maxRecDepth 20000 in
theorem ggX8_obey_X4_number : GoodIn wsX8_obey wsX4_number := goodIn_r _ [9, 10, 11, 149, 150, 151, 152, 153, 154] (by decide +kernel) (by decide +kernel)
set_option maxRecDepth 20000 in
theorem gX8_obey_X4_number : GoodIn wsX8_obey (wsV RX8 248 RX4 yX4_number wsX4_number) := goodIn_app (goodIn_of _ (by decide +kernel)) ggX8_obey_X4_number
set_option maxRecDepth 20000 in
theorem ggX8_obey_X5_admit : GoodIn wsX8_obey wsX5_admit := goodIn_r _ [16, 17, 18, 19, 20, 21, 158, 159, 160, 161, 162] (by decide +kernel) (by decide +kernel)
set_option maxRecDepth 20000 in
theorem gX8_obey_X5_admit : GoodIn wsX8_obey (wsV RX8 77 RX5 yX5_admit wsX5_admit) := goodIn_app (goodIn_of _ (by decide +kernel)) ggX8_obey_X5_admit
set_option maxRecDepth 20000 in
theorem ggX8_obey_X5_remove : GoodIn wsX8_obey wsX5_remove := goodIn_r _ [25, 17, 18, 19, 20, 21, 26, 27, 28, 15, 29, 158, 159, 160, 161, 162] (by decide +kernel) (by decide +kernel)
set_option maxRecDepth 20000 in
theorem gX8_obey_X5_remove : GoodIn wsX8_obey (wsV RX8 83 RX5 yX5_remove wsX5_remove) := goodIn_app (goodIn_of _ (by decide +kernel)) ggX8_obey_X5_remove
set_option maxRecDepth 20000 in
theorem ggX8_obey_X7_movePrior : GoodIn wsX8_obey wsX7_movePrior := goodIn_r _ [34, 35, 36, 37, 38, 39, 40, 41, 42, 43, 44, 45, 46, 47, 48, 155, 156, 157, 163, 164, 165] (by decide +kernel) (by decide +kernel)
set_option maxRecDepth 20000 in
theorem gX8_obey_X7_movePrior : GoodIn wsX8_obey (wsV RX8 66 RX7 yX7_movePrior wsX7_movePrior) := goodIn_app (goodIn_of _ (by decide +kernel)) ggX8_obey_X7_movePrior
set_option maxRecDepth 20000 in
theorem ggX8_obey_X8_takeTold : GoodIn wsX8_obey wsX8_takeTold := goodIn_r _ [53, 54, 1, 55, 3, 56, 57, 58, 59, 60, 61, 62, 5, 6, 7, 8, 9, 10, 11, 63, 64, 52, 65, 66, 67, 68, 69, 70, 71, 72, 73, 74, 75, 76, 77, 78, 79, 80, 81, 82, 83, 84, 85, 86, 87, 88, 89, 90, 91, 92, 93, 94, 95, 96, 97, 98, 99, 44, 45, 40, 46, 42, 47, 48, 140, 141, 142, 143, 144, 145, 146, 147, 148, 149, 150, 151, 152, 153, 154, 155, 156, 157, 166, 163, 164, 165] (by decide +kernel) (by decide +kernel)
set_option maxRecDepth 20000 in
theorem gX8_obey_X8_takeTold : GoodIn wsX8_obey (wsV RX8 285 RX8 yX8_takeTold wsX8_takeTold) := goodIn_app (goodIn_of _ (by decide +kernel)) ggX8_obey_X8_takeTold
set_option maxRecDepth 20000 in
theorem ggX8_obey_X8_takeBest : GoodIn wsX8_obey wsX8_takeBest := goodIn_r _ [103, 104, 3, 4, 56, 54, 105, 106, 107, 108, 109, 110, 111, 112, 113, 114, 115, 116, 117, 118, 119, 15, 120, 17, 21, 20, 121, 122, 123, 124, 19, 18, 125, 126, 127, 128, 129, 130, 131, 132, 133, 134, 135, 136, 137, 138, 78, 139, 74, 52, 75, 76, 77, 79, 57, 58, 59, 60, 61, 62, 66, 67, 68, 69, 64, 65, 88, 89, 90, 91, 92, 93, 70, 71, 72, 73, 80, 81, 82, 83, 94, 95, 96, 97, 98, 99, 44, 45, 40, 46, 42, 47, 48, 140, 141, 142, 143, 144, 145, 146, 147, 148, 155, 156, 157, 167, 168, 169, 170, 171, 172, 173, 158, 159, 160, 161, 162, 166, 163, 164, 165] (by decide +kernel) (by decide +kernel)
set_option maxRecDepth 20000 in
theorem gX8_obey_X8_takeBest : GoodIn wsX8_obey (wsV RX8 93 RX8 yX8_takeBest wsX8_takeBest) := goodIn_app (goodIn_of _ (by decide +kernel)) ggX8_obey_X8_takeBest
set_option maxRecDepth 20000 in
theorem ggX9_init_X9_begins : GoodIn wsX9_init wsX9_begins := goodIn_r _ [16, 5, 17, 18, 19, 15, 20, 21, 22, 23, 24, 25, 11, 10, 26, 27, 28, 29, 30, 31, 32, 33, 34, 35, 36, 37, 38, 39, 40, 41, 42, 43, 44, 45, 46, 47, 48, 49] (by decide +kernel) (by decide +kernel)
set_option maxRecDepth 20000 in
theorem gX9_init_X9_begins : GoodIn wsX9_init (wsV RX9 31 RX9 yX9_begins wsX9_begins) := goodIn_app (goodIn_of _ (by decide +kernel)) ggX9_init_X9_begins
set_option maxRecDepth 20000 in
theorem ggX9_record_X9_moves : GoodIn wsX9_record wsX9_moves := goodIn_r _ [7] (by decide +kernel) (by decide +kernel)
set_option maxRecDepth 20000 in
theorem gX9_record_X9_moves : GoodIn wsX9_record (va_wsS RX9 39 yX9_moves wsX9_moves) := goodIn_app (goodIn_of _ (by decide +kernel)) ggX9_record_X9_moves
set_option maxRecDepth 20000 in
theorem ggX9_takeFraction_X9_divisor : GoodIn wsX9_takeFraction wsX9_divisor := goodIn_r _ [6] (by decide +kernel) (by decide +kernel)
set_option maxRecDepth 20000 in
theorem gX9_takeFraction_X9_divisor : GoodIn wsX9_takeFraction (va_wsS RX9 43 yX9_divisor wsX9_divisor) := goodIn_app (goodIn_of _ (by decide +kernel)) ggX9_takeFraction_X9_divisor
set_option maxRecDepth 20000 in
theorem ggX9_isReceiver_X9_within : GoodIn wsX9_isReceiver wsX9_within := goodIn_r _ [5] (by decide +kernel) (by decide +kernel)
set_option maxRecDepth 20000 in
theorem gX9_isReceiver_X9_within : GoodIn wsX9_isReceiver (va_wsS RX9 53 yX9_within wsX9_within) := goodIn_app (goodIn_of _ (by decide +kernel)) ggX9_isReceiver_X9_within
set_option maxRecDepth 20000 in
theorem ggX9_worthAt_X9_receiverPart : GoodIn wsX9_worthAt wsX9_receiverPart := goodIn_r _ [5, 6, 7, 8, 9, 10, 11, 12, 13, 14, 15, 16, 17, 18, 19, 20, 21, 22, 23, 24, 25, 26] (by decide +kernel) (by decide +kernel)
set_option maxRecDepth 20000 in
theorem gX9_worthAt_X9_receiverPart : GoodIn wsX9_worthAt (wsV RX9 57 RX9 yX9_receiverPart wsX9_receiverPart) := goodIn_app (goodIn_of _ (by decide +kernel)) ggX9_worthAt_X9_receiverPart
set_option maxRecDepth 20000 in
theorem ggX9_acts_X9_receiverPart : GoodIn wsX9_acts wsX9_receiverPart := goodIn_r _ [5, 6, 7, 8, 9, 10, 11, 12, 13, 14, 15, 16, 17, 18, 19, 20, 21, 22, 23, 24, 25, 26] (by decide +kernel) (by decide +kernel)
set_option maxRecDepth 20000 in
theorem gX9_acts_X9_receiverPart : GoodIn wsX9_acts (wsV RX9 57 RX9 yX9_receiverPart wsX9_receiverPart) := goodIn_app (goodIn_of _ (by decide +kernel)) ggX9_acts_X9_receiverPart
set_option maxRecDepth 20000 in
theorem ggX9_actingAt_X9_acts : GoodIn wsX9_actingAt wsX9_acts := goodIn_r _ [6, 7, 8, 9, 5, 10, 1, 11, 12, 13, 14, 15, 16, 17, 18, 19, 20, 21, 22, 23, 24, 25, 26, 27, 28, 29, 30] (by decide +kernel) (by decide +kernel)
set_option maxRecDepth 20000 in
theorem gX9_actingAt_X9_acts : GoodIn wsX9_actingAt (wsV RX9 60 RX9 yX9_acts wsX9_acts) := goodIn_app (goodIn_of _ (by decide +kernel)) ggX9_actingAt_X9_acts
set_option maxRecDepth 20000 in
theorem ggX9_valueAt_X9_actingAt : GoodIn wsX9_valueAt wsX9_actingAt := goodIn_r _ [6, 1, 7, 8, 9, 5, 10, 11, 12, 13, 14, 15, 16, 17, 18, 19, 20, 21, 22, 23, 24, 25, 26, 27, 28, 29, 30, 31, 32, 33, 34] (by decide +kernel) (by decide +kernel)
set_option maxRecDepth 20000 in
theorem gX9_valueAt_X9_actingAt : GoodIn wsX9_valueAt (wsV RX9 64 RX9 yX9_actingAt wsX9_actingAt) := goodIn_app (goodIn_of _ (by decide +kernel)) ggX9_valueAt_X9_actingAt
set_option maxRecDepth 20000 in
theorem ggX9_valueAt_X9_receiverPart : GoodIn wsX9_valueAt wsX9_receiverPart := goodIn_r _ [14, 1, 15, 16, 17, 18, 19, 20, 21, 22, 23, 24, 25, 26, 27, 28, 29, 30, 31, 32, 33, 34] (by decide +kernel) (by decide +kernel)
set_option maxRecDepth 20000 in
theorem gX9_valueAt_X9_receiverPart : GoodIn wsX9_valueAt (wsV RX9 57 RX9 yX9_receiverPart wsX9_receiverPart) := goodIn_app (goodIn_of _ (by decide +kernel)) ggX9_valueAt_X9_receiverPart
set_option maxRecDepth 20000 in
theorem ggX9_leastActing_X9_acts : GoodIn wsX9_leastActing wsX9_acts := goodIn_r _ [5, 6, 7, 8, 4, 9, 10, 11, 12, 13, 14, 15, 16, 17, 18, 19, 20, 21, 22, 23, 24, 25, 26, 27, 28, 29, 30] (by decide +kernel) (by decide +kernel)
set_option maxRecDepth 20000 in
theorem gX9_leastActing_X9_acts : GoodIn wsX9_leastActing (wsV RX9 60 RX9 yX9_acts wsX9_acts) := goodIn_app (goodIn_of _ (by decide +kernel)) ggX9_leastActing_X9_acts
set_option maxRecDepth 20000 in
theorem ggX9_isPart_X9_within : GoodIn wsX9_isPart wsX9_within := goodIn_r _ [5] (by decide +kernel) (by decide +kernel)
set_option maxRecDepth 20000 in
theorem gX9_isPart_X9_within : GoodIn wsX9_isPart (va_wsS RX9 53 yX9_within wsX9_within) := goodIn_app (goodIn_of _ (by decide +kernel)) ggX9_isPart_X9_within
set_option maxRecDepth 20000 in
theorem ggX9_begins_X9_takesOne : GoodIn wsX9_begins wsX9_takesOne := goodIn_r _ [6, 7, 8, 9, 10, 5, 11, 12, 13, 14, 15, 16, 17, 1, 18, 19, 20, 21, 22, 23, 24, 25, 26, 27, 28, 29, 30, 31, 32, 33, 34, 35, 36, 37] (by decide +kernel) (by decide +kernel)
set_option maxRecDepth 20000 in
theorem gX9_begins_X9_takesOne : GoodIn wsX9_begins (wsV RX9 68 RX9 yX9_takesOne wsX9_takesOne) := goodIn_app (goodIn_of _ (by decide +kernel)) ggX9_begins_X9_takesOne
set_option maxRecDepth 20000 in
theorem ggX9_takesOne_X9_takes : GoodIn wsX9_takesOne wsX9_takes := goodIn_r _ [6, 1, 7, 8, 14, 15, 16, 17, 18, 19, 20, 21, 22, 23, 24, 25, 26, 27, 28, 29, 30, 31, 32, 33] (by decide +kernel) (by decide +kernel)
set_option maxRecDepth 20000 in
theorem gX9_takesOne_X9_takes : GoodIn wsX9_takesOne (wsV RX9 75 RX9 yX9_takes wsX9_takes) := goodIn_app (goodIn_of _ (by decide +kernel)) ggX9_takesOne_X9_takes
set_option maxRecDepth 20000 in
theorem ggX9_takesOne_X9_gives : GoodIn wsX9_takesOne wsX9_gives := goodIn_r _ [12, 13, 1, 8, 7, 14, 15, 16, 17, 18, 19, 20, 21, 22, 23, 24, 25, 26, 27, 28, 29, 30, 31, 32, 33] (by decide +kernel) (by decide +kernel)
set_option maxRecDepth 20000 in
theorem gX9_takesOne_X9_gives : GoodIn wsX9_takesOne (wsV RX9 78 RX9 yX9_gives wsX9_gives) := goodIn_app (goodIn_of _ (by decide +kernel)) ggX9_takesOne_X9_gives
set_option maxRecDepth 20000 in
theorem ggX9_areWell_X9_divisor : GoodIn wsX9_areWell wsX9_divisor := goodIn_r _ [6] (by decide +kernel) (by decide +kernel)
set_option maxRecDepth 20000 in
theorem gX9_areWell_X9_divisor : GoodIn wsX9_areWell (va_wsS RX9 43 yX9_divisor wsX9_divisor) := goodIn_app (goodIn_of _ (by decide +kernel)) ggX9_areWell_X9_divisor
set_option maxRecDepth 20000 in
theorem ggX9_takeMean_X9_valueAt : GoodIn wsX9_takeMean wsX9_valueAt := goodIn_r _ [6, 1, 7, 8, 9, 5, 10, 11, 12, 13, 14, 15, 16, 17, 18, 32, 33, 34, 35, 36, 37, 38, 39, 40, 41, 42, 43, 44, 45, 46, 47, 48, 49, 50, 51] (by decide +kernel) (by decide +kernel)
set_option maxRecDepth 20000 in
theorem gX9_takeMean_X9_valueAt : GoodIn wsX9_takeMean (wsV RX9 81 RX9 yX9_valueAt wsX9_valueAt) := goodIn_app (goodIn_of _ (by decide +kernel)) ggX9_takeMean_X9_valueAt
set_option maxRecDepth 20000 in
theorem ggX9_takeMean_X9_weightSum : GoodIn wsX9_takeMean wsX9_weightSum := goodIn_r _ [22, 1, 32, 33, 34, 35, 36, 37, 38, 39, 40, 41, 42, 43, 44, 45, 46, 47, 48, 49, 50, 51] (by decide +kernel) (by decide +kernel)
set_option maxRecDepth 20000 in
theorem gX9_takeMean_X9_weightSum : GoodIn wsX9_takeMean (wsV RX9 84 RX9 yX9_weightSum wsX9_weightSum) := goodIn_app (goodIn_of _ (by decide +kernel)) ggX9_takeMean_X9_weightSum
set_option maxRecDepth 20000 in
theorem ggX9_takeMean_X9_takeFraction : GoodIn wsX9_takeMean wsX9_takeFraction := goodIn_r _ [26, 27, 28, 29, 30, 5, 31, 32, 33, 34, 35, 36, 37, 38, 39, 40, 41, 42, 43, 44, 45, 46, 47, 48, 49, 50, 51] (by decide +kernel) (by decide +kernel)
set_option maxRecDepth 20000 in
theorem gX9_takeMean_X9_takeFraction : GoodIn wsX9_takeMean (wsV RX9 88 RX9 yX9_takeFraction wsX9_takeFraction) := goodIn_app (goodIn_of _ (by decide +kernel)) ggX9_takeMean_X9_takeFraction
set_option maxRecDepth 20000 in
theorem ggX9_takeEnvelope_X9_valueAt : GoodIn wsX9_takeEnvelope wsX9_valueAt := goodIn_r _ [7, 8, 9, 10, 11, 6, 12, 13, 14, 15, 16, 17, 18, 19, 20, 30, 31, 32, 33, 34, 35, 36, 37, 38, 39, 40, 41, 42, 43, 44, 45, 46, 47, 48, 49] (by decide +kernel) (by decide +kernel)
set_option maxRecDepth 20000 in
theorem gX9_takeEnvelope_X9_valueAt : GoodIn wsX9_takeEnvelope (wsV RX9 81 RX9 yX9_valueAt wsX9_valueAt) := goodIn_app (goodIn_of _ (by decide +kernel)) ggX9_takeEnvelope_X9_valueAt
set_option maxRecDepth 20000 in
theorem ggX9_takeEnvelope_X9_takeFraction : GoodIn wsX9_takeEnvelope wsX9_takeFraction := goodIn_r _ [24, 25, 26, 27, 28, 6, 29, 30, 31, 32, 33, 34, 35, 36, 37, 38, 39, 40, 41, 42, 43, 44, 45, 46, 47, 48, 49] (by decide +kernel) (by decide +kernel)
set_option maxRecDepth 20000 in
theorem gX9_takeEnvelope_X9_takeFraction : GoodIn wsX9_takeEnvelope (wsV RX9 88 RX9 yX9_takeFraction wsX9_takeFraction) := goodIn_app (goodIn_of _ (by decide +kernel)) ggX9_takeEnvelope_X9_takeFraction
set_option maxRecDepth 20000 in
theorem ggX9_weightOf_X9_divisor : GoodIn wsX9_weightOf wsX9_divisor := goodIn_r _ [6] (by decide +kernel) (by decide +kernel)
set_option maxRecDepth 20000 in
theorem gX9_weightOf_X9_divisor : GoodIn wsX9_weightOf (va_wsS RX9 43 yX9_divisor wsX9_divisor) := goodIn_app (goodIn_of _ (by decide +kernel)) ggX9_weightOf_X9_divisor
set_option maxRecDepth 20000 in
theorem ggX9_priors_X9_begins : GoodIn wsX9_priors wsX9_begins := goodIn_r _ [5, 6, 7, 8, 9, 4, 10, 11, 12, 13, 14, 15, 16, 17, 18, 19, 20, 21, 22, 23, 24, 25, 26, 27, 28, 29, 30, 31, 32, 33, 34, 35, 36, 37, 38, 39, 40, 41] (by decide +kernel) (by decide +kernel)
set_option maxRecDepth 20000 in
theorem gX9_priors_X9_begins : GoodIn wsX9_priors (wsV RX9 31 RX9 yX9_begins wsX9_begins) := goodIn_app (goodIn_of _ (by decide +kernel)) ggX9_priors_X9_begins
set_option maxRecDepth 20000 in
theorem ggX9_prior_X9_within : GoodIn wsX9_prior wsX9_within := goodIn_r _ [5] (by decide +kernel) (by decide +kernel)
set_option maxRecDepth 20000 in
theorem gX9_prior_X9_within : GoodIn wsX9_prior (va_wsS RX9 53 yX9_within wsX9_within) := goodIn_app (goodIn_of _ (by decide +kernel)) ggX9_prior_X9_within
set_option maxRecDepth 20000 in
theorem ggX9_prior_X9_record : GoodIn wsX9_prior wsX9_record := goodIn_r _ [9, 10, 11, 1, 12, 13, 4, 14, 38, 39, 40, 41, 42, 43, 44, 45, 46, 47, 48, 49, 50, 51, 52, 53, 54, 55, 56, 57] (by decide +kernel) (by decide +kernel)
set_option maxRecDepth 20000 in
theorem gX9_prior_X9_record : GoodIn wsX9_prior (wsV RX9 97 RX9 yX9_record wsX9_record) := goodIn_app (goodIn_of _ (by decide +kernel)) ggX9_prior_X9_record
set_option maxRecDepth 20000 in
theorem ggX9_prior_X9_priors : GoodIn wsX9_prior wsX9_priors := goodIn_r _ [18, 19, 20, 21, 4, 22, 1, 23, 24, 25, 26, 27, 28, 29, 30, 31, 32, 33, 34, 35, 36, 37, 38, 39, 40, 41, 42, 43, 44, 45, 46, 47, 48, 49, 50, 51, 52, 53, 54, 55, 56, 57] (by decide +kernel) (by decide +kernel)
set_option maxRecDepth 20000 in
theorem gX9_prior_X9_priors : GoodIn wsX9_prior (wsV RX9 100 RX9 yX9_priors wsX9_priors) := goodIn_app (goodIn_of _ (by decide +kernel)) ggX9_prior_X9_priors
set_option maxRecDepth 20000 in
theorem ggX9_whyNotHired_X9_within : GoodIn wsX9_whyNotHired wsX9_within := goodIn_r _ [5] (by decide +kernel) (by decide +kernel)
set_option maxRecDepth 20000 in
theorem gX9_whyNotHired_X9_within : GoodIn wsX9_whyNotHired (va_wsS RX9 53 yX9_within wsX9_within) := goodIn_app (goodIn_of _ (by decide +kernel)) ggX9_whyNotHired_X9_within
set_option maxRecDepth 20000 in
theorem ggX9_hire_X9_whyNotHired : GoodIn wsX9_hire wsX9_whyNotHired := goodIn_r _ [5, 6, 7, 8, 4, 9, 23, 24, 25, 26, 27, 28, 29, 30, 31, 32, 33, 34, 35, 36, 37, 38, 39, 40, 41, 42] (by decide +kernel) (by decide +kernel)
set_option maxRecDepth 20000 in
theorem gX9_hire_X9_whyNotHired : GoodIn wsX9_hire (wsV RX9 103 RX9 yX9_whyNotHired wsX9_whyNotHired) := goodIn_app (goodIn_of _ (by decide +kernel)) ggX9_hire_X9_whyNotHired
set_option maxRecDepth 20000 in
theorem ggX9_hire_X9_record : GoodIn wsX9_hire wsX9_record := goodIn_r _ [13, 14, 15, 6, 16, 17, 4, 18, 23, 24, 25, 26, 27, 28, 29, 30, 31, 32, 33, 34, 35, 36, 37, 38, 39, 40, 41, 42] (by decide +kernel) (by decide +kernel)
set_option maxRecDepth 20000 in
theorem gX9_hire_X9_record : GoodIn wsX9_hire (wsV RX9 97 RX9 yX9_record wsX9_record) := goodIn_app (goodIn_of _ (by decide +kernel)) ggX9_hire_X9_record
set_option maxRecDepth 20000 in
theorem ggX9_hire_X9_hires : GoodIn wsX9_hire wsX9_hires := goodIn_r _ [22, 6, 23, 24, 25, 26, 27, 28, 29, 30, 31, 32, 33, 34, 35, 36, 37, 38, 39, 40, 41, 42] (by decide +kernel) (by decide +kernel)
set_option maxRecDepth 20000 in
theorem gX9_hire_X9_hires : GoodIn wsX9_hire (wsV RX9 107 RX9 yX9_hires wsX9_hires) := goodIn_app (goodIn_of _ (by decide +kernel)) ggX9_hire_X9_hires
set_option maxRecDepth 20000 in
theorem ggX9_dismiss_X9_isReceiver : GoodIn wsX9_dismiss wsX9_isReceiver := goodIn_r _ [5, 6, 7, 8, 4, 9, 23, 24, 25, 26, 27, 28, 29, 30, 31, 32, 33, 34, 35, 36, 37, 38, 39, 40, 41, 42] (by decide +kernel) (by decide +kernel)
set_option maxRecDepth 20000 in
theorem gX9_dismiss_X9_isReceiver : GoodIn wsX9_dismiss (wsV RX9 110 RX9 yX9_isReceiver wsX9_isReceiver) := goodIn_app (goodIn_of _ (by decide +kernel)) ggX9_dismiss_X9_isReceiver
set_option maxRecDepth 20000 in
theorem ggX9_dismiss_X9_record : GoodIn wsX9_dismiss wsX9_record := goodIn_r _ [13, 14, 15, 6, 16, 17, 4, 18, 23, 24, 25, 26, 27, 28, 29, 30, 31, 32, 33, 34, 35, 36, 37, 38, 39, 40, 41, 42] (by decide +kernel) (by decide +kernel)
set_option maxRecDepth 20000 in
theorem gX9_dismiss_X9_record : GoodIn wsX9_dismiss (wsV RX9 97 RX9 yX9_record wsX9_record) := goodIn_app (goodIn_of _ (by decide +kernel)) ggX9_dismiss_X9_record
set_option maxRecDepth 20000 in
theorem ggX9_dismiss_X9_dismisses : GoodIn wsX9_dismiss wsX9_dismisses := goodIn_r _ [22, 6, 23, 24, 25, 26, 27, 28, 29, 30, 31, 32, 33, 34, 35, 36, 37, 38, 39, 40, 41, 42] (by decide +kernel) (by decide +kernel)
set_option maxRecDepth 20000 in
theorem gX9_dismiss_X9_dismisses : GoodIn wsX9_dismiss (wsV RX9 114 RX9 yX9_dismisses wsX9_dismisses) := goodIn_app (goodIn_of _ (by decide +kernel)) ggX9_dismiss_X9_dismisses
set_option maxRecDepth 20000 in
theorem ggX9_refine_X9_isPart : GoodIn wsX9_refine wsX9_isPart := goodIn_r _ [7, 1, 8, 9, 6, 10, 37, 38, 39, 40, 41, 42, 43, 44, 45, 46, 47, 48, 49, 50, 51, 52, 53, 54, 55, 56] (by decide +kernel) (by decide +kernel)
set_option maxRecDepth 20000 in
theorem gX9_refine_X9_isPart : GoodIn wsX9_refine (wsV RX9 117 RX9 yX9_isPart wsX9_isPart) := goodIn_app (goodIn_of _ (by decide +kernel)) ggX9_refine_X9_isPart
set_option maxRecDepth 20000 in
theorem ggX9_refine_X9_within : GoodIn wsX9_refine wsX9_within := goodIn_r _ [10] (by decide +kernel) (by decide +kernel)
set_option maxRecDepth 20000 in
theorem gX9_refine_X9_within : GoodIn wsX9_refine (va_wsS RX9 53 yX9_within wsX9_within) := goodIn_app (goodIn_of _ (by decide +kernel)) ggX9_refine_X9_within
set_option maxRecDepth 20000 in
theorem ggX9_refine_X9_takes : GoodIn wsX9_refine wsX9_takes := goodIn_r _ [14, 2, 15, 16, 37, 38, 39, 40, 41, 42, 43, 44, 45, 46, 47, 48, 49, 50, 51, 52, 53, 54, 55, 56] (by decide +kernel) (by decide +kernel)
set_option maxRecDepth 20000 in
theorem gX9_refine_X9_takes : GoodIn wsX9_refine (wsV RX9 75 RX9 yX9_takes wsX9_takes) := goodIn_app (goodIn_of _ (by decide +kernel)) ggX9_refine_X9_takes
set_option maxRecDepth 20000 in
theorem ggX9_refine_X9_areWell : GoodIn wsX9_refine wsX9_areWell := goodIn_r _ [20, 2, 16, 21, 22, 6, 23, 37, 38, 39, 40, 41, 42, 43, 44, 45, 46, 47, 48, 49, 50, 51, 52, 53, 54, 55, 56] (by decide +kernel) (by decide +kernel)
set_option maxRecDepth 20000 in
theorem gX9_refine_X9_areWell : GoodIn wsX9_refine (wsV RX9 120 RX9 yX9_areWell wsX9_areWell) := goodIn_app (goodIn_of _ (by decide +kernel)) ggX9_refine_X9_areWell
set_option maxRecDepth 20000 in
theorem ggX9_refine_X9_record : GoodIn wsX9_refine wsX9_record := goodIn_r _ [27, 28, 29, 1, 30, 31, 6, 32, 37, 38, 39, 40, 41, 42, 43, 44, 45, 46, 47, 48, 49, 50, 51, 52, 53, 54, 55, 56] (by decide +kernel) (by decide +kernel)
set_option maxRecDepth 20000 in
theorem gX9_refine_X9_record : GoodIn wsX9_refine (wsV RX9 97 RX9 yX9_record wsX9_record) := goodIn_app (goodIn_of _ (by decide +kernel)) ggX9_refine_X9_record
set_option maxRecDepth 20000 in
theorem ggX9_refine_X9_gives : GoodIn wsX9_refine wsX9_gives := goodIn_r _ [36, 1, 2, 16, 15, 37, 38, 39, 40, 41, 42, 43, 44, 45, 46, 47, 48, 49, 50, 51, 52, 53, 54, 55, 56] (by decide +kernel) (by decide +kernel)
set_option maxRecDepth 20000 in
theorem gX9_refine_X9_gives : GoodIn wsX9_refine (wsV RX9 78 RX9 yX9_gives wsX9_gives) := goodIn_app (goodIn_of _ (by decide +kernel)) ggX9_refine_X9_gives
set_option maxRecDepth 20000 in
theorem ggX9_join_X9_isPart : GoodIn wsX9_join wsX9_isPart := goodIn_r _ [7, 1, 8, 9, 6, 10, 37, 38, 39, 40, 41, 42, 43, 44, 45, 46, 47, 48, 49, 50, 51, 52, 53, 54, 55, 56] (by decide +kernel) (by decide +kernel)
set_option maxRecDepth 20000 in
theorem gX9_join_X9_isPart : GoodIn wsX9_join (wsV RX9 117 RX9 yX9_isPart wsX9_isPart) := goodIn_app (goodIn_of _ (by decide +kernel)) ggX9_join_X9_isPart
set_option maxRecDepth 20000 in
theorem ggX9_join_X9_takes : GoodIn wsX9_join wsX9_takes := goodIn_r _ [14, 2, 15, 16, 37, 38, 39, 40, 41, 42, 43, 44, 45, 46, 47, 48, 49, 50, 51, 52, 53, 54, 55, 56] (by decide +kernel) (by decide +kernel)
set_option maxRecDepth 20000 in
theorem gX9_join_X9_takes : GoodIn wsX9_join (wsV RX9 75 RX9 yX9_takes wsX9_takes) := goodIn_app (goodIn_of _ (by decide +kernel)) ggX9_join_X9_takes
set_option maxRecDepth 20000 in
theorem ggX9_join_X9_within : GoodIn wsX9_join wsX9_within := goodIn_r _ [10] (by decide +kernel) (by decide +kernel)
set_option maxRecDepth 20000 in
theorem gX9_join_X9_within : GoodIn wsX9_join (va_wsS RX9 53 yX9_within wsX9_within) := goodIn_app (goodIn_of _ (by decide +kernel)) ggX9_join_X9_within
set_option maxRecDepth 20000 in
theorem ggX9_join_X9_areWell : GoodIn wsX9_join wsX9_areWell := goodIn_r _ [20, 2, 16, 21, 22, 6, 23, 37, 38, 39, 40, 41, 42, 43, 44, 45, 46, 47, 48, 49, 50, 51, 52, 53, 54, 55, 56] (by decide +kernel) (by decide +kernel)
set_option maxRecDepth 20000 in
theorem gX9_join_X9_areWell : GoodIn wsX9_join (wsV RX9 120 RX9 yX9_areWell wsX9_areWell) := goodIn_app (goodIn_of _ (by decide +kernel)) ggX9_join_X9_areWell
set_option maxRecDepth 20000 in
theorem ggX9_join_X9_record : GoodIn wsX9_join wsX9_record := goodIn_r _ [27, 28, 29, 1, 30, 31, 6, 32, 37, 38, 39, 40, 41, 42, 43, 44, 45, 46, 47, 48, 49, 50, 51, 52, 53, 54, 55, 56] (by decide +kernel) (by decide +kernel)
set_option maxRecDepth 20000 in
theorem gX9_join_X9_record : GoodIn wsX9_join (wsV RX9 97 RX9 yX9_record wsX9_record) := goodIn_app (goodIn_of _ (by decide +kernel)) ggX9_join_X9_record
set_option maxRecDepth 20000 in
theorem ggX9_join_X9_gives : GoodIn wsX9_join wsX9_gives := goodIn_r _ [36, 1, 2, 16, 15, 37, 38, 39, 40, 41, 42, 43, 44, 45, 46, 47, 48, 49, 50, 51, 52, 53, 54, 55, 56] (by decide +kernel) (by decide +kernel)
set_option maxRecDepth 20000 in
theorem gX9_join_X9_gives : GoodIn wsX9_join (wsV RX9 78 RX9 yX9_gives wsX9_gives) := goodIn_app (goodIn_of _ (by decide +kernel)) ggX9_join_X9_gives
set_option maxRecDepth 20000 in
theorem ggX9_adopts_X9_takeEnvelope : GoodIn wsX9_adopts wsX9_takeEnvelope := goodIn_r _ [9, 3, 4, 10, 11, 12, 8, 13, 1, 14, 15, 16, 17, 18, 19, 20, 21, 22, 23, 24, 25, 26, 27, 28, 29, 30, 31, 32, 33, 34, 49, 50, 51, 52, 53, 54, 55, 56, 57, 58, 59, 60, 61, 62, 63, 64, 65, 66, 67, 68] (by decide +kernel) (by decide +kernel)
set_option maxRecDepth 20000 in
theorem gX9_adopts_X9_takeEnvelope : GoodIn wsX9_adopts (wsV RX9 124 RX9 yX9_takeEnvelope wsX9_takeEnvelope) := goodIn_app (goodIn_of _ (by decide +kernel)) ggX9_adopts_X9_takeEnvelope
set_option maxRecDepth 20000 in
theorem ggX9_adopts_X9_weightOf : GoodIn wsX9_adopts wsX9_weightOf := goodIn_r _ [38, 3, 4, 32, 33, 8, 34, 49, 50, 51, 52, 53, 54, 55, 56, 57, 58, 59, 60, 61, 62, 63, 64, 65, 66, 67, 68] (by decide +kernel) (by decide +kernel)
set_option maxRecDepth 20000 in
theorem gX9_adopts_X9_weightOf : GoodIn wsX9_adopts (wsV RX9 127 RX9 yX9_weightOf wsX9_weightOf) := goodIn_app (goodIn_of _ (by decide +kernel)) ggX9_adopts_X9_weightOf
set_option maxRecDepth 20000 in
theorem ggX9_adopts_X9_takes : GoodIn wsX9_adopts wsX9_takes := goodIn_r _ [42, 2, 43, 44, 49, 50, 51, 52, 53, 54, 55, 56, 57, 58, 59, 60, 61, 62, 63, 64, 65, 66, 67, 68] (by decide +kernel) (by decide +kernel)
set_option maxRecDepth 20000 in
theorem gX9_adopts_X9_takes : GoodIn wsX9_adopts (wsV RX9 75 RX9 yX9_takes wsX9_takes) := goodIn_app (goodIn_of _ (by decide +kernel)) ggX9_adopts_X9_takes
set_option maxRecDepth 20000 in
theorem ggX9_adopts_X9_gives : GoodIn wsX9_adopts wsX9_gives := goodIn_r _ [48, 1, 2, 44, 43, 49, 50, 51, 52, 53, 54, 55, 56, 57, 58, 59, 60, 61, 62, 63, 64, 65, 66, 67, 68] (by decide +kernel) (by decide +kernel)
set_option maxRecDepth 20000 in
theorem gX9_adopts_X9_gives : GoodIn wsX9_adopts (wsV RX9 78 RX9 yX9_gives wsX9_gives) := goodIn_app (goodIn_of _ (by decide +kernel)) ggX9_adopts_X9_gives
set_option maxRecDepth 20000 in
theorem ggX9_adopt_X9_record : GoodIn wsX9_adopt wsX9_record := goodIn_r _ [5, 6, 7, 8, 9, 10, 4, 11, 62, 63, 64, 65, 66, 67, 68, 69, 70, 71, 72, 73, 74, 75, 76, 77, 78, 79, 80, 81] (by decide +kernel) (by decide +kernel)
set_option maxRecDepth 20000 in
theorem gX9_adopt_X9_record : GoodIn wsX9_adopt (wsV RX9 97 RX9 yX9_record wsX9_record) := goodIn_app (goodIn_of _ (by decide +kernel)) ggX9_adopt_X9_record
set_option maxRecDepth 20000 in
theorem ggX9_adopt_X9_adopts : GoodIn wsX9_adopt wsX9_adopts := goodIn_r _ [15, 8, 16, 17, 18, 19, 20, 21, 4, 22, 23, 24, 25, 26, 27, 28, 29, 30, 31, 32, 33, 34, 35, 36, 37, 38, 39, 40, 41, 42, 43, 44, 45, 46, 47, 48, 49, 50, 51, 52, 53, 54, 55, 56, 57, 58, 59, 60, 61, 62, 63, 64, 65, 66, 67, 68, 69, 70, 71, 72, 73, 74, 75, 76, 77, 78, 79, 80, 81] (by decide +kernel) (by decide +kernel)
set_option maxRecDepth 20000 in
theorem gX9_adopt_X9_adopts : GoodIn wsX9_adopt (wsV RX9 131 RX9 yX9_adopts wsX9_adopts) := goodIn_app (goodIn_of _ (by decide +kernel)) ggX9_adopt_X9_adopts
set_option maxRecDepth 20000 in
theorem ggX9_receiver_X9_isReceiver : GoodIn wsX9_receiver wsX9_isReceiver := goodIn_r _ [5, 6, 7, 8, 4, 9, 22, 23, 24, 25, 26, 27, 28, 29, 30, 31, 32, 33, 34, 35, 36, 37, 38, 39, 40, 41] (by decide +kernel) (by decide +kernel)
set_option maxRecDepth 20000 in
theorem gX9_receiver_X9_isReceiver : GoodIn wsX9_receiver (wsV RX9 110 RX9 yX9_isReceiver wsX9_isReceiver) := goodIn_app (goodIn_of _ (by decide +kernel)) ggX9_receiver_X9_isReceiver
set_option maxRecDepth 20000 in
theorem ggX9_receiver_X9_receiverPart : GoodIn wsX9_receiver wsX9_receiverPart := goodIn_r _ [13, 6, 22, 23, 24, 25, 26, 27, 28, 29, 30, 31, 32, 33, 34, 35, 36, 37, 38, 39, 40, 41] (by decide +kernel) (by decide +kernel)
set_option maxRecDepth 20000 in
theorem gX9_receiver_X9_receiverPart : GoodIn wsX9_receiver (wsV RX9 57 RX9 yX9_receiverPart wsX9_receiverPart) := goodIn_app (goodIn_of _ (by decide +kernel)) ggX9_receiver_X9_receiverPart
set_option maxRecDepth 20000 in
theorem ggX9_receiver_X9_leastActing : GoodIn wsX9_receiver wsX9_leastActing := goodIn_r _ [17, 18, 19, 20, 4, 21, 10, 11, 12, 13, 6, 22, 23, 24, 25, 26, 27, 28, 29, 30, 31, 32, 33, 34, 35, 36, 37, 38, 39, 40, 41] (by decide +kernel) (by decide +kernel)
set_option maxRecDepth 20000 in
theorem gX9_receiver_X9_leastActing : GoodIn wsX9_receiver (wsV RX9 134 RX9 yX9_leastActing wsX9_leastActing) := goodIn_app (goodIn_of _ (by decide +kernel)) ggX9_receiver_X9_leastActing
set_option maxRecDepth 20000 in
theorem ggX9_part_X9_isPart : GoodIn wsX9_part wsX9_isPart := goodIn_r _ [6, 1, 7, 8, 5, 9, 26, 27, 28, 29, 30, 31, 32, 33, 34, 35, 36, 37, 38, 39, 40, 41, 42, 43, 44, 45] (by decide +kernel) (by decide +kernel)
set_option maxRecDepth 20000 in
theorem gX9_part_X9_isPart : GoodIn wsX9_part (wsV RX9 117 RX9 yX9_isPart wsX9_isPart) := goodIn_app (goodIn_of _ (by decide +kernel)) ggX9_part_X9_isPart
set_option maxRecDepth 20000 in
theorem ggX9_part_X9_actingAt : GoodIn wsX9_part wsX9_actingAt := goodIn_r _ [13, 1, 14, 15, 16, 5, 17, 18, 19, 20, 21, 26, 27, 28, 29, 30, 31, 32, 33, 34, 35, 36, 37, 38, 39, 40, 41, 42, 43, 44, 45] (by decide +kernel) (by decide +kernel)
set_option maxRecDepth 20000 in
theorem gX9_part_X9_actingAt : GoodIn wsX9_part (wsV RX9 64 RX9 yX9_actingAt wsX9_actingAt) := goodIn_app (goodIn_of _ (by decide +kernel)) ggX9_part_X9_actingAt
set_option maxRecDepth 20000 in
theorem ggX9_part_X9_valueAt : GoodIn wsX9_part wsX9_valueAt := goodIn_r _ [25, 1, 10, 11, 12, 5, 13, 14, 15, 16, 17, 18, 19, 20, 21, 26, 27, 28, 29, 30, 31, 32, 33, 34, 35, 36, 37, 38, 39, 40, 41, 42, 43, 44, 45] (by decide +kernel) (by decide +kernel)
set_option maxRecDepth 20000 in
theorem gX9_part_X9_valueAt : GoodIn wsX9_part (wsV RX9 81 RX9 yX9_valueAt wsX9_valueAt) := goodIn_app (goodIn_of _ (by decide +kernel)) ggX9_part_X9_valueAt
set_option maxRecDepth 20000 in
theorem ggX9_isShare_X9_within : GoodIn wsX9_isShare wsX9_within := goodIn_r _ [4] (by decide +kernel) (by decide +kernel)
set_option maxRecDepth 20000 in
theorem gX9_isShare_X9_within : GoodIn wsX9_isShare (va_wsS RX9 53 yX9_within wsX9_within) := goodIn_app (goodIn_of _ (by decide +kernel)) ggX9_isShare_X9_within
set_option maxRecDepth 20000 in
theorem ggX9_value_X9_isShare : GoodIn wsX9_value wsX9_isShare := goodIn_r _ [4, 5, 6, 3, 7] (by decide +kernel) (by decide +kernel)
set_option maxRecDepth 20000 in
theorem gX9_value_X9_isShare : GoodIn wsX9_value (va_wsS RX9 137 yX9_isShare wsX9_isShare) := goodIn_app (goodIn_of _ (by decide +kernel)) ggX9_value_X9_isShare
set_option maxRecDepth 20000 in
theorem ggX9_value_X9_valueAt : GoodIn wsX9_value wsX9_valueAt := goodIn_r _ [11, 12, 13, 14, 15, 3, 16, 17, 18, 19, 20, 21, 22, 23, 24, 25, 26, 27, 28, 29, 30, 31, 32, 33, 34, 35, 36, 37, 38, 39, 40, 41, 42, 43, 44] (by decide +kernel) (by decide +kernel)
set_option maxRecDepth 20000 in
theorem gX9_value_X9_valueAt : GoodIn wsX9_value (wsV RX9 81 RX9 yX9_valueAt wsX9_valueAt) := goodIn_app (goodIn_of _ (by decide +kernel)) ggX9_value_X9_valueAt
set_option maxRecDepth 20000 in
theorem ggX9_mean_X9_takeMean : GoodIn wsX9_mean wsX9_takeMean := goodIn_r _ [8, 9, 10, 11, 12, 7, 13, 14, 15, 16, 17, 18, 19, 20, 21, 22, 23, 24, 25, 26, 27, 28, 29, 30, 31, 32, 33, 1, 3, 34, 35, 36, 37, 38, 39, 40, 41, 42, 43, 44, 45, 46, 47, 48, 49, 50, 51, 52, 53, 54, 55, 56] (by decide +kernel) (by decide +kernel)
set_option maxRecDepth 20000 in
theorem gX9_mean_X9_takeMean : GoodIn wsX9_mean (wsV RX9 140 RX9 yX9_takeMean wsX9_takeMean) := goodIn_app (goodIn_of _ (by decide +kernel)) ggX9_mean_X9_takeMean
set_option maxRecDepth 20000 in
theorem ggX9_worth_X9_isReceiver : GoodIn wsX9_worth wsX9_isReceiver := goodIn_r _ [8, 1, 9, 10, 7, 11, 31, 32, 33, 34, 35, 36, 37, 38, 39, 40, 41, 42, 43, 44, 45, 46, 47, 48, 49, 50] (by decide +kernel) (by decide +kernel)
set_option maxRecDepth 20000 in
theorem gX9_worth_X9_isReceiver : GoodIn wsX9_worth (wsV RX9 110 RX9 yX9_isReceiver wsX9_isReceiver) := goodIn_app (goodIn_of _ (by decide +kernel)) ggX9_worth_X9_isReceiver
set_option maxRecDepth 20000 in
theorem ggX9_worth_X9_worthAt : GoodIn wsX9_worth wsX9_worthAt := goodIn_r _ [15, 16, 17, 18, 7, 19, 1, 31, 32, 33, 34, 35, 36, 37, 38, 39, 40, 41, 42, 43, 44, 45, 46, 47, 48, 49, 50] (by decide +kernel) (by decide +kernel)
set_option maxRecDepth 20000 in
theorem gX9_worth_X9_worthAt : GoodIn wsX9_worth (wsV RX9 144 RX9 yX9_worthAt wsX9_worthAt) := goodIn_app (goodIn_of _ (by decide +kernel)) ggX9_worth_X9_worthAt
set_option maxRecDepth 20000 in
theorem ggX9_worth_X9_weightSum : GoodIn wsX9_worth wsX9_weightSum := goodIn_r _ [23, 1, 31, 32, 33, 34, 35, 36, 37, 38, 39, 40, 41, 42, 43, 44, 45, 46, 47, 48, 49, 50] (by decide +kernel) (by decide +kernel)
set_option maxRecDepth 20000 in
theorem gX9_worth_X9_weightSum : GoodIn wsX9_worth (wsV RX9 84 RX9 yX9_weightSum wsX9_weightSum) := goodIn_app (goodIn_of _ (by decide +kernel)) ggX9_worth_X9_weightSum
set_option maxRecDepth 20000 in
theorem ggX9_worth_X9_takeFraction : GoodIn wsX9_worth wsX9_takeFraction := goodIn_r _ [27, 2, 3, 28, 29, 7, 30, 31, 32, 33, 34, 35, 36, 37, 38, 39, 40, 41, 42, 43, 44, 45, 46, 47, 48, 49, 50] (by decide +kernel) (by decide +kernel)
set_option maxRecDepth 20000 in
theorem gX9_worth_X9_takeFraction : GoodIn wsX9_worth (wsV RX9 88 RX9 yX9_takeFraction wsX9_takeFraction) := goodIn_app (goodIn_of _ (by decide +kernel)) ggX9_worth_X9_takeFraction
set_option maxRecDepth 20000 in
theorem ggX9_isBest_X9_takeMean : GoodIn wsX9_isBest wsX9_takeMean := goodIn_r _ [8, 3, 9, 10, 11, 7, 12, 13, 14, 15, 16, 17, 18, 19, 20, 21, 22, 23, 24, 25, 26, 27, 28, 29, 30, 31, 32, 1, 2, 33, 34, 35, 42, 43, 44, 45, 46, 47, 48, 49, 50, 51, 52, 53, 54, 55, 56, 57, 58, 59, 60, 61] (by decide +kernel) (by decide +kernel)
set_option maxRecDepth 20000 in
theorem gX9_isBest_X9_takeMean : GoodIn wsX9_isBest (wsV RX9 140 RX9 yX9_takeMean wsX9_takeMean) := goodIn_app (goodIn_of _ (by decide +kernel)) ggX9_isBest_X9_takeMean
set_option maxRecDepth 20000 in
theorem ggX9_isBest_X9_takeEnvelope : GoodIn wsX9_isBest wsX9_takeEnvelope := goodIn_r _ [39, 40, 41, 9, 10, 11, 7, 12, 3, 13, 14, 15, 16, 17, 18, 19, 20, 21, 22, 23, 24, 29, 30, 31, 32, 1, 2, 33, 34, 35, 42, 43, 44, 45, 46, 47, 48, 49, 50, 51, 52, 53, 54, 55, 56, 57, 58, 59, 60, 61] (by decide +kernel) (by decide +kernel)
set_option maxRecDepth 20000 in
theorem gX9_isBest_X9_takeEnvelope : GoodIn wsX9_isBest (wsV RX9 124 RX9 yX9_takeEnvelope wsX9_takeEnvelope) := goodIn_app (goodIn_of _ (by decide +kernel)) ggX9_isBest_X9_takeEnvelope
set_option maxRecDepth 20000 in
theorem ggX9_count_X9_weightSum : GoodIn wsX9_count wsX9_weightSum := goodIn_r _ [8, 1, 48, 49, 50, 51, 52, 53, 54, 55, 56, 57, 58, 59, 60, 61, 62, 63, 64, 65, 66, 67] (by decide +kernel) (by decide +kernel)
set_option maxRecDepth 20000 in
theorem gX9_count_X9_weightSum : GoodIn wsX9_count (wsV RX9 84 RX9 yX9_weightSum wsX9_weightSum) := goodIn_app (goodIn_of _ (by decide +kernel)) ggX9_count_X9_weightSum
set_option maxRecDepth 20000 in
theorem ggX9_count_X9_isBest : GoodIn wsX9_count wsX9_isBest := goodIn_r _ [12, 13, 14, 1, 15, 16, 17, 7, 18, 19, 20, 21, 22, 23, 24, 25, 26, 27, 28, 29, 30, 31, 32, 33, 34, 4, 5, 6, 8, 35, 36, 37, 38, 39, 40, 41, 42, 43, 44, 45, 46, 47, 48, 49, 50, 51, 52, 53, 54, 55, 56, 57, 58, 59, 60, 61, 62, 63, 64, 65, 66, 67] (by decide +kernel) (by decide +kernel)
set_option maxRecDepth 20000 in
theorem gX9_count_X9_isBest : GoodIn wsX9_count (wsV RX9 147 RX9 yX9_isBest wsX9_isBest) := goodIn_app (goodIn_of _ (by decide +kernel)) ggX9_count_X9_isBest
set_option maxRecDepth 20000 in
theorem ggX9_envelope_X9_isShare : GoodIn wsX9_envelope wsX9_isShare := goodIn_r _ [7, 8, 9, 6, 10] (by decide +kernel) (by decide +kernel)
set_option maxRecDepth 20000 in
theorem gX9_envelope_X9_isShare : GoodIn wsX9_envelope (va_wsS RX9 137 yX9_isShare wsX9_isShare) := goodIn_app (goodIn_of _ (by decide +kernel)) ggX9_envelope_X9_isShare
set_option maxRecDepth 20000 in
theorem ggX9_envelope_X9_within : GoodIn wsX9_envelope wsX9_within := goodIn_r _ [10] (by decide +kernel) (by decide +kernel)
set_option maxRecDepth 20000 in
theorem gX9_envelope_X9_within : GoodIn wsX9_envelope (va_wsS RX9 53 yX9_within wsX9_within) := goodIn_app (goodIn_of _ (by decide +kernel)) ggX9_envelope_X9_within
set_option maxRecDepth 20000 in
theorem ggX9_envelope_X9_takeEnvelope : GoodIn wsX9_envelope wsX9_takeEnvelope := goodIn_r _ [14, 15, 16, 17, 18, 19, 6, 20, 21, 22, 23, 24, 25, 26, 27, 28, 29, 30, 31, 32, 33, 34, 35, 36, 37, 1, 3, 38, 39, 40, 41, 42, 43, 44, 45, 46, 47, 48, 49, 50, 51, 52, 53, 54, 55, 56, 57, 58, 59, 60] (by decide +kernel) (by decide +kernel)
set_option maxRecDepth 20000 in
theorem gX9_envelope_X9_takeEnvelope : GoodIn wsX9_envelope (wsV RX9 124 RX9 yX9_takeEnvelope wsX9_takeEnvelope) := goodIn_app (goodIn_of _ (by decide +kernel)) ggX9_envelope_X9_takeEnvelope
set_option maxRecDepth 20000 in
theorem ggX9_best_X9_isShare : GoodIn wsX9_best wsX9_isShare := goodIn_r _ [6, 7, 8, 5, 9] (by decide +kernel) (by decide +kernel)
set_option maxRecDepth 20000 in
theorem gX9_best_X9_isShare : GoodIn wsX9_best (va_wsS RX9 137 yX9_isShare wsX9_isShare) := goodIn_app (goodIn_of _ (by decide +kernel)) ggX9_best_X9_isShare
set_option maxRecDepth 20000 in
theorem ggX9_best_X9_within : GoodIn wsX9_best wsX9_within := goodIn_r _ [9] (by decide +kernel) (by decide +kernel)
set_option maxRecDepth 20000 in
theorem gX9_best_X9_within : GoodIn wsX9_best (va_wsS RX9 53 yX9_within wsX9_within) := goodIn_app (goodIn_of _ (by decide +kernel)) ggX9_best_X9_within
set_option maxRecDepth 20000 in
theorem ggX9_best_X9_takeEnvelope : GoodIn wsX9_best wsX9_takeEnvelope := goodIn_r _ [13, 1, 2, 14, 15, 16, 5, 17, 18, 19, 20, 21, 22, 23, 24, 25, 26, 27, 28, 29, 30, 31, 32, 33, 34, 35, 36, 37, 38, 39, 44, 45, 46, 47, 48, 49, 50, 51, 52, 53, 54, 55, 56, 57, 58, 59, 60, 61, 62, 63] (by decide +kernel) (by decide +kernel)
set_option maxRecDepth 20000 in
theorem gX9_best_X9_takeEnvelope : GoodIn wsX9_best (wsV RX9 124 RX9 yX9_takeEnvelope wsX9_takeEnvelope) := goodIn_app (goodIn_of _ (by decide +kernel)) ggX9_best_X9_takeEnvelope
set_option maxRecDepth 20000 in
theorem ggX9_best_X9_weightOf : GoodIn wsX9_best wsX9_weightOf := goodIn_r _ [43, 1, 2, 37, 38, 5, 39, 44, 45, 46, 47, 48, 49, 50, 51, 52, 53, 54, 55, 56, 57, 58, 59, 60, 61, 62, 63] (by decide +kernel) (by decide +kernel)
set_option maxRecDepth 20000 in
theorem gX9_best_X9_weightOf : GoodIn wsX9_best (wsV RX9 127 RX9 yX9_weightOf wsX9_weightOf) := goodIn_app (goodIn_of _ (by decide +kernel)) ggX9_best_X9_weightOf
set_option maxRecDepth 20000 in
theorem ggX9_mostGained_X9_within : GoodIn wsX9_mostGained wsX9_within := goodIn_r _ [6] (by decide +kernel) (by decide +kernel)
set_option maxRecDepth 20000 in
theorem gX9_mostGained_X9_within : GoodIn wsX9_mostGained (va_wsS RX9 53 yX9_within wsX9_within) := goodIn_app (goodIn_of _ (by decide +kernel)) ggX9_mostGained_X9_within
set_option maxRecDepth 20000 in
theorem ggX9_mostGained_X9_takeEnvelope : GoodIn wsX9_mostGained wsX9_takeEnvelope := goodIn_r _ [10, 11, 12, 13, 14, 15, 5, 16, 17, 18, 19, 20, 21, 22, 23, 24, 25, 26, 27, 28, 29, 30, 31, 32, 33, 1, 2, 34, 35, 36, 37, 38, 39, 40, 41, 42, 43, 44, 45, 46, 47, 48, 49, 50, 51, 52, 53, 54, 55, 56] (by decide +kernel) (by decide +kernel)
set_option maxRecDepth 20000 in
theorem gX9_mostGained_X9_takeEnvelope : GoodIn wsX9_mostGained (wsV RX9 124 RX9 yX9_takeEnvelope wsX9_takeEnvelope) := goodIn_app (goodIn_of _ (by decide +kernel)) ggX9_mostGained_X9_takeEnvelope
set_option maxRecDepth 20000 in
theorem ggX9_mostGained_X9_valueAt : GoodIn wsX9_mostGained wsX9_valueAt := goodIn_r _ [16, 17, 18, 19, 20, 5, 21, 22, 23, 24, 25, 26, 27, 28, 29, 37, 38, 39, 40, 41, 42, 43, 44, 45, 46, 47, 48, 49, 50, 51, 52, 53, 54, 55, 56] (by decide +kernel) (by decide +kernel)
set_option maxRecDepth 20000 in
theorem gX9_mostGained_X9_valueAt : GoodIn wsX9_mostGained (wsV RX9 81 RX9 yX9_valueAt wsX9_valueAt) := goodIn_app (goodIn_of _ (by decide +kernel)) ggX9_mostGained_X9_valueAt
set_option maxRecDepth 20000 in
theorem ggX9_mostGained_X9_takeFraction : GoodIn wsX9_mostGained wsX9_takeFraction := goodIn_r _ [33, 1, 2, 34, 35, 5, 36, 37, 38, 39, 40, 41, 42, 43, 44, 45, 46, 47, 48, 49, 50, 51, 52, 53, 54, 55, 56] (by decide +kernel) (by decide +kernel)
set_option maxRecDepth 20000 in
theorem gX9_mostGained_X9_takeFraction : GoodIn wsX9_mostGained (wsV RX9 88 RX9 yX9_takeFraction wsX9_takeFraction) := goodIn_app (goodIn_of _ (by decide +kernel)) ggX9_mostGained_X9_takeFraction
set_option maxRecDepth 20000 in
theorem ggX9_put_X9_within : GoodIn wsX9_put wsX9_within := goodIn_r _ [7] (by decide +kernel) (by decide +kernel)
set_option maxRecDepth 20000 in
theorem gX9_put_X9_within : GoodIn wsX9_put (va_wsS RX9 53 yX9_within wsX9_within) := goodIn_app (goodIn_of _ (by decide +kernel)) ggX9_put_X9_within
set_option maxRecDepth 20000 in
theorem ggX9_isNext_X9_character : GoodIn wsX9_isNext wsX9_character := goodIn_r _ [6, 7, 8, 9, 10, 11, 12, 13, 14, 15, 16, 17, 18, 19, 20, 21, 22, 23, 24, 25, 26, 27, 28] (by decide +kernel) (by decide +kernel)
set_option maxRecDepth 20000 in
theorem gX9_isNext_X9_character : GoodIn wsX9_isNext (wsV RX9 158 RX9 yX9_character wsX9_character) := goodIn_app (goodIn_of _ (by decide +kernel)) ggX9_isNext_X9_character
set_option maxRecDepth 20000 in
theorem ggX9_takeDigit_X9_character : GoodIn wsX9_takeDigit wsX9_character := goodIn_r _ [6, 7, 8, 12, 13, 14, 15, 16, 17, 18, 19, 20, 21, 22, 23, 24, 25, 26, 27, 28, 29, 30, 31] (by decide +kernel) (by decide +kernel)
set_option maxRecDepth 20000 in
theorem gX9_takeDigit_X9_character : GoodIn wsX9_takeDigit (wsV RX9 158 RX9 yX9_character wsX9_character) := goodIn_app (goodIn_of _ (by decide +kernel)) ggX9_takeDigit_X9_character
set_option maxRecDepth 20000 in
theorem ggX9_takeDigit_X9_within : GoodIn wsX9_takeDigit wsX9_within := goodIn_r _ [11] (by decide +kernel) (by decide +kernel)
set_option maxRecDepth 20000 in
theorem gX9_takeDigit_X9_within : GoodIn wsX9_takeDigit (va_wsS RX9 53 yX9_within wsX9_within) := goodIn_app (goodIn_of _ (by decide +kernel)) ggX9_takeDigit_X9_within
set_option maxRecDepth 20000 in
theorem ggX9_takeNumber_X9_takeDigit : GoodIn wsX9_takeNumber wsX9_takeDigit := goodIn_r _ [6, 1, 7, 8, 9, 5, 10, 11, 12, 13, 14, 15, 16, 17, 18, 19, 20, 21, 22, 23, 24, 25, 26, 27, 28, 29, 30, 31, 32, 33, 34, 35] (by decide +kernel) (by decide +kernel)
set_option maxRecDepth 20000 in
theorem gX9_takeNumber_X9_takeDigit : GoodIn wsX9_takeNumber (wsV RX9 161 RX9 yX9_takeDigit wsX9_takeDigit) := goodIn_app (goodIn_of _ (by decide +kernel)) ggX9_takeNumber_X9_takeDigit
set_option maxRecDepth 20000 in
theorem ggX9_takeNumber_X9_character : GoodIn wsX9_takeNumber wsX9_character := goodIn_r _ [10, 11, 12, 16, 17, 18, 19, 20, 21, 22, 23, 24, 25, 26, 27, 28, 29, 30, 31, 32, 33, 34, 35] (by decide +kernel) (by decide +kernel)
set_option maxRecDepth 20000 in
theorem gX9_takeNumber_X9_character : GoodIn wsX9_takeNumber (wsV RX9 158 RX9 yX9_character wsX9_character) := goodIn_app (goodIn_of _ (by decide +kernel)) ggX9_takeNumber_X9_character
set_option maxRecDepth 20000 in
theorem ggX9_takeNumber_X9_within : GoodIn wsX9_takeNumber wsX9_within := goodIn_r _ [15] (by decide +kernel) (by decide +kernel)
set_option maxRecDepth 20000 in
theorem gX9_takeNumber_X9_within : GoodIn wsX9_takeNumber (va_wsS RX9 53 yX9_within wsX9_within) := goodIn_app (goodIn_of _ (by decide +kernel)) ggX9_takeNumber_X9_within
set_option maxRecDepth 20000 in
theorem ggX9_readsReceiver_X9_takeNumber : GoodIn wsX9_readsReceiver wsX9_takeNumber := goodIn_r _ [9, 10, 11, 12, 13, 8, 14, 15, 16, 17, 18, 19, 20, 21, 22, 23, 28, 29, 30, 31, 32, 33, 34, 35, 36, 37, 38, 39, 40, 41, 42, 43, 44, 45, 46, 47] (by decide +kernel) (by decide +kernel)
set_option maxRecDepth 20000 in
theorem gX9_readsReceiver_X9_takeNumber : GoodIn wsX9_readsReceiver (wsV RX9 164 RX9 yX9_takeNumber wsX9_takeNumber) := goodIn_app (goodIn_of _ (by decide +kernel)) ggX9_readsReceiver_X9_takeNumber
set_option maxRecDepth 20000 in
theorem ggX9_readsReceiver_X9_isNext : GoodIn wsX9_readsReceiver wsX9_isNext := goodIn_r _ [27, 10, 15, 16, 17, 8, 18, 19, 20, 28, 29, 30, 31, 32, 33, 34, 35, 36, 37, 38, 39, 40, 41, 42, 43, 44, 45, 46, 47] (by decide +kernel) (by decide +kernel)
set_option maxRecDepth 20000 in
theorem gX9_readsReceiver_X9_isNext : GoodIn wsX9_readsReceiver (wsV RX9 170 RX9 yX9_isNext wsX9_isNext) := goodIn_app (goodIn_of _ (by decide +kernel)) ggX9_readsReceiver_X9_isNext
set_option maxRecDepth 20000 in
theorem ggX9_readsParts_X9_takeNumber : GoodIn wsX9_readsParts wsX9_takeNumber := goodIn_r _ [7, 8, 9, 10, 11, 6, 12, 13, 14, 15, 16, 17, 18, 19, 20, 21, 35, 36, 37, 38, 39, 40, 41, 42, 43, 44, 45, 46, 47, 48, 49, 50, 51, 52, 53, 54] (by decide +kernel) (by decide +kernel)
set_option maxRecDepth 20000 in
theorem gX9_readsParts_X9_takeNumber : GoodIn wsX9_readsParts (wsV RX9 164 RX9 yX9_takeNumber wsX9_takeNumber) := goodIn_app (goodIn_of _ (by decide +kernel)) ggX9_readsParts_X9_takeNumber
set_option maxRecDepth 20000 in
theorem ggX9_readsParts_X9_isNext : GoodIn wsX9_readsParts wsX9_isNext := goodIn_r _ [25, 8, 13, 14, 15, 6, 16, 17, 18, 35, 36, 37, 38, 39, 40, 41, 42, 43, 44, 45, 46, 47, 48, 49, 50, 51, 52, 53, 54] (by decide +kernel) (by decide +kernel)
set_option maxRecDepth 20000 in
theorem gX9_readsParts_X9_isNext : GoodIn wsX9_readsParts (wsV RX9 170 RX9 yX9_isNext wsX9_isNext) := goodIn_app (goodIn_of _ (by decide +kernel)) ggX9_readsParts_X9_isNext
set_option maxRecDepth 20000 in
theorem ggX9_readsParts_X9_isShare : GoodIn wsX9_readsParts wsX9_isShare := goodIn_r _ [28, 19, 20, 6, 21] (by decide +kernel) (by decide +kernel)
set_option maxRecDepth 20000 in
theorem gX9_readsParts_X9_isShare : GoodIn wsX9_readsParts (va_wsS RX9 137 yX9_isShare wsX9_isShare) := goodIn_app (goodIn_of _ (by decide +kernel)) ggX9_readsParts_X9_isShare
set_option maxRecDepth 20000 in
theorem ggX9_readsParts_X9_takes : GoodIn wsX9_readsParts wsX9_takes := goodIn_r _ [32, 1, 33, 34, 35, 36, 37, 38, 39, 40, 41, 42, 43, 44, 45, 46, 47, 48, 49, 50, 51, 52, 53, 54] (by decide +kernel) (by decide +kernel)
set_option maxRecDepth 20000 in
theorem gX9_readsParts_X9_takes : GoodIn wsX9_readsParts (wsV RX9 75 RX9 yX9_takes wsX9_takes) := goodIn_app (goodIn_of _ (by decide +kernel)) ggX9_readsParts_X9_takes
set_option maxRecDepth 20000 in
theorem ggX9_readsOrder_X9_character : GoodIn wsX9_readsOrder wsX9_character := goodIn_r _ [8, 9, 10, 47, 48, 49, 50, 51, 52, 53, 54, 55, 56, 57, 58, 59, 60, 61, 62, 63, 64, 65, 66] (by decide +kernel) (by decide +kernel)
set_option maxRecDepth 20000 in
theorem gX9_readsOrder_X9_character : GoodIn wsX9_readsOrder (wsV RX9 158 RX9 yX9_character wsX9_character) := goodIn_app (goodIn_of _ (by decide +kernel)) ggX9_readsOrder_X9_character
set_option maxRecDepth 20000 in
theorem ggX9_readsOrder_X9_readsReceiver : GoodIn wsX9_readsOrder wsX9_readsReceiver := goodIn_r _ [14, 3, 15, 16, 17, 18, 19, 20, 7, 21, 1, 22, 23, 24, 25, 4, 5, 6, 8, 9, 10, 26, 27, 28, 29, 30, 31, 32, 47, 48, 49, 50, 51, 52, 53, 54, 55, 56, 57, 58, 59, 60, 61, 62, 63, 64, 65, 66] (by decide +kernel) (by decide +kernel)
set_option maxRecDepth 20000 in
theorem gX9_readsOrder_X9_readsReceiver : GoodIn wsX9_readsOrder (wsV RX9 185 RX9 yX9_readsReceiver wsX9_readsReceiver) := goodIn_app (goodIn_of _ (by decide +kernel)) ggX9_readsOrder_X9_readsReceiver
set_option maxRecDepth 20000 in
theorem ggX9_readsOrder_X9_takeDigit : GoodIn wsX9_readsOrder wsX9_takeDigit := goodIn_r _ [25, 1, 4, 5, 6, 7, 8, 9, 10, 26, 27, 28, 47, 48, 49, 50, 51, 52, 53, 54, 55, 56, 57, 58, 59, 60, 61, 62, 63, 64, 65, 66] (by decide +kernel) (by decide +kernel)
set_option maxRecDepth 20000 in
theorem gX9_readsOrder_X9_takeDigit : GoodIn wsX9_readsOrder (wsV RX9 161 RX9 yX9_takeDigit wsX9_takeDigit) := goodIn_app (goodIn_of _ (by decide +kernel)) ggX9_readsOrder_X9_takeDigit
set_option maxRecDepth 20000 in
theorem ggX9_readsOrder_X9_takeNumber : GoodIn wsX9_readsOrder wsX9_takeNumber := goodIn_r _ [21, 1, 22, 23, 24, 7, 25, 4, 5, 6, 8, 9, 10, 26, 27, 28, 47, 48, 49, 50, 51, 52, 53, 54, 55, 56, 57, 58, 59, 60, 61, 62, 63, 64, 65, 66] (by decide +kernel) (by decide +kernel)
set_option maxRecDepth 20000 in
theorem gX9_readsOrder_X9_takeNumber : GoodIn wsX9_readsOrder (wsV RX9 164 RX9 yX9_takeNumber wsX9_takeNumber) := goodIn_app (goodIn_of _ (by decide +kernel)) ggX9_readsOrder_X9_takeNumber
set_option maxRecDepth 20000 in
theorem ggX9_readsOrder_X9_readsParts : GoodIn wsX9_readsOrder wsX9_readsParts := goodIn_r _ [36, 37, 3, 18, 19, 20, 7, 21, 1, 22, 23, 24, 25, 4, 5, 6, 8, 9, 10, 26, 27, 28, 29, 30, 31, 32, 38, 39, 40, 41, 42, 43, 44, 45, 46, 47, 48, 49, 50, 51, 52, 53, 54, 55, 56, 57, 58, 59, 60, 61, 62, 63, 64, 65, 66] (by decide +kernel) (by decide +kernel)
set_option maxRecDepth 20000 in
theorem gX9_readsOrder_X9_readsParts : GoodIn wsX9_readsOrder (wsV RX9 188 RX9 yX9_readsParts wsX9_readsParts) := goodIn_app (goodIn_of _ (by decide +kernel)) ggX9_readsOrder_X9_readsParts
set_option maxRecDepth 20000 in
theorem ggX9_findFault_X9_readsOrder : GoodIn wsX9_findFault wsX9_readsOrder := goodIn_r _ [7, 1, 8, 9, 10, 11, 12, 6, 13, 2, 14, 15, 16, 17, 18, 19, 20, 21, 22, 23, 24, 25, 26, 27, 28, 29, 30, 31, 32, 33, 34, 35, 36, 37, 38, 39, 40, 41, 42, 43, 44, 45, 46, 47, 48, 49, 50, 51, 52, 53, 54, 55, 56, 57, 58, 59, 60, 61, 62, 63, 64, 65, 66, 67, 68, 69, 70] (by decide +kernel) (by decide +kernel)
set_option maxRecDepth 20000 in
theorem gX9_findFault_X9_readsOrder : GoodIn wsX9_findFault (wsV RX9 191 RX9 yX9_readsOrder wsX9_readsOrder) := goodIn_app (goodIn_of _ (by decide +kernel)) ggX9_findFault_X9_readsOrder
set_option maxRecDepth 20000 in
theorem ggX9_findFault_X9_isNext : GoodIn wsX9_findFault wsX9_isNext := goodIn_r _ [36, 1, 10, 11, 12, 6, 13, 2, 14, 51, 52, 53, 54, 55, 56, 57, 58, 59, 60, 61, 62, 63, 64, 65, 66, 67, 68, 69, 70] (by decide +kernel) (by decide +kernel)
set_option maxRecDepth 20000 in
theorem gX9_findFault_X9_isNext : GoodIn wsX9_findFault (wsV RX9 170 RX9 yX9_isNext wsX9_isNext) := goodIn_app (goodIn_of _ (by decide +kernel)) ggX9_findFault_X9_isNext
set_option maxRecDepth 20000 in
theorem ggX9_fault_X9_findFault : GoodIn wsX9_fault wsX9_findFault := goodIn_r _ [5, 6, 7, 8, 9, 10, 4, 11, 12, 13, 14, 15, 16, 17, 18, 19, 20, 21, 22, 23, 24, 25, 26, 27, 28, 29, 30, 31, 32, 33, 34, 35, 36, 37, 38, 39, 40, 41, 42, 43, 44, 45, 46, 47, 48, 49, 50, 51, 52, 53, 54, 55, 56, 57, 58, 59, 60, 61, 62, 63, 64, 65, 66, 67, 68, 69, 70, 71, 72, 73, 74] (by decide +kernel) (by decide +kernel)
set_option maxRecDepth 20000 in
theorem gX9_fault_X9_findFault : GoodIn wsX9_fault (wsV RX9 194 RX9 yX9_findFault wsX9_findFault) := goodIn_app (goodIn_of _ (by decide +kernel)) ggX9_fault_X9_findFault
set_option maxRecDepth 20000 in
theorem ggX9_whyNoSplit_X9_areWell : GoodIn wsX9_whyNoSplit wsX9_areWell := goodIn_r _ [6, 7, 8, 9, 10, 5, 11, 18, 19, 20, 21, 22, 23, 24, 25, 26, 27, 28, 29, 30, 31, 32, 33, 34, 35, 36, 37] (by decide +kernel) (by decide +kernel)
set_option maxRecDepth 20000 in
theorem gX9_whyNoSplit_X9_areWell : GoodIn wsX9_whyNoSplit (wsV RX9 120 RX9 yX9_areWell wsX9_areWell) := goodIn_app (goodIn_of _ (by decide +kernel)) ggX9_whyNoSplit_X9_areWell
set_option maxRecDepth 20000 in
theorem ggX9_whyNoSplit_X9_areAverage : GoodIn wsX9_whyNoSplit wsX9_areAverage := goodIn_r _ [15, 7, 8, 16, 17, 18, 19, 20, 21, 22, 23, 24, 25, 26, 27, 28, 29, 30, 31, 32, 33, 34, 35, 36, 37] (by decide +kernel) (by decide +kernel)
set_option maxRecDepth 20000 in
theorem gX9_whyNoSplit_X9_areAverage : GoodIn wsX9_whyNoSplit (wsV RX9 197 RX9 yX9_areAverage wsX9_areAverage) := goodIn_app (goodIn_of _ (by decide +kernel)) ggX9_whyNoSplit_X9_areAverage
set_option maxRecDepth 20000 in
theorem ggX9_whyNotDone_X9_whyNotHired : GoodIn wsX9_whyNotDone wsX9_whyNotHired := goodIn_r _ [10, 11, 12, 13, 9, 14, 37, 38, 39, 40, 41, 42, 43, 44, 45, 46, 47, 48, 49, 50, 51, 52, 53, 54, 55, 56] (by decide +kernel) (by decide +kernel)
set_option maxRecDepth 20000 in
theorem gX9_whyNotDone_X9_whyNotHired : GoodIn wsX9_whyNotDone (wsV RX9 103 RX9 yX9_whyNotHired wsX9_whyNotHired) := goodIn_app (goodIn_of _ (by decide +kernel)) ggX9_whyNotDone_X9_whyNotHired
set_option maxRecDepth 20000 in
theorem ggX9_whyNotDone_X9_isReceiver : GoodIn wsX9_whyNotDone wsX9_isReceiver := goodIn_r _ [18, 11, 12, 13, 9, 14, 37, 38, 39, 40, 41, 42, 43, 44, 45, 46, 47, 48, 49, 50, 51, 52, 53, 54, 55, 56] (by decide +kernel) (by decide +kernel)
set_option maxRecDepth 20000 in
theorem gX9_whyNotDone_X9_isReceiver : GoodIn wsX9_whyNotDone (wsV RX9 110 RX9 yX9_isReceiver wsX9_isReceiver) := goodIn_app (goodIn_of _ (by decide +kernel)) ggX9_whyNotDone_X9_isReceiver
set_option maxRecDepth 20000 in
theorem ggX9_whyNotDone_X9_within : GoodIn wsX9_whyNotDone wsX9_within := goodIn_r _ [14] (by decide +kernel) (by decide +kernel)
set_option maxRecDepth 20000 in
theorem gX9_whyNotDone_X9_within : GoodIn wsX9_whyNotDone (va_wsS RX9 53 yX9_within wsX9_within) := goodIn_app (goodIn_of _ (by decide +kernel)) ggX9_whyNotDone_X9_within
set_option maxRecDepth 20000 in
theorem ggX9_whyNotDone_X9_whyNoSplit : GoodIn wsX9_whyNotDone wsX9_whyNoSplit := goodIn_r _ [22, 2, 23, 24, 25, 9, 26, 27, 28, 29, 30, 31, 32, 33, 34, 35, 36, 11, 37, 38, 39, 40, 41, 42, 43, 44, 45, 46, 47, 48, 49, 50, 51, 52, 53, 54, 55, 56] (by decide +kernel) (by decide +kernel)
set_option maxRecDepth 20000 in
theorem gX9_whyNotDone_X9_whyNoSplit : GoodIn wsX9_whyNotDone (wsV RX9 200 RX9 yX9_whyNoSplit wsX9_whyNoSplit) := goodIn_app (goodIn_of _ (by decide +kernel)) ggX9_whyNotDone_X9_whyNoSplit
set_option maxRecDepth 20000 in
theorem ggX9_does_X9_hires : GoodIn wsX9_does wsX9_hires := goodIn_r _ [10, 11, 78, 79, 80, 81, 82, 83, 84, 85, 86, 87, 88, 89, 90, 91, 92, 93, 94, 95, 96, 97] (by decide +kernel) (by decide +kernel)
set_option maxRecDepth 20000 in
theorem gX9_does_X9_hires : GoodIn wsX9_does (wsV RX9 107 RX9 yX9_hires wsX9_hires) := goodIn_app (goodIn_of _ (by decide +kernel)) ggX9_does_X9_hires
set_option maxRecDepth 20000 in
theorem ggX9_does_X9_dismisses : GoodIn wsX9_does wsX9_dismisses := goodIn_r _ [15, 11, 78, 79, 80, 81, 82, 83, 84, 85, 86, 87, 88, 89, 90, 91, 92, 93, 94, 95, 96, 97] (by decide +kernel) (by decide +kernel)
set_option maxRecDepth 20000 in
theorem gX9_does_X9_dismisses : GoodIn wsX9_does (wsV RX9 114 RX9 yX9_dismisses wsX9_dismisses) := goodIn_app (goodIn_of _ (by decide +kernel)) ggX9_does_X9_dismisses
set_option maxRecDepth 20000 in
theorem ggX9_does_X9_priors : GoodIn wsX9_does wsX9_priors := goodIn_r _ [19, 20, 21, 22, 9, 23, 11, 24, 25, 26, 27, 28, 29, 30, 31, 32, 33, 34, 35, 36, 37, 38, 78, 79, 80, 81, 82, 83, 84, 85, 86, 87, 88, 89, 90, 91, 92, 93, 94, 95, 96, 97] (by decide +kernel) (by decide +kernel)
set_option maxRecDepth 20000 in
theorem gX9_does_X9_priors : GoodIn wsX9_does (wsV RX9 100 RX9 yX9_priors wsX9_priors) := goodIn_app (goodIn_of _ (by decide +kernel)) ggX9_does_X9_priors
set_option maxRecDepth 20000 in
theorem ggX9_does_X9_gives : GoodIn wsX9_does wsX9_gives := goodIn_r _ [38, 11, 28, 34, 33, 78, 79, 80, 81, 82, 83, 84, 85, 86, 87, 88, 89, 90, 91, 92, 93, 94, 95, 96, 97] (by decide +kernel) (by decide +kernel)
set_option maxRecDepth 20000 in
theorem gX9_does_X9_gives : GoodIn wsX9_does (wsV RX9 78 RX9 yX9_gives wsX9_gives) := goodIn_app (goodIn_of _ (by decide +kernel)) ggX9_does_X9_gives
set_option maxRecDepth 20000 in
theorem ggX9_does_X9_adopts : GoodIn wsX9_does wsX9_adopts := goodIn_r _ [42, 11, 28, 43, 44, 45, 46, 47, 9, 48, 49, 50, 51, 52, 53, 54, 55, 56, 57, 58, 59, 60, 61, 62, 63, 64, 65, 66, 67, 68, 69, 70, 71, 72, 73, 74, 75, 76, 77, 29, 30, 31, 32, 33, 34, 35, 36, 37, 38, 78, 79, 80, 81, 82, 83, 84, 85, 86, 87, 88, 89, 90, 91, 92, 93, 94, 95, 96, 97] (by decide +kernel) (by decide +kernel)
set_option maxRecDepth 20000 in
theorem gX9_does_X9_adopts : GoodIn wsX9_does (wsV RX9 131 RX9 yX9_adopts wsX9_adopts) := goodIn_app (goodIn_of _ (by decide +kernel)) ggX9_does_X9_adopts
set_option maxRecDepth 20000 in
theorem ggX9_carryOut_X9_findFault : GoodIn wsX9_carryOut wsX9_findFault := goodIn_r _ [7, 1, 2, 8, 9, 10, 6, 11, 12, 13, 14, 15, 16, 17, 18, 19, 20, 21, 22, 23, 24, 25, 26, 27, 28, 29, 30, 31, 32, 33, 34, 35, 36, 37, 38, 39, 40, 41, 42, 43, 44, 45, 46, 47, 48, 49, 50, 51, 52, 53, 54, 156, 157, 158, 159, 160, 161, 162, 163, 164, 165, 166, 167, 168, 169, 170, 171, 172, 173, 174, 175] (by decide +kernel) (by decide +kernel)
set_option maxRecDepth 20000 in
theorem gX9_carryOut_X9_findFault : GoodIn wsX9_carryOut (wsV RX9 194 RX9 yX9_findFault wsX9_findFault) := goodIn_app (goodIn_of _ (by decide +kernel)) ggX9_carryOut_X9_findFault
set_option maxRecDepth 20000 in
theorem ggX9_carryOut_X9_record : GoodIn wsX9_carryOut wsX9_record := goodIn_r _ [58, 59, 60, 61, 62, 63, 6, 64, 156, 157, 158, 159, 160, 161, 162, 163, 164, 165, 166, 167, 168, 169, 170, 171, 172, 173, 174, 175] (by decide +kernel) (by decide +kernel)
set_option maxRecDepth 20000 in
theorem gX9_carryOut_X9_record : GoodIn wsX9_carryOut (wsV RX9 97 RX9 yX9_record wsX9_record) := goodIn_app (goodIn_of _ (by decide +kernel)) ggX9_carryOut_X9_record
set_option maxRecDepth 20000 in
theorem ggX9_carryOut_X9_readsOrder : GoodIn wsX9_carryOut wsX9_readsOrder := goodIn_r _ [11, 1, 12, 13, 14, 15, 16, 6, 17, 2, 18, 19, 20, 21, 22, 23, 24, 25, 26, 27, 28, 29, 30, 31, 32, 33, 34, 35, 36, 37, 38, 39, 40, 41, 42, 43, 44, 45, 46, 47, 48, 49, 50, 51, 52, 53, 54, 156, 157, 158, 159, 160, 161, 162, 163, 164, 165, 166, 167, 168, 169, 170, 171, 172, 173, 174, 175] (by decide +kernel) (by decide +kernel)
set_option maxRecDepth 20000 in
theorem gX9_carryOut_X9_readsOrder : GoodIn wsX9_carryOut (wsV RX9 191 RX9 yX9_readsOrder wsX9_readsOrder) := goodIn_app (goodIn_of _ (by decide +kernel)) ggX9_carryOut_X9_readsOrder
set_option maxRecDepth 20000 in
theorem ggX9_carryOut_X9_isNext : GoodIn wsX9_carryOut wsX9_isNext := goodIn_r _ [40, 1, 14, 15, 16, 6, 17, 2, 18, 156, 157, 158, 159, 160, 161, 162, 163, 164, 165, 166, 167, 168, 169, 170, 171, 172, 173, 174, 175] (by decide +kernel) (by decide +kernel)
set_option maxRecDepth 20000 in
theorem gX9_carryOut_X9_isNext : GoodIn wsX9_carryOut (wsV RX9 170 RX9 yX9_isNext wsX9_isNext) := goodIn_app (goodIn_of _ (by decide +kernel)) ggX9_carryOut_X9_isNext
set_option maxRecDepth 20000 in
theorem ggX9_carryOut_X9_whyNotDone : GoodIn wsX9_carryOut wsX9_whyNotDone := goodIn_r _ [68, 12, 13, 23, 24, 25, 69, 70, 71, 6, 72, 61, 34, 35, 36, 73, 74, 75, 76, 77, 78, 79, 80, 81, 82, 83, 84, 45, 54, 85, 86, 87, 88, 89, 90, 91, 53, 156, 157, 158, 159, 160, 161, 162, 163, 164, 165, 166, 167, 168, 169, 170, 171, 172, 173, 174, 175] (by decide +kernel) (by decide +kernel)
set_option maxRecDepth 20000 in
theorem gX9_carryOut_X9_whyNotDone : GoodIn wsX9_carryOut (wsV RX9 203 RX9 yX9_whyNotDone wsX9_whyNotDone) := goodIn_app (goodIn_of _ (by decide +kernel)) ggX9_carryOut_X9_whyNotDone
set_option maxRecDepth 20000 in
theorem ggX9_carryOut_X9_does : GoodIn wsX9_carryOut wsX9_does := goodIn_r _ [95, 12, 13, 23, 24, 25, 96, 97, 98, 6, 99, 61, 100, 101, 102, 103, 104, 105, 106, 107, 108, 109, 110, 111, 112, 113, 114, 115, 45, 49, 50, 51, 52, 53, 54, 116, 117, 118, 119, 120, 121, 122, 123, 124, 125, 126, 127, 128, 129, 130, 131, 132, 133, 134, 135, 136, 137, 138, 139, 140, 141, 142, 143, 144, 145, 146, 147, 148, 149, 150, 151, 85, 86, 87, 152, 153, 154, 155, 156, 157, 158, 159, 160, 161, 162, 163, 164, 165, 166, 167, 168, 169, 170, 171, 172, 173, 174, 175] (by decide +kernel) (by decide +kernel)
set_option maxRecDepth 20000 in
theorem gX9_carryOut_X9_does : GoodIn wsX9_carryOut (wsV RX9 206 RX9 yX9_does wsX9_does) := goodIn_app (goodIn_of _ (by decide +kernel)) ggX9_carryOut_X9_does
set_option maxRecDepth 20000 in
theorem ggX9_undo_X9_moves : GoodIn wsX9_undo wsX9_moves := goodIn_r _ [7] (by decide +kernel) (by decide +kernel)
set_option maxRecDepth 20000 in
theorem gX9_undo_X9_moves : GoodIn wsX9_undo (va_wsS RX9 39 yX9_moves wsX9_moves) := goodIn_app (goodIn_of _ (by decide +kernel)) ggX9_undo_X9_moves
set_option maxRecDepth 20000 in
theorem ggX9_save_X9_within : GoodIn wsX9_save wsX9_within := goodIn_r _ [7] (by decide +kernel) (by decide +kernel)
set_option maxRecDepth 20000 in
theorem gX9_save_X9_within : GoodIn wsX9_save (va_wsS RX9 53 yX9_within wsX9_within) := goodIn_app (goodIn_of _ (by decide +kernel)) ggX9_save_X9_within
set_option maxRecDepth 20000 in
theorem ggX9_save_X9_moves : GoodIn wsX9_save wsX9_moves := goodIn_r _ [10] (by decide +kernel) (by decide +kernel)
set_option maxRecDepth 20000 in
theorem gX9_save_X9_moves : GoodIn wsX9_save (va_wsS RX9 39 yX9_moves wsX9_moves) := goodIn_app (goodIn_of _ (by decide +kernel)) ggX9_save_X9_moves
set_option maxRecDepth 20000 in
theorem ggX9_restore_X9_within : GoodIn wsX9_restore wsX9_within := goodIn_r _ [7] (by decide +kernel) (by decide +kernel)
set_option maxRecDepth 20000 in
theorem gX9_restore_X9_within : GoodIn wsX9_restore (va_wsS RX9 53 yX9_within wsX9_within) := goodIn_app (goodIn_of _ (by decide +kernel)) ggX9_restore_X9_within
set_option maxRecDepth 20000 in
theorem ggX9_restore_X9_record : GoodIn wsX9_restore wsX9_record := goodIn_r _ [11, 12, 13, 3, 14, 15, 6, 16, 17, 18, 19, 20, 21, 22, 23, 24, 25, 26, 27, 28, 29, 30, 31, 32, 33, 34, 35, 36] (by decide +kernel) (by decide +kernel)
set_option maxRecDepth 20000 in
theorem gX9_restore_X9_record : GoodIn wsX9_restore (wsV RX9 97 RX9 yX9_record wsX9_record) := goodIn_app (goodIn_of _ (by decide +kernel)) ggX9_restore_X9_record
set_option maxRecDepth 20000 in
theorem ggX9_restore_X9_moves : GoodIn wsX9_restore wsX9_moves := goodIn_r _ [16] (by decide +kernel) (by decide +kernel)
set_option maxRecDepth 20000 in
theorem gX9_restore_X9_moves : GoodIn wsX9_restore (va_wsS RX9 39 yX9_moves wsX9_moves) := goodIn_app (goodIn_of _ (by decide +kernel)) ggX9_restore_X9_moves
