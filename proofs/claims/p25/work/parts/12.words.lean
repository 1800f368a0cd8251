set_option maxRecDepth 20000 in
theorem ggX0_draw_X5_valueAt : GoodIn wsX0_draw wsX5_valueAt := goodIn_r _ [8, 9, 10, 11, 12, 13, 14, 7, 15, 16, 17, 30, 31, 32, 33, 34] (by decide +kernel) (by decide +kernel)
set_option maxRecDepth 20000 in
theorem gX0_draw_X5_valueAt : GoodIn wsX0_draw (wsV RX0 34 RX5 yX5_valueAt wsX5_valueAt) := goodIn_app (goodIn_of _ (by decide +kernel)) ggX0_draw_X5_valueAt
set_option maxRecDepth 20000 in
theorem ggX0_draw_X0_heightOver : GoodIn wsX0_draw wsX0_heightOver := goodIn_r _ [22, 2, 23, 24, 25, 26, 27, 28, 29] (by decide +kernel) (by decide +kernel)
set_option maxRecDepth 20000 in
theorem gX0_draw_X0_heightOver : GoodIn wsX0_draw (wsV RX0 40 RX0 yX0_heightOver wsX0_heightOver) := goodIn_app (goodIn_of _ (by decide +kernel)) ggX0_draw_X0_heightOver
set_option maxRecDepth 20000 in
theorem ggX0_aim_X0_heightOver : GoodIn wsX0_aim wsX0_heightOver := goodIn_r _ [15, 16, 23, 24, 25, 26, 27, 28, 29] (by decide +kernel) (by decide +kernel)
set_option maxRecDepth 20000 in
theorem gX0_aim_X0_heightOver : GoodIn wsX0_aim (wsV RX0 40 RX0 yX0_heightOver wsX0_heightOver) := goodIn_app (goodIn_of _ (by decide +kernel)) ggX0_aim_X0_heightOver
set_option maxRecDepth 20000 in
theorem ggX0_aim_X8_commonDivisor : GoodIn wsX0_aim wsX8_commonDivisor := goodIn_r _ [19, 20, 21, 9, 22] (by decide +kernel) (by decide +kernel)
set_option maxRecDepth 20000 in
theorem gX0_aim_X8_commonDivisor_n44 : GoodIn wsX0_aim (wsX8_commonDivisor) := ggX0_aim_X8_commonDivisor
set_option maxRecDepth 20000 in
theorem ggX0_tellEnvelope_X0_valueSum : GoodIn wsX0_tellEnvelope wsX0_valueSum := goodIn_r _ [7, 1, 8, 9, 2, 10, 25, 26, 27, 28, 29, 30, 31] (by decide +kernel) (by decide +kernel)
set_option maxRecDepth 20000 in
theorem gX0_tellEnvelope_X0_valueSum : GoodIn wsX0_tellEnvelope (wsV RX0 53 RX0 yX0_valueSum wsX0_valueSum) := goodIn_app (goodIn_of _ (by decide +kernel)) ggX0_tellEnvelope_X0_valueSum
set_option maxRecDepth 20000 in
theorem ggX0_tellEnvelope_X1_become : GoodIn wsX0_tellEnvelope wsX1_become := goodIn_r _ [15, 16, 17, 18, 19, 20, 21, 22, 23, 24, 32, 33] (by decide +kernel) (by decide +kernel)
set_option maxRecDepth 20000 in
theorem gX0_tellEnvelope_X1_become : GoodIn wsX0_tellEnvelope (wsV RX0 57 RX1 yX1_become wsX1_become) := goodIn_app (goodIn_of _ (by decide +kernel)) ggX0_tellEnvelope_X1_become
set_option maxRecDepth 20000 in
theorem ggX1_become_X8_commonDivisor : GoodIn wsX1_become wsX8_commonDivisor := goodIn_r _ [5, 6, 7, 8, 9] (by decide +kernel) (by decide +kernel)
set_option maxRecDepth 20000 in
theorem gX1_become_X8_commonDivisor_n16 : GoodIn wsX1_become (wsX8_commonDivisor) := ggX1_become_X8_commonDivisor
set_option maxRecDepth 20000 in
theorem ggX2_init_X7_init : GoodIn wsX2_init wsX7_init := goodIn_r _ [12, 13, 2, 3, 14, 15, 16, 17, 18, 19, 20, 21, 22, 23, 24, 25, 26, 27, 28, 29, 30, 31, 32, 33, 34, 35, 36, 37, 38, 39, 40, 41, 42, 43, 44, 45, 52, 53, 54, 55, 56, 49, 50, 51, 57, 58, 59] (by decide +kernel) (by decide +kernel)
set_option maxRecDepth 20000 in
theorem gX2_init_X7_init : GoodIn wsX2_init (wsX7_init) := ggX2_init_X7_init
set_option maxRecDepth 20000 in
theorem ggX2_note_X7_copyFrom : GoodIn wsX2_note wsX7_copyFrom := goodIn_r _ [7, 8, 9, 10, 11, 12, 13, 14, 15, 16, 17, 18, 19, 20, 21, 22, 23, 24, 25, 26, 27, 28, 29, 30, 31, 32, 33, 37, 38, 39, 40, 41, 42, 43, 44, 45, 46, 47] (by decide +kernel) (by decide +kernel)
set_option maxRecDepth 20000 in
theorem gX2_note_X7_copyFrom : GoodIn wsX2_note (wsV RX2 23 RX7 yX7_copyFrom wsX7_copyFrom) := goodIn_app (goodIn_of _ (by decide +kernel)) ggX2_note_X7_copyFrom
set_option maxRecDepth 20000 in
theorem ggX3_gather_X3_clear : GoodIn wsX3_gather wsX3_clear := goodIn_r _ [8, 9, 20] (by decide +kernel) (by decide +kernel)
set_option maxRecDepth 20000 in
theorem gX3_gather_X3_clear : GoodIn wsX3_gather (wsV RX3 15 RX3 yX3_clear wsX3_clear) := goodIn_app (goodIn_of _ (by decide +kernel)) ggX3_gather_X3_clear
set_option maxRecDepth 20000 in
theorem ggX3_gather_X3_add : GoodIn wsX3_gather wsX3_add := goodIn_r _ [13, 9, 14, 15, 16, 20] (by decide +kernel) (by decide +kernel)
set_option maxRecDepth 20000 in
theorem gX3_gather_X3_add : GoodIn wsX3_gather (wsV RX3 30 RX3 yX3_add wsX3_add) := goodIn_app (goodIn_of _ (by decide +kernel)) ggX3_gather_X3_add
set_option maxRecDepth 20000 in
theorem ggX3_add_X8_isPosterior : GoodIn wsX3_add wsX8_isPosterior := goodIn_r _ [4] (by decide +kernel) (by decide +kernel)
set_option maxRecDepth 20000 in
theorem gX3_add_X8_isPosterior_n34 : GoodIn wsX3_add (wsX8_isPosterior) := ggX3_add_X8_isPosterior
set_option maxRecDepth 20000 in
theorem ggX3_reduce_X8_commonDivisor : GoodIn wsX3_reduce wsX8_commonDivisor := goodIn_r _ [4, 5, 6, 7, 8] (by decide +kernel) (by decide +kernel)
set_option maxRecDepth 20000 in
theorem gX3_reduce_X8_commonDivisor_n38 : GoodIn wsX3_reduce (wsX8_commonDivisor) := ggX3_reduce_X8_commonDivisor
set_option maxRecDepth 20000 in
theorem ggX3_pourInto_X6_append : GoodIn wsX3_pourInto wsX6_append := goodIn_r _ [7, 8, 9, 10, 11, 12, 13] (by decide +kernel) (by decide +kernel)
set_option maxRecDepth 20000 in
theorem gX3_pourInto_X6_append : GoodIn wsX3_pourInto (wsV RX3 42 RX6 yX6_append wsX6_append) := goodIn_app (goodIn_of _ (by decide +kernel)) ggX3_pourInto_X6_append
set_option maxRecDepth 20000 in
theorem ggX5_remove_X5_has : GoodIn wsX5_remove wsX5_has := goodIn_r _ [10, 1, 11, 12, 13, 14, 15] (by decide +kernel) (by decide +kernel)
set_option maxRecDepth 20000 in
theorem gX5_remove_X5_has : GoodIn wsX5_remove (wsV RX5 34 RX5 yX5_has wsX5_has) := goodIn_app (goodIn_of _ (by decide +kernel)) ggX5_remove_X5_has
set_option maxRecDepth 20000 in
theorem ggX5_leastActing_X5_acts : GoodIn wsX5_leastActing wsX5_acts := goodIn_r _ [5, 6, 7, 8, 9, 10, 11, 12] (by decide +kernel) (by decide +kernel)
set_option maxRecDepth 20000 in
theorem gX5_leastActing_X5_acts : GoodIn wsX5_leastActing (wsV RX5 44 RX5 yX5_acts wsX5_acts) := goodIn_app (goodIn_of _ (by decide +kernel)) ggX5_leastActing_X5_acts
set_option maxRecDepth 20000 in
theorem ggX5_actingAt_X5_acts : GoodIn wsX5_actingAt wsX5_acts := goodIn_r _ [6, 7, 8, 9, 10, 11, 12, 13] (by decide +kernel) (by decide +kernel)
set_option maxRecDepth 20000 in
theorem gX5_actingAt_X5_acts : GoodIn wsX5_actingAt (wsV RX5 44 RX5 yX5_acts wsX5_acts) := goodIn_app (goodIn_of _ (by decide +kernel)) ggX5_actingAt_X5_acts
set_option maxRecDepth 20000 in
theorem ggX5_valueAt_X5_acts : GoodIn wsX5_valueAt wsX5_acts := goodIn_r _ [8, 9, 10, 11, 12, 13, 14, 15] (by decide +kernel) (by decide +kernel)
set_option maxRecDepth 20000 in
theorem gX5_valueAt_X5_acts : GoodIn wsX5_valueAt (wsV RX5 44 RX5 yX5_acts wsX5_acts) := goodIn_app (goodIn_of _ (by decide +kernel)) ggX5_valueAt_X5_acts
set_option maxRecDepth 20000 in
theorem ggX6_becomeOne_X6_append : GoodIn wsX6_becomeOne wsX6_append := goodIn_r _ [6, 1, 7, 8, 9, 10, 11] (by decide +kernel) (by decide +kernel)
set_option maxRecDepth 20000 in
theorem gX6_becomeOne_X6_append : GoodIn wsX6_becomeOne (wsV RX6 26 RX6 yX6_append wsX6_append) := goodIn_app (goodIn_of _ (by decide +kernel)) ggX6_becomeOne_X6_append
set_option maxRecDepth 20000 in
theorem ggX7_init_X5_init : GoodIn wsX7_init wsX5_init := goodIn_r _ [14, 15, 2, 3, 16, 17, 18, 19, 20, 21, 36, 37, 38, 39, 40] (by decide +kernel) (by decide +kernel)
set_option maxRecDepth 20000 in
theorem gX7_init_X5_init_n11 : GoodIn wsX7_init (wsX5_init) := ggX7_init_X5_init
set_option maxRecDepth 20000 in
theorem ggX7_init_X6_init : GoodIn wsX7_init wsX6_init := goodIn_r _ [23, 24, 2, 3, 16, 25, 26, 27, 44, 45, 46] (by decide +kernel) (by decide +kernel)
set_option maxRecDepth 20000 in
theorem gX7_init_X6_init_n20 : GoodIn wsX7_init (wsX6_init) := ggX7_init_X6_init
set_option maxRecDepth 20000 in
theorem ggX7_init_X6_becomeOne : GoodIn wsX7_init wsX6_becomeOne := goodIn_r _ [31, 27, 32, 33, 34, 10, 35, 25, 26, 44, 45, 46] (by decide +kernel) (by decide +kernel)
set_option maxRecDepth 20000 in
theorem gX7_init_X6_becomeOne : GoodIn wsX7_init (wsV RX7 29 RX6 yX6_becomeOne wsX6_becomeOne) := goodIn_app (goodIn_of _ (by decide +kernel)) ggX7_init_X6_becomeOne
set_option maxRecDepth 20000 in
theorem ggX7_copyFrom_X5_copyFrom : GoodIn wsX7_copyFrom wsX5_copyFrom := goodIn_r _ [8, 9, 10, 11, 12, 13, 14, 15, 16, 17, 30, 31, 32, 33, 34] (by decide +kernel) (by decide +kernel)
set_option maxRecDepth 20000 in
theorem gX7_copyFrom_X5_copyFrom : GoodIn wsX7_copyFrom (wsV RX7 33 RX5 yX5_copyFrom wsX5_copyFrom) := goodIn_app (goodIn_of _ (by decide +kernel)) ggX7_copyFrom_X5_copyFrom
set_option maxRecDepth 20000 in
theorem ggX7_copyFrom_X6_copyFrom : GoodIn wsX7_copyFrom wsX6_copyFrom := goodIn_r _ [22, 23, 24, 11, 12, 13, 25, 26, 35, 36, 37] (by decide +kernel) (by decide +kernel)
set_option maxRecDepth 20000 in
theorem gX7_copyFrom_X6_copyFrom : GoodIn wsX7_copyFrom (wsV RX7 37 RX6 yX6_copyFrom wsX6_copyFrom) := goodIn_app (goodIn_of _ (by decide +kernel)) ggX7_copyFrom_X6_copyFrom
set_option maxRecDepth 20000 in
theorem ggX7_movePrior_X6_becomeOne : GoodIn wsX7_movePrior wsX6_becomeOne := goodIn_r _ [7, 8, 9, 10, 11, 6, 12, 13, 14, 18, 19, 20] (by decide +kernel) (by decide +kernel)
set_option maxRecDepth 20000 in
theorem gX7_movePrior_X6_becomeOne : GoodIn wsX7_movePrior (wsV RX7 29 RX6 yX6_becomeOne wsX6_becomeOne) := goodIn_app (goodIn_of _ (by decide +kernel)) ggX7_movePrior_X6_becomeOne
set_option maxRecDepth 20000 in
theorem ggX7_tellMeanValue_X5_valueAt : GoodIn wsX7_tellMeanValue wsX5_valueAt := goodIn_r _ [10, 11, 12, 13, 14, 15, 16, 9, 17, 18, 19, 47, 48, 49, 50, 51] (by decide +kernel) (by decide +kernel)
set_option maxRecDepth 20000 in
theorem gX7_tellMeanValue_X5_valueAt : GoodIn wsX7_tellMeanValue (wsV RX7 50 RX5 yX5_valueAt wsX5_valueAt) := goodIn_app (goodIn_of _ (by decide +kernel)) ggX7_tellMeanValue_X5_valueAt
set_option maxRecDepth 20000 in
theorem ggX7_tellMeanValue_X6_weightSum : GoodIn wsX7_tellMeanValue wsX6_weightSum := goodIn_r _ [24, 25, 26, 44, 45, 46] (by decide +kernel) (by decide +kernel)
set_option maxRecDepth 20000 in
theorem gX7_tellMeanValue_X6_weightSum : GoodIn wsX7_tellMeanValue (wsV RX7 54 RX6 yX6_weightSum wsX6_weightSum) := goodIn_app (goodIn_of _ (by decide +kernel)) ggX7_tellMeanValue_X6_weightSum
set_option maxRecDepth 20000 in
theorem ggX7_tellMeanValue_X1_become : GoodIn wsX7_tellMeanValue wsX1_become := goodIn_r _ [31, 32, 33, 34, 35, 36, 37, 38, 39, 40, 52, 53] (by decide +kernel) (by decide +kernel)
set_option maxRecDepth 20000 in
theorem gX7_tellMeanValue_X1_become : GoodIn wsX7_tellMeanValue (wsV RX7 58 RX1 yX1_become wsX1_become) := goodIn_app (goodIn_of _ (by decide +kernel)) ggX7_tellMeanValue_X1_become
set_option maxRecDepth 20000 in
theorem ggX7_tellMeanWorth_X5_worthAt : GoodIn wsX7_tellMeanWorth wsX5_worthAt := goodIn_r _ [10, 11, 12, 13, 14, 15, 16, 43, 44, 45, 46, 47] (by decide +kernel) (by decide +kernel)
set_option maxRecDepth 20000 in
theorem gX7_tellMeanWorth_X5_worthAt : GoodIn wsX7_tellMeanWorth (wsV RX7 64 RX5 yX5_worthAt wsX5_worthAt) := goodIn_app (goodIn_of _ (by decide +kernel)) ggX7_tellMeanWorth_X5_worthAt
set_option maxRecDepth 20000 in
theorem ggX7_tellMeanWorth_X6_weightSum : GoodIn wsX7_tellMeanWorth wsX6_weightSum := goodIn_r _ [21, 22, 23, 40, 41, 42] (by decide +kernel) (by decide +kernel)
set_option maxRecDepth 20000 in
theorem gX7_tellMeanWorth_X6_weightSum : GoodIn wsX7_tellMeanWorth (wsV RX7 54 RX6 yX6_weightSum wsX6_weightSum) := goodIn_app (goodIn_of _ (by decide +kernel)) ggX7_tellMeanWorth_X6_weightSum
set_option maxRecDepth 20000 in
theorem ggX7_tellMeanWorth_X1_become : GoodIn wsX7_tellMeanWorth wsX1_become := goodIn_r _ [28, 29, 30, 31, 32, 33, 34, 35, 15, 36, 48, 49] (by decide +kernel) (by decide +kernel)
set_option maxRecDepth 20000 in
theorem gX7_tellMeanWorth_X1_become : GoodIn wsX7_tellMeanWorth (wsV RX7 58 RX1 yX1_become wsX1_become) := goodIn_app (goodIn_of _ (by decide +kernel)) ggX7_tellMeanWorth_X1_become
set_option maxRecDepth 20000 in
theorem ggX8_init_X7_init : GoodIn wsX8_init wsX7_init := goodIn_r _ [34, 35, 2, 3, 36, 37, 38, 39, 40, 41, 42, 43, 44, 45, 46, 47, 48, 49, 50, 51, 52, 53, 54, 55, 56, 57, 58, 59, 60, 61, 62, 63, 64, 65, 66, 67, 137, 138, 139, 140, 141, 106, 107, 108, 142, 143, 144] (by decide +kernel) (by decide +kernel)
set_option maxRecDepth 20000 in
theorem gX8_init_X7_init : GoodIn wsX8_init (wsX7_init) := ggX8_init_X7_init
set_option maxRecDepth 20000 in
theorem ggX8_init_X2_init : GoodIn wsX8_init wsX2_init := goodIn_r _ [70, 71, 2, 3, 72, 73, 74, 75, 5, 6, 76, 33, 34, 35, 36, 37, 38, 39, 40, 41, 42, 43, 44, 45, 46, 47, 48, 49, 50, 51, 52, 53, 54, 55, 56, 57, 58, 59, 60, 61, 62, 63, 64, 65, 66, 67, 118, 119, 120, 106, 107, 108, 137, 138, 139, 140, 141, 142, 143, 144] (by decide +kernel) (by decide +kernel)
set_option maxRecDepth 20000 in
theorem gX8_init_X2_init : GoodIn wsX8_init (wsX2_init) := ggX8_init_X2_init
set_option maxRecDepth 20000 in
theorem ggX8_init_X4_init : GoodIn wsX8_init wsX4_init := goodIn_r _ [78, 79, 2, 3, 80, 81, 48, 82, 83, 84, 85, 86, 121, 122, 123, 124, 125, 126] (by decide +kernel) (by decide +kernel)
set_option maxRecDepth 20000 in
theorem gX8_init_X4_init_n33 : GoodIn wsX8_init (wsX4_init) := ggX8_init_X4_init
set_option maxRecDepth 20000 in
theorem ggX8_init_X3_init : GoodIn wsX8_init wsX3_init := goodIn_r _ [88, 89, 2, 3, 48, 90, 127] (by decide +kernel) (by decide +kernel)
set_option maxRecDepth 20000 in
theorem gX8_init_X3_init_n40 : GoodIn wsX8_init (wsX3_init) := ggX8_init_X3_init
set_option maxRecDepth 20000 in
theorem ggX8_init_X0_init : GoodIn wsX8_init wsX0_init := goodIn_r _ [92, 93, 2, 3, 48, 94, 95, 96, 97, 98, 99, 100, 128, 129, 130, 131, 132, 133, 134] (by decide +kernel) (by decide +kernel)
set_option maxRecDepth 20000 in
theorem gX8_init_X0_init_n47 : GoodIn wsX8_init (wsX0_init) := ggX8_init_X0_init
set_option maxRecDepth 20000 in
theorem ggX8_init_X1_init : GoodIn wsX8_init wsX1_init := goodIn_r _ [102, 103, 2, 3, 104, 105, 135, 136] (by decide +kernel) (by decide +kernel)
set_option maxRecDepth 20000 in
theorem gX8_init_X1_init_n54 : GoodIn wsX8_init (wsX1_init) := ggX8_init_X1_init
set_option maxRecDepth 20000 in
theorem ggX8_prior_X2_note : GoodIn wsX8_prior wsX2_note := goodIn_r _ [7, 8, 9, 10, 11, 12, 13, 14, 15, 16, 17, 18, 19, 20, 21, 22, 23, 24, 25, 26, 27, 28, 29, 30, 31, 32, 33, 34, 35, 36, 37, 38, 39, 40, 76, 77, 78, 79, 80, 81, 82, 83, 84, 85, 86, 87, 88, 89] (by decide +kernel) (by decide +kernel)
set_option maxRecDepth 20000 in
theorem gX8_prior_X2_note : GoodIn wsX8_prior (wsV RX8 62 RX2 yX2_note wsX2_note) := goodIn_app (goodIn_of _ (by decide +kernel)) ggX8_prior_X2_note
set_option maxRecDepth 20000 in
theorem ggX8_prior_X7_movePrior : GoodIn wsX8_prior wsX7_movePrior := goodIn_r _ [44, 17, 16, 45, 46, 47, 35, 48, 40, 49, 50, 51, 52, 37, 39, 79, 80, 81, 87, 88, 89] (by decide +kernel) (by decide +kernel)
set_option maxRecDepth 20000 in
theorem gX8_prior_X7_movePrior : GoodIn wsX8_prior (wsV RX8 66 RX7 yX7_movePrior wsX7_movePrior) := goodIn_app (goodIn_of _ (by decide +kernel)) ggX8_prior_X7_movePrior
set_option maxRecDepth 20000 in
theorem ggX8_prior_X8_recorded : GoodIn wsX8_prior wsX8_recorded := goodIn_r _ [57, 1, 58, 59, 60, 6, 61, 9, 62, 63, 64, 65, 66, 67, 68, 69, 70, 71, 72, 73, 74, 75, 76, 77, 78] (by decide +kernel) (by decide +kernel)
set_option maxRecDepth 20000 in
theorem gX8_prior_X8_recorded : GoodIn wsX8_prior (wsV RX8 70 RX8 yX8_recorded wsX8_recorded) := goodIn_app (goodIn_of _ (by decide +kernel)) ggX8_prior_X8_recorded
set_option maxRecDepth 20000 in
theorem ggX8_hire_X2_note : GoodIn wsX8_hire wsX2_note := goodIn_r _ [8, 9, 10, 11, 12, 13, 14, 15, 16, 17, 18, 19, 20, 21, 22, 23, 24, 25, 26, 27, 28, 29, 30, 31, 32, 33, 34, 35, 36, 37, 38, 39, 40, 41, 72, 73, 74, 69, 70, 71, 75, 76, 77, 78, 79, 80, 81, 82] (by decide +kernel) (by decide +kernel)
set_option maxRecDepth 20000 in
theorem gX8_hire_X2_note : GoodIn wsX8_hire (wsV RX8 62 RX2 yX2_note wsX2_note) := goodIn_app (goodIn_of _ (by decide +kernel)) ggX8_hire_X2_note
set_option maxRecDepth 20000 in
theorem ggX8_hire_X5_admit : GoodIn wsX8_hire wsX5_admit := goodIn_r _ [45, 32, 24, 29, 30, 31, 75, 76, 77, 78, 79] (by decide +kernel) (by decide +kernel)
set_option maxRecDepth 20000 in
theorem gX8_hire_X5_admit : GoodIn wsX8_hire (wsV RX8 77 RX5 yX5_admit wsX5_admit) := goodIn_app (goodIn_of _ (by decide +kernel)) ggX8_hire_X5_admit
set_option maxRecDepth 20000 in
theorem ggX8_hire_X8_recorded : GoodIn wsX8_hire wsX8_recorded := goodIn_r _ [50, 1, 51, 52, 53, 7, 54, 10, 55, 56, 57, 58, 59, 60, 61, 62, 63, 64, 65, 66, 67, 68, 72, 73, 74] (by decide +kernel) (by decide +kernel)
set_option maxRecDepth 20000 in
theorem gX8_hire_X8_recorded : GoodIn wsX8_hire (wsV RX8 70 RX8 yX8_recorded wsX8_recorded) := goodIn_app (goodIn_of _ (by decide +kernel)) ggX8_hire_X8_recorded
set_option maxRecDepth 20000 in
theorem ggX8_dismiss_X2_note : GoodIn wsX8_dismiss wsX2_note := goodIn_r _ [8, 9, 10, 11, 12, 13, 14, 15, 16, 17, 18, 19, 20, 21, 22, 23, 24, 25, 26, 27, 28, 29, 30, 31, 32, 33, 34, 35, 36, 37, 38, 39, 40, 41, 76, 77, 78, 73, 74, 75, 79, 80, 81, 82, 83, 84, 85, 86] (by decide +kernel) (by decide +kernel)
set_option maxRecDepth 20000 in
theorem gX8_dismiss_X2_note : GoodIn wsX8_dismiss (wsV RX8 62 RX2 yX2_note wsX2_note) := goodIn_app (goodIn_of _ (by decide +kernel)) ggX8_dismiss_X2_note
set_option maxRecDepth 20000 in
theorem ggX8_dismiss_X5_remove : GoodIn wsX8_dismiss wsX5_remove := goodIn_r _ [45, 32, 24, 29, 30, 31, 46, 47, 48, 22, 49, 79, 80, 81, 82, 83] (by decide +kernel) (by decide +kernel)
set_option maxRecDepth 20000 in
theorem gX8_dismiss_X5_remove : GoodIn wsX8_dismiss (wsV RX8 83 RX5 yX5_remove wsX5_remove) := goodIn_app (goodIn_of _ (by decide +kernel)) ggX8_dismiss_X5_remove
set_option maxRecDepth 20000 in
theorem ggX8_dismiss_X8_recorded : GoodIn wsX8_dismiss wsX8_recorded := goodIn_r _ [54, 1, 55, 56, 57, 7, 58, 10, 59, 60, 61, 62, 63, 64, 65, 66, 67, 68, 69, 70, 71, 72, 76, 77, 78] (by decide +kernel) (by decide +kernel)
set_option maxRecDepth 20000 in
theorem gX8_dismiss_X8_recorded : GoodIn wsX8_dismiss (wsV RX8 70 RX8 yX8_recorded wsX8_recorded) := goodIn_app (goodIn_of _ (by decide +kernel)) ggX8_dismiss_X8_recorded
set_option maxRecDepth 20000 in
theorem ggX8_refine_X2_note : GoodIn wsX8_refine wsX2_note := goodIn_r _ [7, 8, 9, 10, 11, 12, 13, 14, 15, 16, 17, 18, 19, 20, 21, 22, 23, 24, 25, 26, 27, 28, 29, 30, 31, 32, 33, 34, 35, 36, 37, 38, 39, 40, 122, 123, 124, 125, 126, 127, 128, 129, 130, 131, 132, 133, 134, 135] (by decide +kernel) (by decide +kernel)
set_option maxRecDepth 20000 in
theorem gX8_refine_X2_note : GoodIn wsX8_refine (wsV RX8 62 RX2 yX2_note wsX2_note) := goodIn_app (goodIn_of _ (by decide +kernel)) ggX8_refine_X2_note
set_option maxRecDepth 20000 in
theorem ggX8_refine_X8_splitPart : GoodIn wsX8_refine wsX8_splitPart := goodIn_r _ [45, 2, 46, 47, 48, 49, 50, 51, 52, 53, 35, 54, 40, 55, 56, 57, 58, 59, 60, 61, 62, 63, 64, 65, 66, 67, 68, 69, 70, 71, 72, 44, 73, 74, 75, 76, 77, 78, 79, 80, 81, 82, 83, 84, 85, 86, 87, 88, 89, 90, 91, 92, 93, 94, 95, 96, 97, 98, 99, 100, 37, 39, 113, 114, 115, 116, 117, 118, 119, 120, 121, 125, 126, 127, 133, 134, 135, 136] (by decide +kernel) (by decide +kernel)
set_option maxRecDepth 20000 in
theorem gX8_refine_X8_splitPart : GoodIn wsX8_refine (wsV RX8 86 RX8 yX8_splitPart wsX8_splitPart) := goodIn_app (goodIn_of _ (by decide +kernel)) ggX8_refine_X8_splitPart
set_option maxRecDepth 20000 in
theorem ggX8_refine_X8_recorded : GoodIn wsX8_refine wsX8_recorded := goodIn_r _ [104, 1, 105, 106, 107, 6, 108, 9, 109, 110, 111, 87, 112, 113, 114, 115, 116, 117, 118, 119, 120, 121, 122, 123, 124] (by decide +kernel) (by decide +kernel)
set_option maxRecDepth 20000 in
theorem gX8_refine_X8_recorded : GoodIn wsX8_refine (wsV RX8 70 RX8 yX8_recorded wsX8_recorded) := goodIn_app (goodIn_of _ (by decide +kernel)) ggX8_refine_X8_recorded
set_option maxRecDepth 20000 in
theorem ggX8_join_X2_note : GoodIn wsX8_join wsX2_note := goodIn_r _ [7, 8, 9, 10, 11, 12, 13, 14, 15, 16, 17, 18, 19, 20, 21, 22, 23, 24, 25, 26, 27, 28, 29, 30, 31, 32, 33, 34, 35, 36, 37, 38, 39, 40, 122, 123, 124, 125, 126, 127, 128, 129, 130, 131, 132, 133, 134, 135] (by decide +kernel) (by decide +kernel)
set_option maxRecDepth 20000 in
theorem gX8_join_X2_note : GoodIn wsX8_join (wsV RX8 62 RX2 yX2_note wsX2_note) := goodIn_app (goodIn_of _ (by decide +kernel)) ggX8_join_X2_note
set_option maxRecDepth 20000 in
theorem ggX8_join_X8_joinWithNext : GoodIn wsX8_join wsX8_joinWithNext := goodIn_r _ [45, 2, 46, 47, 48, 49, 50, 51, 52, 35, 53, 40, 54, 55, 56, 57, 58, 59, 60, 61, 62, 63, 64, 65, 66, 67, 68, 69, 70, 71, 44, 72, 73, 74, 75, 76, 77, 78, 79, 80, 81, 82, 83, 84, 85, 86, 87, 88, 89, 90, 91, 92, 93, 94, 95, 96, 97, 98, 99, 100, 37, 39, 113, 114, 115, 116, 117, 118, 119, 120, 121, 125, 126, 127, 133, 134, 135, 136] (by decide +kernel) (by decide +kernel)
set_option maxRecDepth 20000 in
theorem gX8_join_X8_joinWithNext : GoodIn wsX8_join (wsV RX8 90 RX8 yX8_joinWithNext wsX8_joinWithNext) := goodIn_app (goodIn_of _ (by decide +kernel)) ggX8_join_X8_joinWithNext
set_option maxRecDepth 20000 in
theorem ggX8_join_X8_recorded : GoodIn wsX8_join wsX8_recorded := goodIn_r _ [104, 1, 105, 106, 107, 6, 108, 9, 109, 110, 111, 87, 112, 113, 114, 115, 116, 117, 118, 119, 120, 121, 122, 123, 124] (by decide +kernel) (by decide +kernel)
set_option maxRecDepth 20000 in
theorem gX8_join_X8_recorded : GoodIn wsX8_join (wsV RX8 70 RX8 yX8_recorded wsX8_recorded) := goodIn_app (goodIn_of _ (by decide +kernel)) ggX8_join_X8_recorded
set_option maxRecDepth 20000 in
theorem ggX8_adopt_X2_note : GoodIn wsX8_adopt wsX2_note := goodIn_r _ [7, 8, 9, 10, 11, 12, 13, 14, 15, 16, 17, 18, 19, 20, 21, 22, 23, 24, 25, 26, 27, 28, 29, 30, 31, 32, 33, 34, 35, 36, 37, 38, 39, 40, 147, 148, 149, 150, 151, 152, 153, 154, 155, 156, 157, 158, 159, 160] (by decide +kernel) (by decide +kernel)
set_option maxRecDepth 20000 in
theorem gX8_adopt_X2_note : GoodIn wsX8_adopt (wsV RX8 62 RX2 yX2_note wsX2_note) := goodIn_app (goodIn_of _ (by decide +kernel)) ggX8_adopt_X2_note
set_option maxRecDepth 20000 in
theorem ggX8_adopt_X8_takeBest : GoodIn wsX8_adopt wsX8_takeBest := goodIn_r _ [45, 46, 2, 47, 48, 49, 50, 51, 52, 53, 54, 55, 56, 57, 58, 59, 60, 61, 62, 63, 64, 21, 65, 31, 30, 29, 66, 67, 68, 69, 28, 23, 70, 71, 72, 73, 74, 75, 76, 77, 78, 79, 80, 81, 82, 83, 84, 85, 86, 44, 87, 88, 89, 90, 91, 92, 93, 94, 95, 96, 97, 98, 99, 100, 101, 102, 103, 104, 105, 106, 107, 108, 109, 110, 111, 112, 113, 114, 115, 116, 117, 118, 119, 120, 121, 122, 123, 124, 35, 125, 40, 37, 39, 138, 139, 140, 141, 142, 143, 144, 145, 146, 150, 151, 152, 161, 162, 163, 164, 165, 166, 167, 153, 154, 155, 156, 157, 168, 158, 159, 160] (by decide +kernel) (by decide +kernel)
set_option maxRecDepth 20000 in
theorem gX8_adopt_X8_takeBest : GoodIn wsX8_adopt (wsV RX8 93 RX8 yX8_takeBest wsX8_takeBest) := goodIn_app (goodIn_of _ (by decide +kernel)) ggX8_adopt_X8_takeBest
set_option maxRecDepth 20000 in
theorem ggX8_adopt_X8_recorded : GoodIn wsX8_adopt wsX8_recorded := goodIn_r _ [129, 1, 130, 131, 132, 6, 133, 9, 134, 135, 136, 84, 137, 138, 139, 140, 141, 142, 143, 144, 145, 146, 147, 148, 149] (by decide +kernel) (by decide +kernel)
set_option maxRecDepth 20000 in
theorem gX8_adopt_X8_recorded : GoodIn wsX8_adopt (wsV RX8 70 RX8 yX8_recorded wsX8_recorded) := goodIn_app (goodIn_of _ (by decide +kernel)) ggX8_adopt_X8_recorded
set_option maxRecDepth 20000 in
theorem ggX8_receiver_X5_has : GoodIn wsX8_receiver wsX5_has := goodIn_r _ [11, 12, 35, 36, 37, 38, 39] (by decide +kernel) (by decide +kernel)
set_option maxRecDepth 20000 in
theorem gX8_receiver_X5_has : GoodIn wsX8_receiver (wsV RX8 97 RX5 yX5_has wsX5_has) := goodIn_app (goodIn_of _ (by decide +kernel)) ggX8_receiver_X5_has
set_option maxRecDepth 20000 in
theorem ggX8_receiver_X5_leastActing : GoodIn wsX8_receiver wsX5_leastActing := goodIn_r _ [16, 17, 18, 19, 10, 20, 21, 22, 35, 36, 37, 38, 39] (by decide +kernel) (by decide +kernel)
set_option maxRecDepth 20000 in
theorem gX8_receiver_X5_leastActing : GoodIn wsX8_receiver (wsV RX8 114 RX5 yX5_leastActing wsX5_leastActing) := goodIn_app (goodIn_of _ (by decide +kernel)) ggX8_receiver_X5_leastActing
set_option maxRecDepth 20000 in
theorem ggX8_part_X6_has : GoodIn wsX8_part wsX6_has := goodIn_r _ [10, 11, 42, 43, 44] (by decide +kernel) (by decide +kernel)
set_option maxRecDepth 20000 in
theorem gX8_part_X6_has : GoodIn wsX8_part (wsV RX8 121 RX6 yX6_has wsX6_has) := goodIn_app (goodIn_of _ (by decide +kernel)) ggX8_part_X6_has
set_option maxRecDepth 20000 in
theorem ggX8_part_X5_actingAt : GoodIn wsX8_part wsX5_actingAt := goodIn_r _ [16, 17, 18, 19, 20, 15, 21, 22, 23, 45, 46, 47, 48, 49] (by decide +kernel) (by decide +kernel)
set_option maxRecDepth 20000 in
theorem gX8_part_X5_actingAt : GoodIn wsX8_part (wsV RX8 130 RX5 yX5_actingAt wsX5_actingAt) := goodIn_app (goodIn_of _ (by decide +kernel)) ggX8_part_X5_actingAt
set_option maxRecDepth 20000 in
theorem ggX8_part_X5_valueAt : GoodIn wsX8_part wsX5_valueAt := goodIn_r _ [27, 17, 28, 29, 18, 19, 20, 15, 21, 22, 23, 45, 46, 47, 48, 49] (by decide +kernel) (by decide +kernel)
set_option maxRecDepth 20000 in
theorem gX8_part_X5_valueAt : GoodIn wsX8_part (wsV RX8 133 RX5 yX5_valueAt wsX5_valueAt) := goodIn_app (goodIn_of _ (by decide +kernel)) ggX8_part_X5_valueAt
set_option maxRecDepth 20000 in
theorem ggX8_value_X8_isPosterior : GoodIn wsX8_value wsX8_isPosterior := goodIn_r _ [6] (by decide +kernel) (by decide +kernel)
set_option maxRecDepth 20000 in
theorem gX8_value_X8_isPosterior : GoodIn wsX8_value (va_wsS RX8 136 yX8_isPosterior wsX8_isPosterior) := goodIn_app (goodIn_of _ (by decide +kernel)) ggX8_value_X8_isPosterior
set_option maxRecDepth 20000 in
theorem ggX8_value_X5_valueAt : GoodIn wsX8_value wsX5_valueAt := goodIn_r _ [11, 12, 13, 14, 15, 16, 17, 10, 18, 19, 20, 33, 34, 35, 36, 37] (by decide +kernel) (by decide +kernel)
set_option maxRecDepth 20000 in
theorem gX8_value_X5_valueAt : GoodIn wsX8_value (wsV RX8 133 RX5 yX5_valueAt wsX5_valueAt) := goodIn_app (goodIn_of _ (by decide +kernel)) ggX8_value_X5_valueAt
set_option maxRecDepth 20000 in
theorem ggX8_mean_X8_isHalfOfFraction : GoodIn wsX8_mean wsX8_isHalfOfFraction := goodIn_r _ [9] (by decide +kernel) (by decide +kernel)
set_option maxRecDepth 20000 in
theorem gX8_mean_X8_isHalfOfFraction : GoodIn wsX8_mean (va_wsS RX8 139 yX8_isHalfOfFraction wsX8_isHalfOfFraction) := goodIn_app (goodIn_of _ (by decide +kernel)) ggX8_mean_X8_isHalfOfFraction
set_option maxRecDepth 20000 in
theorem ggX8_mean_X7_tellMeanValue : GoodIn wsX8_mean wsX7_tellMeanValue := goodIn_r _ [14, 15, 16, 17, 18, 19, 20, 21, 22, 23, 24, 25, 26, 27, 28, 29, 30, 31, 32, 33, 34, 35, 36, 37, 38, 39, 40, 41, 42, 43, 44, 45, 46, 47, 48, 8, 49, 50, 51, 52, 53, 65, 66, 67, 68, 69, 70, 71, 72, 73, 74, 75, 63, 64] (by decide +kernel) (by decide +kernel)
set_option maxRecDepth 20000 in
theorem gX8_mean_X7_tellMeanValue : GoodIn wsX8_mean (wsV RX8 142 RX7 yX7_tellMeanValue wsX7_tellMeanValue) := goodIn_app (goodIn_of _ (by decide +kernel)) ggX8_mean_X7_tellMeanValue
set_option maxRecDepth 20000 in
theorem ggX8_worth_X5_has : GoodIn wsX8_worth wsX5_has := goodIn_r _ [10, 11, 69, 70, 71, 72, 73] (by decide +kernel) (by decide +kernel)
set_option maxRecDepth 20000 in
theorem gX8_worth_X5_has : GoodIn wsX8_worth (wsV RX8 97 RX5 yX5_has wsX5_has) := goodIn_app (goodIn_of _ (by decide +kernel)) ggX8_worth_X5_has
set_option maxRecDepth 20000 in
theorem ggX8_worth_X8_isHalfOfFraction : GoodIn wsX8_worth wsX8_isHalfOfFraction := goodIn_r _ [15] (by decide +kernel) (by decide +kernel)
set_option maxRecDepth 20000 in
theorem gX8_worth_X8_isHalfOfFraction : GoodIn wsX8_worth (va_wsS RX8 139 yX8_isHalfOfFraction wsX8_isHalfOfFraction) := goodIn_app (goodIn_of _ (by decide +kernel)) ggX8_worth_X8_isHalfOfFraction
set_option maxRecDepth 20000 in
theorem ggX8_worth_X7_tellMeanWorth : GoodIn wsX8_worth wsX7_tellMeanWorth := goodIn_r _ [20, 21, 22, 23, 24, 25, 26, 27, 28, 9, 29, 30, 31, 32, 33, 34, 35, 36, 37, 38, 39, 40, 41, 42, 43, 44, 45, 46, 47, 48, 49, 50, 14, 51, 52, 53, 54, 64, 65, 66, 74, 75, 76, 69, 70, 71, 72, 73, 67, 68] (by decide +kernel) (by decide +kernel)
set_option maxRecDepth 20000 in
theorem gX8_worth_X7_tellMeanWorth : GoodIn wsX8_worth (wsV RX8 154 RX7 yX7_tellMeanWorth wsX7_tellMeanWorth) := goodIn_app (goodIn_of _ (by decide +kernel)) ggX8_worth_X7_tellMeanWorth
set_option maxRecDepth 20000 in
theorem ggX8_count_X6_weightSum : GoodIn wsX8_count wsX6_weightSum := goodIn_r _ [15, 16, 17, 120, 121, 122] (by decide +kernel) (by decide +kernel)
set_option maxRecDepth 20000 in
theorem gX8_count_X6_weightSum : GoodIn wsX8_count (wsV RX8 167 RX6 yX6_weightSum wsX6_weightSum) := goodIn_app (goodIn_of _ (by decide +kernel)) ggX8_count_X6_weightSum
set_option maxRecDepth 20000 in
theorem ggX8_count_X8_meanIsEnvelope : GoodIn wsX8_count wsX8_meanIsEnvelope := goodIn_r _ [22, 1, 23, 2, 24, 25, 26, 27, 28, 29, 30, 31, 32, 33, 34, 35, 36, 37, 38, 39, 40, 41, 42, 43, 44, 45, 46, 47, 48, 49, 50, 51, 52, 12, 13, 14, 15, 16, 17, 53, 54, 55, 56, 57, 58, 59, 60, 21, 61, 62, 63, 64, 65, 66, 67, 68, 69, 3, 70, 71, 72, 73, 74, 75, 76, 77, 78, 79, 80, 81, 82, 83, 84, 85, 86, 87, 88, 89, 90, 91, 92, 93, 94, 95, 96, 97, 98, 99, 100, 101, 102, 103, 104, 105, 106, 107, 108, 109, 110, 111, 112, 113, 114, 132, 133, 120, 121, 122, 115, 116, 117, 118, 119, 134, 135, 136, 137, 138, 139, 140] (by decide +kernel) (by decide +kernel)
set_option maxRecDepth 20000 in
theorem gX8_count_X8_meanIsEnvelope : GoodIn wsX8_count (wsV RX8 170 RX8 yX8_meanIsEnvelope wsX8_meanIsEnvelope) := goodIn_app (goodIn_of _ (by decide +kernel)) ggX8_count_X8_meanIsEnvelope
set_option maxRecDepth 20000 in
theorem ggX8_envelope_X8_isPosterior : GoodIn wsX8_envelope wsX8_isPosterior := goodIn_r _ [9] (by decide +kernel) (by decide +kernel)
set_option maxRecDepth 20000 in
theorem gX8_envelope_X8_isPosterior : GoodIn wsX8_envelope (va_wsS RX8 136 yX8_isPosterior wsX8_isPosterior) := goodIn_app (goodIn_of _ (by decide +kernel)) ggX8_envelope_X8_isPosterior
set_option maxRecDepth 20000 in
theorem ggX8_envelope_X8_isHalfOfFraction : GoodIn wsX8_envelope wsX8_isHalfOfFraction := goodIn_r _ [12] (by decide +kernel) (by decide +kernel)
set_option maxRecDepth 20000 in
theorem gX8_envelope_X8_isHalfOfFraction : GoodIn wsX8_envelope (va_wsS RX8 139 yX8_isHalfOfFraction wsX8_isHalfOfFraction) := goodIn_app (goodIn_of _ (by decide +kernel)) ggX8_envelope_X8_isHalfOfFraction
set_option maxRecDepth 20000 in
theorem ggX8_envelope_X8_aimAt : GoodIn wsX8_envelope wsX8_aimAt := goodIn_r _ [16, 1, 17, 18, 19, 20, 21, 22, 23, 24, 25, 26, 27, 28, 29, 30, 31, 32, 33, 34, 35, 36, 37, 38, 39, 40, 41, 42, 43, 44, 45, 46, 47, 48, 49, 50, 51, 52, 53, 54, 55, 56, 57, 8, 58, 59, 60, 61, 77, 78, 79, 80, 81, 82, 83, 84, 85, 88, 89, 90, 91, 92, 93, 94, 95, 96, 97, 98, 99, 100, 101, 102] (by decide +kernel) (by decide +kernel)
set_option maxRecDepth 20000 in
theorem gX8_envelope_X8_aimAt : GoodIn wsX8_envelope (wsV RX8 180 RX8 yX8_aimAt wsX8_aimAt) := goodIn_app (goodIn_of _ (by decide +kernel)) ggX8_envelope_X8_aimAt
set_option maxRecDepth 20000 in
theorem ggX8_envelope_X0_tellEnvelope : GoodIn wsX8_envelope wsX0_tellEnvelope := goodIn_r _ [65, 51, 52, 66, 67, 68, 22, 69, 25, 49, 50, 70, 71, 72, 73, 74, 75, 76, 57, 8, 58, 59, 60, 55, 61, 91, 92, 93, 94, 95, 96, 97, 86, 87] (by decide +kernel) (by decide +kernel)
set_option maxRecDepth 20000 in
theorem gX8_envelope_X0_tellEnvelope : GoodIn wsX8_envelope (wsV RX8 184 RX0 yX0_tellEnvelope wsX0_tellEnvelope) := goodIn_app (goodIn_of _ (by decide +kernel)) ggX8_envelope_X0_tellEnvelope
set_option maxRecDepth 20000 in
theorem ggX8_best_X8_isPosterior : GoodIn wsX8_best wsX8_isPosterior := goodIn_r _ [9] (by decide +kernel) (by decide +kernel)
set_option maxRecDepth 20000 in
theorem gX8_best_X8_isPosterior : GoodIn wsX8_best (va_wsS RX8 136 yX8_isPosterior wsX8_isPosterior) := goodIn_app (goodIn_of _ (by decide +kernel)) ggX8_best_X8_isPosterior
set_option maxRecDepth 20000 in
theorem ggX8_best_X8_aimAt : GoodIn wsX8_best wsX8_aimAt := goodIn_r _ [13, 1, 14, 15, 16, 17, 18, 19, 20, 21, 22, 23, 24, 25, 26, 27, 28, 29, 30, 31, 32, 33, 34, 35, 36, 37, 38, 39, 40, 41, 42, 43, 44, 45, 46, 47, 48, 49, 50, 51, 52, 53, 54, 8, 55, 56, 57, 58, 59, 60, 61, 62, 63, 64, 65, 66, 67, 75, 76, 77, 68, 69, 70, 71, 72, 73, 74, 78, 79, 80, 81, 82] (by decide +kernel) (by decide +kernel)
set_option maxRecDepth 20000 in
theorem gX8_best_X8_aimAt : GoodIn wsX8_best (wsV RX8 180 RX8 yX8_aimAt wsX8_aimAt) := goodIn_app (goodIn_of _ (by decide +kernel)) ggX8_best_X8_aimAt
set_option maxRecDepth 20000 in
theorem ggX8_recorded_X2_keep : GoodIn wsX8_recorded wsX2_keep := goodIn_r _ [6, 7, 8, 9, 10, 11, 12, 22, 23, 24] (by decide +kernel) (by decide +kernel)
set_option maxRecDepth 20000 in
theorem gX8_recorded_X2_keep : GoodIn wsX8_recorded (wsV RX8 221 RX2 yX2_keep wsX2_keep) := goodIn_app (goodIn_of _ (by decide +kernel)) ggX8_recorded_X2_keep
set_option maxRecDepth 20000 in
theorem ggX8_splitPart_X6_has : GoodIn wsX8_splitPart wsX6_has := goodIn_r _ [11, 12, 74, 75, 76] (by decide +kernel) (by decide +kernel)
set_option maxRecDepth 20000 in
theorem gX8_splitPart_X6_has : GoodIn wsX8_splitPart (wsV RX8 121 RX6 yX6_has wsX6_has) := goodIn_app (goodIn_of _ (by decide +kernel)) ggX8_splitPart_X6_has
set_option maxRecDepth 20000 in
theorem ggX8_splitPart_X3_gather : GoodIn wsX8_splitPart wsX3_gather := goodIn_r _ [17, 18, 19, 20, 21, 22, 23, 16, 24, 25, 26, 27, 28, 29, 30, 31, 32, 74, 75, 76, 77] (by decide +kernel) (by decide +kernel)
set_option maxRecDepth 20000 in
theorem gX8_splitPart_X3_gather : GoodIn wsX8_splitPart (wsV RX8 224 RX3 yX3_gather wsX3_gather) := goodIn_app (goodIn_of _ (by decide +kernel)) ggX8_splitPart_X3_gather
set_option maxRecDepth 20000 in
theorem ggX8_splitPart_X3_add : GoodIn wsX8_splitPart wsX3_add := goodIn_r _ [29, 25, 30, 31, 32, 77] (by decide +kernel) (by decide +kernel)
set_option maxRecDepth 20000 in
theorem gX8_splitPart_X3_add : GoodIn wsX8_splitPart (wsV RX8 228 RX3 yX3_add wsX3_add) := goodIn_app (goodIn_of _ (by decide +kernel)) ggX8_splitPart_X3_add
set_option maxRecDepth 20000 in
theorem ggX8_splitPart_X8_takeMix : GoodIn wsX8_splitPart wsX8_takeMix := goodIn_r _ [37, 6, 1, 2, 4, 38, 39, 40, 16, 41, 25, 42, 31, 43, 44, 45, 46, 47, 48, 49, 50, 51, 52, 53, 54, 55, 18, 56, 57, 58, 10, 59, 12, 60, 61, 62, 63, 64, 65, 66, 67, 68, 69, 70, 71, 72, 73, 74, 75, 76, 77] (by decide +kernel) (by decide +kernel)
set_option maxRecDepth 20000 in
theorem gX8_splitPart_X8_takeMix : GoodIn wsX8_splitPart (wsV RX8 232 RX8 yX8_takeMix wsX8_takeMix) := goodIn_app (goodIn_of _ (by decide +kernel)) ggX8_splitPart_X8_takeMix
set_option maxRecDepth 20000 in
theorem ggX8_joinWithNext_X6_has : GoodIn wsX8_joinWithNext wsX6_has := goodIn_r _ [10, 11, 74, 75, 76] (by decide +kernel) (by decide +kernel)
set_option maxRecDepth 20000 in
theorem gX8_joinWithNext_X6_has : GoodIn wsX8_joinWithNext (wsV RX8 121 RX6 yX6_has wsX6_has) := goodIn_app (goodIn_of _ (by decide +kernel)) ggX8_joinWithNext_X6_has
set_option maxRecDepth 20000 in
theorem ggX8_joinWithNext_X3_gather : GoodIn wsX8_joinWithNext wsX3_gather := goodIn_r _ [16, 17, 18, 19, 20, 21, 22, 15, 23, 24, 25, 26, 27, 28, 29, 30, 31, 74, 75, 76, 77] (by decide +kernel) (by decide +kernel)
set_option maxRecDepth 20000 in
theorem gX8_joinWithNext_X3_gather : GoodIn wsX8_joinWithNext (wsV RX8 224 RX3 yX3_gather wsX3_gather) := goodIn_app (goodIn_of _ (by decide +kernel)) ggX8_joinWithNext_X3_gather
set_option maxRecDepth 20000 in
theorem ggX8_joinWithNext_X3_add : GoodIn wsX8_joinWithNext wsX3_add := goodIn_r _ [28, 24, 29, 30, 31, 77] (by decide +kernel) (by decide +kernel)
set_option maxRecDepth 20000 in
theorem gX8_joinWithNext_X3_add : GoodIn wsX8_joinWithNext (wsV RX8 228 RX3 yX3_add wsX3_add) := goodIn_app (goodIn_of _ (by decide +kernel)) ggX8_joinWithNext_X3_add
set_option maxRecDepth 20000 in
theorem ggX8_joinWithNext_X8_takeMix : GoodIn wsX8_joinWithNext wsX8_takeMix := goodIn_r _ [36, 5, 1, 2, 37, 38, 39, 40, 15, 41, 24, 42, 30, 43, 44, 45, 46, 47, 48, 49, 50, 51, 52, 53, 54, 55, 17, 56, 57, 58, 9, 59, 11, 60, 61, 62, 63, 64, 65, 66, 67, 68, 69, 70, 71, 72, 73, 74, 75, 76, 77] (by decide +kernel) (by decide +kernel)
set_option maxRecDepth 20000 in
theorem gX8_joinWithNext_X8_takeMix : GoodIn wsX8_joinWithNext (wsV RX8 232 RX8 yX8_takeMix wsX8_takeMix) := goodIn_app (goodIn_of _ (by decide +kernel)) ggX8_joinWithNext_X8_takeMix
set_option maxRecDepth 20000 in
theorem ggX8_takeBest_X0_draw : GoodIn wsX8_takeBest wsX0_draw := goodIn_r _ [14, 15, 16, 17, 18, 19, 20, 21, 22, 23, 24, 25, 26, 27, 28, 29, 30, 31, 32, 33, 34, 13, 35, 105, 106, 107, 108, 109, 110, 111, 112, 113, 114, 115, 116] (by decide +kernel) (by decide +kernel)
set_option maxRecDepth 20000 in
theorem gX8_takeBest_X0_draw : GoodIn wsX8_takeBest (wsV RX8 235 RX0 yX0_draw wsX0_draw) := goodIn_app (goodIn_of _ (by decide +kernel)) ggX8_takeBest_X0_draw
set_option maxRecDepth 20000 in
theorem ggX8_takeBest_X0_aim : GoodIn wsX8_takeBest wsX0_aim := goodIn_r _ [39, 15, 17, 40, 41, 42, 43, 44, 45, 46, 47, 32, 33, 34, 13, 35, 16, 48, 49, 50, 51, 52, 53, 105, 106, 107, 108, 109, 110, 111] (by decide +kernel) (by decide +kernel)
set_option maxRecDepth 20000 in
theorem gX8_takeBest_X0_aim : GoodIn wsX8_takeBest (wsV RX8 239 RX0 yX0_aim wsX0_aim) := goodIn_app (goodIn_of _ (by decide +kernel)) ggX8_takeBest_X0_aim
set_option maxRecDepth 20000 in
theorem ggX8_takeBest_X3_clear : GoodIn wsX8_takeBest wsX3_clear := goodIn_r _ [58, 59, 117] (by decide +kernel) (by decide +kernel)
set_option maxRecDepth 20000 in
theorem gX8_takeBest_X3_clear : GoodIn wsX8_takeBest (wsV RX8 242 RX3 yX3_clear wsX3_clear) := goodIn_app (goodIn_of _ (by decide +kernel)) ggX8_takeBest_X3_clear
set_option maxRecDepth 20000 in
theorem ggX8_takeBest_X3_add : GoodIn wsX8_takeBest wsX3_add := goodIn_r _ [63, 59, 64, 49, 65, 117] (by decide +kernel) (by decide +kernel)
set_option maxRecDepth 20000 in
theorem gX8_takeBest_X3_add : GoodIn wsX8_takeBest (wsV RX8 228 RX3 yX3_add wsX3_add) := goodIn_app (goodIn_of _ (by decide +kernel)) ggX8_takeBest_X3_add
set_option maxRecDepth 20000 in
theorem ggX8_takeBest_X8_takeMix : GoodIn wsX8_takeBest wsX8_takeMix := goodIn_r _ [69, 5, 2, 70, 71, 72, 73, 74, 57, 75, 59, 48, 49, 50, 51, 52, 46, 53, 76, 77, 78, 79, 80, 81, 82, 83, 84, 85, 86, 87, 88, 89, 90, 91, 92, 93, 94, 95, 96, 97, 98, 99, 100, 101, 102, 103, 104, 118, 119, 120, 117] (by decide +kernel) (by decide +kernel)
set_option maxRecDepth 20000 in
theorem gX8_takeBest_X8_takeMix : GoodIn wsX8_takeBest (wsV RX8 232 RX8 yX8_takeMix wsX8_takeMix) := goodIn_app (goodIn_of _ (by decide +kernel)) ggX8_takeBest_X8_takeMix
set_option maxRecDepth 20000 in
theorem ggX8_takeMix_X3_reduce : GoodIn wsX8_takeMix wsX3_reduce := goodIn_r _ [9, 10, 11, 12, 13, 14, 15, 16, 17, 50] (by decide +kernel) (by decide +kernel)
set_option maxRecDepth 20000 in
theorem gX8_takeMix_X3_reduce : GoodIn wsX8_takeMix (wsV RX8 250 RX3 yX3_reduce wsX3_reduce) := goodIn_app (goodIn_of _ (by decide +kernel)) ggX8_takeMix_X3_reduce
set_option maxRecDepth 20000 in
theorem ggX8_takeMix_X3_fits : GoodIn wsX8_takeMix wsX3_fits := goodIn_r _ [21, 10, 50] (by decide +kernel) (by decide +kernel)
set_option maxRecDepth 20000 in
theorem gX8_takeMix_X3_fits : GoodIn wsX8_takeMix (wsV RX8 253 RX3 yX3_fits wsX3_fits) := goodIn_app (goodIn_of _ (by decide +kernel)) ggX8_takeMix_X3_fits
set_option maxRecDepth 20000 in
theorem ggX8_takeMix_X3_pourInto : GoodIn wsX8_takeMix wsX3_pourInto := goodIn_r _ [25, 26, 10, 27, 28, 29, 30, 31, 32, 33, 34, 47, 48, 49, 50] (by decide +kernel) (by decide +kernel)
set_option maxRecDepth 20000 in
theorem gX8_takeMix_X3_pourInto : GoodIn wsX8_takeMix (wsV RX8 259 RX3 yX3_pourInto wsX3_pourInto) := goodIn_app (goodIn_of _ (by decide +kernel)) ggX8_takeMix_X3_pourInto
set_option maxRecDepth 20000 in
theorem ggX8_aimAt_X0_draw : GoodIn wsX8_aimAt wsX0_draw := goodIn_r _ [8, 9, 10, 11, 12, 13, 14, 15, 16, 17, 18, 19, 20, 21, 22, 23, 24, 25, 26, 27, 28, 7, 29, 60, 61, 62, 63, 64, 65, 66, 67, 68, 69, 70, 71] (by decide +kernel) (by decide +kernel)
set_option maxRecDepth 20000 in
theorem gX8_aimAt_X0_draw : GoodIn wsX8_aimAt (wsV RX8 235 RX0 yX0_draw wsX0_draw) := goodIn_app (goodIn_of _ (by decide +kernel)) ggX8_aimAt_X0_draw
set_option maxRecDepth 20000 in
theorem ggX8_aimAt_X0_aim : GoodIn wsX8_aimAt wsX0_aim := goodIn_r _ [33, 9, 11, 34, 35, 36, 37, 38, 39, 40, 41, 26, 27, 28, 7, 29, 10, 42, 43, 44, 45, 46, 47, 60, 61, 62, 63, 64, 65, 66] (by decide +kernel) (by decide +kernel)
set_option maxRecDepth 20000 in
theorem gX8_aimAt_X0_aim : GoodIn wsX8_aimAt (wsV RX8 239 RX0 yX0_aim wsX0_aim) := goodIn_app (goodIn_of _ (by decide +kernel)) ggX8_aimAt_X0_aim
set_option maxRecDepth 20000 in
theorem ggX8_meanIsEnvelope_X7_tellMeanValue : GoodIn wsX8_meanIsEnvelope wsX7_tellMeanValue := goodIn_r _ [12, 13, 14, 15, 16, 17, 18, 19, 20, 21, 22, 23, 24, 25, 26, 27, 28, 29, 30, 31, 32, 33, 34, 35, 36, 37, 38, 39, 40, 41, 42, 43, 44, 45, 46, 47, 48, 49, 50, 51, 52, 100, 101, 102, 105, 106, 107, 108, 109, 110, 111, 112, 103, 104] (by decide +kernel) (by decide +kernel)
set_option maxRecDepth 20000 in
theorem gX8_meanIsEnvelope_X7_tellMeanValue : GoodIn wsX8_meanIsEnvelope (wsV RX8 142 RX7 yX7_tellMeanValue wsX7_tellMeanValue) := goodIn_app (goodIn_of _ (by decide +kernel)) ggX8_meanIsEnvelope_X7_tellMeanValue
set_option maxRecDepth 20000 in
theorem ggX8_meanIsEnvelope_X8_aimAt : GoodIn wsX8_meanIsEnvelope wsX8_aimAt := goodIn_r _ [56, 4, 1, 57, 58, 59, 60, 61, 62, 63, 64, 65, 66, 19, 20, 21, 22, 23, 24, 25, 26, 27, 28, 29, 30, 31, 67, 68, 69, 70, 71, 72, 73, 74, 75, 76, 77, 78, 79, 80, 51, 81, 46, 47, 48, 49, 50, 52, 91, 92, 93, 94, 95, 96, 97, 98, 99, 100, 101, 102, 113, 114, 115, 116, 117, 118, 119, 108, 109, 110, 111, 112] (by decide +kernel) (by decide +kernel)
set_option maxRecDepth 20000 in
theorem gX8_meanIsEnvelope_X8_aimAt : GoodIn wsX8_meanIsEnvelope (wsV RX8 180 RX8 yX8_aimAt wsX8_aimAt) := goodIn_app (goodIn_of _ (by decide +kernel)) ggX8_meanIsEnvelope_X8_aimAt
set_option maxRecDepth 20000 in
theorem ggX8_meanIsEnvelope_X0_tellEnvelope : GoodIn wsX8_meanIsEnvelope wsX0_tellEnvelope := goodIn_r _ [85, 77, 78, 86, 87, 88, 61, 89, 64, 75, 76, 90, 40, 41, 42, 43, 44, 45, 46, 47, 48, 49, 50, 51, 52, 113, 114, 115, 116, 117, 118, 119, 103, 104] (by decide +kernel) (by decide +kernel)
set_option maxRecDepth 20000 in
theorem gX8_meanIsEnvelope_X0_tellEnvelope : GoodIn wsX8_meanIsEnvelope (wsV RX8 184 RX0 yX0_tellEnvelope wsX0_tellEnvelope) := goodIn_app (goodIn_of _ (by decide +kernel)) ggX8_meanIsEnvelope_X0_tellEnvelope
set_option maxRecDepth 20000 in
theorem ggL_least_L_gcd : GoodIn wsL_least wsL_gcd := goodIn_r _ [4] (by decide +kernel) (by decide +kernel)
set_option maxRecDepth 20000 in
theorem gL_least_L_gcd : GoodIn wsL_least (va_wsS RL 10 yL_gcd wsL_gcd) := goodIn_app (goodIn_of _ (by decide +kernel)) ggL_least_L_gcd
set_option maxRecDepth 20000 in
theorem ggL_value_L_acting : GoodIn wsL_value wsL_acting := goodIn_r _ [4] (by decide +kernel) (by decide +kernel)
set_option maxRecDepth 20000 in
theorem gL_value_L_acting : GoodIn wsL_value (va_wsS RL 16 yL_acting wsL_acting) := goodIn_app (goodIn_of _ (by decide +kernel)) ggL_value_L_acting
set_option maxRecDepth 20000 in
theorem ggL_envelope_L_value : GoodIn wsL_envelope wsL_value := goodIn_r _ [4, 5, 6, 3, 7] (by decide +kernel) (by decide +kernel)
set_option maxRecDepth 20000 in
theorem gL_envelope_L_value : GoodIn wsL_envelope (va_wsS RL 20 yL_value wsL_value) := goodIn_app (goodIn_of _ (by decide +kernel)) ggL_envelope_L_value
set_option maxRecDepth 20000 in
theorem ggL_envelope_L_least : GoodIn wsL_envelope wsL_least := goodIn_r _ [10, 11, 12, 3, 13] (by decide +kernel) (by decide +kernel)
set_option maxRecDepth 20000 in
theorem gL_envelope_L_least : GoodIn wsL_envelope (va_wsS RL 23 yL_least wsL_least) := goodIn_app (goodIn_of _ (by decide +kernel)) ggL_envelope_L_least
set_option maxRecDepth 20000 in
theorem ggL_tidy_L_gcd : GoodIn wsL_tidy wsL_gcd := goodIn_r _ [4] (by decide +kernel) (by decide +kernel)
set_option maxRecDepth 20000 in
theorem gL_tidy_L_gcd : GoodIn wsL_tidy (va_wsS RL 10 yL_gcd wsL_gcd) := goodIn_app (goodIn_of _ (by decide +kernel)) ggL_tidy_L_gcd
