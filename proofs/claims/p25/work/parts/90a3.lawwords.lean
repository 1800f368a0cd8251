set_option maxRecDepth 20000 in
theorem wl_13_0 : ∀ w ∈ ([Cond.code yX0_heightOver cX0_heightOver 4 (some .int), Cond.methodLink RX8 239 yX0_aim, Cond.instanceMethod yX0_aim, Cond.selects RX0 yX0_aim yX0_aim, Cond.code yX0_aim cX0_aim 5 none, Cond.methodLink RX0 48 Lib.Math.max.name, Cond.static Lib.Math.max.name, Cond.code Lib.Math.max.name Lib.Math.max.code 2 (some .int)] : List Cond), w ∈ lw_tbl := mem_pl [383, 384, 385, 386, 387, 389, 390, 391] (by decide +kernel)
set_option maxRecDepth 20000 in
theorem wl_13_1 : ∀ w ∈ ([Cond.methodLink RX8 242 yX3_clear, Cond.methodLink RL 91 yX8_prior, Cond.instanceMethod yX8_prior, Cond.selects RX8 yX8_prior yX8_prior, Cond.code yX8_prior cX8_prior 2 (some .int), Cond.methodLink RX8 66 yX7_movePrior, Cond.instanceMethod yX7_movePrior, Cond.selects RX7 yX7_movePrior yX7_movePrior] : List Cond), w ∈ lw_tbl := mem_pl [392, 242, 243, 244, 245, 266, 267, 268] (by decide +kernel)
set_option maxRecDepth 20000 in
theorem wl_13_2 : ∀ w ∈ ([Cond.code yX7_movePrior cX7_movePrior 3 (some .int), Cond.methodLink RL 94 yL_same, Cond.static yL_same] : List Cond), w ∈ lw_tbl := mem_pl [269, 423, 424] (by decide +kernel)
set_option maxRecDepth 100000 in
theorem wl_13_3 : ∀ w ∈ ([Cond.code yL_same cL_same 17 (some .boolean)] : List Cond), w ∈ lw_tbl := fun w h => (List.mem_singleton.mp h).symm ▸ List.mem_of_getElem? (i := 425) rfl
set_option maxRecDepth 20000 in
theorem wl_13_4 : ∀ w ∈ ([Cond.constant RL 46 (10000000), Cond.methodLink RL 27 yX8_part, Cond.instanceMethod yX8_part, Cond.selects RX8 yX8_part yX8_part] : List Cond), w ∈ lw_tbl := mem_pl [479, 426, 427, 428] (by decide +kernel)
theorem wl_13 : ∀ w ∈ wsL_law_r13, w ∈ lw_tbl := (fa wl_13_0 (fa wl_13_1 (fa wl_13_2 (fa wl_13_3 wl_13_4))))
set_option maxRecDepth 20000 in
theorem wl_14_0 : ∀ w ∈ ([Cond.code yX8_part cX8_part 4 (some .int), Cond.methodLink RX8 130 yX5_actingAt, Cond.instanceMethod yX5_actingAt, Cond.selects RX5 yX5_actingAt yX5_actingAt, Cond.code yX5_actingAt cX5_actingAt 4 (some .int), Cond.methodLink RX8 133 yX5_valueAt, Cond.methodLink RL 32 yX8_receiver, Cond.instanceMethod yX8_receiver] : List Cond), w ∈ lw_tbl := mem_pl [429, 430, 431, 432, 433, 434, 435, 436] (by decide +kernel)
set_option maxRecDepth 20000 in
theorem wl_14_1 : ∀ w ∈ ([Cond.selects RX8 yX8_receiver yX8_receiver, Cond.code yX8_receiver cX8_receiver 4 (some .int), Cond.fieldLink RX8 101 "SplitBeliefs$Receivers" "losses" "[I", Cond.fieldLink RX8 105 "SplitBeliefs$Receivers" "gains" "[I", Cond.fieldLink RX8 108 "SplitBeliefs$Receivers" "pays" "[I", Cond.fieldLink RX8 111 "SplitBeliefs$Receivers" "bonuses" "[I", Cond.methodLink RX8 97 yX5_has, Cond.methodLink RX8 114 yX5_leastActing] : List Cond), w ∈ lw_tbl := mem_pl [437, 438, 42, 44, 46, 48, 439, 440] (by decide +kernel)
set_option maxRecDepth 20000 in
theorem wl_14_2 : ∀ w ∈ ([Cond.instanceMethod yX5_leastActing, Cond.selects RX5 yX5_leastActing yX5_leastActing, Cond.code yX5_leastActing cX5_leastActing 3 (some .int), Cond.methodLink RL 35 yX8_worth, Cond.instanceMethod yX8_worth, Cond.selects RX8 yX8_worth yX8_worth, Cond.code yX8_worth cX8_worth 3 (some .int), Cond.fieldLink RX8 146 "SplitBeliefs$Fraction" "above" "I"] : List Cond), w ∈ lw_tbl := mem_pl [441, 442, 443, 444, 445, 446, 447, 206] (by decide +kernel)
theorem wl_14 : ∀ w ∈ wsL_law_r14, w ∈ lw_tbl := (fa wl_14_0 (fa wl_14_1 wl_14_2))
set_option maxRecDepth 20000 in
theorem wl_15_0 : ∀ w ∈ ([Cond.fieldLink RX8 151 "SplitBeliefs$Fraction" "below" "I", Cond.methodLink RX8 139 yX8_isHalfOfFraction, Cond.static yX8_isHalfOfFraction, Cond.code yX8_isHalfOfFraction cX8_isHalfOfFraction 1 (some .boolean), Cond.methodLink RX8 154 yX7_tellMeanWorth, Cond.instanceMethod yX7_tellMeanWorth, Cond.selects RX7 yX7_tellMeanWorth yX7_tellMeanWorth, Cond.code yX7_tellMeanWorth cX7_tellMeanWorth 5 none] : List Cond), w ∈ lw_tbl := mem_pl [208, 448, 449, 450, 451, 452, 453, 454] (by decide +kernel)
set_option maxRecDepth 20000 in
theorem wl_15_1 : ∀ w ∈ ([Cond.fieldLink RX7 40 "SplitBeliefs$Split" "parts" "I", Cond.fieldLink RX7 43 "SplitBeliefs$Split" "weights" "[I", Cond.fieldLink RX7 47 "SplitBeliefs$Split" "posteriors" "[I", Cond.methodLink RX7 64 yX5_worthAt, Cond.instanceMethod yX5_worthAt, Cond.selects RX5 yX5_worthAt yX5_worthAt, Cond.code yX5_worthAt cX5_worthAt 3 (some .int), Cond.methodLink RX5 38 Lib.Math.max.name] : List Cond), w ∈ lw_tbl := mem_pl [79, 71, 75, 455, 456, 457, 458, 459] (by decide +kernel)
set_option maxRecDepth 20000 in
theorem wl_15_2 : ∀ w ∈ ([Cond.methodLink RX7 54 yX6_weightSum, Cond.instanceMethod yX6_weightSum, Cond.selects RX6 yX6_weightSum yX6_weightSum, Cond.code yX6_weightSum cX6_weightSum 3 (some .int), Cond.methodLink RX7 58 yX1_become, Cond.instanceMethod yX1_become, Cond.selects RX1 yX1_become yX1_become, Cond.code yX1_become cX1_become 4 none] : List Cond), w ∈ lw_tbl := mem_pl [460, 461, 462, 463, 464, 465, 466, 467] (by decide +kernel)
theorem wl_15 : ∀ w ∈ wsL_law_r15, w ∈ lw_tbl := (fa wl_15_0 (fa wl_15_1 wl_15_2))
set_option maxRecDepth 20000 in
theorem wl_16_0 : ∀ w ∈ ([Cond.methodLink RL 42 yX8_mean, Cond.instanceMethod yX8_mean, Cond.selects RX8 yX8_mean yX8_mean, Cond.code yX8_mean cX8_mean 2 (some .int), Cond.constant RX8 150 (10000000), Cond.methodLink RX8 142 yX7_tellMeanValue, Cond.instanceMethod yX7_tellMeanValue, Cond.selects RX7 yX7_tellMeanValue yX7_tellMeanValue] : List Cond), w ∈ lw_tbl := mem_pl [469, 470, 471, 472, 478, 473, 474, 475] (by decide +kernel)
set_option maxRecDepth 20000 in
theorem wl_16_1 : ∀ w ∈ ([Cond.code yX7_tellMeanValue cX7_tellMeanValue 4 none, Cond.methodLink RX7 50 yX5_valueAt, Cond.methodLink RL 47 yX8_count, Cond.instanceMethod yX8_count, Cond.selects RX8 yX8_count yX8_count, Cond.code yX8_count cX8_count 2 (some .int), Cond.fieldLink RX8 161 "SplitBeliefs$Receivers" "number" "I", Cond.fieldLink RX8 174 "SplitBeliefs$Pad" "length" "I"] : List Cond), w ∈ lw_tbl := mem_pl [476, 477, 480, 481, 482, 483, 50, 138] (by decide +kernel)
set_option maxRecDepth 20000 in
theorem wl_16_2 : ∀ w ∈ ([Cond.fieldLink RX8 177 "SplitBeliefs$History" "kept" "I", Cond.methodLink RX8 167 yX6_weightSum, Cond.methodLink RX8 170 yX8_meanIsEnvelope, Cond.instanceMethod yX8_meanIsEnvelope, Cond.selects RX8 yX8_meanIsEnvelope yX8_meanIsEnvelope, Cond.code yX8_meanIsEnvelope cX8_meanIsEnvelope 1 (some .boolean), Cond.methodLink RX8 180 yX8_aimAt, Cond.instanceMethod yX8_aimAt] : List Cond), w ∈ lw_tbl := mem_pl [121, 484, 485, 487, 6, 488, 489, 491] (by decide +kernel)
theorem wl_16 : ∀ w ∈ wsL_law_r16, w ∈ lw_tbl := (fa wl_16_0 (fa wl_16_1 wl_16_2))
set_option maxRecDepth 20000 in
theorem wl_17_0 : ∀ w ∈ ([Cond.selects RX8 yX8_aimAt yX8_aimAt, Cond.code yX8_aimAt cX8_aimAt 2 none, Cond.methodLink RX8 184 yX0_tellEnvelope, Cond.instanceMethod yX0_tellEnvelope, Cond.selects RX0 yX0_tellEnvelope yX0_tellEnvelope, Cond.code yX0_tellEnvelope cX0_tellEnvelope 2 none, Cond.methodLink RX0 53 yX0_valueSum, Cond.instanceMethod yX0_valueSum] : List Cond), w ∈ lw_tbl := mem_pl [7, 492, 493, 494, 495, 496, 497, 499] (by decide +kernel)
set_option maxRecDepth 20000 in
theorem wl_17_1 : ∀ w ∈ ([Cond.selects RX0 yX0_valueSum yX0_valueSum, Cond.code yX0_valueSum cX0_valueSum 1 (some .int), Cond.methodLink RX0 57 yX1_become, Cond.methodLink RL 53 yX8_value, Cond.instanceMethod yX8_value, Cond.selects RX8 yX8_value yX8_value, Cond.code yX8_value cX8_value 2 (some .int), Cond.methodLink RX8 136 yX8_isPosterior] : List Cond), w ∈ lw_tbl := mem_pl [8, 500, 501, 502, 503, 504, 505, 506] (by decide +kernel)
set_option maxRecDepth 20000 in
theorem wl_17_2 : ∀ w ∈ ([Cond.methodLink RL 55 yX8_envelope, Cond.instanceMethod yX8_envelope, Cond.selects RX8 yX8_envelope yX8_envelope, Cond.code yX8_envelope cX8_envelope 3 (some .int), Cond.methodLink RL 57 yX8_best, Cond.instanceMethod yX8_best, Cond.selects RX8 yX8_best yX8_best, Cond.code yX8_best cX8_best 3 (some .int)] : List Cond), w ∈ lw_tbl := mem_pl [507, 508, 509, 510, 511, 512, 513, 514] (by decide +kernel)
theorem wl_17 : ∀ w ∈ wsL_law_r17, w ∈ lw_tbl := (fa wl_17_0 (fa wl_17_1 wl_17_2))
set_option maxRecDepth 20000 in
theorem wx_0 : ∀ w ∈ wsX00, w ∈ lw_tbl := mem_pl [184, 186, 188, 190, 192, 194, 196] (by decide +kernel)
set_option maxRecDepth 20000 in
theorem wx_1 : ∀ w ∈ wsX10, w ∈ lw_tbl := mem_pl [209, 211] (by decide +kernel)
set_option maxRecDepth 20000 in
theorem wx_2 : ∀ w ∈ wsX20, w ∈ lw_tbl := mem_pl [122, 124, 126] (by decide +kernel)
set_option maxRecDepth 20000 in
theorem wx_3 : ∀ w ∈ wsX30, w ∈ lw_tbl := mem_pl [164] (by decide +kernel)
set_option maxRecDepth 20000 in
theorem wx_4 : ∀ w ∈ wsX40, w ∈ lw_tbl := mem_pl [142, 144, 146, 148, 150, 152] (by decide +kernel)
set_option maxRecDepth 20000 in
theorem wx_5 : ∀ w ∈ wsX50, w ∈ lw_tbl := mem_pl [51, 53, 55, 57, 59] (by decide +kernel)
set_option maxRecDepth 20000 in
theorem wx_6 : ∀ w ∈ wsX60, w ∈ lw_tbl := mem_pl [81, 83, 85] (by decide +kernel)
set_option maxRecDepth 20000 in
theorem wx_7 : ∀ w ∈ wsX70, w ∈ lw_tbl := mem_pl [102, 104, 106] (by decide +kernel)
set_option maxRecDepth 20000 in
theorem wx_8 : ∀ w ∈ wsX80, w ∈ lw_tbl := mem_pl [223, 225, 227, 229, 231, 233, 235, 237, 239] (by decide +kernel)
