set_option maxRecDepth 20000 in
theorem ggL_same_L_value : GoodIn wsL_same wsL_value := goodIn_r _ [5, 6, 7, 4, 8] (by decide +kernel) (by decide +kernel)
set_option maxRecDepth 20000 in
theorem gL_same_L_value : GoodIn wsL_same (va_wsS RL 20 yL_value wsL_value) := goodIn_app (goodIn_of _ (by decide +kernel)) ggL_same_L_value
set_option maxRecDepth 20000 in
theorem ggL_same_X8_part : GoodIn wsL_same wsX8_part := goodIn_r _ [13, 14, 15, 16, 17, 18, 19, 20, 21, 22, 23, 24, 25, 26, 27, 28, 29, 30, 31, 32, 33, 34, 35, 36, 37, 38, 39, 40, 41, 42, 199, 200, 201, 202, 203, 204, 205, 206, 207, 208, 209, 210, 211, 212, 213, 214, 215, 216, 217, 218] (by decide +kernel) (by decide +kernel)
set_option maxRecDepth 20000 in
theorem gL_same_X8_part : GoodIn wsL_same (wsV RL 27 RX8 yX8_part wsX8_part) := goodIn_app (goodIn_of _ (by decide +kernel)) ggL_same_X8_part
set_option maxRecDepth 20000 in
theorem ggL_same_L_acting : GoodIn wsL_same wsL_acting := goodIn_r _ [8] (by decide +kernel) (by decide +kernel)
set_option maxRecDepth 20000 in
theorem gL_same_L_acting : GoodIn wsL_same (va_wsS RL 16 yL_acting wsL_acting) := goodIn_app (goodIn_of _ (by decide +kernel)) ggL_same_L_acting
set_option maxRecDepth 20000 in
theorem ggL_same_L_least : GoodIn wsL_same wsL_least := goodIn_r _ [45, 46, 47, 4, 48] (by decide +kernel) (by decide +kernel)
set_option maxRecDepth 20000 in
theorem gL_same_L_least : GoodIn wsL_same (va_wsS RL 23 yL_least wsL_least) := goodIn_app (goodIn_of _ (by decide +kernel)) ggL_same_L_least
set_option maxRecDepth 20000 in
theorem ggL_same_X8_receiver : GoodIn wsL_same wsX8_receiver := goodIn_r _ [52, 14, 18, 53, 54, 55, 56, 57, 58, 59, 28, 60, 30, 61, 62, 63, 64, 31, 32, 33, 34, 35, 36, 199, 200, 201, 202, 203, 204, 205, 206, 207, 208, 209, 210, 214, 215, 216, 217, 218] (by decide +kernel) (by decide +kernel)
set_option maxRecDepth 20000 in
theorem gL_same_X8_receiver : GoodIn wsL_same (wsV RL 32 RX8 yX8_receiver wsX8_receiver) := goodIn_app (goodIn_of _ (by decide +kernel)) ggL_same_X8_receiver
set_option maxRecDepth 20000 in
theorem ggL_same_X8_worth : GoodIn wsL_same wsX8_worth := goodIn_r _ [68, 14, 18, 69, 70, 71, 57, 58, 59, 28, 60, 30, 72, 73, 12, 74, 75, 76, 77, 78, 79, 80, 81, 82, 83, 84, 85, 86, 87, 88, 35, 36, 89, 90, 91, 92, 93, 94, 95, 22, 96, 24, 97, 98, 99, 100, 101, 102, 103, 104, 105, 106, 107, 108, 109, 199, 200, 201, 202, 203, 204, 205, 206, 207, 208, 209, 210, 219, 220, 214, 215, 216, 217, 218, 211, 212, 213] (by decide +kernel) (by decide +kernel)
set_option maxRecDepth 20000 in
theorem gL_same_X8_worth : GoodIn wsL_same (wsV RL 35 RX8 yX8_worth wsX8_worth) := goodIn_app (goodIn_of _ (by decide +kernel)) ggL_same_X8_worth
set_option maxRecDepth 20000 in
theorem ggL_same_L_envelope : GoodIn wsL_same wsL_envelope := goodIn_r _ [112, 2, 3, 4, 5, 6, 7, 8, 43, 44, 45, 46, 47, 48] (by decide +kernel) (by decide +kernel)
set_option maxRecDepth 20000 in
theorem gL_same_L_envelope : GoodIn wsL_same (va_wsS RL 38 yL_envelope wsL_envelope) := goodIn_app (goodIn_of _ (by decide +kernel)) ggL_same_L_envelope
set_option maxRecDepth 20000 in
theorem ggL_same_X8_mean : GoodIn wsL_same wsX8_mean := goodIn_r _ [116, 14, 69, 70, 117, 71, 72, 73, 12, 74, 118, 119, 120, 78, 121, 80, 81, 82, 83, 84, 122, 38, 39, 28, 40, 30, 41, 42, 31, 32, 33, 34, 35, 36, 93, 94, 95, 22, 96, 24, 97, 98, 99, 100, 101, 102, 103, 104, 105, 106, 107, 108, 91, 109, 199, 200, 201, 202, 203, 204, 205, 206, 207, 219, 220, 208, 209, 210, 211, 212, 213, 214, 215, 216, 217, 218] (by decide +kernel) (by decide +kernel)
set_option maxRecDepth 20000 in
theorem gL_same_X8_mean : GoodIn wsL_same (wsV RL 42 RX8 yX8_mean wsX8_mean) := goodIn_app (goodIn_of _ (by decide +kernel)) ggL_same_X8_mean
set_option maxRecDepth 20000 in
theorem ggL_same_X8_count : GoodIn wsL_same wsX8_count := goodIn_r _ [126, 14, 127, 18, 128, 15, 129, 130, 131, 132, 133, 134, 94, 95, 22, 96, 24, 97, 135, 136, 137, 12, 138, 69, 139, 140, 70, 71, 118, 119, 120, 78, 121, 80, 81, 82, 83, 84, 122, 38, 39, 28, 40, 30, 41, 42, 31, 32, 33, 34, 35, 36, 93, 98, 99, 100, 101, 102, 103, 104, 105, 106, 107, 108, 91, 109, 141, 142, 143, 144, 145, 146, 147, 148, 149, 150, 151, 152, 153, 154, 155, 156, 157, 158, 159, 160, 161, 162, 163, 164, 165, 166, 90, 92, 167, 168, 169, 170, 171, 172, 173, 174, 175, 199, 200, 201, 202, 203, 204, 205, 206, 207, 208, 209, 210, 214, 215, 216, 217, 218, 211, 212, 213, 221, 222, 223, 224, 225, 226, 227, 228, 229, 219, 220, 230, 231, 232, 233, 234, 235, 236] (by decide +kernel) (by decide +kernel)
set_option maxRecDepth 20000 in
theorem gL_same_X8_count : GoodIn wsL_same (wsV RL 47 RX8 yX8_count wsX8_count) := goodIn_app (goodIn_of _ (by decide +kernel)) ggL_same_X8_count
set_option maxRecDepth 20000 in
theorem ggL_same_L_low : GoodIn wsL_same wsL_low := goodIn_r _ [178, 179] (by decide +kernel) (by decide +kernel)
set_option maxRecDepth 20000 in
theorem gL_same_L_low : GoodIn wsL_same (va_wsS RL 50 yL_low wsL_low) := goodIn_app (goodIn_of _ (by decide +kernel)) ggL_same_L_low
set_option maxRecDepth 20000 in
theorem ggL_same_L_gcd : GoodIn wsL_same wsL_gcd := goodIn_r _ [48] (by decide +kernel) (by decide +kernel)
set_option maxRecDepth 20000 in
theorem gL_same_L_gcd : GoodIn wsL_same (va_wsS RL 10 yL_gcd wsL_gcd) := goodIn_app (goodIn_of _ (by decide +kernel)) ggL_same_L_gcd
set_option maxRecDepth 20000 in
theorem ggL_same_X8_value : GoodIn wsL_same wsX8_value := goodIn_r _ [183, 14, 18, 184, 185, 12, 186, 37, 38, 39, 28, 40, 30, 41, 42, 31, 32, 33, 34, 35, 36, 199, 200, 201, 202, 203, 204, 205, 206, 207, 208, 209, 210, 214, 215, 216, 217, 218] (by decide +kernel) (by decide +kernel)
set_option maxRecDepth 20000 in
theorem gL_same_X8_value : GoodIn wsL_same (wsV RL 53 RX8 yX8_value wsX8_value) := goodIn_app (goodIn_of _ (by decide +kernel)) ggL_same_X8_value
set_option maxRecDepth 20000 in
theorem ggL_same_X8_envelope : GoodIn wsL_same wsX8_envelope := goodIn_r _ [190, 139, 69, 70, 117, 71, 184, 185, 12, 186, 72, 73, 74, 141, 142, 143, 144, 14, 18, 145, 146, 147, 148, 149, 150, 151, 152, 153, 38, 39, 28, 40, 30, 41, 42, 31, 32, 33, 34, 35, 36, 154, 155, 156, 157, 158, 159, 160, 161, 162, 163, 164, 165, 166, 90, 91, 92, 105, 106, 107, 108, 109, 167, 168, 169, 170, 171, 172, 173, 174, 175, 99, 100, 101, 102, 103, 104, 199, 200, 201, 202, 203, 204, 205, 206, 207, 219, 220, 208, 209, 210, 230, 231, 232, 233, 234, 235, 236, 214, 215, 216, 217, 218] (by decide +kernel) (by decide +kernel)
set_option maxRecDepth 20000 in
theorem gL_same_X8_envelope : GoodIn wsL_same (wsV RL 55 RX8 yX8_envelope wsX8_envelope) := goodIn_app (goodIn_of _ (by decide +kernel)) ggL_same_X8_envelope
set_option maxRecDepth 20000 in
theorem ggL_same_X8_best : GoodIn wsL_same wsX8_best := goodIn_r _ [194, 139, 195, 196, 197, 198, 184, 185, 12, 186, 141, 142, 143, 144, 14, 18, 145, 146, 147, 148, 149, 150, 151, 152, 153, 38, 39, 28, 40, 30, 41, 42, 31, 32, 33, 34, 35, 36, 154, 155, 156, 157, 158, 159, 160, 161, 162, 163, 164, 165, 166, 90, 91, 92, 105, 106, 107, 108, 109, 199, 200, 201, 202, 203, 204, 205, 206, 207, 230, 231, 232, 233, 234, 235, 236, 208, 209, 210, 214, 215, 216, 217, 218] (by decide +kernel) (by decide +kernel)
set_option maxRecDepth 20000 in
theorem gL_same_X8_best : GoodIn wsL_same (wsV RL 57 RX8 yX8_best wsX8_best) := goodIn_app (goodIn_of _ (by decide +kernel)) ggL_same_X8_best
