theorem goodIn_cons {big a : List Cond} {c : Cond} (h1 : GoodIn big [c]) (h2 : GoodIn big a) : GoodIn big (c :: a) := fun w h => (List.mem_cons.mp h).elim (fun e => h1 w (by rw [e]; exact List.mem_singleton.mpr rfl)) (h2 w)
set_option maxRecDepth 100000 in
theorem gs_c : GoodIn wsL_law [Cond.code yL_same cL_same 17 (some .boolean)] := goodIn_sub (fun w h => (List.mem_singleton.mp h).symm ▸ List.mem_of_getElem? (i := 307) rfl) (by decide +kernel)
set_option maxRecDepth 20000 in
theorem gs_1 : GoodIn wsL_law wsL_same_r1 := goodIn_r _ [308, 251, 252, 113, 253, 254, 255, 256, 309, 310, 311, 2, 312, 13, 189, 192, 190, 125, 193, 194, 195, 48, 196, 64] (by decide +kernel) (by decide +kernel)
set_option maxRecDepth 20000 in
theorem gs_2 : GoodIn wsL_law wsL_same_r2 := goodIn_r _ [313, 314, 315, 44, 316, 58, 281, 282, 283, 284, 55, 54, 317, 278, 279, 280, 57, 56, 257, 258, 259, 178, 179, 180] (by decide +kernel) (by decide +kernel)
set_option maxRecDepth 20000 in
theorem gs_3 : GoodIn wsL_law wsL_same_r3 := goodIn_r _ [318, 319, 320, 321, 322, 323, 324, 325, 326, 172, 173, 174, 327, 328, 329, 330, 331, 332, 333, 334, 36, 335, 336, 337] (by decide +kernel) (by decide +kernel)
set_option maxRecDepth 20000 in
theorem gs_4 : GoodIn wsL_law wsL_same_r4 := goodIn_r _ [338, 339, 340, 341, 342, 12, 343, 49, 344, 345, 45, 346, 347, 348, 349, 350, 351, 294, 161, 295, 352, 353, 354, 355] (by decide +kernel) (by decide +kernel)
set_option maxRecDepth 20000 in
theorem gs_5 : GoodIn wsL_law wsL_same_r5 := goodIn_r _ [62, 356, 357, 358, 35, 359, 109, 110, 223, 224, 225, 226, 227, 248, 249, 250, 360, 361, 362, 363, 364, 365, 366, 367] (by decide +kernel) (by decide +kernel)
set_option maxRecDepth 20000 in
theorem gs_6 : GoodIn wsL_law wsL_same_r6 := goodIn_r _ [368, 369, 370, 371, 372, 373, 268, 374, 191, 24, 375, 17, 376, 377, 378, 379, 380, 381, 32, 37, 382, 383, 384, 385] (by decide +kernel) (by decide +kernel)
set_option maxRecDepth 20000 in
theorem gs_7 : GoodIn wsL_law wsL_same_r7 := goodIn_r _ [273, 274, 275, 31, 276, 101, 99, 100, 277, 285, 286, 287, 288, 289, 290, 291, 292, 102, 103, 104, 105, 293, 386, 387] (by decide +kernel) (by decide +kernel)
set_option maxRecDepth 20000 in
theorem gs_8 : GoodIn wsL_law wsL_same_r8 := goodIn_r _ [388, 389, 390, 391, 392, 393, 394, 117, 118, 119, 120, 395, 396, 397, 398, 399, 212, 213, 400, 401, 402, 403, 404, 405] (by decide +kernel) (by decide +kernel)
set_option maxRecDepth 20000 in
theorem gs_9 : GoodIn wsL_law wsL_same_r9 := goodIn_r _ [406, 407, 269, 271, 270, 272] (by decide +kernel) (by decide +kernel)
set_option maxRecDepth 20000 in
theorem gs_X8 : GoodIn wsL_law wsX80 := goodIn_r _ [408, 409, 410, 411, 412, 413, 414, 415, 416] (by decide +kernel) (by decide +kernel)
set_option maxRecDepth 20000 in
theorem gs_X7 : GoodIn wsL_law wsX70 := goodIn_r _ [417, 418, 419] (by decide +kernel) (by decide +kernel)
set_option maxRecDepth 20000 in
theorem gs_X6 : GoodIn wsL_law wsX60 := goodIn_r _ [444, 445, 446] (by decide +kernel) (by decide +kernel)
set_option maxRecDepth 20000 in
theorem gs_X5 : GoodIn wsL_law wsX50 := goodIn_r _ [439, 440, 441, 442, 443] (by decide +kernel) (by decide +kernel)
set_option maxRecDepth 20000 in
theorem gs_X1 : GoodIn wsL_law wsX10 := goodIn_r _ [437, 438] (by decide +kernel) (by decide +kernel)
set_option maxRecDepth 20000 in
theorem gs_X4 : GoodIn wsL_law wsX40 := goodIn_r _ [423, 424, 425, 426, 427, 428] (by decide +kernel) (by decide +kernel)
set_option maxRecDepth 20000 in
theorem gs_X2 : GoodIn wsL_law wsX20 := goodIn_r _ [420, 421, 422] (by decide +kernel) (by decide +kernel)
set_option maxRecDepth 20000 in
theorem gs_X0 : GoodIn wsL_law wsX00 := goodIn_r _ [430, 431, 432, 433, 434, 435, 436] (by decide +kernel) (by decide +kernel)
theorem ggL_law_L_same : GoodIn wsL_law wsL_same := goodIn_cons gs_c (goodIn_app (goodIn_app (goodIn_app (goodIn_app (goodIn_app (goodIn_app (goodIn_app (goodIn_app (goodIn_app gs_1 (goodIn_app gs_2 (goodIn_app gs_3 (goodIn_app gs_4 (goodIn_app gs_5 (goodIn_app gs_6 (goodIn_app gs_7 (goodIn_app gs_8 gs_9)))))))) gs_X8) gs_X7) gs_X6) gs_X5) gs_X1) gs_X4) gs_X2) gs_X0)
set_option maxRecDepth 20000 in
theorem gL_law_L_same : GoodIn wsL_law (va_wsS RL 94 yL_same wsL_same) := goodIn_app (goodIn_of _ (by decide +kernel)) ggL_law_L_same
