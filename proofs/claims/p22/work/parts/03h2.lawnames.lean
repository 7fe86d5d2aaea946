set_option maxRecDepth 20000 in
theorem ggd_r9 : GoodIn wsL_law wsL_isDone_r9 := goodIn_r _ [323, 324, 325, 326, 327, 328, 329, 330, 331, 332, 333, 334, 335, 336, 337, 338, 339, 340, 341, 342, 343, 344, 345, 20] (by decide +kernel) (by decide +kernel)
set_option maxRecDepth 20000 in
theorem ggd_r10 : GoodIn wsL_law wsL_isDone_r10 := goodIn_r _ [346, 68, 347, 348, 349, 350, 351, 352, 353, 354, 355, 356, 357, 358, 359, 360, 361, 362, 363, 364, 365, 366, 69, 67] (by decide +kernel) (by decide +kernel)
set_option maxRecDepth 20000 in
theorem ggd_r11 : GoodIn wsL_law wsL_isDone_r11 := goodIn_r _ [367, 368, 369, 370, 71, 371, 372, 373, 374, 375, 376, 377, 378, 379, 380, 381, 382, 383, 384, 385, 386, 387, 388, 389] (by decide +kernel) (by decide +kernel)
set_option maxRecDepth 20000 in
theorem ggd_r12 : GoodIn wsL_law wsL_isDone_r12 := goodIn_r _ [390, 391, 392, 393, 84, 85, 86, 87, 88, 89, 90, 91, 394, 395, 396, 97, 98, 99, 100, 397, 398, 399, 400, 401] (by decide +kernel) (by decide +kernel)
set_option maxRecDepth 20000 in
theorem ggd_r13 : GoodIn wsL_law wsL_isDone_r13 := goodIn_r _ [402, 403, 404, 405, 123, 124, 125, 126, 127, 128, 129, 130, 131] (by decide +kernel) (by decide +kernel)
theorem ggd_X50 : GoodIn wsL_law wsX50 := goodIn_sub inlX5 (by decide +kernel)
theorem ggd_X20 : GoodIn wsL_law wsX20 := goodIn_sub inlX2 (by decide +kernel)
theorem ggd_X10 : GoodIn wsL_law wsX10 := goodIn_sub inlX1 (by decide +kernel)
theorem ggd_X30 : GoodIn wsL_law wsX30 := goodIn_sub inlX3 (by decide +kernel)
theorem ggd_X00 : GoodIn wsL_law wsX00 := goodIn_sub inlX0 (by decide +kernel)
theorem ggd_X40 : GoodIn wsL_law wsX40 := goodIn_sub inlX4 (by decide +kernel)
