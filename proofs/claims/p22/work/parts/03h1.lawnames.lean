set_option maxRecDepth 20000 in
theorem ggd_r1 : GoodIn wsL_law wsL_isDone_r1 := goodIn_r _ [196, 197, 74, 198, 199, 200, 201, 202, 203, 204, 205, 96, 206, 207, 208, 209, 210, 2, 211, 212, 213, 17, 13, 101] (by decide +kernel) (by decide +kernel)
set_option maxRecDepth 20000 in
theorem ggd_r2 : GoodIn wsL_law wsL_isDone_r2 := goodIn_r _ [102, 103, 104, 105, 214, 215, 216, 16, 217, 32, 218, 219, 220, 12, 221, 27, 222, 223, 224, 225, 22, 226, 227, 228] (by decide +kernel) (by decide +kernel)
set_option maxRecDepth 20000 in
theorem ggd_r3 : GoodIn wsL_law wsL_isDone_r3 := goodIn_r _ [229, 230, 231, 232, 233, 234, 235, 236, 237, 155, 156, 157, 238, 239, 240, 241, 242, 243, 58, 59, 60, 61, 33, 34] (by decide +kernel) (by decide +kernel)
set_option maxRecDepth 20000 in
theorem ggd_r4 : GoodIn wsL_law wsL_isDone_r4 := goodIn_r _ [35, 39, 62, 43, 63, 244, 245, 246, 247, 136, 137, 138, 248, 249, 250, 251, 139, 140, 141, 142, 252, 253, 254, 120] (by decide +kernel) (by decide +kernel)
set_option maxRecDepth 20000 in
theorem ggd_r5 : GoodIn wsL_law wsL_isDone_r5 := goodIn_r _ [121, 112, 122, 114, 115, 116, 255, 256, 257, 258, 259, 260, 261, 262, 263, 264, 265, 266, 267, 268, 269, 270, 271, 272] (by decide +kernel) (by decide +kernel)
set_option maxRecDepth 20000 in
theorem ggd_r6 : GoodIn wsL_law wsL_isDone_r6 := goodIn_r _ [273, 274, 275, 276, 277, 278, 279, 280, 281, 282, 38, 283, 47, 284, 48, 49, 50, 285, 286, 287, 288, 289, 290, 291] (by decide +kernel) (by decide +kernel)
set_option maxRecDepth 20000 in
theorem ggd_r7 : GoodIn wsL_law wsL_isDone_r7 := goodIn_r _ [292, 92, 293, 294, 295, 296, 297, 298, 299, 300, 301, 107, 108, 109, 110, 111, 113, 117, 118, 119, 302, 303, 304, 305] (by decide +kernel) (by decide +kernel)
set_option maxRecDepth 20000 in
theorem ggd_r8 : GoodIn wsL_law wsL_isDone_r8 := goodIn_r _ [106, 306, 307, 308, 309, 310, 311, 312, 313, 314, 315, 316, 42, 317, 54, 318, 55, 56, 57, 319, 320, 321, 322, 21] (by decide +kernel) (by decide +kernel)
