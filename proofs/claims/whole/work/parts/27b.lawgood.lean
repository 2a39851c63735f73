/-! the words of the law's calls -/
set_option maxRecDepth 20000 in
theorem ggL_law_X2_init : GoodIn wsL_law wsX2_init := goodIn_r _ [9, 10, 11, 12, 13, 14, 15, 16, 17, 18, 19, 20, 21, 22, 23, 24, 25, 26, 27, 28, 29, 30, 31, 32, 33, 34, 35, 36, 37, 38, 39, 40, 41, 42, 43, 424, 425, 398, 399, 400, 401, 402, 403, 404, 405, 406, 407, 408, 426, 427] (by decide +kernel) (by decide +kernel)
set_option maxRecDepth 20000 in
theorem gL_law_X2_init : GoodIn wsL_law (wsX2_init) := ggL_law_X2_init
set_option maxRecDepth 20000 in
theorem ggL_law_X3_init : GoodIn wsL_law wsX3_init := goodIn_r _ [46, 47, 11, 12, 41, 48, 49, 50, 51, 52, 16, 53, 54, 55, 409, 410, 411, 412, 413, 414, 415, 416, 417, 418, 419, 420, 421, 422, 423] (by decide +kernel) (by decide +kernel)
set_option maxRecDepth 20000 in
theorem gL_law_X3_init : GoodIn wsL_law (wsX3_init) := ggL_law_X3_init
set_option maxRecDepth 20000 in
theorem ggL_law_X2_octet : GoodIn wsL_law wsX2_octet := goodIn_r _ [59, 17, 60, 61, 62, 15, 63, 36, 35, 398, 399, 400, 401, 402, 403, 404, 405, 406, 407, 408, 424, 425] (by decide +kernel) (by decide +kernel)
set_option maxRecDepth 20000 in
theorem gL_law_X2_octet : GoodIn wsL_law (wsV RL 19 RX2 yX2_octet wsX2_octet) := goodIn_app (goodIn_of _ (by decide +kernel)) ggL_law_X2_octet
set_option maxRecDepth 20000 in
theorem ggL_law_X3_octet : GoodIn wsL_law wsX3_octet := goodIn_r _ [67, 68, 69, 48, 409, 410, 411, 412, 413, 414, 415, 416, 417, 418, 419, 420, 421, 422, 423] (by decide +kernel) (by decide +kernel)
set_option maxRecDepth 20000 in
theorem gL_law_X3_octet : GoodIn wsL_law (wsV RL 23 RX3 yX3_octet wsX3_octet) := goodIn_app (goodIn_of _ (by decide +kernel)) ggL_law_X3_octet
set_option maxRecDepth 20000 in
theorem ggL_law_X2_read : GoodIn wsL_law wsX2_read := goodIn_r _ [73, 24, 17, 23, 22, 74, 75, 76, 21, 77, 43, 78, 79, 80, 2, 81, 27, 82, 83, 84, 15, 85, 36, 35, 86, 87, 88, 89, 90, 91, 92, 93, 94, 95, 96, 97, 98, 99, 100, 101, 102, 103, 104, 105, 106, 107, 108, 42, 109, 110, 111, 112, 113, 114, 115, 116, 117, 118, 119, 120, 121, 122, 123, 124, 125, 126, 127, 128, 129, 130, 131, 132, 133, 134, 135, 136, 137, 138, 139, 140, 141, 142, 143, 144, 145, 146, 147, 148, 149, 150, 151, 152, 153, 154, 155, 156, 157, 158, 159, 160, 161, 162, 163, 164, 165, 166, 167, 168, 169, 170, 171, 172, 398, 399, 400, 401, 402, 403, 404, 405, 406, 407, 408, 426, 427, 424, 425] (by decide +kernel) (by decide +kernel)
set_option maxRecDepth 20000 in
theorem gL_law_X2_read : GoodIn wsL_law (wsV RL 24 RX2 yX2_read wsX2_read) := goodIn_app (goodIn_of _ (by decide +kernel)) ggL_law_X2_read
set_option maxRecDepth 20000 in
theorem ggL_law_X3_read : GoodIn wsL_law wsX3_read := goodIn_r _ [176, 68, 69, 177, 51, 50, 49, 178, 179, 180, 181, 182, 5, 183, 48, 52, 184, 185, 186, 187, 188, 189, 190, 191, 192, 193, 194, 195, 196, 197, 198, 199, 200, 201, 202, 203, 204, 205, 206, 207, 208, 209, 210, 211, 212, 213, 214, 215, 216, 217, 218, 409, 410, 411, 412, 413, 414, 415, 416, 417, 418, 419, 420, 421, 422, 423] (by decide +kernel) (by decide +kernel)
set_option maxRecDepth 20000 in
theorem gL_law_X3_read : GoodIn wsL_law (wsV RL 28 RX3 yX3_read wsX3_read) := goodIn_app (goodIn_of _ (by decide +kernel)) ggL_law_X3_read
set_option maxRecDepth 20000 in
theorem ggL_law_X2_character : GoodIn wsL_law wsX2_character := goodIn_r _ [222, 22, 223, 114, 115, 21, 116, 43, 42, 398, 399, 400, 401, 402, 403, 404, 405, 406, 407, 408, 426, 427] (by decide +kernel) (by decide +kernel)
set_option maxRecDepth 20000 in
theorem gL_law_X2_character : GoodIn wsL_law (wsV RL 29 RX2 yX2_character wsX2_character) := goodIn_app (goodIn_of _ (by decide +kernel)) ggL_law_X2_character
set_option maxRecDepth 20000 in
theorem ggL_law_X3_character : GoodIn wsL_law wsX3_character := goodIn_r _ [227, 68, 178, 49, 409, 410, 411, 412, 413, 414, 415, 416, 417, 418, 419, 420, 421, 422, 423] (by decide +kernel) (by decide +kernel)
set_option maxRecDepth 20000 in
theorem gL_law_X3_character : GoodIn wsL_law (wsV RL 32 RX3 yX3_character wsX3_character) := goodIn_app (goodIn_of _ (by decide +kernel)) ggL_law_X3_character
set_option maxRecDepth 20000 in
theorem ggL_law_X2_write : GoodIn wsL_law wsX2_write := goodIn_r _ [231, 18, 28, 29, 155, 156, 157, 15, 158, 36, 74, 75, 76, 21, 77, 43, 232, 233, 234, 2, 235, 22, 30, 223, 114, 115, 116, 42, 99, 100, 101, 236, 237, 238, 239, 105, 106, 107, 108, 93, 94, 95, 129, 130, 131, 132, 133, 134, 135, 136, 137, 138, 139, 140, 60, 61, 62, 63, 35, 240, 241, 242, 243, 113, 244, 245, 246, 247, 248, 249, 250, 251, 252, 253, 254, 255, 256, 257, 258, 126, 127, 128, 398, 399, 400, 401, 402, 403, 404, 405, 406, 407, 408, 424, 425, 426, 427] (by decide +kernel) (by decide +kernel)
set_option maxRecDepth 20000 in
theorem gL_law_X2_write : GoodIn wsL_law (wsV RL 33 RX2 yX2_write wsX2_write) := goodIn_app (goodIn_of _ (by decide +kernel)) ggL_law_X2_write
set_option maxRecDepth 20000 in
theorem ggL_law_X3_write : GoodIn wsL_law wsX3_write := goodIn_r _ [262, 68, 263, 264, 178, 49, 265, 266, 267, 5, 268, 55, 191, 192, 193, 205, 206, 207, 188, 189, 190, 202, 203, 204, 269, 270, 271, 272, 273, 274, 275, 276, 53, 277, 278, 279, 280, 54, 409, 410, 411, 412, 413, 414, 415, 416, 417, 418, 419, 420, 421, 422, 423] (by decide +kernel) (by decide +kernel)
set_option maxRecDepth 20000 in
theorem gL_law_X3_write : GoodIn wsL_law (wsV RL 36 RX3 yX3_write wsX3_write) := goodIn_app (goodIn_of _ (by decide +kernel)) ggL_law_X3_write
set_option maxRecDepth 20000 in
theorem ggL_law_X2_octet2 : GoodIn wsL_law wsX2_octet2 := goodIn_r _ [284, 18, 82, 83, 84, 15, 85, 36, 35, 398, 399, 400, 401, 402, 403, 404, 405, 406, 407, 408, 424, 425] (by decide +kernel) (by decide +kernel)
set_option maxRecDepth 20000 in
theorem gL_law_X2_octet2 : GoodIn wsL_law (wsV RL 37 RX2 yX2_octet2 wsX2_octet2) := goodIn_app (goodIn_of _ (by decide +kernel)) ggL_law_X2_octet2
set_option maxRecDepth 20000 in
theorem ggL_law_X3_octet2 : GoodIn wsL_law wsX3_octet2 := goodIn_r _ [288, 68, 263, 53, 409, 410, 411, 412, 413, 414, 415, 416, 417, 418, 419, 420, 421, 422, 423] (by decide +kernel) (by decide +kernel)
set_option maxRecDepth 20000 in
theorem gL_law_X3_octet2 : GoodIn wsL_law (wsV RL 41 RX3 yX3_octet2 wsX3_octet2) := goodIn_app (goodIn_of _ (by decide +kernel)) ggL_law_X3_octet2
set_option maxRecDepth 20000 in
theorem ggL_law_X2_compose : GoodIn wsL_law wsX2_compose := goodIn_r _ [292, 25, 22, 293, 294, 295, 21, 296, 43, 297, 75, 76, 77, 113, 114, 115, 116, 42, 142, 2, 143, 144, 145, 146, 147, 148, 149, 150, 151, 152, 153, 154, 117, 106, 107, 108, 298, 299, 300, 160, 161, 162, 100, 101, 163, 164, 165, 166, 167, 168, 169, 170, 171, 172, 301, 302, 303, 304, 305, 306, 398, 399, 400, 401, 402, 403, 404, 405, 406, 407, 408, 426, 427] (by decide +kernel) (by decide +kernel)
set_option maxRecDepth 20000 in
theorem gL_law_X2_compose : GoodIn wsL_law (wsV RL 42 RX2 yX2_compose wsX2_compose) := goodIn_app (goodIn_of _ (by decide +kernel)) ggL_law_X2_compose
