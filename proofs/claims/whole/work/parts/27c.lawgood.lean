/-! the words of the law's calls -/
set_option maxRecDepth 20000 in
theorem ggL_law_X3_compose : GoodIn wsL_law wsX3_compose := goodIn_r _ [310, 68, 49, 178, 51, 211, 311, 312, 5, 313, 208, 209, 210, 212, 213, 214, 215, 314, 315, 316, 317, 318, 319, 216, 217, 218, 191, 192, 193, 409, 410, 411, 412, 413, 414, 415, 416, 417, 418, 419, 420, 421, 422, 423] (by decide +kernel) (by decide +kernel)
set_option maxRecDepth 20000 in
theorem gL_law_X3_compose : GoodIn wsL_law (wsV RL 45 RX3 yX3_compose wsX3_compose) := goodIn_app (goodIn_of _ (by decide +kernel)) ggL_law_X3_compose
set_option maxRecDepth 20000 in
theorem ggL_law_X2_told : GoodIn wsL_law wsX2_told := goodIn_r _ [323, 28, 29, 223, 114, 115, 21, 116, 43, 42, 398, 399, 400, 401, 402, 403, 404, 405, 406, 407, 408, 426, 427] (by decide +kernel) (by decide +kernel)
set_option maxRecDepth 20000 in
theorem gL_law_X2_told : GoodIn wsL_law (wsV RL 46 RX2 yX2_told wsX2_told) := goodIn_app (goodIn_of _ (by decide +kernel)) ggL_law_X2_told
set_option maxRecDepth 20000 in
theorem ggL_law_X3_told : GoodIn wsL_law wsX3_told := goodIn_r _ [327, 68, 264, 54, 409, 410, 411, 412, 413, 414, 415, 416, 417, 418, 419, 420, 421, 422, 423] (by decide +kernel) (by decide +kernel)
set_option maxRecDepth 20000 in
theorem gL_law_X3_told : GoodIn wsL_law (wsV RL 49 RX3 yX3_told wsX3_told) := goodIn_app (goodIn_of _ (by decide +kernel)) ggL_law_X3_told
set_option maxRecDepth 20000 in
theorem ggL_law_X2_stand : GoodIn wsL_law wsX2_stand := goodIn_r _ [331, 30, 93, 94, 2, 95, 398, 399, 400, 401, 402, 403, 404, 405, 406, 407, 408] (by decide +kernel) (by decide +kernel)
set_option maxRecDepth 20000 in
theorem gL_law_X2_stand : GoodIn wsL_law (wsV RL 50 RX2 yX2_stand wsX2_stand) := goodIn_app (goodIn_of _ (by decide +kernel)) ggL_law_X2_stand
set_option maxRecDepth 20000 in
theorem ggL_law_X3_stand : GoodIn wsL_law wsX3_stand := goodIn_r _ [335, 68, 55, 202, 203, 5, 204, 409, 410, 411, 412, 413, 414, 415, 416, 417, 418, 419, 420, 421, 422, 423] (by decide +kernel) (by decide +kernel)
set_option maxRecDepth 20000 in
theorem gL_law_X3_stand : GoodIn wsL_law (wsV RL 53 RX3 yX3_stand wsX3_stand) := goodIn_app (goodIn_of _ (by decide +kernel)) ggL_law_X3_stand
set_option maxRecDepth 20000 in
theorem ggL_law_X2_nonfiling : GoodIn wsL_law wsX2_nonfiling := goodIn_r _ [339, 22, 340, 341, 342, 21, 343, 43, 113, 114, 115, 116, 42, 100, 2, 101, 223, 344, 345, 346, 141, 142, 143, 144, 145, 146, 147, 148, 149, 150, 151, 152, 153, 154, 347, 348, 349, 350, 398, 399, 400, 401, 402, 403, 404, 405, 406, 407, 408, 426, 427] (by decide +kernel) (by decide +kernel)
set_option maxRecDepth 20000 in
theorem gL_law_X2_nonfiling : GoodIn wsL_law (wsV RL 54 RX2 yX2_nonfiling wsX2_nonfiling) := goodIn_app (goodIn_of _ (by decide +kernel)) ggL_law_X2_nonfiling
set_option maxRecDepth 20000 in
theorem ggL_law_X3_nonfiling : GoodIn wsL_law wsX3_nonfiling := goodIn_r _ [354, 68, 49, 355, 356, 357, 5, 358, 178, 191, 192, 193, 208, 209, 210, 211, 212, 213, 214, 215, 314, 315, 316, 409, 410, 411, 412, 413, 414, 415, 416, 417, 418, 419, 420, 421, 422, 423] (by decide +kernel) (by decide +kernel)
set_option maxRecDepth 20000 in
theorem gL_law_X3_nonfiling : GoodIn wsL_law (wsV RL 57 RX3 yX3_nonfiling wsX3_nonfiling) := goodIn_app (goodIn_of _ (by decide +kernel)) ggL_law_X3_nonfiling
set_option maxRecDepth 20000 in
theorem ggL_law_X2_mark : GoodIn wsL_law wsX2_mark := goodIn_r _ [362, 22, 340, 341, 342, 21, 343, 43, 113, 114, 115, 116, 42, 100, 2, 101, 223, 141, 142, 143, 144, 145, 146, 147, 148, 149, 150, 151, 152, 153, 154, 240, 241, 242, 243, 398, 399, 400, 401, 402, 403, 404, 405, 406, 407, 408, 426, 427] (by decide +kernel) (by decide +kernel)
set_option maxRecDepth 20000 in
theorem gL_law_X2_mark : GoodIn wsL_law (wsV RL 58 RX2 yX2_mark wsX2_mark) := goodIn_app (goodIn_of _ (by decide +kernel)) ggL_law_X2_mark
set_option maxRecDepth 20000 in
theorem ggL_law_X3_mark : GoodIn wsL_law wsX3_mark := goodIn_r _ [366, 68, 49, 178, 355, 356, 357, 5, 358, 191, 192, 193, 208, 209, 210, 211, 212, 213, 214, 215, 409, 410, 411, 412, 413, 414, 415, 416, 417, 418, 419, 420, 421, 422, 423] (by decide +kernel) (by decide +kernel)
set_option maxRecDepth 20000 in
theorem gL_law_X3_mark : GoodIn wsL_law (wsV RL 61 RX3 yX3_mark wsX3_mark) := goodIn_app (goodIn_of _ (by decide +kernel)) ggL_law_X3_mark
set_option maxRecDepth 20000 in
theorem ggL_law_L_row : GoodIn wsL_law wsL_row := goodIn_r _ [370, 371, 372, 373, 2, 374, 375, 376, 377, 96, 97, 98, 99, 100, 101, 102, 103, 104, 428, 429, 430, 431, 432, 433] (by decide +kernel) (by decide +kernel)
set_option maxRecDepth 20000 in
theorem gL_law_L_row : GoodIn wsL_law (va_wsS RL 62 yL_row wsL_row) := goodIn_app (goodIn_of _ (by decide +kernel)) ggL_law_L_row
set_option maxRecDepth 20000 in
theorem ggL_law_X3_row : GoodIn wsL_law wsX3_row := goodIn_r _ [381, 68, 188, 189, 5, 190, 409, 410, 411, 412, 413, 414, 415, 416, 417, 418, 419, 420, 421, 422, 423] (by decide +kernel) (by decide +kernel)
set_option maxRecDepth 20000 in
theorem gL_law_X3_row : GoodIn wsL_law (wsV RL 67 RX3 yX3_row wsX3_row) := goodIn_app (goodIn_of _ (by decide +kernel)) ggL_law_X3_row
set_option maxRecDepth 20000 in
theorem ggL_law_X3_thrown : GoodIn wsL_law wsX3_thrown := goodIn_r _ [385, 68, 409, 410, 411, 412, 413, 414, 415, 416, 417, 418, 419, 420, 421, 422, 423] (by decide +kernel) (by decide +kernel)
set_option maxRecDepth 20000 in
theorem gL_law_X3_thrown : GoodIn wsL_law (wsV RL 68 RX3 yX3_thrown wsX3_thrown) := goodIn_app (goodIn_of _ (by decide +kernel)) ggL_law_X3_thrown
set_option maxRecDepth 20000 in
theorem ggL_law_X2_same : GoodIn wsL_law wsX2_same := goodIn_r _ [389, 25, 22, 26, 23, 293, 294, 295, 21, 296, 43, 297, 75, 76, 77, 113, 114, 115, 116, 42, 142, 2, 143, 144, 145, 146, 147, 148, 149, 150, 151, 152, 153, 154, 117, 106, 107, 108, 298, 299, 300, 160, 161, 162, 100, 101, 163, 164, 165, 166, 167, 168, 169, 170, 171, 172, 390, 391, 392, 393, 398, 399, 400, 401, 402, 403, 404, 405, 406, 407, 408, 426, 427] (by decide +kernel) (by decide +kernel)
set_option maxRecDepth 20000 in
theorem gL_law_X2_same : GoodIn wsL_law (wsV RL 72 RX2 yX2_same wsX2_same) := goodIn_app (goodIn_of _ (by decide +kernel)) ggL_law_X2_same
set_option maxRecDepth 20000 in
theorem ggL_law_X3_same : GoodIn wsL_law wsX3_same := goodIn_r _ [397, 68, 49, 178, 51, 52, 50, 179, 311, 312, 5, 313, 208, 209, 210, 211, 212, 213, 214, 215, 314, 315, 316, 317, 318, 319, 216, 217, 218, 191, 192, 193, 409, 410, 411, 412, 413, 414, 415, 416, 417, 418, 419, 420, 421, 422, 423] (by decide +kernel) (by decide +kernel)
set_option maxRecDepth 20000 in
theorem gL_law_X3_same : GoodIn wsL_law (wsV RL 76 RX3 yX3_same wsX3_same) := goodIn_app (goodIn_of _ (by decide +kernel)) ggL_law_X3_same
