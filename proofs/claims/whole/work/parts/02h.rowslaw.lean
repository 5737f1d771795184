set_option maxRecDepth 20000 in
theorem ggL_law_X2_init : GoodIn wsL_law wsX2_init := goodIn_r _ [10, 11, 12, 13, 6, 14, 15, 16, 17, 18, 19, 20, 21, 22, 400, 401, 402, 413, 414, 415, 416, 417, 418] (by decide +kernel) (by decide +kernel)
set_option maxRecDepth 20000 in
theorem gL_law_X2_init : GoodIn wsL_law (wsX2_init) := ggL_law_X2_init
set_option maxRecDepth 20000 in
theorem ggL_law_X3_init : GoodIn wsL_law wsX3_init := goodIn_r _ [25, 26, 12, 13, 6, 27, 28, 403, 404, 405, 406, 407, 408, 409, 410, 411, 412] (by decide +kernel) (by decide +kernel)
set_option maxRecDepth 20000 in
theorem gL_law_X3_init : GoodIn wsL_law (wsX3_init) := ggL_law_X3_init
set_option maxRecDepth 20000 in
theorem ggL_law_L_put : GoodIn wsL_law wsL_put := goodIn_ca (goodIn_r _ [32, 33, 34, 35, 36, 2, 37, 38, 39, 14, 15, 40, 41, 42, 400, 401, 402] (by decide +kernel) (by decide +kernel)) (goodIn_sub (fun _ h => List.mem_append_right _ h) (by decide +kernel))
set_option maxRecDepth 20000 in
theorem gL_law_L_put : GoodIn wsL_law (va_wsS RL 44 yL_put wsL_put) := goodIn_app (goodIn_of _ (by decide +kernel)) ggL_law_L_put
set_option maxRecDepth 20000 in
theorem ggL_law_X3_put : GoodIn wsL_law wsX3_put := goodIn_r _ [46, 47, 27, 28, 48, 49, 5, 50, 403, 404, 405, 406, 407, 408, 409, 410, 411, 412] (by decide +kernel) (by decide +kernel)
set_option maxRecDepth 20000 in
theorem gL_law_X3_put : GoodIn wsL_law (wsV RL 49 RX3 yX3_put wsX3_put) := goodIn_app (goodIn_of _ (by decide +kernel)) ggL_law_X3_put
set_option maxRecDepth 20000 in
theorem ggL_law_X3_thrown : GoodIn wsL_law wsX3_thrown := goodIn_r _ [54, 47, 403, 404, 405, 406, 407, 408, 409, 410, 411, 412] (by decide +kernel) (by decide +kernel)
set_option maxRecDepth 20000 in
theorem gL_law_X3_thrown : GoodIn wsL_law (wsV RL 50 RX3 yX3_thrown wsX3_thrown) := goodIn_app (goodIn_of _ (by decide +kernel)) ggL_law_X3_thrown
set_option maxRecDepth 20000 in
theorem ggL_law_L_work : GoodIn wsL_law wsL_work := goodIn_ca (goodIn_r _ [57, 33, 58, 59, 60, 2, 61, 19, 14, 15, 40, 41, 42, 38, 39, 62, 63, 64, 65, 66, 67, 18, 68, 69, 70, 71, 72, 73, 74, 75, 76, 77, 78, 79, 80, 81, 82, 83, 84, 85, 86, 87, 88, 89, 90, 91, 92, 93, 94, 95, 96, 97, 98, 99, 100, 101, 102, 103, 104, 105, 106, 107, 108, 109, 110, 111, 112, 113, 114, 115, 116, 117, 118, 119, 120, 121, 122, 123, 124, 125, 126, 127, 128, 129, 130, 131, 132, 133, 134, 135, 136, 137, 138, 139, 140, 141, 142, 143, 144, 145, 146, 147, 148, 149, 150, 151, 152, 153, 154, 155, 156, 157, 158, 159, 160, 161, 162, 163, 164, 165, 166, 167, 168, 169, 170, 171, 172, 173, 174, 175, 176, 177, 178, 179, 180, 181, 182, 183, 184, 185, 186, 187, 188, 189, 190, 191, 192, 193, 194, 400, 401, 402, 413, 414, 415, 416, 417, 418] (by decide +kernel) (by decide +kernel)) (goodIn_sub (fun _ h => List.mem_append_right _ h) (by decide +kernel))
set_option maxRecDepth 20000 in
theorem gL_law_L_work : GoodIn wsL_law (va_wsS RL 54 yL_work wsL_work) := goodIn_app (goodIn_of _ (by decide +kernel)) ggL_law_L_work
set_option maxRecDepth 20000 in
theorem ggL_law_X3_work : GoodIn wsL_law wsX3_work := goodIn_r _ [198, 47, 27, 28, 199, 200, 201, 48, 49, 5, 50, 202, 203, 204, 205, 206, 207, 208, 209, 210, 211, 212, 213, 214, 215, 216, 217, 218, 219, 153, 126, 154, 220, 125, 127, 221, 222, 223, 224, 225, 226, 227, 228, 229, 230, 231, 232, 233, 234, 235, 236, 237, 238, 239, 240, 241, 242, 243, 244, 245, 246, 247, 248, 249, 250, 251, 252, 253, 254, 255, 256, 257, 258, 259, 260, 261, 262, 263, 264, 265, 266, 267, 403, 404, 405, 406, 407, 408, 409, 410, 411, 412] (by decide +kernel) (by decide +kernel)
set_option maxRecDepth 20000 in
theorem gL_law_X3_work : GoodIn wsL_law (wsV RL 57 RX3 yX3_work wsX3_work) := goodIn_app (goodIn_of _ (by decide +kernel)) ggL_law_X3_work
set_option maxRecDepth 20000 in
theorem ggL_law_L_exact : GoodIn wsL_law wsL_exact := goodIn_ca (goodIn_r _ [270, 33, 271, 272, 273, 2, 274, 62, 63, 64, 38, 39, 275, 82, 83, 84, 85, 86, 87, 88, 89, 90, 91, 92, 93, 94, 95, 96, 97, 98] (by decide +kernel) (by decide +kernel)) (goodIn_sub (fun _ h => List.mem_append_right _ h) (by decide +kernel))
set_option maxRecDepth 20000 in
theorem gL_law_L_exact : GoodIn wsL_law (va_wsS RL 58 yL_exact wsL_exact) := goodIn_app (goodIn_of _ (by decide +kernel)) ggL_law_L_exact
set_option maxRecDepth 20000 in
theorem ggL_law_X3_exact : GoodIn wsL_law wsX3_exact := goodIn_r _ [279, 47, 280, 281, 282, 5, 283, 202, 203, 204, 201, 205, 206, 207, 208, 209, 210, 211, 212, 213, 214, 403, 404, 405, 406, 407, 408, 409, 410, 411, 412] (by decide +kernel) (by decide +kernel)
set_option maxRecDepth 20000 in
theorem gL_law_X3_exact : GoodIn wsL_law (wsV RL 61 RX3 yX3_exact wsX3_exact) := goodIn_app (goodIn_of _ (by decide +kernel)) ggL_law_X3_exact
set_option maxRecDepth 20000 in
theorem ggL_law_L_cut : GoodIn wsL_law wsL_cut := goodIn_ca (goodIn_r _ [286, 33, 287, 288, 289, 2, 290, 38, 39, 14, 291, 292, 293, 294, 40, 41, 42, 295, 296, 297, 298, 15, 299, 300, 83, 301, 92, 93, 94, 95, 302, 303, 304, 305, 306, 307, 308, 309, 310, 125, 126, 127, 311, 153, 154, 312, 313, 314, 315, 316, 317, 318, 319, 320, 321, 322, 323, 324, 325, 326, 327, 328, 329, 400, 401, 402] (by decide +kernel) (by decide +kernel)) (goodIn_sub (fun _ h => List.mem_append_right _ h) (by decide +kernel))
set_option maxRecDepth 20000 in
theorem gL_law_L_cut : GoodIn wsL_law (va_wsS RL 62 yL_cut wsL_cut) := goodIn_app (goodIn_of _ (by decide +kernel)) ggL_law_L_cut
set_option maxRecDepth 20000 in
theorem ggL_law_X3_cut : GoodIn wsL_law wsX3_cut := goodIn_r _ [333, 47, 27, 334, 28, 335, 336, 337, 48, 49, 5, 50, 280, 281, 282, 283, 338, 339, 340, 341, 342, 209, 343, 344, 345, 346, 347, 348, 349, 350, 351, 352, 353, 354, 220, 125, 126, 127, 219, 153, 154, 355, 356, 357, 358, 359, 360, 361, 362, 254, 255, 363, 364, 365, 366, 403, 404, 405, 406, 407, 408, 409, 410, 411, 412] (by decide +kernel) (by decide +kernel)
set_option maxRecDepth 20000 in
theorem gL_law_X3_cut : GoodIn wsL_law (wsV RL 65 RX3 yX3_cut wsX3_cut) := goodIn_app (goodIn_of _ (by decide +kernel)) ggL_law_X3_cut
set_option maxRecDepth 20000 in
theorem ggL_law_L_holds : GoodIn wsL_law wsL_holds := goodIn_ca (goodIn_r _ [369, 33, 370, 371, 372, 2, 373, 292, 293, 294, 38, 39, 299, 300, 83, 301, 92, 93, 94, 95] (by decide +kernel) (by decide +kernel)) (goodIn_sub (fun _ h => List.mem_append_right _ h) (by decide +kernel))
set_option maxRecDepth 20000 in
theorem gL_law_L_holds : GoodIn wsL_law (va_wsS RL 66 yL_holds wsL_holds) := goodIn_app (goodIn_of _ (by decide +kernel)) ggL_law_L_holds
set_option maxRecDepth 20000 in
theorem ggL_law_X3_holds_ : GoodIn wsL_law wsX3_holds_ := goodIn_r _ [377, 47, 280, 281, 282, 5, 283, 338, 339, 340, 341, 342, 209, 343, 344, 345, 346, 347, 403, 404, 405, 406, 407, 408, 409, 410, 411, 412] (by decide +kernel) (by decide +kernel)
set_option maxRecDepth 20000 in
theorem gL_law_X3_holds_ : GoodIn wsL_law (wsV RL 69 RX3 yX3_holds_ wsX3_holds_) := goodIn_app (goodIn_of _ (by decide +kernel)) ggL_law_X3_holds_
set_option maxRecDepth 20000 in
theorem ggL_law_L_low : GoodIn wsL_law wsL_low := goodIn_ca (goodIn_r _ [380, 33, 381, 382, 383, 2, 384, 14, 40, 41, 42, 38, 39, 400, 401, 402] (by decide +kernel) (by decide +kernel)) (goodIn_sub (fun _ h => List.mem_append_right _ h) (by decide +kernel))
set_option maxRecDepth 20000 in
theorem gL_law_L_low : GoodIn wsL_law (va_wsS RL 70 yL_low wsL_low) := goodIn_app (goodIn_of _ (by decide +kernel)) ggL_law_L_low
set_option maxRecDepth 20000 in
theorem ggL_law_X3_low : GoodIn wsL_law wsX3_low := goodIn_r _ [388, 47, 27, 48, 49, 5, 50, 280, 281, 282, 283, 403, 404, 405, 406, 407, 408, 409, 410, 411, 412] (by decide +kernel) (by decide +kernel)
set_option maxRecDepth 20000 in
theorem gL_law_X3_low : GoodIn wsL_law (wsV RL 73 RX3 yX3_low wsX3_low) := goodIn_app (goodIn_of _ (by decide +kernel)) ggL_law_X3_low
set_option maxRecDepth 20000 in
theorem ggL_law_L_high : GoodIn wsL_law wsL_high := goodIn_ca (goodIn_r _ [391, 33, 392, 393, 394, 2, 395, 15, 40, 41, 42, 38, 39, 400, 401, 402] (by decide +kernel) (by decide +kernel)) (goodIn_sub (fun _ h => List.mem_append_right _ h) (by decide +kernel))
set_option maxRecDepth 20000 in
theorem gL_law_L_high : GoodIn wsL_law (va_wsS RL 74 yL_high wsL_high) := goodIn_app (goodIn_of _ (by decide +kernel)) ggL_law_L_high
set_option maxRecDepth 20000 in
theorem ggL_law_X3_high : GoodIn wsL_law wsX3_high := goodIn_r _ [399, 47, 28, 48, 49, 5, 50, 280, 281, 282, 283, 403, 404, 405, 406, 407, 408, 409, 410, 411, 412] (by decide +kernel) (by decide +kernel)
set_option maxRecDepth 20000 in
theorem gL_law_X3_high : GoodIn wsL_law (wsV RL 76 RX3 yX3_high wsX3_high) := goodIn_app (goodIn_of _ (by decide +kernel)) ggL_law_X3_high
