set_option maxRecDepth 20000 in
theorem ggL_law_X2_init : GoodIn wsL_law wsX2_init := goodIn_r _ [8, 9, 10, 11, 12, 13, 14, 15, 16, 17, 18, 19, 3, 20, 21, 22, 23, 24, 25, 26, 27, 28, 29, 30, 31, 32, 33, 34, 35, 36, 37, 38, 39, 40, 41, 42, 43, 44, 45, 46, 47, 48, 49, 50, 51, 52, 53, 54, 55, 331, 332, 333, 334, 321, 322, 323, 324, 325, 326, 327, 328, 329, 330, 335, 336, 337, 338, 339, 340, 341] (by decide +kernel) (by decide +kernel)
set_option maxRecDepth 20000 in
theorem gL_law_X2_init : GoodIn wsL_law (wsX2_init) := ggL_law_X2_init
set_option maxRecDepth 20000 in
theorem ggL_law_X2_offers : GoodIn wsL_law wsX2_offers := goodIn_r _ [59, 19, 60, 321, 322, 323, 324, 325, 326, 327, 328, 329, 330, 335, 336, 337, 338, 339, 340, 341] (by decide +kernel) (by decide +kernel)
set_option maxRecDepth 20000 in
theorem gL_law_X2_offers : GoodIn wsL_law (wsV RL 88 RX2 yX2_offers wsX2_offers) := goodIn_app (goodIn_of _ (by decide +kernel)) ggL_law_X2_offers
set_option maxRecDepth 20000 in
theorem ggL_law_X2_trades : GoodIn wsL_law wsX2_trades := goodIn_r _ [64, 26, 321, 322, 323, 324, 325, 326, 327, 328, 329, 330] (by decide +kernel) (by decide +kernel)
set_option maxRecDepth 20000 in
theorem gL_law_X2_trades : GoodIn wsL_law (wsV RL 104 RX2 yX2_trades wsX2_trades) := goodIn_app (goodIn_of _ (by decide +kernel)) ggL_law_X2_trades
set_option maxRecDepth 20000 in
theorem ggL_law_X2_penalties : GoodIn wsL_law wsX2_penalties := goodIn_r _ [68, 69, 70, 71, 2, 72, 27, 21, 28, 73, 74, 75, 76, 77, 78, 79, 80, 81, 82, 83, 84, 25, 22, 23, 85, 86, 87, 88, 89, 90, 321, 322, 323, 324, 325, 326, 327, 328, 329, 330] (by decide +kernel) (by decide +kernel)
set_option maxRecDepth 20000 in
theorem gL_law_X2_penalties : GoodIn wsL_law (wsV RL 107 RX2 yX2_penalties wsX2_penalties) := goodIn_app (goodIn_of _ (by decide +kernel)) ggL_law_X2_penalties
set_option maxRecDepth 20000 in
theorem ggL_law_L_cell : GoodIn wsL_law wsL_cell := goodIn_r _ [94, 95, 96] (by decide +kernel) (by decide +kernel)
set_option maxRecDepth 20000 in
theorem gL_law_L_cell : GoodIn wsL_law (va_wsS RL 111 yL_cell wsL_cell) := goodIn_app (goodIn_of _ (by decide +kernel)) ggL_law_L_cell
set_option maxRecDepth 20000 in
theorem ggL_law_L_offer : GoodIn wsL_law wsL_offer := goodIn_ca (goodIn_ca (goodIn_ca (goodIn_r _ [99, 100, 101, 102, 103, 104, 105, 2, 106, 107, 108, 109, 110, 111, 112, 19, 113, 114, 115, 116, 117, 118, 119, 120, 121, 18, 122, 55, 123, 124, 125, 126, 53, 52, 49, 50, 51, 321, 322, 323, 324, 325, 326, 327, 328, 329, 330, 335, 336, 337, 338, 339, 340, 341] (by decide +kernel) (by decide +kernel)) (goodIn_sub (fun _ h => List.mem_append_left _ (List.mem_append_left _ (List.mem_append_right _ h))) (by decide +kernel))) (goodIn_sub (fun _ h => List.mem_append_left _ (List.mem_append_right _ h)) (by decide +kernel))) (goodIn_sub (fun _ h => List.mem_append_right _ h) (by decide +kernel))
set_option maxRecDepth 20000 in
theorem gL_law_L_offer : GoodIn wsL_law (va_wsS RL 115 yL_offer wsL_offer) := goodIn_app (goodIn_of _ (by decide +kernel)) ggL_law_L_offer
set_option maxRecDepth 20000 in
theorem ggL_law_L_supply : GoodIn wsL_law wsL_supply := goodIn_ca (goodIn_r _ [129, 101, 130, 131, 132, 2, 133, 109, 110, 19, 116, 117, 118, 134, 135, 136, 18, 137, 55, 53, 50, 321, 322, 323, 324, 325, 326, 327, 328, 329, 330, 335, 336, 337, 338, 339, 340, 341] (by decide +kernel) (by decide +kernel)) (goodIn_sub (fun _ h => List.mem_append_left _ (List.mem_append_right _ h)) (by decide +kernel))
set_option maxRecDepth 20000 in
theorem gL_law_L_supply : GoodIn wsL_law (va_wsS RL 118 yL_supply wsL_supply) := goodIn_app (goodIn_of _ (by decide +kernel)) ggL_law_L_supply
set_option maxRecDepth 20000 in
theorem ggL_law_L_demand : GoodIn wsL_law wsL_demand := goodIn_ca (goodIn_r _ [140, 101, 141, 142, 143, 2, 144, 109, 110, 15, 116, 117, 118, 145, 35, 36, 14, 37, 38, 39, 40, 33, 41, 42, 43, 44, 321, 322, 323, 324, 325, 326, 327, 328, 329, 330, 331, 332, 333, 334] (by decide +kernel) (by decide +kernel)) (goodIn_sub (fun _ h => List.mem_append_left _ (List.mem_append_right _ h)) (by decide +kernel))
set_option maxRecDepth 20000 in
theorem gL_law_L_demand : GoodIn wsL_law (va_wsS RL 121 yL_demand wsL_demand) := goodIn_app (goodIn_of _ (by decide +kernel)) ggL_law_L_demand
set_option maxRecDepth 20000 in
theorem ggL_law_L_isFalling : GoodIn wsL_law wsL_isFalling := goodIn_ca (goodIn_r _ [148, 149, 150, 93, 151, 101, 152, 153, 154, 2, 155, 109, 110, 15, 116, 117, 118, 156, 42, 43, 14, 44, 38, 40, 39, 157, 158, 159, 160, 161, 162, 163, 164, 165, 166, 167, 33, 168, 169, 76, 170, 171, 172, 173, 321, 322, 323, 324, 325, 326, 327, 328, 329, 330, 331, 332, 333, 334] (by decide +kernel) (by decide +kernel)) (goodIn_sub (fun _ h => List.mem_append_left _ (List.mem_append_right _ h)) (by decide +kernel))
set_option maxRecDepth 20000 in
theorem gL_law_L_isFalling : GoodIn wsL_law (va_wsS RL 125 yL_isFalling wsL_isFalling) := goodIn_app (goodIn_of _ (by decide +kernel)) ggL_law_L_isFalling
set_option maxRecDepth 20000 in
theorem ggL_law_L_clears : GoodIn wsL_law wsL_clears := goodIn_ca (goodIn_ca (goodIn_r _ [176, 56, 57, 58, 2, 59, 19, 60, 177, 178, 93, 179, 100, 180, 181, 182, 183, 107, 108, 15, 20, 184, 185, 186, 116, 117, 118, 187, 188, 189, 18, 190, 55, 52, 50, 53, 191, 165, 166, 14, 167, 33, 168, 169, 76, 170, 171, 172, 173, 192, 193, 194, 195, 196, 197, 198, 199, 200, 201, 202, 203, 204, 205, 206, 54, 207, 208, 209, 210, 211, 212, 213, 214, 215, 216, 217, 218, 219, 220, 221, 157, 158, 159, 101, 160, 161, 162, 163, 109, 110, 164, 222, 223, 224, 225, 226, 227, 228, 229, 230, 231, 232, 233, 234, 235, 236, 321, 322, 323, 324, 325, 326, 327, 328, 329, 330, 335, 336, 337, 338, 339, 340, 341, 331, 332, 333, 334] (by decide +kernel) (by decide +kernel)) (goodIn_sub (fun _ h => List.mem_append_left _ (List.mem_append_left _ (List.mem_append_right _ h))) (by decide +kernel))) (goodIn_sub (fun _ h => List.mem_append_left _ (List.mem_append_right _ h)) (by decide +kernel))
set_option maxRecDepth 20000 in
theorem gL_law_L_clears : GoodIn wsL_law (va_wsS RL 129 yL_clears wsL_clears) := goodIn_app (goodIn_of _ (by decide +kernel)) ggL_law_L_clears
set_option maxRecDepth 20000 in
theorem ggL_law_L_bought : GoodIn wsL_law wsL_bought := goodIn_ca (goodIn_r _ [217, 100, 218, 219, 220, 2, 221, 107, 108, 20, 184, 185, 186, 116, 117, 118, 321, 322, 323, 324, 325, 326, 327, 328, 329, 330] (by decide +kernel) (by decide +kernel)) (goodIn_sub (fun _ h => List.mem_append_left _ (List.mem_append_left _ (List.mem_append_right _ h))) (by decide +kernel))
set_option maxRecDepth 20000 in
theorem gL_law_L_bought : GoodIn wsL_law (va_wsS RL 97 yL_bought wsL_bought) := goodIn_app (goodIn_of _ (by decide +kernel)) ggL_law_L_bought
set_option maxRecDepth 20000 in
theorem ggL_law_L_clearing : GoodIn wsL_law wsL_clearing := goodIn_ca (goodIn_r _ [179, 100, 180, 181, 182, 2, 183, 107, 108, 19, 15, 20, 184, 185, 186, 116, 117, 118, 187, 188, 189, 18, 190, 55, 52, 50, 53, 191, 165, 166, 14, 167, 33, 168, 169, 76, 170, 171, 172, 173, 192, 193, 194, 195, 321, 322, 323, 324, 325, 326, 327, 328, 329, 330, 335, 336, 337, 338, 339, 340, 341, 331, 332, 333, 334] (by decide +kernel) (by decide +kernel)) (goodIn_sub (fun _ h => List.mem_append_left _ (List.mem_append_left _ (List.mem_append_right _ h))) (by decide +kernel))
set_option maxRecDepth 20000 in
theorem gL_law_L_clearing : GoodIn wsL_law (va_wsS RL 92 yL_clearing wsL_clearing) := goodIn_app (goodIn_of _ (by decide +kernel)) ggL_law_L_clearing
set_option maxRecDepth 20000 in
theorem ggL_law_L_would : GoodIn wsL_law wsL_would := goodIn_ca (goodIn_r _ [224, 100, 225, 226, 227, 2, 228, 107, 108, 19, 15, 20, 229, 230, 231, 18, 232, 55, 184, 185, 186, 116, 117, 118, 187, 188, 189, 190, 52, 50, 53, 191, 165, 166, 14, 167, 33, 168, 169, 76, 170, 171, 172, 173, 233, 234, 235, 236, 321, 322, 323, 324, 325, 326, 327, 328, 329, 330, 335, 336, 337, 338, 339, 340, 341, 331, 332, 333, 334] (by decide +kernel) (by decide +kernel)) (goodIn_sub (fun _ h => List.mem_append_left _ (List.mem_append_left _ (List.mem_append_right _ h))) (by decide +kernel))
set_option maxRecDepth 20000 in
theorem gL_law_L_would : GoodIn wsL_law (va_wsS RL 99 yL_would wsL_would) := goodIn_app (goodIn_of _ (by decide +kernel)) ggL_law_L_would
set_option maxRecDepth 20000 in
theorem ggL_law_L_income : GoodIn wsL_law wsL_income := goodIn_ca (goodIn_r _ [239, 100, 240, 241, 242, 2, 243, 107, 108, 21, 113, 114, 115, 116, 117, 118, 184, 185, 186, 88, 89, 90, 321, 322, 323, 324, 325, 326, 327, 328, 329, 330] (by decide +kernel) (by decide +kernel)) (goodIn_sub (fun _ h => List.mem_append_left _ (List.mem_append_left _ (List.mem_append_right _ h))) (by decide +kernel))
set_option maxRecDepth 20000 in
theorem gL_law_L_income : GoodIn wsL_law (va_wsS RL 133 yL_income wsL_income) := goodIn_app (goodIn_of _ (by decide +kernel)) ggL_law_L_income
set_option maxRecDepth 20000 in
theorem ggL_law_L_run : GoodIn wsL_law wsL_run := goodIn_ca (goodIn_ca (goodIn_r _ [246, 100, 102, 247, 248, 249, 2, 250, 107, 108, 111, 112, 19, 60, 15, 20, 251, 184, 185, 186, 116, 117, 118, 187, 188, 189, 18, 190, 55, 52, 50, 53, 191, 165, 166, 14, 167, 33, 168, 169, 76, 170, 171, 172, 173, 192, 193, 194, 195, 252, 253, 254, 255, 256, 257, 258, 259, 21, 22, 88, 89, 90, 85, 86, 87, 260, 261, 262, 263, 321, 322, 323, 324, 325, 326, 327, 328, 329, 330, 335, 336, 337, 338, 339, 340, 341, 331, 332, 333, 334] (by decide +kernel) (by decide +kernel)) (goodIn_sub (fun _ h => List.mem_append_left _ (List.mem_append_left _ (List.mem_append_right _ h))) (by decide +kernel))) (goodIn_sub (fun _ h => List.mem_append_right _ h) (by decide +kernel))
set_option maxRecDepth 20000 in
theorem gL_law_L_run : GoodIn wsL_law (va_wsS RL 135 yL_run wsL_run) := goodIn_app (goodIn_of _ (by decide +kernel)) ggL_law_L_run
set_option maxRecDepth 20000 in
theorem ggL_law_L_obliged : GoodIn wsL_law wsL_obliged := goodIn_ca (goodIn_r _ [266, 100, 267, 268, 269, 2, 270, 107, 108, 22, 113, 114, 115, 116, 117, 118, 184, 185, 186, 271, 272, 273, 85, 86, 87, 88, 89, 90, 321, 322, 323, 324, 325, 326, 327, 328, 329, 330] (by decide +kernel) (by decide +kernel)) (goodIn_sub (fun _ h => List.mem_append_left _ (List.mem_append_left _ (List.mem_append_right _ h))) (by decide +kernel))
set_option maxRecDepth 20000 in
theorem gL_law_L_obliged : GoodIn wsL_law (va_wsS RL 137 yL_obliged wsL_obliged) := goodIn_app (goodIn_of _ (by decide +kernel)) ggL_law_L_obliged
set_option maxRecDepth 20000 in
theorem ggL_law_L_trade : GoodIn wsL_law wsL_trade := goodIn_ca (goodIn_ca (goodIn_ca (goodIn_r _ [276, 100, 101, 102, 277, 278, 279, 2, 280, 107, 108, 109, 110, 111, 112, 22, 26, 113, 114, 115, 116, 117, 118, 184, 185, 186, 271, 272, 273, 281, 282, 283, 284, 259, 169, 76, 170, 85, 86, 87, 88, 89, 90, 321, 322, 323, 324, 325, 326, 327, 328, 329, 330] (by decide +kernel) (by decide +kernel)) (goodIn_sub (fun _ h => List.mem_append_left _ (List.mem_append_left _ (List.mem_append_right _ h))) (by decide +kernel))) (goodIn_sub (fun _ h => List.mem_append_left _ (List.mem_append_right _ h)) (by decide +kernel))) (goodIn_sub (fun _ h => List.mem_append_right _ h) (by decide +kernel))
set_option maxRecDepth 20000 in
theorem gL_law_L_trade : GoodIn wsL_law (va_wsS RL 140 yL_trade wsL_trade) := goodIn_app (goodIn_of _ (by decide +kernel)) ggL_law_L_trade
set_option maxRecDepth 20000 in
theorem ggL_law_L_stress : GoodIn wsL_law wsL_stress := goodIn_ca (goodIn_r _ [287, 100, 288, 289, 290, 2, 291, 107, 108, 25, 184, 185, 186, 116, 117, 118, 271, 272, 273, 321, 322, 323, 324, 325, 326, 327, 328, 329, 330] (by decide +kernel) (by decide +kernel)) (goodIn_sub (fun _ h => List.mem_append_left _ (List.mem_append_left _ (List.mem_append_right _ h))) (by decide +kernel))
set_option maxRecDepth 20000 in
theorem gL_law_L_stress : GoodIn wsL_law (va_wsS RL 143 yL_stress wsL_stress) := goodIn_app (goodIn_of _ (by decide +kernel)) ggL_law_L_stress
set_option maxRecDepth 20000 in
theorem ggL_law_L_lack : GoodIn wsL_law wsL_lack := goodIn_ca (goodIn_r _ [294, 100, 295, 296, 297, 298, 2, 299, 107, 108, 113, 114, 115, 116, 117, 118, 184, 185, 186, 81, 82, 83, 84, 25, 22, 23, 85, 86, 87, 88, 89, 90, 321, 322, 323, 324, 325, 326, 327, 328, 329, 330] (by decide +kernel) (by decide +kernel)) (goodIn_sub (fun _ h => List.mem_append_left _ (List.mem_append_left _ (List.mem_append_right _ h))) (by decide +kernel))
set_option maxRecDepth 20000 in
theorem gL_law_L_lack : GoodIn wsL_law (va_wsS RL 145 yL_lack wsL_lack) := goodIn_app (goodIn_of _ (by decide +kernel)) ggL_law_L_lack
set_option maxRecDepth 20000 in
theorem ggL_law_L_tell : GoodIn wsL_law wsL_tell := goodIn_ca (goodIn_ca (goodIn_r _ [302, 100, 101, 303, 304, 305, 2, 306, 107, 108, 109, 110, 23, 113, 114, 115, 116, 117, 118, 184, 185, 186, 271, 272, 273, 85, 86, 87, 88, 89, 90, 321, 322, 323, 324, 325, 326, 327, 328, 329, 330] (by decide +kernel) (by decide +kernel)) (goodIn_sub (fun _ h => List.mem_append_left _ (List.mem_append_left _ (List.mem_append_right _ h))) (by decide +kernel))) (goodIn_sub (fun _ h => List.mem_append_left _ (List.mem_append_right _ h)) (by decide +kernel))
set_option maxRecDepth 20000 in
theorem gL_law_L_tell : GoodIn wsL_law (va_wsS RL 147 yL_tell wsL_tell) := goodIn_app (goodIn_of _ (by decide +kernel)) ggL_law_L_tell
set_option maxRecDepth 20000 in
theorem ggL_law_L_setPenalty : GoodIn wsL_law wsL_setPenalty := goodIn_ca (goodIn_r _ [309, 101, 310, 311, 312, 2, 313, 109, 110, 27, 28, 116, 117, 118, 321, 322, 323, 324, 325, 326, 327, 328, 329, 330] (by decide +kernel) (by decide +kernel)) (goodIn_sub (fun _ h => List.mem_append_left _ (List.mem_append_right _ h)) (by decide +kernel))
set_option maxRecDepth 20000 in
theorem gL_law_L_setPenalty : GoodIn wsL_law (va_wsS RL 150 yL_setPenalty wsL_setPenalty) := goodIn_app (goodIn_of _ (by decide +kernel)) ggL_law_L_setPenalty
set_option maxRecDepth 20000 in
theorem ggL_law_L_penalty : GoodIn wsL_law wsL_penalty := goodIn_ca (goodIn_r _ [316, 100, 317, 318, 319, 2, 320, 107, 108, 113, 114, 115, 116, 117, 118, 184, 185, 186, 69, 70, 71, 72, 27, 21, 28, 73, 74, 75, 76, 77, 78, 79, 80, 81, 82, 83, 84, 25, 22, 23, 85, 86, 87, 88, 89, 90, 321, 322, 323, 324, 325, 326, 327, 328, 329, 330] (by decide +kernel) (by decide +kernel)) (goodIn_sub (fun _ h => List.mem_append_left _ (List.mem_append_left _ (List.mem_append_right _ h))) (by decide +kernel))
set_option maxRecDepth 20000 in
theorem gL_law_L_penalty : GoodIn wsL_law (va_wsS RL 152 yL_penalty wsL_penalty) := goodIn_app (goodIn_of _ (by decide +kernel)) ggL_law_L_penalty
