set_option maxRecDepth 20000 in
theorem ggL_law_X2_init : GoodIn wsL_law wsX2_init := goodIn_r _ [9, 10, 11, 12, 13, 14, 15, 16, 17, 18, 19, 20, 21, 22, 23, 24, 25, 26, 27, 28, 29, 30, 31, 32, 33, 34, 35, 36, 37, 38, 39, 40, 41, 42, 43, 44, 45, 46, 47, 48, 49, 50, 51, 52, 53, 54, 55, 56, 57, 500, 501, 502, 503, 473, 474, 475, 476, 477, 478, 479, 480, 481, 482, 504, 505, 506, 507, 508, 509, 510] (by decide +kernel) (by decide +kernel)
set_option maxRecDepth 20000 in
theorem gL_law_X2_init : GoodIn wsL_law (wsX2_init) := ggL_law_X2_init
set_option maxRecDepth 20000 in
theorem ggL_law_X3_init : GoodIn wsL_law wsX3_init := goodIn_r _ [60, 61, 11, 12, 62, 63, 64, 21, 65, 66, 67, 68, 69, 70, 71, 72, 26, 73, 74, 75, 483, 484, 485, 486, 487, 488, 489, 490, 491, 492, 493, 494, 495, 496, 497, 498, 499] (by decide +kernel) (by decide +kernel)
set_option maxRecDepth 20000 in
theorem gL_law_X3_init : GoodIn wsL_law (wsX3_init) := ggL_law_X3_init
set_option maxRecDepth 20000 in
theorem ggL_law_L_setDemand : GoodIn wsL_law wsL_setDemand := goodIn_ca (goodIn_r _ [79, 80, 81, 82, 83, 2, 84, 85, 86, 16, 87, 88, 89, 90, 37, 38, 15, 39, 40, 41, 42, 35, 43, 44, 45, 46, 473, 474, 475, 476, 477, 478, 479, 480, 481, 482, 500, 501, 502, 503] (by decide +kernel) (by decide +kernel)) (goodIn_sub (fun _ h => List.mem_append_left _ (List.mem_append_left _ (List.mem_append_right _ h))) (by decide +kernel))
set_option maxRecDepth 20000 in
theorem gL_law_L_setDemand : GoodIn wsL_law (va_wsS RL 82 yL_setDemand wsL_setDemand) := goodIn_app (goodIn_of _ (by decide +kernel)) ggL_law_L_setDemand
set_option maxRecDepth 20000 in
theorem ggL_law_X3_setDemand : GoodIn wsL_law wsX3_setDemand := goodIn_r _ [94, 62, 63, 64, 95, 96, 5, 97, 98, 99, 100, 101, 102, 483, 484, 485, 486, 487, 488, 489, 490, 491, 492, 493, 494, 495, 496, 497, 498, 499] (by decide +kernel) (by decide +kernel)
set_option maxRecDepth 20000 in
theorem gL_law_X3_setDemand : GoodIn wsL_law (wsV RL 87 RX3 yX3_setDemand wsX3_setDemand) := goodIn_app (goodIn_of _ (by decide +kernel)) ggL_law_X3_setDemand
set_option maxRecDepth 20000 in
theorem ggL_law_X3_thrown : GoodIn wsL_law wsX3_thrown := goodIn_r _ [106, 102, 483, 484, 485, 486, 487, 488, 489, 490, 491, 492, 493, 494, 495, 496, 497, 498, 499] (by decide +kernel) (by decide +kernel)
set_option maxRecDepth 20000 in
theorem gL_law_X3_thrown : GoodIn wsL_law (wsV RL 88 RX3 yX3_thrown wsX3_thrown) := goodIn_app (goodIn_of _ (by decide +kernel)) ggL_law_X3_thrown
set_option maxRecDepth 20000 in
theorem ggL_law_L_value : GoodIn wsL_law wsL_value := goodIn_ca (goodIn_r _ [109, 80, 110, 111, 112, 2, 113, 85, 86, 16, 87, 88, 89, 114, 44, 45, 15, 46, 40, 42, 41, 473, 474, 475, 476, 477, 478, 479, 480, 481, 482, 500, 501, 502, 503] (by decide +kernel) (by decide +kernel)) (goodIn_sub (fun _ h => List.mem_append_left _ (List.mem_append_left _ (List.mem_append_right _ h))) (by decide +kernel))
set_option maxRecDepth 20000 in
theorem gL_law_L_value : GoodIn wsL_law (va_wsS RL 92 yL_value wsL_value) := goodIn_app (goodIn_of _ (by decide +kernel)) ggL_law_L_value
set_option maxRecDepth 20000 in
theorem ggL_law_X3_value : GoodIn wsL_law wsX3_value := goodIn_r _ [118, 95, 96, 5, 97, 98, 99, 100, 101, 102, 119, 120, 121, 122, 62, 64, 63, 483, 484, 485, 486, 487, 488, 489, 490, 491, 492, 493, 494, 495, 496, 497, 498, 499] (by decide +kernel) (by decide +kernel)
set_option maxRecDepth 20000 in
theorem gL_law_X3_value : GoodIn wsL_law (wsV RL 95 RX3 yX3_value wsX3_value) := goodIn_app (goodIn_of _ (by decide +kernel)) ggL_law_X3_value
set_option maxRecDepth 20000 in
theorem ggL_law_L_worth : GoodIn wsL_law wsL_worth := goodIn_ca (goodIn_r _ [125, 80, 126, 127, 128, 2, 129, 85, 86, 16, 87, 88, 89, 130, 131, 132, 15, 133, 35, 134, 135, 136, 137, 138, 139, 140, 473, 474, 475, 476, 477, 478, 479, 480, 481, 482, 500, 501, 502, 503] (by decide +kernel) (by decide +kernel)) (goodIn_sub (fun _ h => List.mem_append_left _ (List.mem_append_left _ (List.mem_append_right _ h))) (by decide +kernel))
set_option maxRecDepth 20000 in
theorem gL_law_L_worth : GoodIn wsL_law (va_wsS RL 96 yL_worth wsL_worth) := goodIn_app (goodIn_of _ (by decide +kernel)) ggL_law_L_worth
set_option maxRecDepth 20000 in
theorem ggL_law_X3_worth : GoodIn wsL_law wsX3_worth := goodIn_r _ [144, 95, 96, 5, 97, 98, 99, 100, 101, 102, 145, 146, 147, 148, 63, 119, 120, 121, 122, 62, 64, 483, 484, 485, 486, 487, 488, 489, 490, 491, 492, 493, 494, 495, 496, 497, 498, 499] (by decide +kernel) (by decide +kernel)
set_option maxRecDepth 20000 in
theorem gL_law_X3_worth : GoodIn wsL_law (wsV RL 98 RX3 yX3_worth wsX3_worth) := goodIn_app (goodIn_of _ (by decide +kernel)) ggL_law_X3_worth
set_option maxRecDepth 20000 in
theorem ggL_law_L_offer : GoodIn wsL_law wsL_offer := goodIn_ca (goodIn_ca (goodIn_ca (goodIn_r _ [151, 152, 80, 153, 154, 155, 156, 2, 157, 158, 159, 85, 86, 160, 161, 20, 162, 163, 164, 87, 88, 89, 165, 166, 167, 19, 168, 57, 169, 170, 171, 172, 55, 54, 51, 52, 53, 473, 474, 475, 476, 477, 478, 479, 480, 481, 482, 504, 505, 506, 507, 508, 509, 510] (by decide +kernel) (by decide +kernel)) (goodIn_sub (fun _ h => List.mem_append_left _ (List.mem_append_right _ h)) (by decide +kernel))) (goodIn_sub (fun _ h => List.mem_append_left _ (List.mem_append_left _ (List.mem_append_right _ h))) (by decide +kernel))) (goodIn_sub (fun _ h => List.mem_append_right _ h) (by decide +kernel))
set_option maxRecDepth 20000 in
theorem gL_law_L_offer : GoodIn wsL_law (va_wsS RL 99 yL_offer wsL_offer) := goodIn_app (goodIn_of _ (by decide +kernel)) ggL_law_L_offer
set_option maxRecDepth 20000 in
theorem ggL_law_X3_offer : GoodIn wsL_law wsX3_offer := goodIn_r _ [176, 177, 65, 66, 67, 68, 95, 96, 5, 97, 178, 179, 180, 98, 99, 100, 101, 102, 483, 484, 485, 486, 487, 488, 489, 490, 491, 492, 493, 494, 495, 496, 497, 498, 499] (by decide +kernel) (by decide +kernel)
set_option maxRecDepth 20000 in
theorem gL_law_X3_offer : GoodIn wsL_law (wsV RL 102 RX3 yX3_offer wsX3_offer) := goodIn_app (goodIn_of _ (by decide +kernel)) ggL_law_X3_offer
set_option maxRecDepth 20000 in
theorem ggL_law_X2_offers : GoodIn wsL_law wsX2_offers := goodIn_r _ [184, 20, 185, 473, 474, 475, 476, 477, 478, 479, 480, 481, 482, 504, 505, 506, 507, 508, 509, 510] (by decide +kernel) (by decide +kernel)
set_option maxRecDepth 20000 in
theorem gL_law_X2_offers : GoodIn wsL_law (wsV RL 103 RX2 yX2_offers wsX2_offers) := goodIn_app (goodIn_of _ (by decide +kernel)) ggL_law_X2_offers
set_option maxRecDepth 20000 in
theorem ggL_law_X3_offers : GoodIn wsL_law wsX3_offers := goodIn_r _ [189, 102, 177, 483, 484, 485, 486, 487, 488, 489, 490, 491, 492, 493, 494, 495, 496, 497, 498, 499] (by decide +kernel) (by decide +kernel)
set_option maxRecDepth 20000 in
theorem gL_law_X3_offers : GoodIn wsL_law (wsV RL 106 RX3 yX3_offers wsX3_offers) := goodIn_app (goodIn_of _ (by decide +kernel)) ggL_law_X3_offers
set_option maxRecDepth 20000 in
theorem ggL_law_L_supply : GoodIn wsL_law wsL_supply := goodIn_ca (goodIn_r _ [192, 80, 193, 194, 195, 2, 196, 85, 86, 20, 87, 88, 89, 197, 198, 199, 19, 200, 57, 55, 52, 473, 474, 475, 476, 477, 478, 479, 480, 481, 482, 504, 505, 506, 507, 508, 509, 510] (by decide +kernel) (by decide +kernel)) (goodIn_sub (fun _ h => List.mem_append_left _ (List.mem_append_left _ (List.mem_append_right _ h))) (by decide +kernel))
set_option maxRecDepth 20000 in
theorem gL_law_L_supply : GoodIn wsL_law (va_wsS RL 107 yL_supply wsL_supply) := goodIn_app (goodIn_of _ (by decide +kernel)) ggL_law_L_supply
set_option maxRecDepth 20000 in
theorem ggL_law_X3_supply : GoodIn wsL_law wsX3_supply := goodIn_r _ [204, 177, 67, 66, 95, 96, 5, 97, 98, 99, 100, 101, 102, 483, 484, 485, 486, 487, 488, 489, 490, 491, 492, 493, 494, 495, 496, 497, 498, 499] (by decide +kernel) (by decide +kernel)
set_option maxRecDepth 20000 in
theorem gL_law_X3_supply : GoodIn wsL_law (wsV RL 109 RX3 yX3_supply wsX3_supply) := goodIn_app (goodIn_of _ (by decide +kernel)) ggL_law_X3_supply
set_option maxRecDepth 20000 in
theorem ggL_law_L_clearing : GoodIn wsL_law wsL_clearing := goodIn_ca (goodIn_r _ [207, 152, 208, 209, 210, 2, 211, 158, 159, 20, 16, 22, 212, 213, 214, 87, 88, 89, 215, 216, 217, 19, 218, 57, 54, 52, 55, 219, 131, 132, 15, 133, 35, 134, 135, 136, 137, 138, 139, 140, 220, 221, 222, 223, 473, 474, 475, 476, 477, 478, 479, 480, 481, 482, 504, 505, 506, 507, 508, 509, 510, 500, 501, 502, 503] (by decide +kernel) (by decide +kernel)) (goodIn_sub (fun _ h => List.mem_append_left _ (List.mem_append_right _ h)) (by decide +kernel))
set_option maxRecDepth 20000 in
theorem gL_law_L_clearing : GoodIn wsL_law (va_wsS RL 110 yL_clearing wsL_clearing) := goodIn_app (goodIn_of _ (by decide +kernel)) ggL_law_L_clearing
set_option maxRecDepth 20000 in
theorem ggL_law_X3_clearing : GoodIn wsL_law wsX3_clearing := goodIn_r _ [227, 228, 229, 5, 230, 98, 99, 100, 101, 102, 231, 232, 233, 234, 69, 177, 66, 67, 145, 146, 147, 148, 63, 119, 120, 121, 122, 62, 64, 235, 236, 237, 238, 239, 240, 241, 242, 483, 484, 485, 486, 487, 488, 489, 490, 491, 492, 493, 494, 495, 496, 497, 498, 499] (by decide +kernel) (by decide +kernel)
set_option maxRecDepth 20000 in
theorem gL_law_X3_clearing : GoodIn wsL_law (wsV RL 112 RX3 yX3_clearing wsX3_clearing) := goodIn_app (goodIn_of _ (by decide +kernel)) ggL_law_X3_clearing
set_option maxRecDepth 20000 in
theorem ggL_law_L_clearingByClock : GoodIn wsL_law wsL_clearingByClock := goodIn_ca (goodIn_r _ [245, 152, 246, 247, 248, 2, 249, 158, 159, 20, 16, 22, 212, 213, 214, 87, 88, 89, 250, 251, 252, 19, 253, 57, 56, 52, 55, 219, 131, 132, 15, 133, 35, 134, 135, 136, 137, 138, 139, 140, 254, 255, 256, 257, 258, 259, 260, 261, 473, 474, 475, 476, 477, 478, 479, 480, 481, 482, 504, 505, 506, 507, 508, 509, 510, 500, 501, 502, 503] (by decide +kernel) (by decide +kernel)) (goodIn_sub (fun _ h => List.mem_append_left _ (List.mem_append_right _ h)) (by decide +kernel))
set_option maxRecDepth 20000 in
theorem gL_law_L_clearingByClock : GoodIn wsL_law (va_wsS RL 113 yL_clearingByClock wsL_clearingByClock) := goodIn_app (goodIn_of _ (by decide +kernel)) ggL_law_L_clearingByClock
set_option maxRecDepth 20000 in
theorem ggL_law_X3_clearingByClock : GoodIn wsL_law wsX3_clearingByClock := goodIn_r _ [265, 266, 225, 226, 5, 227, 228, 229, 230, 98, 99, 100, 101, 102, 231, 232, 233, 234, 69, 177, 66, 67, 145, 146, 147, 148, 63, 119, 120, 121, 122, 62, 64, 235, 236, 237, 238, 239, 240, 241, 242, 483, 484, 485, 486, 487, 488, 489, 490, 491, 492, 493, 494, 495, 496, 497, 498, 499] (by decide +kernel) (by decide +kernel)
set_option maxRecDepth 20000 in
theorem gL_law_X3_clearingByClock : GoodIn wsL_law (wsV RL 115 RX3 yX3_clearingByClock wsX3_clearingByClock) := goodIn_app (goodIn_of _ (by decide +kernel)) ggL_law_X3_clearingByClock
set_option maxRecDepth 20000 in
theorem ggL_law_L_wouldTake : GoodIn wsL_law wsL_wouldTake := goodIn_ca (goodIn_r _ [269, 152, 270, 271, 272, 2, 273, 158, 159, 20, 16, 22, 274, 275, 276, 19, 277, 57, 212, 213, 214, 87, 88, 89, 215, 216, 217, 218, 54, 52, 55, 219, 131, 132, 15, 133, 35, 134, 135, 136, 137, 138, 139, 140, 278, 279, 280, 281, 473, 474, 475, 476, 477, 478, 479, 480, 481, 482, 504, 505, 506, 507, 508, 509, 510, 500, 501, 502, 503] (by decide +kernel) (by decide +kernel)) (goodIn_sub (fun _ h => List.mem_append_left _ (List.mem_append_right _ h)) (by decide +kernel))
set_option maxRecDepth 20000 in
theorem gL_law_L_wouldTake : GoodIn wsL_law (va_wsS RL 116 yL_wouldTake wsL_wouldTake) := goodIn_app (goodIn_of _ (by decide +kernel)) ggL_law_L_wouldTake
set_option maxRecDepth 20000 in
theorem ggL_law_X3_wouldTake : GoodIn wsL_law wsX3_wouldTake := goodIn_r _ [285, 177, 228, 229, 5, 230, 98, 99, 100, 101, 102, 235, 236, 237, 238, 67, 231, 232, 233, 234, 69, 66, 145, 146, 147, 148, 63, 119, 120, 121, 122, 62, 64, 483, 484, 485, 486, 487, 488, 489, 490, 491, 492, 493, 494, 495, 496, 497, 498, 499] (by decide +kernel) (by decide +kernel)
set_option maxRecDepth 20000 in
theorem gL_law_X3_wouldTake : GoodIn wsL_law (wsV RL 119 RX3 yX3_wouldTake wsX3_wouldTake) := goodIn_app (goodIn_of _ (by decide +kernel)) ggL_law_X3_wouldTake
set_option maxRecDepth 20000 in
theorem ggL_law_L_run : GoodIn wsL_law wsL_run := goodIn_ca (goodIn_ca (goodIn_r _ [288, 152, 153, 289, 290, 291, 2, 292, 158, 159, 160, 161, 20, 185, 16, 22, 293, 212, 213, 214, 87, 88, 89, 215, 216, 217, 19, 218, 57, 54, 52, 55, 219, 131, 132, 15, 133, 35, 134, 135, 136, 137, 138, 139, 140, 220, 221, 222, 223, 294, 295, 296, 297, 298, 299, 300, 301, 23, 24, 302, 303, 304, 305, 306, 307, 308, 309, 310, 311, 473, 474, 475, 476, 477, 478, 479, 480, 481, 482, 504, 505, 506, 507, 508, 509, 510, 500, 501, 502, 503] (by decide +kernel) (by decide +kernel)) (goodIn_sub (fun _ h => List.mem_append_left _ (List.mem_append_right _ h)) (by decide +kernel))) (goodIn_sub (fun _ h => List.mem_append_right _ h) (by decide +kernel))
set_option maxRecDepth 20000 in
theorem gL_law_L_run : GoodIn wsL_law (va_wsS RL 120 yL_run wsL_run) := goodIn_app (goodIn_of _ (by decide +kernel)) ggL_law_L_run
set_option maxRecDepth 20000 in
theorem ggL_law_X3_run : GoodIn wsL_law wsX3_run := goodIn_r _ [315, 177, 68, 69, 66, 70, 65, 71, 228, 229, 5, 230, 98, 99, 100, 101, 102, 231, 232, 233, 234, 67, 145, 146, 147, 148, 63, 119, 120, 121, 122, 62, 64, 235, 236, 237, 238, 239, 240, 241, 242, 316, 317, 318, 483, 484, 485, 486, 487, 488, 489, 490, 491, 492, 493, 494, 495, 496, 497, 498, 499] (by decide +kernel) (by decide +kernel)
set_option maxRecDepth 20000 in
theorem gL_law_X3_run : GoodIn wsL_law (wsV RL 122 RX3 yX3_run wsX3_run) := goodIn_app (goodIn_of _ (by decide +kernel)) ggL_law_X3_run
set_option maxRecDepth 20000 in
theorem ggL_law_L_bought : GoodIn wsL_law wsL_bought := goodIn_ca (goodIn_r _ [321, 152, 322, 323, 324, 2, 325, 158, 159, 22, 212, 213, 214, 87, 88, 89, 473, 474, 475, 476, 477, 478, 479, 480, 481, 482] (by decide +kernel) (by decide +kernel)) (goodIn_sub (fun _ h => List.mem_append_left _ (List.mem_append_right _ h)) (by decide +kernel))
set_option maxRecDepth 20000 in
theorem gL_law_L_bought : GoodIn wsL_law (va_wsS RL 123 yL_bought wsL_bought) := goodIn_app (goodIn_of _ (by decide +kernel)) ggL_law_L_bought
set_option maxRecDepth 20000 in
theorem ggL_law_X3_bought : GoodIn wsL_law wsX3_bought := goodIn_r _ [329, 69, 228, 229, 5, 230, 98, 99, 100, 101, 102, 483, 484, 485, 486, 487, 488, 489, 490, 491, 492, 493, 494, 495, 496, 497, 498, 499] (by decide +kernel) (by decide +kernel)
set_option maxRecDepth 20000 in
theorem gL_law_X3_bought : GoodIn wsL_law (wsV RL 125 RX3 yX3_bought wsX3_bought) := goodIn_app (goodIn_of _ (by decide +kernel)) ggL_law_X3_bought
set_option maxRecDepth 20000 in
theorem ggL_law_L_income : GoodIn wsL_law wsL_income := goodIn_ca (goodIn_r _ [332, 152, 333, 334, 335, 2, 336, 158, 159, 23, 162, 163, 164, 87, 88, 89, 212, 213, 214, 302, 303, 304, 473, 474, 475, 476, 477, 478, 479, 480, 481, 482] (by decide +kernel) (by decide +kernel)) (goodIn_sub (fun _ h => List.mem_append_left _ (List.mem_append_right _ h)) (by decide +kernel))
set_option maxRecDepth 20000 in
theorem gL_law_L_income : GoodIn wsL_law (va_wsS RL 126 yL_income wsL_income) := goodIn_app (goodIn_of _ (by decide +kernel)) ggL_law_L_income
set_option maxRecDepth 20000 in
theorem ggL_law_X3_income : GoodIn wsL_law wsX3_income := goodIn_r _ [340, 70, 178, 179, 5, 180, 228, 229, 230, 98, 99, 100, 101, 102, 483, 484, 485, 486, 487, 488, 489, 490, 491, 492, 493, 494, 495, 496, 497, 498, 499] (by decide +kernel) (by decide +kernel)
set_option maxRecDepth 20000 in
theorem gL_law_X3_income : GoodIn wsL_law (wsV RL 128 RX3 yX3_income wsX3_income) := goodIn_app (goodIn_of _ (by decide +kernel)) ggL_law_X3_income
set_option maxRecDepth 20000 in
theorem ggL_law_L_obligation : GoodIn wsL_law wsL_obligation := goodIn_ca (goodIn_r _ [343, 152, 344, 345, 346, 2, 347, 158, 159, 24, 162, 163, 164, 87, 88, 89, 212, 213, 214, 348, 349, 350, 305, 306, 307, 302, 303, 304, 473, 474, 475, 476, 477, 478, 479, 480, 481, 482] (by decide +kernel) (by decide +kernel)) (goodIn_sub (fun _ h => List.mem_append_left _ (List.mem_append_right _ h)) (by decide +kernel))
set_option maxRecDepth 20000 in
theorem gL_law_L_obligation : GoodIn wsL_law (va_wsS RL 129 yL_obligation wsL_obligation) := goodIn_app (goodIn_of _ (by decide +kernel)) ggL_law_L_obligation
set_option maxRecDepth 20000 in
theorem ggL_law_X3_obligation : GoodIn wsL_law wsX3_obligation := goodIn_r _ [354, 71, 178, 179, 5, 180, 228, 229, 230, 355, 356, 357, 98, 99, 100, 101, 102, 316, 317, 318, 483, 484, 485, 486, 487, 488, 489, 490, 491, 492, 493, 494, 495, 496, 497, 498, 499] (by decide +kernel) (by decide +kernel)
set_option maxRecDepth 20000 in
theorem gL_law_X3_obligation : GoodIn wsL_law (wsV RL 132 RX3 yX3_obligation wsX3_obligation) := goodIn_app (goodIn_of _ (by decide +kernel)) ggL_law_X3_obligation
set_option maxRecDepth 20000 in
theorem ggL_law_L_trade : GoodIn wsL_law wsL_trade := goodIn_ca (goodIn_ca (goodIn_ca (goodIn_r _ [360, 152, 80, 153, 361, 362, 363, 2, 364, 158, 159, 85, 86, 160, 161, 24, 28, 162, 163, 164, 87, 88, 89, 212, 213, 214, 348, 349, 350, 365, 366, 367, 368, 301, 135, 136, 137, 305, 306, 307, 302, 303, 304, 473, 474, 475, 476, 477, 478, 479, 480, 481, 482] (by decide +kernel) (by decide +kernel)) (goodIn_sub (fun _ h => List.mem_append_left _ (List.mem_append_right _ h)) (by decide +kernel))) (goodIn_sub (fun _ h => List.mem_append_left _ (List.mem_append_left _ (List.mem_append_right _ h))) (by decide +kernel))) (goodIn_sub (fun _ h => List.mem_append_right _ h) (by decide +kernel))
set_option maxRecDepth 20000 in
theorem gL_law_L_trade : GoodIn wsL_law (va_wsS RL 133 yL_trade wsL_trade) := goodIn_app (goodIn_of _ (by decide +kernel)) ggL_law_L_trade
set_option maxRecDepth 20000 in
theorem ggL_law_X3_trade : GoodIn wsL_law wsX3_trade := goodIn_r _ [372, 71, 373, 178, 179, 5, 180, 228, 229, 230, 355, 356, 357, 95, 96, 97, 374, 375, 376, 377, 316, 317, 318, 98, 99, 100, 101, 102, 483, 484, 485, 486, 487, 488, 489, 490, 491, 492, 493, 494, 495, 496, 497, 498, 499] (by decide +kernel) (by decide +kernel)
set_option maxRecDepth 20000 in
theorem gL_law_X3_trade : GoodIn wsL_law (wsV RL 136 RX3 yX3_trade wsX3_trade) := goodIn_app (goodIn_of _ (by decide +kernel)) ggL_law_X3_trade
set_option maxRecDepth 20000 in
theorem ggL_law_X2_trades : GoodIn wsL_law wsX2_trades := goodIn_r _ [381, 28, 473, 474, 475, 476, 477, 478, 479, 480, 481, 482] (by decide +kernel) (by decide +kernel)
set_option maxRecDepth 20000 in
theorem gL_law_X2_trades : GoodIn wsL_law (wsV RL 137 RX2 yX2_trades wsX2_trades) := goodIn_app (goodIn_of _ (by decide +kernel)) ggL_law_X2_trades
set_option maxRecDepth 20000 in
theorem ggL_law_X3_trades : GoodIn wsL_law wsX3_trades := goodIn_r _ [385, 102, 373, 483, 484, 485, 486, 487, 488, 489, 490, 491, 492, 493, 494, 495, 496, 497, 498, 499] (by decide +kernel) (by decide +kernel)
set_option maxRecDepth 20000 in
theorem gL_law_X3_trades : GoodIn wsL_law (wsV RL 140 RX3 yX3_trades wsX3_trades) := goodIn_app (goodIn_of _ (by decide +kernel)) ggL_law_X3_trades
set_option maxRecDepth 20000 in
theorem ggL_law_L_stress : GoodIn wsL_law wsL_stress := goodIn_ca (goodIn_r _ [388, 152, 389, 390, 391, 2, 392, 158, 159, 27, 212, 213, 214, 87, 88, 89, 348, 349, 350, 473, 474, 475, 476, 477, 478, 479, 480, 481, 482] (by decide +kernel) (by decide +kernel)) (goodIn_sub (fun _ h => List.mem_append_left _ (List.mem_append_right _ h)) (by decide +kernel))
set_option maxRecDepth 20000 in
theorem gL_law_L_stress : GoodIn wsL_law (va_wsS RL 141 yL_stress wsL_stress) := goodIn_app (goodIn_of _ (by decide +kernel)) ggL_law_L_stress
set_option maxRecDepth 20000 in
theorem ggL_law_X3_stress : GoodIn wsL_law wsX3_stress := goodIn_r _ [396, 73, 228, 229, 5, 230, 355, 356, 357, 98, 99, 100, 101, 102, 483, 484, 485, 486, 487, 488, 489, 490, 491, 492, 493, 494, 495, 496, 497, 498, 499] (by decide +kernel) (by decide +kernel)
set_option maxRecDepth 20000 in
theorem gL_law_X3_stress : GoodIn wsL_law (wsV RL 143 RX3 yX3_stress wsX3_stress) := goodIn_app (goodIn_of _ (by decide +kernel)) ggL_law_X3_stress
set_option maxRecDepth 20000 in
theorem ggL_law_L_tell : GoodIn wsL_law wsL_tell := goodIn_ca (goodIn_ca (goodIn_r _ [399, 152, 80, 400, 401, 402, 2, 403, 158, 159, 85, 86, 25, 162, 163, 164, 87, 88, 89, 212, 213, 214, 348, 349, 350, 305, 306, 307, 302, 303, 304, 473, 474, 475, 476, 477, 478, 479, 480, 481, 482] (by decide +kernel) (by decide +kernel)) (goodIn_sub (fun _ h => List.mem_append_left _ (List.mem_append_right _ h)) (by decide +kernel))) (goodIn_sub (fun _ h => List.mem_append_left _ (List.mem_append_left _ (List.mem_append_right _ h))) (by decide +kernel))
set_option maxRecDepth 20000 in
theorem gL_law_L_tell : GoodIn wsL_law (va_wsS RL 144 yL_tell wsL_tell) := goodIn_app (goodIn_of _ (by decide +kernel)) ggL_law_L_tell
set_option maxRecDepth 20000 in
theorem ggL_law_X3_tell : GoodIn wsL_law wsX3_tell := goodIn_r _ [407, 72, 178, 179, 5, 180, 228, 229, 230, 355, 356, 357, 95, 96, 97, 98, 99, 100, 101, 102, 316, 317, 318, 483, 484, 485, 486, 487, 488, 489, 490, 491, 492, 493, 494, 495, 496, 497, 498, 499] (by decide +kernel) (by decide +kernel)
set_option maxRecDepth 20000 in
theorem gL_law_X3_tell : GoodIn wsL_law (wsV RL 147 RX3 yX3_tell wsX3_tell) := goodIn_app (goodIn_of _ (by decide +kernel)) ggL_law_X3_tell
set_option maxRecDepth 20000 in
theorem ggL_law_L_setPenalty : GoodIn wsL_law wsL_setPenalty := goodIn_ca (goodIn_r _ [410, 80, 411, 412, 413, 2, 414, 85, 86, 29, 30, 87, 88, 89, 473, 474, 475, 476, 477, 478, 479, 480, 481, 482] (by decide +kernel) (by decide +kernel)) (goodIn_sub (fun _ h => List.mem_append_left _ (List.mem_append_left _ (List.mem_append_right _ h))) (by decide +kernel))
set_option maxRecDepth 20000 in
theorem gL_law_L_setPenalty : GoodIn wsL_law (va_wsS RL 148 yL_setPenalty wsL_setPenalty) := goodIn_app (goodIn_of _ (by decide +kernel)) ggL_law_L_setPenalty
set_option maxRecDepth 20000 in
theorem ggL_law_X3_setPenalty : GoodIn wsL_law wsX3_setPenalty := goodIn_r _ [418, 74, 75, 95, 96, 5, 97, 98, 99, 100, 101, 102, 483, 484, 485, 486, 487, 488, 489, 490, 491, 492, 493, 494, 495, 496, 497, 498, 499] (by decide +kernel) (by decide +kernel)
set_option maxRecDepth 20000 in
theorem gL_law_X3_setPenalty : GoodIn wsL_law (wsV RL 151 RX3 yX3_setPenalty wsX3_setPenalty) := goodIn_app (goodIn_of _ (by decide +kernel)) ggL_law_X3_setPenalty
set_option maxRecDepth 20000 in
theorem ggL_law_L_lack : GoodIn wsL_law wsL_lack := goodIn_ca (goodIn_r _ [421, 152, 422, 423, 424, 2, 425, 158, 159, 162, 163, 164, 87, 88, 89, 212, 213, 214, 426, 427, 428, 429, 27, 24, 25, 305, 306, 307, 302, 303, 304, 473, 474, 475, 476, 477, 478, 479, 480, 481, 482] (by decide +kernel) (by decide +kernel)) (goodIn_sub (fun _ h => List.mem_append_left _ (List.mem_append_right _ h)) (by decide +kernel))
set_option maxRecDepth 20000 in
theorem gL_law_L_lack : GoodIn wsL_law (va_wsS RL 152 yL_lack wsL_lack) := goodIn_app (goodIn_of _ (by decide +kernel)) ggL_law_L_lack
set_option maxRecDepth 20000 in
theorem ggL_law_X3_lack : GoodIn wsL_law wsX3_lack := goodIn_r _ [433, 178, 179, 5, 180, 228, 229, 230, 98, 99, 100, 101, 102, 434, 435, 436, 437, 73, 71, 72, 316, 317, 318, 483, 484, 485, 486, 487, 488, 489, 490, 491, 492, 493, 494, 495, 496, 497, 498, 499] (by decide +kernel) (by decide +kernel)
set_option maxRecDepth 20000 in
theorem gL_law_X3_lack : GoodIn wsL_law (wsV RL 154 RX3 yX3_lack wsX3_lack) := goodIn_app (goodIn_of _ (by decide +kernel)) ggL_law_X3_lack
set_option maxRecDepth 20000 in
theorem ggL_law_L_penalty : GoodIn wsL_law wsL_penalty := goodIn_ca (goodIn_r _ [440, 152, 441, 442, 443, 2, 444, 158, 159, 162, 163, 164, 87, 88, 89, 212, 213, 214, 445, 446, 447, 448, 29, 23, 30, 449, 450, 451, 136, 452, 453, 454, 455, 426, 427, 428, 429, 27, 24, 25, 305, 306, 307, 302, 303, 304, 473, 474, 475, 476, 477, 478, 479, 480, 481, 482] (by decide +kernel) (by decide +kernel)) (goodIn_sub (fun _ h => List.mem_append_left _ (List.mem_append_right _ h)) (by decide +kernel))
set_option maxRecDepth 20000 in
theorem gL_law_L_penalty : GoodIn wsL_law (va_wsS RL 155 yL_penalty wsL_penalty) := goodIn_app (goodIn_of _ (by decide +kernel)) ggL_law_L_penalty
set_option maxRecDepth 20000 in
theorem ggL_law_X3_penalty : GoodIn wsL_law wsX3_penalty := goodIn_r _ [459, 178, 179, 5, 180, 228, 229, 230, 98, 99, 100, 101, 102, 460, 461, 462, 463, 74, 70, 75, 464, 434, 435, 436, 437, 73, 71, 72, 316, 317, 318, 483, 484, 485, 486, 487, 488, 489, 490, 491, 492, 493, 494, 495, 496, 497, 498, 499] (by decide +kernel) (by decide +kernel)
set_option maxRecDepth 20000 in
theorem gL_law_X3_penalty : GoodIn wsL_law (wsV RL 157 RX3 yX3_penalty wsX3_penalty) := goodIn_app (goodIn_of _ (by decide +kernel)) ggL_law_X3_penalty
set_option maxRecDepth 20000 in
theorem ggL_law_X2_penalties : GoodIn wsL_law wsX2_penalties := goodIn_r _ [468, 445, 446, 447, 2, 448, 29, 23, 30, 449, 450, 451, 136, 452, 453, 454, 455, 426, 427, 428, 429, 27, 24, 25, 305, 306, 307, 302, 303, 304, 473, 474, 475, 476, 477, 478, 479, 480, 481, 482] (by decide +kernel) (by decide +kernel)
set_option maxRecDepth 20000 in
theorem gL_law_X2_penalties : GoodIn wsL_law (wsV RL 158 RX2 yX2_penalties wsX2_penalties) := goodIn_app (goodIn_of _ (by decide +kernel)) ggL_law_X2_penalties
set_option maxRecDepth 20000 in
theorem ggL_law_X3_penalties : GoodIn wsL_law wsX3_penalties := goodIn_r _ [472, 102, 460, 461, 462, 5, 463, 74, 70, 75, 464, 434, 435, 436, 437, 73, 71, 72, 316, 317, 318, 483, 484, 485, 486, 487, 488, 489, 490, 491, 492, 493, 494, 495, 496, 497, 498, 499] (by decide +kernel) (by decide +kernel)
set_option maxRecDepth 20000 in
theorem gL_law_X3_penalties : GoodIn wsL_law (wsV RL 162 RX3 yX3_penalties wsX3_penalties) := goodIn_app (goodIn_of _ (by decide +kernel)) ggL_law_X3_penalties
