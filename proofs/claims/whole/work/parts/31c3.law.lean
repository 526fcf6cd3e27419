set_option maxRecDepth 20000 in
theorem ggL_law_X3_isCatsTurn : GoodIn wsL_law wsX3_isCatsTurn := goodIn_r _ [435, 266, 419, 420, 421, 5, 422, 138, 763, 764, 765, 766, 767, 768, 769, 770, 771, 772, 773, 774, 775, 776, 777, 778, 779, 780, 781, 782] (by decide +kernel) (by decide +kernel)
set_option maxRecDepth 20000 in
theorem gL_law_X3_isCatsTurn : GoodIn wsL_law (wsV RL 137 RX3 yX3_isCatsTurn wsX3_isCatsTurn) := goodIn_app (goodIn_of _ (by decide +kernel)) ggL_law_X3_isCatsTurn
set_option maxRecDepth 20000 in
theorem ggL_law_X2_catIn : GoodIn wsL_law wsX2_catIn := goodIn_r _ [439, 22, 754, 755, 756, 757, 758, 759, 760, 761, 762] (by decide +kernel) (by decide +kernel)
set_option maxRecDepth 20000 in
theorem gL_law_X2_catIn : GoodIn wsL_law (wsV RL 138 RX2 yX2_catIn wsX2_catIn) := goodIn_app (goodIn_of _ (by decide +kernel)) ggL_law_X2_catIn
set_option maxRecDepth 20000 in
theorem ggL_law_X3_catIn : GoodIn wsL_law wsX3_catIn := goodIn_r _ [443, 267, 269, 391, 392, 393, 5, 394, 138, 763, 764, 765, 766, 767, 768, 769, 770, 771, 772, 773, 774, 775, 776, 777, 778, 779, 780, 781, 782] (by decide +kernel) (by decide +kernel)
set_option maxRecDepth 20000 in
theorem gL_law_X3_catIn : GoodIn wsL_law (wsV RL 141 RX3 yX3_catIn wsX3_catIn) := goodIn_app (goodIn_of _ (by decide +kernel)) ggL_law_X3_catIn
set_option maxRecDepth 20000 in
theorem ggL_law_X2_mouseIn : GoodIn wsL_law wsX2_mouseIn := goodIn_r _ [447, 23, 754, 755, 756, 757, 758, 759, 760, 761, 762] (by decide +kernel) (by decide +kernel)
set_option maxRecDepth 20000 in
theorem gL_law_X2_mouseIn : GoodIn wsL_law (wsV RL 142 RX2 yX2_mouseIn wsX2_mouseIn) := goodIn_app (goodIn_of _ (by decide +kernel)) ggL_law_X2_mouseIn
set_option maxRecDepth 20000 in
theorem ggL_law_X3_mouseIn : GoodIn wsL_law wsX3_mouseIn := goodIn_r _ [451, 267, 270, 391, 392, 393, 5, 394, 138, 763, 764, 765, 766, 767, 768, 769, 770, 771, 772, 773, 774, 775, 776, 777, 778, 779, 780, 781, 782] (by decide +kernel) (by decide +kernel)
set_option maxRecDepth 20000 in
theorem gL_law_X3_mouseIn : GoodIn wsL_law (wsV RL 145 RX3 yX3_mouseIn wsX3_mouseIn) := goodIn_app (goodIn_of _ (by decide +kernel)) ggL_law_X3_mouseIn
set_option maxRecDepth 20000 in
theorem ggL_law_X2_eaten : GoodIn wsL_law wsX2_eaten := goodIn_r _ [455, 234, 754, 755, 756, 757, 758, 759, 760, 761, 762] (by decide +kernel) (by decide +kernel)
set_option maxRecDepth 20000 in
theorem gL_law_X2_eaten : GoodIn wsL_law (wsV RL 146 RX2 yX2_eaten wsX2_eaten) := goodIn_app (goodIn_of _ (by decide +kernel)) ggL_law_X2_eaten
set_option maxRecDepth 20000 in
theorem ggL_law_X3_eaten : GoodIn wsL_law wsX3_eaten := goodIn_r _ [459, 271, 391, 392, 393, 5, 394, 138, 763, 764, 765, 766, 767, 768, 769, 770, 771, 772, 773, 774, 775, 776, 777, 778, 779, 780, 781, 782] (by decide +kernel) (by decide +kernel)
set_option maxRecDepth 20000 in
theorem gL_law_X3_eaten : GoodIn wsL_law (wsV RL 149 RX3 yX3_eaten wsX3_eaten) := goodIn_app (goodIn_of _ (by decide +kernel)) ggL_law_X3_eaten
set_option maxRecDepth 20000 in
theorem ggL_law_L_isSafe : GoodIn wsL_law wsL_isSafe := goodIn_ca (goodIn_r _ [462, 150, 463, 464, 465, 2, 466, 16, 241, 159, 160, 161, 162, 163, 164, 66, 754, 755, 756, 757, 758, 759, 760, 761, 762, 783, 784, 785, 786, 787, 788, 789, 790, 791] (by decide +kernel) (by decide +kernel)) (goodIn_sub (fun _ h => List.mem_append_right _ h) (by decide +kernel))
set_option maxRecDepth 20000 in
theorem gL_law_L_isSafe : GoodIn wsL_law (va_wsS RL 150 yL_isSafe wsL_isSafe) := goodIn_app (goodIn_of _ (by decide +kernel)) ggL_law_L_isSafe
set_option maxRecDepth 20000 in
theorem ggL_law_X3_isSafe : GoodIn wsL_law wsX3_isSafe := goodIn_r _ [470, 47, 183, 184, 185, 5, 186, 133, 187, 188, 189, 134, 135, 136, 137, 138, 139, 140, 141, 142, 763, 764, 765, 766, 767, 768, 769, 770, 771, 772, 773, 774, 775, 776, 777, 778, 779, 780, 781, 782] (by decide +kernel) (by decide +kernel)
set_option maxRecDepth 20000 in
theorem gL_law_X3_isSafe : GoodIn wsL_law (wsV RL 152 RX3 yX3_isSafe wsX3_isSafe) := goodIn_app (goodIn_of _ (by decide +kernel)) ggL_law_X3_isSafe
set_option maxRecDepth 20000 in
theorem ggL_law_L_cheeseIn : GoodIn wsL_law wsL_cheeseIn := goodIn_ca (goodIn_r _ [473, 150, 474, 475, 476, 2, 477, 16, 221, 159, 160, 161, 162, 163, 164, 66, 754, 755, 756, 757, 758, 759, 760, 761, 762, 783, 784, 785, 786, 787, 788, 789, 790, 791] (by decide +kernel) (by decide +kernel)) (goodIn_sub (fun _ h => List.mem_append_right _ h) (by decide +kernel))
set_option maxRecDepth 20000 in
theorem gL_law_L_cheeseIn : GoodIn wsL_law (va_wsS RL 153 yL_cheeseIn wsL_cheeseIn) := goodIn_app (goodIn_of _ (by decide +kernel)) ggL_law_L_cheeseIn
set_option maxRecDepth 20000 in
theorem ggL_law_X3_cheeseIn : GoodIn wsL_law wsX3_cheeseIn := goodIn_r _ [481, 48, 183, 184, 185, 5, 186, 133, 187, 188, 189, 134, 135, 136, 137, 138, 139, 140, 141, 142, 763, 764, 765, 766, 767, 768, 769, 770, 771, 772, 773, 774, 775, 776, 777, 778, 779, 780, 781, 782] (by decide +kernel) (by decide +kernel)
set_option maxRecDepth 20000 in
theorem gL_law_X3_cheeseIn : GoodIn wsL_law (wsV RL 155 RX3 yX3_cheeseIn wsX3_cheeseIn) := goodIn_app (goodIn_of _ (by decide +kernel)) ggL_law_X3_cheeseIn
set_option maxRecDepth 20000 in
theorem ggL_law_L_doorsOf : GoodIn wsL_law wsL_doorsOf := goodIn_ca (goodIn_r _ [484, 150, 485, 486, 487, 2, 488, 16, 159, 160, 161, 162, 163, 164, 66, 489, 490, 491, 15, 492, 169, 35, 31, 32, 754, 755, 756, 757, 758, 759, 760, 761, 762, 783, 784, 785, 786, 787, 788, 789, 790, 791] (by decide +kernel) (by decide +kernel)) (goodIn_sub (fun _ h => List.mem_append_right _ h) (by decide +kernel))
set_option maxRecDepth 20000 in
theorem gL_law_L_doorsOf : GoodIn wsL_law (va_wsS RL 156 yL_doorsOf wsL_doorsOf) := goodIn_app (goodIn_of _ (by decide +kernel)) ggL_law_L_doorsOf
set_option maxRecDepth 20000 in
theorem ggL_law_X3_doorsOf : GoodIn wsL_law wsX3_doorsOf := goodIn_r _ [496, 183, 184, 185, 5, 186, 133, 187, 188, 189, 134, 135, 136, 137, 138, 139, 140, 141, 142, 497, 498, 499, 500, 178, 53, 49, 50, 763, 764, 765, 766, 767, 768, 769, 770, 771, 772, 773, 774, 775, 776, 777, 778, 779, 780, 781, 782] (by decide +kernel) (by decide +kernel)
set_option maxRecDepth 20000 in
theorem gL_law_X3_doorsOf : GoodIn wsL_law (wsV RL 158 RX3 yX3_doorsOf wsX3_doorsOf) := goodIn_app (goodIn_of _ (by decide +kernel)) ggL_law_X3_doorsOf
set_option maxRecDepth 20000 in
theorem ggL_law_L_isLocked : GoodIn wsL_law wsL_isLocked := goodIn_ca (goodIn_r _ [503, 150, 504, 505, 506, 2, 507, 16, 201, 202, 203, 204, 205, 163, 164, 158, 754, 755, 756, 757, 758, 759, 760, 761, 762, 783, 784, 785, 786, 787, 788, 789, 790, 791] (by decide +kernel) (by decide +kernel)) (goodIn_sub (fun _ h => List.mem_append_right _ h) (by decide +kernel))
set_option maxRecDepth 20000 in
theorem gL_law_L_isLocked : GoodIn wsL_law (va_wsS RL 159 yL_isLocked wsL_isLocked) := goodIn_app (goodIn_of _ (by decide +kernel)) ggL_law_L_isLocked
