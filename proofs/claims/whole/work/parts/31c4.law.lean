set_option maxRecDepth 20000 in
theorem ggL_law_X3_isLocked : GoodIn wsL_law wsX3_isLocked := goodIn_r _ [511, 53, 210, 211, 212, 5, 213, 178, 187, 188, 189, 134, 135, 136, 137, 138, 139, 140, 141, 142, 763, 764, 765, 766, 767, 768, 769, 770, 771, 772, 773, 774, 775, 776, 777, 778, 779, 780, 781, 782] (by decide +kernel) (by decide +kernel)
set_option maxRecDepth 20000 in
theorem gL_law_X3_isLocked : GoodIn wsL_law (wsV RL 161 RX3 yX3_isLocked wsX3_isLocked) := goodIn_app (goodIn_of _ (by decide +kernel)) ggL_law_X3_isLocked
set_option maxRecDepth 20000 in
theorem ggL_law_L_isOpen : GoodIn wsL_law wsL_isOpen := goodIn_ca (goodIn_r _ [514, 150, 515, 516, 517, 2, 518, 16, 202, 203, 204, 205, 163, 164, 158, 250, 251, 252, 253, 233, 254, 255, 256, 257, 519, 93, 94, 15, 95, 35, 33, 34, 754, 755, 756, 757, 758, 759, 760, 761, 762, 783, 784, 785, 786, 787, 788, 789, 790, 791] (by decide +kernel) (by decide +kernel)) (goodIn_sub (fun _ h => List.mem_append_right _ h) (by decide +kernel))
set_option maxRecDepth 20000 in
theorem gL_law_L_isOpen : GoodIn wsL_law (va_wsS RL 162 yL_isOpen wsL_isOpen) := goodIn_app (goodIn_of _ (by decide +kernel)) ggL_law_L_isOpen
set_option maxRecDepth 20000 in
theorem ggL_law_X3_isOpen : GoodIn wsL_law wsX3_isOpen := goodIn_r _ [523, 266, 210, 211, 212, 5, 213, 178, 187, 188, 189, 134, 135, 136, 137, 138, 139, 140, 141, 142, 287, 288, 289, 290, 53, 51, 52, 763, 764, 765, 766, 767, 768, 769, 770, 771, 772, 773, 774, 775, 776, 777, 778, 779, 780, 781, 782] (by decide +kernel) (by decide +kernel)
set_option maxRecDepth 20000 in
theorem gL_law_X3_isOpen : GoodIn wsL_law (wsV RL 164 RX3 yX3_isOpen wsX3_isOpen) := goodIn_app (goodIn_of _ (by decide +kernel)) ggL_law_X3_isOpen
set_option maxRecDepth 20000 in
theorem ggL_law_L_turnsUntilOpen : GoodIn wsL_law wsL_turnsUntilOpen := goodIn_ca (goodIn_r _ [526, 150, 527, 528, 529, 2, 530, 16, 202, 203, 204, 205, 163, 164, 158, 250, 251, 252, 253, 233, 254, 255, 256, 257, 519, 93, 94, 15, 95, 35, 33, 34, 754, 755, 756, 757, 758, 759, 760, 761, 762, 783, 784, 785, 786, 787, 788, 789, 790, 791] (by decide +kernel) (by decide +kernel)) (goodIn_sub (fun _ h => List.mem_append_right _ h) (by decide +kernel))
set_option maxRecDepth 20000 in
theorem gL_law_L_turnsUntilOpen : GoodIn wsL_law (va_wsS RL 165 yL_turnsUntilOpen wsL_turnsUntilOpen) := goodIn_app (goodIn_of _ (by decide +kernel)) ggL_law_L_turnsUntilOpen
set_option maxRecDepth 20000 in
theorem ggL_law_X3_turnsUntilOpen : GoodIn wsL_law wsX3_turnsUntilOpen := goodIn_r _ [534, 210, 211, 212, 5, 213, 178, 187, 188, 189, 134, 135, 136, 137, 138, 139, 140, 141, 142, 535, 536, 537, 538, 53, 266, 287, 288, 289, 290, 51, 52, 763, 764, 765, 766, 767, 768, 769, 770, 771, 772, 773, 774, 775, 776, 777, 778, 779, 780, 781, 782] (by decide +kernel) (by decide +kernel)
set_option maxRecDepth 20000 in
theorem gL_law_X3_turnsUntilOpen : GoodIn wsL_law (wsV RL 167 RX3 yX3_turnsUntilOpen wsX3_turnsUntilOpen) := goodIn_app (goodIn_of _ (by decide +kernel)) ggL_law_X3_turnsUntilOpen
set_option maxRecDepth 20000 in
theorem ggL_law_L_doorBetween : GoodIn wsL_law wsL_doorBetween := goodIn_ca (goodIn_r _ [541, 150, 542, 543, 544, 2, 545, 16, 159, 160, 161, 162, 163, 164, 66, 165, 166, 167, 15, 168, 169, 31, 32, 754, 755, 756, 757, 758, 759, 760, 761, 762, 783, 784, 785, 786, 787, 788, 789, 790, 791] (by decide +kernel) (by decide +kernel)) (goodIn_sub (fun _ h => List.mem_append_right _ h) (by decide +kernel))
set_option maxRecDepth 20000 in
theorem gL_law_L_doorBetween : GoodIn wsL_law (va_wsS RL 168 yL_doorBetween wsL_doorBetween) := goodIn_app (goodIn_of _ (by decide +kernel)) ggL_law_L_doorBetween
set_option maxRecDepth 20000 in
theorem ggL_law_X3_doorBetween : GoodIn wsL_law wsX3_doorBetween := goodIn_r _ [549, 179, 180, 181, 5, 182, 133, 183, 184, 185, 186, 187, 188, 189, 134, 135, 136, 137, 138, 139, 140, 141, 142, 190, 191, 192, 193, 178, 49, 50, 763, 764, 765, 766, 767, 768, 769, 770, 771, 772, 773, 774, 775, 776, 777, 778, 779, 780, 781, 782] (by decide +kernel) (by decide +kernel)
set_option maxRecDepth 20000 in
theorem gL_law_X3_doorBetween : GoodIn wsL_law (wsV RL 170 RX3 yX3_doorBetween wsX3_doorBetween) := goodIn_app (goodIn_of _ (by decide +kernel)) ggL_law_X3_doorBetween
set_option maxRecDepth 20000 in
theorem ggL_law_L_isWayOpen : GoodIn wsL_law wsL_isWayOpen := goodIn_ca (goodIn_r _ [552, 150, 553, 554, 555, 2, 556, 16, 159, 160, 161, 162, 163, 164, 66, 165, 166, 167, 15, 168, 169, 31, 32, 250, 251, 252, 253, 233, 254, 255, 256, 257, 519, 93, 94, 95, 35, 33, 34, 754, 755, 756, 757, 758, 759, 760, 761, 762, 783, 784, 785, 786, 787, 788, 789, 790, 791] (by decide +kernel) (by decide +kernel)) (goodIn_sub (fun _ h => List.mem_append_right _ h) (by decide +kernel))
set_option maxRecDepth 20000 in
theorem gL_law_L_isWayOpen : GoodIn wsL_law (va_wsS RL 171 yL_isWayOpen wsL_isWayOpen) := goodIn_app (goodIn_of _ (by decide +kernel)) ggL_law_L_isWayOpen
set_option maxRecDepth 20000 in
theorem ggL_law_X3_isWayOpen : GoodIn wsL_law wsX3_isWayOpen := goodIn_r _ [560, 266, 179, 180, 181, 5, 182, 133, 183, 184, 185, 186, 187, 188, 189, 134, 135, 136, 137, 138, 139, 140, 141, 142, 190, 191, 192, 193, 178, 49, 50, 287, 288, 289, 290, 53, 51, 52, 763, 764, 765, 766, 767, 768, 769, 770, 771, 772, 773, 774, 775, 776, 777, 778, 779, 780, 781, 782] (by decide +kernel) (by decide +kernel)
set_option maxRecDepth 20000 in
theorem gL_law_X3_isWayOpen : GoodIn wsL_law (wsV RL 173 RX3 yX3_isWayOpen wsX3_isWayOpen) := goodIn_app (goodIn_of _ (by decide +kernel)) ggL_law_X3_isWayOpen
set_option maxRecDepth 20000 in
theorem ggL_law_L_distance : GoodIn wsL_law wsL_distance := goodIn_ca (goodIn_r _ [563, 150, 564, 565, 566, 2, 567, 16, 159, 160, 161, 162, 163, 164, 66, 362, 363, 364, 15, 365, 90, 91, 112, 113, 366, 367, 368, 369, 169, 31, 32, 35, 754, 755, 756, 757, 758, 759, 760, 761, 762, 783, 784, 785, 786, 787, 788, 789, 790, 791] (by decide +kernel) (by decide +kernel)) (goodIn_sub (fun _ h => List.mem_append_right _ h) (by decide +kernel))
set_option maxRecDepth 20000 in
theorem gL_law_L_distance : GoodIn wsL_law (va_wsS RL 174 yL_distance wsL_distance) := goodIn_app (goodIn_of _ (by decide +kernel)) ggL_law_L_distance
set_option maxRecDepth 20000 in
theorem ggL_law_X3_distance : GoodIn wsL_law wsX3_distance := goodIn_r _ [571, 179, 180, 181, 5, 182, 133, 183, 184, 185, 186, 187, 188, 189, 134, 135, 136, 137, 138, 139, 140, 141, 142, 379, 380, 381, 382, 27, 53, 190, 191, 192, 193, 178, 49, 50, 763, 764, 765, 766, 767, 768, 769, 770, 771, 772, 773, 774, 775, 776, 777, 778, 779, 780, 781, 782] (by decide +kernel) (by decide +kernel)
set_option maxRecDepth 20000 in
theorem gL_law_X3_distance : GoodIn wsL_law (wsV RL 176 RX3 yX3_distance wsX3_distance) := goodIn_app (goodIn_of _ (by decide +kernel)) ggL_law_X3_distance
set_option maxRecDepth 20000 in
theorem ggL_law_L_catArrives : GoodIn wsL_law wsL_catArrives := goodIn_ca (goodIn_ca (goodIn_r _ [574, 150, 59, 575, 576, 577, 2, 578, 22, 159, 160, 161, 162, 163, 164, 16, 66, 302, 303, 304, 305, 64, 65, 236, 579, 580, 581, 582, 20, 583, 90, 91, 584, 112, 113, 250, 251, 252, 253, 233, 254, 255, 256, 257, 314, 101, 102, 585, 586, 587, 19, 588, 39, 87, 88, 89, 754, 755, 756, 757, 758, 759, 760, 761, 762, 783, 784, 785, 786, 787, 788, 789, 790, 791, 792, 793, 794, 795] (by decide +kernel) (by decide +kernel)) (goodIn_sub (fun _ h => List.mem_append_right _ h) (by decide +kernel))) (goodIn_sub (fun _ h => List.mem_append_left _ (List.mem_append_left _ (List.mem_append_right _ h))) (by decide +kernel))
set_option maxRecDepth 20000 in
theorem gL_law_L_catArrives : GoodIn wsL_law (va_wsS RL 177 yL_catArrives wsL_catArrives) := goodIn_app (goodIn_of _ (by decide +kernel)) ggL_law_L_catArrives
set_option maxRecDepth 20000 in
theorem ggL_law_X3_catArrives : GoodIn wsL_law wsX3_catArrives := goodIn_r _ [592, 269, 593, 594, 595, 5, 596, 267, 183, 184, 185, 186, 133, 187, 188, 189, 134, 135, 136, 137, 138, 139, 140, 141, 142, 597, 598, 599, 600, 27, 266, 47, 283, 284, 285, 286, 190, 191, 192, 193, 178, 49, 50, 287, 288, 289, 290, 53, 51, 52, 763, 764, 765, 766, 767, 768, 769, 770, 771, 772, 773, 774, 775, 776, 777, 778, 779, 780, 781, 782] (by decide +kernel) (by decide +kernel)
set_option maxRecDepth 20000 in
theorem gL_law_X3_catArrives : GoodIn wsL_law (wsV RL 179 RX3 yX3_catArrives wsX3_catArrives) := goodIn_app (goodIn_of _ (by decide +kernel)) ggL_law_X3_catArrives
set_option maxRecDepth 20000 in
theorem ggL_law_L_mouseArrives : GoodIn wsL_law wsL_mouseArrives := goodIn_ca (goodIn_ca (goodIn_r _ [603, 150, 59, 604, 605, 606, 2, 607, 23, 159, 160, 161, 162, 163, 164, 16, 66, 302, 303, 304, 305, 64, 65, 236, 579, 580, 581, 582, 20, 583, 90, 91, 584, 112, 113, 250, 251, 252, 253, 233, 254, 255, 256, 257, 314, 101, 102, 585, 586, 587, 19, 588, 39, 87, 88, 89, 754, 755, 756, 757, 758, 759, 760, 761, 762, 783, 784, 785, 786, 787, 788, 789, 790, 791, 792, 793, 794, 795] (by decide +kernel) (by decide +kernel)) (goodIn_sub (fun _ h => List.mem_append_right _ h) (by decide +kernel))) (goodIn_sub (fun _ h => List.mem_append_left _ (List.mem_append_left _ (List.mem_append_right _ h))) (by decide +kernel))
set_option maxRecDepth 20000 in
theorem gL_law_L_mouseArrives : GoodIn wsL_law (va_wsS RL 180 yL_mouseArrives wsL_mouseArrives) := goodIn_app (goodIn_of _ (by decide +kernel)) ggL_law_L_mouseArrives
