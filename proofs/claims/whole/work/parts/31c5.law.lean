set_option maxRecDepth 20000 in
theorem ggL_law_X3_mouseArrives : GoodIn wsL_law wsX3_mouseArrives := goodIn_r _ [611, 270, 593, 594, 595, 5, 596, 267, 183, 184, 185, 186, 133, 187, 188, 189, 134, 135, 136, 137, 138, 139, 140, 141, 142, 597, 598, 599, 600, 27, 266, 47, 283, 284, 285, 286, 190, 191, 192, 193, 178, 49, 50, 287, 288, 289, 290, 53, 51, 52, 763, 764, 765, 766, 767, 768, 769, 770, 771, 772, 773, 774, 775, 776, 777, 778, 779, 780, 781, 782] (by decide +kernel) (by decide +kernel)
set_option maxRecDepth 20000 in
theorem gL_law_X3_mouseArrives : GoodIn wsL_law (wsV RL 182 RX3 yX3_mouseArrives wsX3_mouseArrives) := goodIn_app (goodIn_of _ (by decide +kernel)) ggL_law_X3_mouseArrives
set_option maxRecDepth 20000 in
theorem ggL_law_X2_turnsToCatch : GoodIn wsL_law wsX2_turnsToCatch := goodIn_r _ [245, 236, 22, 23, 246, 247, 248, 2, 249, 20, 250, 251, 252, 253, 233, 254, 255, 256, 257, 258, 259, 260, 19, 261, 42, 87, 88, 89, 754, 755, 756, 757, 758, 759, 760, 761, 762, 792, 793, 794, 795] (by decide +kernel) (by decide +kernel)
set_option maxRecDepth 20000 in
theorem gL_law_X2_turnsToCatch : GoodIn wsL_law (wsV RL 183 RX2 yX2_turnsToCatch wsX2_turnsToCatch) := goodIn_app (goodIn_of _ (by decide +kernel)) ggL_law_X2_turnsToCatch
set_option maxRecDepth 20000 in
theorem ggL_law_X3_turnsToCatch : GoodIn wsL_law wsX3_turnsToCatch := goodIn_r _ [616, 272, 273, 274, 5, 275, 267, 54, 266, 269, 270, 276, 277, 278, 279, 27, 133, 47, 280, 281, 282, 283, 284, 285, 286, 190, 191, 192, 193, 178, 49, 50, 287, 288, 289, 290, 53, 51, 52, 291, 292, 293, 294, 391, 392, 393, 394, 138, 763, 764, 765, 766, 767, 768, 769, 770, 771, 772, 773, 774, 775, 776, 777, 778, 779, 780, 781, 782] (by decide +kernel) (by decide +kernel)
set_option maxRecDepth 20000 in
theorem gL_law_X3_turnsToCatch : GoodIn wsL_law (wsV RL 186 RX3 yX3_turnsToCatch wsX3_turnsToCatch) := goodIn_app (goodIn_of _ (by decide +kernel)) ggL_law_X3_turnsToCatch
set_option maxRecDepth 20000 in
theorem ggL_law_L_turnsFrom : GoodIn wsL_law wsL_turnsFrom := goodIn_ca (goodIn_ca (goodIn_r _ [619, 150, 151, 620, 621, 622, 2, 623, 159, 160, 161, 162, 163, 164, 16, 66, 237, 238, 239, 240, 156, 157, 241, 246, 247, 248, 249, 20, 250, 251, 252, 253, 233, 254, 255, 256, 257, 258, 259, 260, 19, 261, 42, 87, 88, 89, 754, 755, 756, 757, 758, 759, 760, 761, 762, 783, 784, 785, 786, 787, 788, 789, 790, 791, 792, 793, 794, 795] (by decide +kernel) (by decide +kernel)) (goodIn_sub (fun _ h => List.mem_append_right _ h) (by decide +kernel))) (goodIn_sub (fun _ h => List.mem_append_left _ (List.mem_append_right _ h)) (by decide +kernel))
set_option maxRecDepth 20000 in
theorem gL_law_L_turnsFrom : GoodIn wsL_law (va_wsS RL 187 yL_turnsFrom wsL_turnsFrom) := goodIn_app (goodIn_of _ (by decide +kernel)) ggL_law_L_turnsFrom
set_option maxRecDepth 20000 in
theorem ggL_law_X3_turnsFrom : GoodIn wsL_law wsX3_turnsFrom := goodIn_r _ [627, 47, 54, 266, 179, 180, 181, 5, 182, 133, 183, 184, 185, 186, 187, 188, 189, 134, 135, 136, 137, 138, 139, 140, 141, 142, 276, 277, 278, 279, 27, 280, 281, 282, 283, 284, 285, 286, 190, 191, 192, 193, 178, 49, 50, 287, 288, 289, 290, 53, 51, 52, 291, 292, 293, 294, 763, 764, 765, 766, 767, 768, 769, 770, 771, 772, 773, 774, 775, 776, 777, 778, 779, 780, 781, 782] (by decide +kernel) (by decide +kernel)
set_option maxRecDepth 20000 in
theorem gL_law_X3_turnsFrom : GoodIn wsL_law (wsV RL 189 RX3 yX3_turnsFrom wsX3_turnsFrom) := goodIn_app (goodIn_of _ (by decide +kernel)) ggL_law_X3_turnsFrom
set_option maxRecDepth 20000 in
theorem ggL_law_X2_safeNow : GoodIn wsL_law wsX2_safeNow := goodIn_r _ [631, 236, 16, 66, 22, 246, 247, 248, 2, 249, 20, 250, 251, 252, 253, 233, 254, 255, 256, 257, 258, 259, 260, 19, 261, 42, 87, 88, 89, 754, 755, 756, 757, 758, 759, 760, 761, 762, 783, 784, 785, 786, 787, 788, 789, 790, 791, 792, 793, 794, 795] (by decide +kernel) (by decide +kernel)
set_option maxRecDepth 20000 in
theorem gL_law_X2_safeNow : GoodIn wsL_law (wsV RL 190 RX2 yX2_safeNow wsX2_safeNow) := goodIn_app (goodIn_of _ (by decide +kernel)) ggL_law_X2_safeNow
set_option maxRecDepth 20000 in
theorem ggL_law_X3_safeNow : GoodIn wsL_law wsX3_safeNow := goodIn_r _ [635, 636, 637, 638, 5, 639, 267, 133, 54, 266, 269, 276, 277, 278, 279, 27, 47, 280, 281, 282, 283, 284, 285, 286, 190, 191, 192, 193, 178, 49, 50, 287, 288, 289, 290, 53, 51, 52, 291, 292, 293, 294, 391, 392, 393, 394, 138, 763, 764, 765, 766, 767, 768, 769, 770, 771, 772, 773, 774, 775, 776, 777, 778, 779, 780, 781, 782] (by decide +kernel) (by decide +kernel)
set_option maxRecDepth 20000 in
theorem gL_law_X3_safeNow : GoodIn wsL_law (wsV RL 193 RX3 yX3_safeNow wsX3_safeNow) := goodIn_app (goodIn_of _ (by decide +kernel)) ggL_law_X3_safeNow
set_option maxRecDepth 20000 in
theorem ggL_law_X2_bestGo : GoodIn wsL_law wsX2_bestGo := goodIn_r _ [349, 236, 310, 311, 312, 2, 313, 233, 314, 101, 102, 350, 351, 352, 353, 23, 16, 66, 20, 22, 250, 251, 252, 253, 254, 255, 256, 257, 315, 316, 317, 19, 318, 39, 87, 88, 89, 112, 113, 258, 259, 260, 261, 42, 354, 355, 356, 357, 358, 359, 360, 361, 362, 363, 364, 15, 365, 90, 91, 366, 367, 368, 369, 169, 31, 32, 35, 754, 755, 756, 757, 758, 759, 760, 761, 762, 783, 784, 785, 786, 787, 788, 789, 790, 791, 792, 793, 794, 795] (by decide +kernel) (by decide +kernel)
set_option maxRecDepth 20000 in
theorem gL_law_X2_bestGo : GoodIn wsL_law (wsV RL 194 RX2 yX2_bestGo wsX2_bestGo) := goodIn_app (goodIn_of _ (by decide +kernel)) ggL_law_X2_bestGo
set_option maxRecDepth 20000 in
theorem ggL_law_X3_bestGo : GoodIn wsL_law wsX3_bestGo := goodIn_r _ [644, 374, 375, 376, 5, 377, 267, 378, 133, 266, 269, 270, 47, 54, 276, 277, 278, 279, 27, 280, 281, 282, 283, 284, 285, 286, 190, 191, 192, 193, 178, 49, 50, 287, 288, 289, 290, 53, 51, 52, 291, 292, 293, 294, 379, 380, 381, 382, 391, 392, 393, 394, 138, 763, 764, 765, 766, 767, 768, 769, 770, 771, 772, 773, 774, 775, 776, 777, 778, 779, 780, 781, 782] (by decide +kernel) (by decide +kernel)
set_option maxRecDepth 20000 in
theorem gL_law_X3_bestGo : GoodIn wsL_law (wsV RL 197 RX3 yX3_bestGo wsX3_bestGo) := goodIn_app (goodIn_of _ (by decide +kernel)) ggL_law_X3_bestGo
set_option maxRecDepth 20000 in
theorem ggL_law_X2_pairsCaught : GoodIn wsL_law wsX2_pairsCaught := goodIn_r _ [648, 649, 650, 651, 2, 652, 16, 66, 246, 247, 248, 249, 20, 250, 251, 252, 253, 233, 254, 255, 256, 257, 258, 259, 260, 19, 261, 42, 87, 88, 89, 754, 755, 756, 757, 758, 759, 760, 761, 762, 783, 784, 785, 786, 787, 788, 789, 790, 791, 792, 793, 794, 795] (by decide +kernel) (by decide +kernel)
set_option maxRecDepth 20000 in
theorem gL_law_X2_pairsCaught : GoodIn wsL_law (wsV RL 198 RX2 yX2_pairsCaught wsX2_pairsCaught) := goodIn_app (goodIn_of _ (by decide +kernel)) ggL_law_X2_pairsCaught
set_option maxRecDepth 20000 in
theorem ggL_law_X3_pairsCaught : GoodIn wsL_law wsX3_pairsCaught := goodIn_r _ [656, 657, 658, 659, 5, 660, 661, 662, 663, 664, 665, 666, 667, 133, 54, 266, 47, 668, 669, 670, 671, 276, 277, 278, 279, 27, 280, 281, 282, 283, 284, 285, 286, 190, 191, 192, 193, 178, 49, 50, 287, 288, 289, 290, 53, 51, 52, 291, 292, 293, 294, 391, 392, 393, 394, 138, 763, 764, 765, 766, 767, 768, 769, 770, 771, 772, 773, 774, 775, 776, 777, 778, 779, 780, 781, 782] (by decide +kernel) (by decide +kernel)
set_option maxRecDepth 20000 in
theorem gL_law_X3_pairsCaught : GoodIn wsL_law (wsV RL 201 RX3 yX3_pairsCaught wsX3_pairsCaught) := goodIn_app (goodIn_of _ (by decide +kernel)) ggL_law_X3_pairsCaught
set_option maxRecDepth 20000 in
theorem ggL_law_X2_longestChase : GoodIn wsL_law wsX2_longestChase := goodIn_r _ [675, 676, 669, 670, 671, 649, 650, 651, 2, 652, 16, 66, 246, 247, 248, 249, 20, 250, 251, 252, 253, 233, 254, 255, 256, 257, 258, 259, 260, 19, 261, 42, 87, 88, 89, 754, 755, 756, 757, 758, 759, 760, 761, 762, 783, 784, 785, 786, 787, 788, 789, 790, 791, 792, 793, 794, 795] (by decide +kernel) (by decide +kernel)
set_option maxRecDepth 20000 in
theorem gL_law_X2_longestChase : GoodIn wsL_law (wsV RL 202 RX2 yX2_longestChase wsX2_longestChase) := goodIn_app (goodIn_of _ (by decide +kernel)) ggL_law_X2_longestChase
set_option maxRecDepth 20000 in
theorem ggL_law_X3_longestChase : GoodIn wsL_law wsX3_longestChase := goodIn_r _ [680, 657, 658, 659, 5, 660, 661, 662, 663, 664, 665, 666, 667, 133, 54, 266, 47, 668, 669, 670, 671, 276, 277, 278, 279, 27, 280, 281, 282, 283, 284, 285, 286, 190, 191, 192, 193, 178, 49, 50, 287, 288, 289, 290, 53, 51, 52, 291, 292, 293, 294, 391, 392, 393, 394, 138, 763, 764, 765, 766, 767, 768, 769, 770, 771, 772, 773, 774, 775, 776, 777, 778, 779, 780, 781, 782] (by decide +kernel) (by decide +kernel)
set_option maxRecDepth 20000 in
theorem gL_law_X3_longestChase : GoodIn wsL_law (wsV RL 205 RX3 yX3_longestChase wsX3_longestChase) := goodIn_app (goodIn_of _ (by decide +kernel)) ggL_law_X3_longestChase
set_option maxRecDepth 20000 in
theorem ggL_law_X2_bestDoorToLock : GoodIn wsL_law wsX2_bestDoorToLock := goodIn_r _ [684, 16, 158, 201, 242, 243, 244, 2, 245, 236, 22, 23, 246, 247, 248, 249, 20, 250, 251, 252, 253, 233, 254, 255, 256, 257, 258, 259, 260, 19, 261, 42, 87, 88, 89, 685, 686, 687, 688, 21, 72, 73, 74, 75, 40, 41, 76, 77, 78, 79, 80, 81, 82, 83, 39, 84, 85, 86, 90, 91, 92, 93, 94, 15, 95, 35, 33, 34, 96, 97, 98, 99, 100, 101, 102, 103, 104, 105, 106, 107, 108, 109, 110, 111, 112, 113, 114, 115, 116, 117, 118, 119, 120, 121, 122, 123, 124, 125, 126, 127, 128, 754, 755, 756, 757, 758, 759, 760, 761, 762, 783, 784, 785, 786, 787, 788, 789, 790, 791, 792, 793, 794, 795] (by decide +kernel) (by decide +kernel)
set_option maxRecDepth 20000 in
theorem gL_law_X2_bestDoorToLock : GoodIn wsL_law (wsV RL 206 RX2 yX2_bestDoorToLock wsX2_bestDoorToLock) := goodIn_app (goodIn_of _ (by decide +kernel)) ggL_law_X2_bestDoorToLock
