set_option maxRecDepth 20000 in
theorem ggL_law_X3_go : GoodIn wsL_law wsX3_go := goodIn_r _ [334, 267, 266, 269, 270, 47, 268, 183, 184, 185, 5, 186, 133, 187, 188, 189, 134, 135, 136, 137, 138, 139, 140, 141, 142, 283, 284, 285, 286, 190, 191, 192, 193, 178, 49, 50, 287, 288, 289, 290, 53, 51, 52, 335, 336, 337, 338, 48, 271, 763, 764, 765, 766, 767, 768, 769, 770, 771, 772, 773, 774, 775, 776, 777, 778, 779, 780, 781, 782] (by decide +kernel) (by decide +kernel)
set_option maxRecDepth 20000 in
theorem gL_law_X3_go : GoodIn wsL_law (wsV RL 109 RX3 yX3_go wsX3_go) := goodIn_app (goodIn_of _ (by decide +kernel)) ggL_law_X3_go
set_option maxRecDepth 20000 in
theorem ggL_law_L_play : GoodIn wsL_law wsL_play := goodIn_ca (goodIn_ca (goodIn_r _ [341, 151, 59, 342, 343, 344, 2, 345, 156, 157, 236, 302, 303, 304, 305, 64, 65, 346, 347, 348, 349, 310, 311, 312, 313, 233, 314, 101, 102, 350, 351, 352, 353, 23, 16, 66, 20, 22, 250, 251, 252, 253, 254, 255, 256, 257, 315, 316, 317, 19, 318, 39, 87, 88, 89, 112, 113, 258, 259, 260, 261, 42, 354, 355, 356, 357, 358, 359, 360, 361, 362, 363, 364, 15, 365, 90, 91, 366, 367, 368, 369, 169, 31, 32, 35, 319, 320, 321, 322, 323, 324, 325, 326, 235, 327, 328, 329, 330, 221, 234, 754, 755, 756, 757, 758, 759, 760, 761, 762, 783, 784, 785, 786, 787, 788, 789, 790, 791, 792, 793, 794, 795] (by decide +kernel) (by decide +kernel)) (goodIn_sub (fun _ h => List.mem_append_left _ (List.mem_append_right _ h)) (by decide +kernel))) (goodIn_sub (fun _ h => List.mem_append_left _ (List.mem_append_left _ (List.mem_append_right _ h))) (by decide +kernel))
set_option maxRecDepth 20000 in
theorem gL_law_L_play : GoodIn wsL_law (va_wsS RL 110 yL_play wsL_play) := goodIn_app (goodIn_of _ (by decide +kernel)) ggL_law_L_play
set_option maxRecDepth 20000 in
theorem ggL_law_X3_play : GoodIn wsL_law wsX3_play := goodIn_r _ [373, 267, 187, 188, 5, 189, 134, 135, 136, 137, 138, 139, 140, 141, 142, 374, 375, 376, 377, 378, 133, 266, 269, 270, 47, 54, 276, 277, 278, 279, 27, 280, 281, 282, 283, 284, 285, 286, 190, 191, 192, 193, 178, 49, 50, 287, 288, 289, 290, 53, 51, 52, 291, 292, 293, 294, 379, 380, 381, 382, 335, 336, 337, 338, 268, 48, 271, 763, 764, 765, 766, 767, 768, 769, 770, 771, 772, 773, 774, 775, 776, 777, 778, 779, 780, 781, 782] (by decide +kernel) (by decide +kernel)
set_option maxRecDepth 20000 in
theorem gL_law_X3_play : GoodIn wsL_law (wsV RL 112 RX3 yX3_play wsX3_play) := goodIn_app (goodIn_of _ (by decide +kernel)) ggL_law_X3_play
set_option maxRecDepth 20000 in
theorem ggL_law_X2_turn : GoodIn wsL_law wsX2_turn := goodIn_r _ [386, 233, 754, 755, 756, 757, 758, 759, 760, 761, 762] (by decide +kernel) (by decide +kernel)
set_option maxRecDepth 20000 in
theorem gL_law_X2_turn : GoodIn wsL_law (wsV RL 113 RX2 yX2_turn wsX2_turn) := goodIn_app (goodIn_of _ (by decide +kernel)) ggL_law_X2_turn
set_option maxRecDepth 20000 in
theorem ggL_law_X3_turn : GoodIn wsL_law wsX3_turn := goodIn_r _ [390, 266, 391, 392, 393, 5, 394, 138, 763, 764, 765, 766, 767, 768, 769, 770, 771, 772, 773, 774, 775, 776, 777, 778, 779, 780, 781, 782] (by decide +kernel) (by decide +kernel)
set_option maxRecDepth 20000 in
theorem gL_law_X3_turn : GoodIn wsL_law (wsV RL 116 RX3 yX3_turn wsX3_turn) := goodIn_app (goodIn_of _ (by decide +kernel)) ggL_law_X3_turn
set_option maxRecDepth 20000 in
theorem ggL_law_X2_rooms : GoodIn wsL_law wsX2_rooms := goodIn_r _ [398, 16, 66, 754, 755, 756, 757, 758, 759, 760, 761, 762, 783, 784, 785, 786, 787, 788, 789, 790, 791] (by decide +kernel) (by decide +kernel)
set_option maxRecDepth 20000 in
theorem gL_law_X2_rooms : GoodIn wsL_law (wsV RL 117 RX2 yX2_rooms wsX2_rooms) := goodIn_app (goodIn_of _ (by decide +kernel)) ggL_law_X2_rooms
set_option maxRecDepth 20000 in
theorem ggL_law_X3_rooms : GoodIn wsL_law wsX3_rooms := goodIn_r _ [402, 133, 391, 392, 393, 5, 394, 138, 763, 764, 765, 766, 767, 768, 769, 770, 771, 772, 773, 774, 775, 776, 777, 778, 779, 780, 781, 782] (by decide +kernel) (by decide +kernel)
set_option maxRecDepth 20000 in
theorem gL_law_X3_rooms : GoodIn wsL_law (wsV RL 120 RX3 yX3_rooms wsX3_rooms) := goodIn_app (goodIn_of _ (by decide +kernel)) ggL_law_X3_rooms
set_option maxRecDepth 20000 in
theorem ggL_law_X2_doors : GoodIn wsL_law wsX2_doors := goodIn_r _ [406, 16, 158, 754, 755, 756, 757, 758, 759, 760, 761, 762, 783, 784, 785, 786, 787, 788, 789, 790, 791] (by decide +kernel) (by decide +kernel)
set_option maxRecDepth 20000 in
theorem gL_law_X2_doors : GoodIn wsL_law (wsV RL 121 RX2 yX2_doors wsX2_doors) := goodIn_app (goodIn_of _ (by decide +kernel)) ggL_law_X2_doors
set_option maxRecDepth 20000 in
theorem ggL_law_X3_doors : GoodIn wsL_law wsX3_doors := goodIn_r _ [410, 178, 391, 392, 393, 5, 394, 138, 763, 764, 765, 766, 767, 768, 769, 770, 771, 772, 773, 774, 775, 776, 777, 778, 779, 780, 781, 782] (by decide +kernel) (by decide +kernel)
set_option maxRecDepth 20000 in
theorem gL_law_X3_doors : GoodIn wsL_law (wsV RL 124 RX3 yX3_doors wsX3_doors) := goodIn_app (goodIn_of _ (by decide +kernel)) ggL_law_X3_doors
set_option maxRecDepth 20000 in
theorem ggL_law_X2_isOn : GoodIn wsL_law wsX2_isOn := goodIn_r _ [414, 236, 754, 755, 756, 757, 758, 759, 760, 761, 762] (by decide +kernel) (by decide +kernel)
set_option maxRecDepth 20000 in
theorem gL_law_X2_isOn : GoodIn wsL_law (wsV RL 125 RX2 yX2_isOn wsX2_isOn) := goodIn_app (goodIn_of _ (by decide +kernel)) ggL_law_X2_isOn
set_option maxRecDepth 20000 in
theorem ggL_law_X3_isOn : GoodIn wsL_law wsX3_isOn := goodIn_r _ [418, 267, 419, 420, 421, 5, 422, 138, 763, 764, 765, 766, 767, 768, 769, 770, 771, 772, 773, 774, 775, 776, 777, 778, 779, 780, 781, 782] (by decide +kernel) (by decide +kernel)
set_option maxRecDepth 20000 in
theorem gL_law_X3_isOn : GoodIn wsL_law (wsV RL 129 RX3 yX3_isOn wsX3_isOn) := goodIn_app (goodIn_of _ (by decide +kernel)) ggL_law_X3_isOn
set_option maxRecDepth 20000 in
theorem ggL_law_X2_isCaught : GoodIn wsL_law wsX2_isCaught := goodIn_r _ [426, 235, 754, 755, 756, 757, 758, 759, 760, 761, 762] (by decide +kernel) (by decide +kernel)
set_option maxRecDepth 20000 in
theorem gL_law_X2_isCaught : GoodIn wsL_law (wsV RL 130 RX2 yX2_isCaught wsX2_isCaught) := goodIn_app (goodIn_of _ (by decide +kernel)) ggL_law_X2_isCaught
set_option maxRecDepth 20000 in
theorem ggL_law_X3_isCaught : GoodIn wsL_law wsX3_isCaught := goodIn_r _ [430, 268, 419, 420, 421, 5, 422, 138, 763, 764, 765, 766, 767, 768, 769, 770, 771, 772, 773, 774, 775, 776, 777, 778, 779, 780, 781, 782] (by decide +kernel) (by decide +kernel)
set_option maxRecDepth 20000 in
theorem gL_law_X3_isCaught : GoodIn wsL_law (wsV RL 133 RX3 yX3_isCaught wsX3_isCaught) := goodIn_app (goodIn_of _ (by decide +kernel)) ggL_law_X3_isCaught
set_option maxRecDepth 20000 in
theorem ggL_law_X2_isCatsTurn : GoodIn wsL_law wsX2_isCatsTurn := goodIn_r _ [313, 233, 314, 101, 2, 102, 754, 755, 756, 757, 758, 759, 760, 761, 762] (by decide +kernel) (by decide +kernel)
set_option maxRecDepth 20000 in
theorem gL_law_X2_isCatsTurn : GoodIn wsL_law (wsV RL 134 RX2 yX2_isCatsTurn wsX2_isCatsTurn) := goodIn_app (goodIn_of _ (by decide +kernel)) ggL_law_X2_isCatsTurn
