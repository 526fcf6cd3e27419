set_option maxRecDepth 20000 in
theorem ggL_law_X2_init : GoodIn wsL_law wsX2_init := goodIn_r _ [10, 11, 12, 13, 14, 15, 16, 17, 18, 19, 20, 21, 22, 23, 24, 25, 26, 27, 3, 28, 29, 30, 31, 32, 33, 34, 35, 36, 37, 38, 39, 40, 41, 42, 400, 401, 402, 403, 404, 405, 406, 407, 408, 391, 392, 393, 394, 395, 396, 397, 398, 399, 409, 410, 411, 412] (by decide +kernel) (by decide +kernel)
set_option maxRecDepth 20000 in
theorem gL_law_X2_init : GoodIn wsL_law (wsX2_init) := ggL_law_X2_init
set_option maxRecDepth 20000 in
theorem ggL_law_L_cell : GoodIn wsL_law wsL_cell := goodIn_r _ [46, 47] (by decide +kernel) (by decide +kernel)
set_option maxRecDepth 20000 in
theorem gL_law_L_cell : GoodIn wsL_law (va_wsS RL 9 yL_cell wsL_cell) := goodIn_app (goodIn_of _ (by decide +kernel)) ggL_law_L_cell
set_option maxRecDepth 20000 in
theorem ggL_law_L_below : GoodIn wsL_law wsL_below := goodIn_r _ [50, 51] (by decide +kernel) (by decide +kernel)
set_option maxRecDepth 20000 in
theorem gL_law_L_below : GoodIn wsL_law (va_wsS RL 15 yL_below wsL_below) := goodIn_app (goodIn_of _ (by decide +kernel)) ggL_law_L_below
set_option maxRecDepth 20000 in
theorem ggL_law_L_build : GoodIn wsL_law wsL_build := goodIn_ca (goodIn_ca (goodIn_ca (goodIn_r _ [54, 55, 29, 56, 57, 58, 59, 43, 44, 45, 46, 47, 48, 49, 50, 51, 60, 61, 62, 2, 63, 64, 65, 17, 66, 21, 67, 68, 69, 16, 70, 28, 71, 72, 73, 74, 20, 75, 40, 41, 76, 77, 78, 79, 80, 39, 81, 82, 83, 84, 85, 86, 87, 88, 89, 90, 91, 92, 35, 33, 34, 93, 94, 95, 96, 97, 98, 99, 100, 101, 102, 103, 42, 104, 105, 106, 107, 108, 109, 110, 111, 112, 113, 114, 115, 116, 117, 118, 119, 120, 121, 122, 123, 124, 125, 126, 127, 128, 129, 130, 131, 132, 133, 134, 135, 136, 137, 138, 139, 140, 141, 142, 143, 31, 32, 144, 145, 146, 147, 148, 149, 150, 151, 152, 153, 154, 155, 156, 391, 392, 393, 394, 395, 396, 397, 398, 399, 400, 401, 402, 403, 404, 405, 406, 407, 408, 409, 410, 411, 412] (by decide +kernel) (by decide +kernel)) (goodIn_sub (fun _ h => List.mem_append_left _ (List.mem_append_left _ (List.mem_append_right _ h))) (by decide +kernel))) (goodIn_sub (fun _ h => List.mem_append_left _ (List.mem_append_right _ h)) (by decide +kernel))) (goodIn_sub (fun _ h => List.mem_append_right _ h) (by decide +kernel))
set_option maxRecDepth 20000 in
theorem gL_law_L_build : GoodIn wsL_law (va_wsS RL 46 yL_build wsL_build) := goodIn_app (goodIn_of _ (by decide +kernel)) ggL_law_L_build
set_option maxRecDepth 20000 in
theorem ggL_law_X2_putCheese : GoodIn wsL_law wsX2_putCheese := goodIn_ca (goodIn_ca (goodIn_ca (goodIn_r _ [160, 130, 131, 64, 65, 17, 161, 133, 134, 135, 2, 136, 137, 138, 66, 391, 392, 393, 394, 395, 396, 397, 398, 399, 400, 401, 402, 403, 404, 405, 406, 407, 408] (by decide +kernel) (by decide +kernel)) (goodIn_sub (fun _ h => List.mem_append_left _ (List.mem_append_right _ h)) (by decide +kernel))) (goodIn_sub (fun _ h => List.mem_append_left _ (List.mem_append_left _ (List.mem_append_right _ h))) (by decide +kernel))) (goodIn_sub (fun _ h => List.mem_append_right _ h) (by decide +kernel))
set_option maxRecDepth 20000 in
theorem gL_law_X2_putCheese : GoodIn wsL_law (wsV RL 50 RX2 yX2_putCheese wsX2_putCheese) := goodIn_app (goodIn_of _ (by decide +kernel)) ggL_law_X2_putCheese
set_option maxRecDepth 20000 in
theorem ggL_law_X2_begin : GoodIn wsL_law wsX2_begin := goodIn_ca (goodIn_ca (goodIn_r _ [165, 130, 131, 23, 24, 166, 167, 168, 169, 133, 134, 135, 2, 136, 137, 138, 17, 66, 170, 171, 172, 173, 174, 175, 176, 177, 178, 179, 180, 181, 182, 21, 183, 184, 185, 186, 187, 188, 189, 190, 191, 192, 193, 20, 194, 42, 84, 85, 86, 391, 392, 393, 394, 395, 396, 397, 398, 399, 400, 401, 402, 403, 404, 405, 406, 407, 408, 409, 410, 411, 412] (by decide +kernel) (by decide +kernel)) (goodIn_sub (fun _ h => List.mem_append_left _ (List.mem_append_right _ h)) (by decide +kernel))) (goodIn_sub (fun _ h => List.mem_append_right _ h) (by decide +kernel))
set_option maxRecDepth 20000 in
theorem gL_law_X2_begin : GoodIn wsL_law (wsV RL 53 RX2 yX2_begin wsX2_begin) := goodIn_app (goodIn_of _ (by decide +kernel)) ggL_law_X2_begin
set_option maxRecDepth 20000 in
theorem ggL_law_X2_isOn : GoodIn wsL_law wsX2_isOn := goodIn_r _ [198, 169, 391, 392, 393, 394, 395, 396, 397, 398, 399] (by decide +kernel) (by decide +kernel)
set_option maxRecDepth 20000 in
theorem gL_law_X2_isOn : GoodIn wsL_law (wsV RL 56 RX2 yX2_isOn wsX2_isOn) := goodIn_app (goodIn_of _ (by decide +kernel)) ggL_law_X2_isOn
set_option maxRecDepth 20000 in
theorem ggL_law_X2_isCatsTurn : GoodIn wsL_law wsX2_isCatsTurn := goodIn_r _ [202, 166, 203, 98, 2, 99, 391, 392, 393, 394, 395, 396, 397, 398, 399] (by decide +kernel) (by decide +kernel)
set_option maxRecDepth 20000 in
theorem gL_law_X2_isCatsTurn : GoodIn wsL_law (wsV RL 60 RX2 yX2_isCatsTurn wsX2_isCatsTurn) := goodIn_app (goodIn_of _ (by decide +kernel)) ggL_law_X2_isCatsTurn
set_option maxRecDepth 20000 in
theorem ggL_law_X2_catIn : GoodIn wsL_law wsX2_catIn := goodIn_r _ [207, 23, 391, 392, 393, 394, 395, 396, 397, 398, 399] (by decide +kernel) (by decide +kernel)
set_option maxRecDepth 20000 in
theorem gL_law_X2_catIn : GoodIn wsL_law (wsV RL 63 RX2 yX2_catIn wsX2_catIn) := goodIn_app (goodIn_of _ (by decide +kernel)) ggL_law_X2_catIn
set_option maxRecDepth 20000 in
theorem ggL_law_X2_mouseIn : GoodIn wsL_law wsX2_mouseIn := goodIn_r _ [211, 24, 391, 392, 393, 394, 395, 396, 397, 398, 399] (by decide +kernel) (by decide +kernel)
set_option maxRecDepth 20000 in
theorem gL_law_X2_mouseIn : GoodIn wsL_law (wsV RL 67 RX2 yX2_mouseIn wsX2_mouseIn) := goodIn_app (goodIn_of _ (by decide +kernel)) ggL_law_X2_mouseIn
set_option maxRecDepth 20000 in
theorem ggL_law_X2_digest : GoodIn wsL_law wsX2_digest := goodIn_ca (goodIn_r _ [215, 216, 217, 218, 219, 2, 220, 166, 221, 222, 223, 224, 225, 226, 227, 228, 17, 66, 229, 230, 231, 232, 132, 233, 196, 197, 198, 169, 234, 235, 236, 237, 238, 239, 240, 168, 241, 205, 206, 207, 23, 242, 209, 210, 211, 24, 243, 244, 245, 246, 167, 175, 176, 177, 178, 179, 180, 181, 182, 21, 183, 184, 185, 186, 187, 188, 189, 190, 191, 192, 193, 20, 194, 42, 84, 85, 86, 247, 248, 249, 250, 251, 252, 253, 254, 255, 200, 201, 202, 203, 98, 99, 256, 257, 258, 259, 260, 261, 262, 263, 39, 109, 110, 264, 265, 266, 267, 268, 269, 270, 271, 272, 273, 274, 16, 275, 87, 88, 276, 277, 278, 279, 143, 31, 32, 35, 280, 281, 282, 283, 284, 285, 286, 287, 288, 289, 290, 291, 292, 5, 6, 7, 293, 294, 295, 296, 152, 297, 298, 299, 300, 22, 72, 73, 74, 75, 40, 41, 76, 57, 58, 59, 77, 78, 79, 80, 81, 82, 83, 89, 90, 91, 92, 33, 34, 93, 94, 95, 96, 97, 100, 101, 102, 103, 104, 105, 106, 107, 108, 111, 112, 113, 114, 115, 116, 117, 118, 119, 120, 121, 122, 123, 124, 125, 301, 302, 303, 304, 305, 306, 307, 308, 174, 133, 134, 135, 136, 137, 138, 309, 310, 311, 312, 161, 313, 314, 315, 316, 317, 318, 319, 320, 321, 322, 323, 324, 325, 326, 327, 328, 329, 330, 331, 332, 153, 154, 155, 156, 333, 334, 335, 336, 337, 338, 339, 340, 341, 391, 392, 393, 394, 395, 396, 397, 398, 399, 400, 401, 402, 403, 404, 405, 406, 407, 408, 409, 410, 411, 412] (by decide +kernel) (by decide +kernel)) (goodIn_sub (fun _ h => List.mem_append_right _ h) (by decide +kernel))
set_option maxRecDepth 20000 in
theorem gL_law_X2_digest : GoodIn wsL_law (wsV RL 70 RX2 yX2_digest wsX2_digest) := goodIn_app (goodIn_of _ (by decide +kernel)) ggL_law_X2_digest
set_option maxRecDepth 20000 in
theorem ggL_law_X2_turnsToCatch : GoodIn wsL_law wsX2_turnsToCatch := goodIn_r _ [178, 169, 23, 24, 179, 180, 181, 2, 182, 21, 183, 184, 185, 186, 166, 187, 188, 189, 190, 191, 192, 193, 20, 194, 42, 84, 85, 86, 391, 392, 393, 394, 395, 396, 397, 398, 399, 409, 410, 411, 412] (by decide +kernel) (by decide +kernel)
set_option maxRecDepth 20000 in
theorem gL_law_X2_turnsToCatch : GoodIn wsL_law (wsV RL 74 RX2 yX2_turnsToCatch wsX2_turnsToCatch) := goodIn_app (goodIn_of _ (by decide +kernel)) ggL_law_X2_turnsToCatch
set_option maxRecDepth 20000 in
theorem ggL_law_X2_bestGo : GoodIn wsL_law wsX2_bestGo := goodIn_r _ [254, 169, 255, 200, 201, 2, 202, 166, 203, 98, 99, 256, 257, 258, 259, 24, 17, 66, 21, 23, 183, 184, 185, 186, 187, 188, 189, 190, 260, 261, 262, 20, 263, 39, 84, 85, 86, 109, 110, 191, 192, 193, 194, 42, 264, 265, 266, 267, 268, 269, 270, 271, 272, 273, 274, 16, 275, 87, 88, 276, 277, 278, 279, 143, 31, 32, 35, 391, 392, 393, 394, 395, 396, 397, 398, 399, 400, 401, 402, 403, 404, 405, 406, 407, 408, 409, 410, 411, 412] (by decide +kernel) (by decide +kernel)
set_option maxRecDepth 20000 in
theorem gL_law_X2_bestGo : GoodIn wsL_law (wsV RL 77 RX2 yX2_bestGo wsX2_bestGo) := goodIn_app (goodIn_of _ (by decide +kernel)) ggL_law_X2_bestGo
set_option maxRecDepth 20000 in
theorem ggL_law_X2_turnsFrom : GoodIn wsL_law wsX2_turnsFrom := goodIn_ca (goodIn_ca (goodIn_r _ [347, 133, 134, 135, 2, 136, 137, 138, 17, 66, 170, 171, 172, 173, 130, 131, 174, 179, 180, 181, 182, 21, 183, 184, 185, 186, 166, 187, 188, 189, 190, 191, 192, 193, 20, 194, 42, 84, 85, 86, 391, 392, 393, 394, 395, 396, 397, 398, 399, 400, 401, 402, 403, 404, 405, 406, 407, 408, 409, 410, 411, 412] (by decide +kernel) (by decide +kernel)) (goodIn_sub (fun _ h => List.mem_append_right _ h) (by decide +kernel))) (goodIn_sub (fun _ h => List.mem_append_left _ (List.mem_append_right _ h)) (by decide +kernel))
set_option maxRecDepth 20000 in
theorem gL_law_X2_turnsFrom : GoodIn wsL_law (wsV RL 80 RX2 yX2_turnsFrom wsX2_turnsFrom) := goodIn_app (goodIn_of _ (by decide +kernel)) ggL_law_X2_turnsFrom
set_option maxRecDepth 20000 in
theorem ggL_law_X2_turn : GoodIn wsL_law wsX2_turn := goodIn_r _ [220, 166, 391, 392, 393, 394, 395, 396, 397, 398, 399] (by decide +kernel) (by decide +kernel)
set_option maxRecDepth 20000 in
theorem gL_law_X2_turn : GoodIn wsL_law (wsV RL 83 RX2 yX2_turn wsX2_turn) := goodIn_app (goodIn_of _ (by decide +kernel)) ggL_law_X2_turn
set_option maxRecDepth 20000 in
theorem ggL_law_X2_longestChase : GoodIn wsL_law wsX2_longestChase := goodIn_r _ [291, 292, 5, 6, 7, 284, 285, 286, 2, 287, 17, 66, 179, 180, 181, 182, 21, 183, 184, 185, 186, 166, 187, 188, 189, 190, 191, 192, 193, 20, 194, 42, 84, 85, 86, 391, 392, 393, 394, 395, 396, 397, 398, 399, 400, 401, 402, 403, 404, 405, 406, 407, 408, 409, 410, 411, 412] (by decide +kernel) (by decide +kernel)
set_option maxRecDepth 20000 in
theorem gL_law_X2_longestChase : GoodIn wsL_law (wsV RL 86 RX2 yX2_longestChase wsX2_longestChase) := goodIn_app (goodIn_of _ (by decide +kernel)) ggL_law_X2_longestChase
set_option maxRecDepth 20000 in
theorem ggL_law_X2_pairsCaught : GoodIn wsL_law wsX2_pairsCaught := goodIn_r _ [283, 284, 285, 286, 2, 287, 17, 66, 179, 180, 181, 182, 21, 183, 184, 185, 186, 166, 187, 188, 189, 190, 191, 192, 193, 20, 194, 42, 84, 85, 86, 391, 392, 393, 394, 395, 396, 397, 398, 399, 400, 401, 402, 403, 404, 405, 406, 407, 408, 409, 410, 411, 412] (by decide +kernel) (by decide +kernel)
set_option maxRecDepth 20000 in
theorem gL_law_X2_pairsCaught : GoodIn wsL_law (wsV RL 89 RX2 yX2_pairsCaught wsX2_pairsCaught) := goodIn_app (goodIn_of _ (by decide +kernel)) ggL_law_X2_pairsCaught
set_option maxRecDepth 20000 in
theorem ggL_law_X2_meanTurns : GoodIn wsL_law wsX2_meanTurns := goodIn_r _ [354, 284, 285, 286, 2, 287, 17, 66, 179, 180, 181, 182, 21, 183, 184, 185, 186, 166, 187, 188, 189, 190, 191, 192, 193, 20, 194, 42, 84, 85, 86, 391, 392, 393, 394, 395, 396, 397, 398, 399, 400, 401, 402, 403, 404, 405, 406, 407, 408, 409, 410, 411, 412] (by decide +kernel) (by decide +kernel)
set_option maxRecDepth 20000 in
theorem gL_law_X2_meanTurns : GoodIn wsL_law (wsV RL 92 RX2 yX2_meanTurns wsX2_meanTurns) := goodIn_app (goodIn_of _ (by decide +kernel)) ggL_law_X2_meanTurns
set_option maxRecDepth 20000 in
theorem ggL_law_X2_isWayOpen : GoodIn wsL_law wsX2_isWayOpen := goodIn_ca (goodIn_r _ [358, 17, 133, 134, 135, 2, 136, 137, 138, 66, 139, 140, 141, 16, 142, 143, 31, 32, 183, 184, 185, 186, 166, 187, 188, 189, 190, 337, 90, 91, 92, 35, 33, 34, 391, 392, 393, 394, 395, 396, 397, 398, 399, 400, 401, 402, 403, 404, 405, 406, 407, 408] (by decide +kernel) (by decide +kernel)) (goodIn_sub (fun _ h => List.mem_append_right _ h) (by decide +kernel))
set_option maxRecDepth 20000 in
theorem gL_law_X2_isWayOpen : GoodIn wsL_law (wsV RL 101 RX2 yX2_isWayOpen wsX2_isWayOpen) := goodIn_app (goodIn_of _ (by decide +kernel)) ggL_law_X2_isWayOpen
set_option maxRecDepth 20000 in
theorem ggL_law_X2_go : GoodIn wsL_law wsX2_go := goodIn_ca (goodIn_ca (goodIn_r _ [362, 64, 65, 21, 169, 133, 134, 135, 2, 136, 137, 138, 17, 66, 363, 364, 365, 366, 183, 184, 185, 186, 166, 187, 188, 189, 190, 367, 368, 369, 370, 23, 24, 255, 200, 201, 202, 203, 98, 99, 260, 261, 262, 20, 263, 39, 84, 85, 86, 109, 110, 371, 372, 373, 374, 375, 376, 377, 378, 168, 379, 380, 381, 382, 161, 167, 391, 392, 393, 394, 395, 396, 397, 398, 399, 400, 401, 402, 403, 404, 405, 406, 407, 408, 409, 410, 411, 412] (by decide +kernel) (by decide +kernel)) (goodIn_sub (fun _ h => List.mem_append_left _ (List.mem_append_left _ (List.mem_append_right _ h))) (by decide +kernel))) (goodIn_sub (fun _ h => List.mem_append_right _ h) (by decide +kernel))
set_option maxRecDepth 20000 in
theorem gL_law_X2_go : GoodIn wsL_law (wsV RL 105 RX2 yX2_go wsX2_go) := goodIn_app (goodIn_of _ (by decide +kernel)) ggL_law_X2_go
set_option maxRecDepth 20000 in
theorem ggL_law_X2_cheeseIn : GoodIn wsL_law wsX2_cheeseIn := goodIn_ca (goodIn_r _ [312, 17, 161, 133, 134, 135, 2, 136, 137, 138, 66, 391, 392, 393, 394, 395, 396, 397, 398, 399, 400, 401, 402, 403, 404, 405, 406, 407, 408] (by decide +kernel) (by decide +kernel)) (goodIn_sub (fun _ h => List.mem_append_right _ h) (by decide +kernel))
set_option maxRecDepth 20000 in
theorem gL_law_X2_cheeseIn : GoodIn wsL_law (wsV RL 108 RX2 yX2_cheeseIn wsX2_cheeseIn) := goodIn_app (goodIn_of _ (by decide +kernel)) ggL_law_X2_cheeseIn
set_option maxRecDepth 20000 in
theorem ggL_law_X2_eaten : GoodIn wsL_law wsX2_eaten := goodIn_r _ [246, 167, 391, 392, 393, 394, 395, 396, 397, 398, 399] (by decide +kernel) (by decide +kernel)
set_option maxRecDepth 20000 in
theorem gL_law_X2_eaten : GoodIn wsL_law (wsV RL 112 RX2 yX2_eaten wsX2_eaten) := goodIn_app (goodIn_of _ (by decide +kernel)) ggL_law_X2_eaten
set_option maxRecDepth 20000 in
theorem ggL_law_X2_play : GoodIn wsL_law wsX2_play := goodIn_ca (goodIn_ca (goodIn_r _ [388, 130, 131, 169, 363, 364, 365, 2, 366, 64, 65, 251, 252, 253, 254, 255, 200, 201, 202, 166, 203, 98, 99, 256, 257, 258, 259, 24, 17, 66, 21, 23, 183, 184, 185, 186, 187, 188, 189, 190, 260, 261, 262, 20, 263, 39, 84, 85, 86, 109, 110, 191, 192, 193, 194, 42, 264, 265, 266, 267, 268, 269, 270, 271, 272, 273, 274, 16, 275, 87, 88, 276, 277, 278, 279, 143, 31, 32, 35, 371, 372, 373, 374, 375, 376, 377, 378, 168, 379, 380, 381, 382, 161, 167, 391, 392, 393, 394, 395, 396, 397, 398, 399, 400, 401, 402, 403, 404, 405, 406, 407, 408, 409, 410, 411, 412] (by decide +kernel) (by decide +kernel)) (goodIn_sub (fun _ h => List.mem_append_left _ (List.mem_append_right _ h)) (by decide +kernel))) (goodIn_sub (fun _ h => List.mem_append_left _ (List.mem_append_left _ (List.mem_append_right _ h))) (by decide +kernel))
set_option maxRecDepth 20000 in
theorem gL_law_X2_play : GoodIn wsL_law (wsV RL 115 RX2 yX2_play wsX2_play) := goodIn_app (goodIn_of _ (by decide +kernel)) ggL_law_X2_play
set_option maxRecDepth 20000 in
theorem ggL_law_X2_doors : GoodIn wsL_law wsX2_doors := goodIn_r _ [232, 17, 132, 391, 392, 393, 394, 395, 396, 397, 398, 399, 400, 401, 402, 403, 404, 405, 406, 407, 408] (by decide +kernel) (by decide +kernel)
set_option maxRecDepth 20000 in
theorem gL_law_X2_doors : GoodIn wsL_law (wsV RL 118 RX2 yX2_doors wsX2_doors) := goodIn_app (goodIn_of _ (by decide +kernel)) ggL_law_X2_doors
set_option maxRecDepth 20000 in
theorem ggL_law_X2_isCaught : GoodIn wsL_law wsX2_isCaught := goodIn_r _ [240, 168, 391, 392, 393, 394, 395, 396, 397, 398, 399] (by decide +kernel) (by decide +kernel)
set_option maxRecDepth 20000 in
theorem gL_law_X2_isCaught : GoodIn wsL_law (wsV RL 121 RX2 yX2_isCaught wsX2_isCaught) := goodIn_app (goodIn_of _ (by decide +kernel)) ggL_law_X2_isCaught
