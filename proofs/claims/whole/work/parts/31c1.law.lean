set_option maxRecDepth 20000 in
theorem ggL_law_X2_init : GoodIn wsL_law wsX2_init := goodIn_r _ [9, 10, 11, 12, 13, 14, 15, 16, 17, 18, 19, 20, 21, 22, 23, 24, 25, 26, 27, 28, 29, 30, 31, 32, 33, 34, 35, 36, 37, 38, 39, 40, 41, 42, 783, 784, 785, 786, 787, 788, 789, 790, 791, 754, 755, 756, 757, 758, 759, 760, 761, 762, 792, 793, 794, 795] (by decide +kernel) (by decide +kernel)
set_option maxRecDepth 20000 in
theorem gL_law_X2_init : GoodIn wsL_law (wsX2_init) := ggL_law_X2_init
set_option maxRecDepth 20000 in
theorem ggL_law_X3_init : GoodIn wsL_law wsX3_init := goodIn_r _ [45, 46, 11, 12, 27, 47, 29, 48, 49, 50, 51, 52, 53, 54, 763, 764, 765, 766, 767, 768, 769, 770, 771, 772, 773, 774, 775, 776, 777, 778, 779, 780, 781, 782] (by decide +kernel) (by decide +kernel)
set_option maxRecDepth 20000 in
theorem gL_law_X3_init : GoodIn wsL_law (wsX3_init) := ggL_law_X3_init
set_option maxRecDepth 20000 in
theorem ggL_law_L_addRoom : GoodIn wsL_law wsL_addRoom := goodIn_ca (goodIn_r _ [58, 59, 60, 61, 62, 2, 63, 64, 65, 16, 66, 20, 67, 68, 69, 15, 70, 28, 71, 72, 73, 74, 19, 75, 40, 41, 76, 77, 78, 79, 80, 81, 82, 83, 39, 84, 85, 86, 87, 88, 89, 90, 91, 92, 93, 94, 95, 35, 33, 34, 96, 97, 98, 99, 100, 101, 102, 103, 104, 105, 106, 42, 107, 108, 109, 110, 111, 112, 113, 114, 115, 116, 117, 118, 119, 120, 121, 122, 123, 124, 125, 126, 127, 128, 754, 755, 756, 757, 758, 759, 760, 761, 762, 783, 784, 785, 786, 787, 788, 789, 790, 791, 792, 793, 794, 795] (by decide +kernel) (by decide +kernel)) (goodIn_sub (fun _ h => List.mem_append_left _ (List.mem_append_left _ (List.mem_append_right _ h))) (by decide +kernel))
set_option maxRecDepth 20000 in
theorem gL_law_L_addRoom : GoodIn wsL_law (va_wsS RL 82 yL_addRoom wsL_addRoom) := goodIn_app (goodIn_of _ (by decide +kernel)) ggL_law_L_addRoom
set_option maxRecDepth 20000 in
theorem ggL_law_X3_addRoom : GoodIn wsL_law wsX3_addRoom := goodIn_r _ [132, 133, 47, 134, 135, 136, 5, 137, 138, 139, 140, 141, 142, 763, 764, 765, 766, 767, 768, 769, 770, 771, 772, 773, 774, 775, 776, 777, 778, 779, 780, 781, 782] (by decide +kernel) (by decide +kernel)
set_option maxRecDepth 20000 in
theorem gL_law_X3_addRoom : GoodIn wsL_law (wsV RL 87 RX3 yX3_addRoom wsX3_addRoom) := goodIn_app (goodIn_of _ (by decide +kernel)) ggL_law_X3_addRoom
set_option maxRecDepth 20000 in
theorem ggL_law_X3_thrown : GoodIn wsL_law wsX3_thrown := goodIn_r _ [146, 138, 763, 764, 765, 766, 767, 768, 769, 770, 771, 772, 773, 774, 775, 776, 777, 778, 779, 780, 781, 782] (by decide +kernel) (by decide +kernel)
set_option maxRecDepth 20000 in
theorem gL_law_X3_thrown : GoodIn wsL_law (wsV RL 88 RX3 yX3_thrown wsX3_thrown) := goodIn_app (goodIn_of _ (by decide +kernel)) ggL_law_X3_thrown
set_option maxRecDepth 20000 in
theorem ggL_law_L_addDoor : GoodIn wsL_law wsL_addDoor := goodIn_ca (goodIn_ca (goodIn_ca (goodIn_r _ [149, 150, 151, 59, 152, 153, 154, 2, 155, 156, 157, 64, 65, 16, 158, 20, 159, 160, 161, 162, 163, 164, 66, 165, 166, 167, 15, 168, 169, 31, 32, 170, 171, 172, 173, 33, 34, 72, 73, 74, 19, 75, 40, 41, 76, 77, 78, 79, 80, 81, 82, 83, 39, 84, 85, 86, 87, 88, 89, 90, 91, 92, 93, 94, 95, 35, 96, 97, 98, 99, 100, 101, 102, 103, 104, 105, 106, 42, 107, 108, 109, 110, 111, 112, 113, 114, 115, 116, 117, 118, 119, 120, 121, 122, 123, 124, 125, 126, 127, 128, 754, 755, 756, 757, 758, 759, 760, 761, 762, 783, 784, 785, 786, 787, 788, 789, 790, 791, 792, 793, 794, 795] (by decide +kernel) (by decide +kernel)) (goodIn_sub (fun _ h => List.mem_append_left _ (List.mem_append_right _ h)) (by decide +kernel))) (goodIn_sub (fun _ h => List.mem_append_left _ (List.mem_append_left _ (List.mem_append_right _ h))) (by decide +kernel))) (goodIn_sub (fun _ h => List.mem_append_right _ h) (by decide +kernel))
set_option maxRecDepth 20000 in
theorem gL_law_L_addDoor : GoodIn wsL_law (va_wsS RL 92 yL_addDoor wsL_addDoor) := goodIn_app (goodIn_of _ (by decide +kernel)) ggL_law_L_addDoor
set_option maxRecDepth 20000 in
theorem ggL_law_X3_addDoor : GoodIn wsL_law wsX3_addDoor := goodIn_r _ [177, 178, 49, 50, 51, 52, 179, 180, 181, 5, 182, 133, 183, 184, 185, 186, 187, 188, 189, 134, 135, 136, 137, 138, 139, 140, 141, 142, 190, 191, 192, 193, 763, 764, 765, 766, 767, 768, 769, 770, 771, 772, 773, 774, 775, 776, 777, 778, 779, 780, 781, 782] (by decide +kernel) (by decide +kernel)
set_option maxRecDepth 20000 in
theorem gL_law_X3_addDoor : GoodIn wsL_law (wsV RL 95 RX3 yX3_addDoor wsX3_addDoor) := goodIn_app (goodIn_of _ (by decide +kernel)) ggL_law_X3_addDoor
set_option maxRecDepth 20000 in
theorem ggL_law_L_turnLock : GoodIn wsL_law wsL_turnLock := goodIn_ca (goodIn_r _ [196, 150, 197, 198, 199, 2, 200, 16, 201, 20, 202, 203, 204, 205, 163, 164, 158, 72, 73, 74, 19, 75, 40, 41, 76, 77, 78, 79, 80, 81, 82, 83, 39, 84, 85, 86, 87, 88, 89, 90, 91, 92, 93, 94, 15, 95, 35, 33, 34, 96, 97, 98, 99, 100, 101, 102, 103, 104, 105, 106, 42, 107, 108, 109, 110, 111, 112, 113, 114, 115, 116, 117, 118, 119, 120, 121, 122, 123, 124, 125, 126, 127, 128, 754, 755, 756, 757, 758, 759, 760, 761, 762, 783, 784, 785, 786, 787, 788, 789, 790, 791, 792, 793, 794, 795] (by decide +kernel) (by decide +kernel)) (goodIn_sub (fun _ h => List.mem_append_right _ h) (by decide +kernel))
set_option maxRecDepth 20000 in
theorem gL_law_L_turnLock : GoodIn wsL_law (va_wsS RL 96 yL_turnLock wsL_turnLock) := goodIn_app (goodIn_of _ (by decide +kernel)) ggL_law_L_turnLock
set_option maxRecDepth 20000 in
theorem ggL_law_X3_turnLock : GoodIn wsL_law wsX3_turnLock := goodIn_r _ [209, 53, 210, 211, 212, 5, 213, 178, 187, 188, 189, 134, 135, 136, 137, 138, 139, 140, 141, 142, 763, 764, 765, 766, 767, 768, 769, 770, 771, 772, 773, 774, 775, 776, 777, 778, 779, 780, 781, 782] (by decide +kernel) (by decide +kernel)
set_option maxRecDepth 20000 in
theorem gL_law_X3_turnLock : GoodIn wsL_law (wsV RL 99 RX3 yX3_turnLock wsX3_turnLock) := goodIn_app (goodIn_of _ (by decide +kernel)) ggL_law_X3_turnLock
set_option maxRecDepth 20000 in
theorem ggL_law_L_putCheese : GoodIn wsL_law wsL_putCheese := goodIn_ca (goodIn_ca (goodIn_ca (goodIn_r _ [216, 150, 151, 59, 217, 218, 219, 2, 220, 156, 157, 64, 65, 16, 221, 159, 160, 161, 162, 163, 164, 66, 754, 755, 756, 757, 758, 759, 760, 761, 762, 783, 784, 785, 786, 787, 788, 789, 790, 791] (by decide +kernel) (by decide +kernel)) (goodIn_sub (fun _ h => List.mem_append_left _ (List.mem_append_right _ h)) (by decide +kernel))) (goodIn_sub (fun _ h => List.mem_append_left _ (List.mem_append_left _ (List.mem_append_right _ h))) (by decide +kernel))) (goodIn_sub (fun _ h => List.mem_append_right _ h) (by decide +kernel))
set_option maxRecDepth 20000 in
theorem gL_law_L_putCheese : GoodIn wsL_law (va_wsS RL 100 yL_putCheese wsL_putCheese) := goodIn_app (goodIn_of _ (by decide +kernel)) ggL_law_L_putCheese
set_option maxRecDepth 20000 in
theorem ggL_law_X3_putCheese : GoodIn wsL_law wsX3_putCheese := goodIn_r _ [225, 48, 183, 184, 185, 5, 186, 133, 187, 188, 189, 134, 135, 136, 137, 138, 139, 140, 141, 142, 763, 764, 765, 766, 767, 768, 769, 770, 771, 772, 773, 774, 775, 776, 777, 778, 779, 780, 781, 782] (by decide +kernel) (by decide +kernel)
set_option maxRecDepth 20000 in
theorem gL_law_X3_putCheese : GoodIn wsL_law (wsV RL 103 RX3 yX3_putCheese wsX3_putCheese) := goodIn_app (goodIn_of _ (by decide +kernel)) ggL_law_X3_putCheese
set_option maxRecDepth 20000 in
theorem ggL_law_L_begin : GoodIn wsL_law wsL_begin := goodIn_ca (goodIn_ca (goodIn_r _ [228, 150, 151, 229, 230, 231, 2, 232, 156, 157, 22, 23, 233, 234, 235, 236, 159, 160, 161, 162, 163, 164, 16, 66, 237, 238, 239, 240, 241, 242, 243, 244, 245, 246, 247, 248, 249, 20, 250, 251, 252, 253, 254, 255, 256, 257, 258, 259, 260, 19, 261, 42, 87, 88, 89, 754, 755, 756, 757, 758, 759, 760, 761, 762, 783, 784, 785, 786, 787, 788, 789, 790, 791, 792, 793, 794, 795] (by decide +kernel) (by decide +kernel)) (goodIn_sub (fun _ h => List.mem_append_left _ (List.mem_append_right _ h)) (by decide +kernel))) (goodIn_sub (fun _ h => List.mem_append_right _ h) (by decide +kernel))
set_option maxRecDepth 20000 in
theorem gL_law_L_begin : GoodIn wsL_law (va_wsS RL 104 yL_begin wsL_begin) := goodIn_app (goodIn_of _ (by decide +kernel)) ggL_law_L_begin
set_option maxRecDepth 20000 in
theorem ggL_law_X3_begin : GoodIn wsL_law wsX3_begin := goodIn_r _ [265, 47, 266, 267, 268, 269, 270, 271, 179, 180, 181, 5, 182, 133, 183, 184, 185, 186, 187, 188, 189, 134, 135, 136, 137, 138, 139, 140, 141, 142, 272, 273, 274, 275, 54, 276, 277, 278, 279, 27, 280, 281, 282, 283, 284, 285, 286, 190, 191, 192, 193, 178, 49, 50, 287, 288, 289, 290, 53, 51, 52, 291, 292, 293, 294, 763, 764, 765, 766, 767, 768, 769, 770, 771, 772, 773, 774, 775, 776, 777, 778, 779, 780, 781, 782] (by decide +kernel) (by decide +kernel)
set_option maxRecDepth 20000 in
theorem gL_law_X3_begin : GoodIn wsL_law (wsV RL 106 RX3 yX3_begin wsX3_begin) := goodIn_app (goodIn_of _ (by decide +kernel)) ggL_law_X3_begin
set_option maxRecDepth 20000 in
theorem ggL_law_L_go : GoodIn wsL_law wsL_go := goodIn_ca (goodIn_ca (goodIn_r _ [297, 150, 59, 298, 299, 300, 2, 301, 64, 65, 20, 236, 159, 160, 161, 162, 163, 164, 16, 66, 302, 303, 304, 305, 250, 251, 252, 253, 233, 254, 255, 256, 257, 306, 307, 308, 309, 22, 23, 310, 311, 312, 313, 314, 101, 102, 315, 316, 317, 19, 318, 39, 87, 88, 89, 112, 113, 319, 320, 321, 322, 323, 324, 325, 326, 235, 327, 328, 329, 330, 221, 234, 754, 755, 756, 757, 758, 759, 760, 761, 762, 783, 784, 785, 786, 787, 788, 789, 790, 791, 792, 793, 794, 795] (by decide +kernel) (by decide +kernel)) (goodIn_sub (fun _ h => List.mem_append_left _ (List.mem_append_left _ (List.mem_append_right _ h))) (by decide +kernel))) (goodIn_sub (fun _ h => List.mem_append_right _ h) (by decide +kernel))
set_option maxRecDepth 20000 in
theorem gL_law_L_go : GoodIn wsL_law (va_wsS RL 107 yL_go wsL_go) := goodIn_app (goodIn_of _ (by decide +kernel)) ggL_law_L_go
