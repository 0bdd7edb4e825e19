set_option maxRecDepth 20000 in
theorem ggL_law_X1_isSteady : GoodIn wsL_law wsX1_isSteady := goodIn_r _ [245, 209, 210, 211, 5, 212, 26, 66, 67, 68, 69, 70, 71, 72, 73, 74, 75, 76, 30, 582, 583, 584, 585, 586, 587, 588] (by decide +kernel) (by decide +kernel)
set_option maxRecDepth 20000 in
theorem gL_law_X1_isSteady : GoodIn wsL_law (wsV RL 147 RX1 yX1_isSteady wsX1_isSteady) := goodIn_app (goodIn_of _ (by decide +kernel)) ggL_law_X1_isSteady
set_option maxRecDepth 20000 in
theorem ggL_law_L_isDoubled : GoodIn wsL_law wsL_isDoubled := goodIn_ca (goodIn_ca (goodIn_r _ [248, 35, 84, 249, 250, 251, 2, 252, 188, 189, 190, 191, 43, 44, 45, 46, 47, 48, 49, 50, 92, 93, 94, 95, 96, 97, 54, 55, 56, 57, 15, 126, 127, 128, 129, 17, 130, 131, 132, 133, 18, 232, 233, 234, 196, 197, 198, 235, 236, 237, 238, 239, 240, 241, 202, 203, 204, 253, 254, 255, 576, 577, 578, 579, 580, 581] (by decide +kernel) (by decide +kernel)) (goodIn_sub (fun _ h => List.mem_append_left _ (List.mem_append_left _ (List.mem_append_right _ h))) (by decide +kernel))) (goodIn_sub (fun _ h => List.mem_append_right _ h) (by decide +kernel))
set_option maxRecDepth 20000 in
theorem gL_law_L_isDoubled : GoodIn wsL_law (va_wsS RL 148 yL_isDoubled wsL_isDoubled) := goodIn_app (goodIn_of _ (by decide +kernel)) ggL_law_L_isDoubled
set_option maxRecDepth 20000 in
theorem ggL_law_X1_isDoubled : GoodIn wsL_law wsX1_isDoubled := goodIn_r _ [259, 209, 210, 211, 5, 212, 26, 66, 67, 68, 69, 70, 71, 72, 73, 74, 75, 76, 30, 582, 583, 584, 585, 586, 587, 588] (by decide +kernel) (by decide +kernel)
set_option maxRecDepth 20000 in
theorem gL_law_X1_isDoubled : GoodIn wsL_law (wsV RL 150 RX1 yX1_isDoubled wsX1_isDoubled) := goodIn_app (goodIn_of _ (by decide +kernel)) ggL_law_X1_isDoubled
set_option maxRecDepth 20000 in
theorem ggL_law_L_isClose : GoodIn wsL_law wsL_isClose := goodIn_ca (goodIn_ca (goodIn_r _ [262, 35, 84, 263, 264, 265, 2, 266, 21, 188, 189, 190, 191, 43, 44, 45, 46, 47, 48, 49, 50, 92, 93, 94, 95, 96, 97, 54, 55, 56, 57, 15, 126, 127, 128, 129, 17, 130, 131, 132, 133, 18, 232, 233, 234, 196, 197, 198, 235, 236, 237, 238, 239, 240, 241, 202, 203, 204, 267, 268, 269, 270, 271, 272, 273, 274, 275, 276, 277, 278, 279, 576, 577, 578, 579, 580, 581] (by decide +kernel) (by decide +kernel)) (goodIn_sub (fun _ h => List.mem_append_left _ (List.mem_append_left _ (List.mem_append_right _ h))) (by decide +kernel))) (goodIn_sub (fun _ h => List.mem_append_right _ h) (by decide +kernel))
set_option maxRecDepth 20000 in
theorem gL_law_L_isClose : GoodIn wsL_law (va_wsS RL 151 yL_isClose wsL_isClose) := goodIn_app (goodIn_of _ (by decide +kernel)) ggL_law_L_isClose
set_option maxRecDepth 20000 in
theorem ggL_law_X1_isClose : GoodIn wsL_law wsX1_isClose := goodIn_r _ [283, 209, 210, 211, 5, 212, 26, 66, 67, 68, 69, 70, 71, 72, 73, 74, 75, 76, 30, 582, 583, 584, 585, 586, 587, 588] (by decide +kernel) (by decide +kernel)
set_option maxRecDepth 20000 in
theorem gL_law_X1_isClose : GoodIn wsL_law (wsV RL 153 RX1 yX1_isClose wsX1_isClose) := goodIn_app (goodIn_of _ (by decide +kernel)) ggL_law_X1_isClose
set_option maxRecDepth 20000 in
theorem ggL_law_L_isStraight : GoodIn wsL_law wsL_isStraight := goodIn_ca (goodIn_ca (goodIn_r _ [286, 35, 84, 287, 288, 289, 2, 290, 43, 44, 45, 46, 47, 48, 49, 50, 92, 93, 94, 95, 96, 97, 54, 55, 56, 57, 15, 192, 193, 194, 195, 21, 126, 127, 128, 129, 17, 130, 131, 132, 133, 18, 196, 197, 198, 199, 200, 201, 202, 203, 204, 576, 577, 578, 579, 580, 581] (by decide +kernel) (by decide +kernel)) (goodIn_sub (fun _ h => List.mem_append_left _ (List.mem_append_left _ (List.mem_append_right _ h))) (by decide +kernel))) (goodIn_sub (fun _ h => List.mem_append_right _ h) (by decide +kernel))
set_option maxRecDepth 20000 in
theorem gL_law_L_isStraight : GoodIn wsL_law (va_wsS RL 154 yL_isStraight wsL_isStraight) := goodIn_app (goodIn_of _ (by decide +kernel)) ggL_law_L_isStraight
set_option maxRecDepth 20000 in
theorem ggL_law_X1_isStraight : GoodIn wsL_law wsX1_isStraight := goodIn_r _ [294, 26, 66, 67, 68, 5, 69, 70, 71, 72, 73, 74, 75, 76, 30, 295, 296, 297, 298, 213, 214, 215, 216, 27, 28, 180, 217, 218, 219, 220, 221, 222, 223, 224, 582, 583, 584, 585, 586, 587, 588] (by decide +kernel) (by decide +kernel)
set_option maxRecDepth 20000 in
theorem gL_law_X1_isStraight : GoodIn wsL_law (wsV RL 156 RX1 yX1_isStraight wsX1_isStraight) := goodIn_app (goodIn_of _ (by decide +kernel)) ggL_law_X1_isStraight
set_option maxRecDepth 20000 in
theorem ggL_law_L_nearest : GoodIn wsL_law wsL_nearest := goodIn_ca (goodIn_ca (goodIn_ca (goodIn_r _ [301, 35, 84, 85, 302, 303, 304, 2, 305, 90, 91, 43, 44, 45, 46, 47, 48, 49, 50, 92, 93, 94, 95, 96, 97, 54, 55, 56, 57, 15, 306, 307, 308, 309, 192, 193, 194, 195, 21, 126, 127, 128, 129, 17, 130, 131, 132, 133, 18, 196, 197, 198, 199, 200, 201, 202, 203, 204, 576, 577, 578, 579, 580, 581] (by decide +kernel) (by decide +kernel)) (goodIn_sub (fun _ h => List.mem_append_left _ (List.mem_append_right _ h)) (by decide +kernel))) (goodIn_sub (fun _ h => List.mem_append_left _ (List.mem_append_left _ (List.mem_append_right _ h))) (by decide +kernel))) (goodIn_sub (fun _ h => List.mem_append_right _ h) (by decide +kernel))
set_option maxRecDepth 20000 in
theorem gL_law_L_nearest : GoodIn wsL_law (va_wsS RL 157 yL_nearest wsL_nearest) := goodIn_app (goodIn_of _ (by decide +kernel)) ggL_law_L_nearest
set_option maxRecDepth 20000 in
theorem ggL_law_X1_nearest : GoodIn wsL_law wsX1_nearest := goodIn_r _ [313, 110, 111, 112, 5, 113, 26, 66, 67, 68, 69, 70, 71, 72, 73, 74, 75, 76, 30, 314, 169, 170, 171, 315, 316, 317, 318, 213, 214, 215, 216, 27, 28, 180, 217, 218, 219, 220, 221, 222, 223, 224, 582, 583, 584, 585, 586, 587, 588] (by decide +kernel) (by decide +kernel)
set_option maxRecDepth 20000 in
theorem gL_law_X1_nearest : GoodIn wsL_law (wsV RL 159 RX1 yX1_nearest wsX1_nearest) := goodIn_app (goodIn_of _ (by decide +kernel)) ggL_law_X1_nearest
set_option maxRecDepth 20000 in
theorem ggL_law_L_rank : GoodIn wsL_law wsL_rank := goodIn_ca (goodIn_ca (goodIn_r _ [321, 35, 84, 322, 323, 324, 2, 325, 188, 189, 190, 191, 43, 44, 45, 46, 47, 48, 49, 50, 92, 93, 94, 95, 96, 97, 54, 55, 56, 57, 15, 192, 193, 194, 195, 21, 126, 127, 128, 129, 17, 130, 131, 132, 133, 18, 196, 197, 198, 199, 200, 201, 202, 203, 204, 576, 577, 578, 579, 580, 581] (by decide +kernel) (by decide +kernel)) (goodIn_sub (fun _ h => List.mem_append_left _ (List.mem_append_left _ (List.mem_append_right _ h))) (by decide +kernel))) (goodIn_sub (fun _ h => List.mem_append_right _ h) (by decide +kernel))
set_option maxRecDepth 20000 in
theorem gL_law_L_rank : GoodIn wsL_law (va_wsS RL 160 yL_rank wsL_rank) := goodIn_app (goodIn_of _ (by decide +kernel)) ggL_law_L_rank
set_option maxRecDepth 20000 in
theorem ggL_law_X1_rank : GoodIn wsL_law wsX1_rank := goodIn_r _ [329, 26, 209, 210, 211, 5, 212, 66, 67, 68, 69, 70, 71, 72, 73, 74, 75, 76, 30, 213, 214, 215, 216, 27, 28, 180, 217, 218, 219, 220, 221, 222, 223, 224, 582, 583, 584, 585, 586, 587, 588] (by decide +kernel) (by decide +kernel)
set_option maxRecDepth 20000 in
theorem gL_law_X1_rank : GoodIn wsL_law (wsV RL 162 RX1 yX1_rank wsX1_rank) := goodIn_app (goodIn_of _ (by decide +kernel)) ggL_law_X1_rank
set_option maxRecDepth 20000 in
theorem ggL_law_L_isIn : GoodIn wsL_law wsL_isIn := goodIn_ca (goodIn_ca (goodIn_ca (goodIn_r _ [332, 35, 84, 36, 333, 334, 335, 2, 336, 188, 189, 190, 191, 43, 44, 45, 46, 47, 48, 49, 50, 92, 93, 94, 95, 96, 97, 54, 55, 56, 57, 15, 337, 338, 339, 41, 42, 340, 341, 342, 192, 193, 194, 195, 21, 126, 127, 128, 129, 17, 130, 131, 132, 133, 18, 196, 197, 198, 199, 200, 201, 202, 203, 204, 343, 344, 345, 576, 577, 578, 579, 580, 581] (by decide +kernel) (by decide +kernel)) (goodIn_sub (fun _ h => List.mem_append_left _ (List.mem_append_left _ (List.mem_append_right _ h))) (by decide +kernel))) (goodIn_sub (fun _ h => List.mem_append_right _ h) (by decide +kernel))) (goodIn_sub (fun _ h => List.mem_append_left _ (List.mem_append_left _ (List.mem_append_left _ (List.mem_append_right _ h)))) (by decide +kernel))
set_option maxRecDepth 20000 in
theorem gL_law_L_isIn : GoodIn wsL_law (va_wsS RL 163 yL_isIn wsL_isIn) := goodIn_app (goodIn_of _ (by decide +kernel)) ggL_law_L_isIn
set_option maxRecDepth 20000 in
theorem ggL_law_X1_isIn : GoodIn wsL_law wsX1_isIn := goodIn_r _ [349, 209, 210, 211, 5, 212, 26, 66, 67, 68, 69, 70, 71, 72, 73, 74, 75, 76, 30, 350, 351, 352, 353, 213, 214, 215, 216, 27, 28, 180, 217, 218, 219, 220, 221, 222, 223, 224, 354, 355, 356, 582, 583, 584, 585, 586, 587, 588] (by decide +kernel) (by decide +kernel)
set_option maxRecDepth 20000 in
theorem gL_law_X1_isIn : GoodIn wsL_law (wsV RL 166 RX1 yX1_isIn wsX1_isIn) := goodIn_app (goodIn_of _ (by decide +kernel)) ggL_law_X1_isIn
set_option maxRecDepth 20000 in
theorem ggL_law_L_root : GoodIn wsL_law wsL_root := goodIn_ca (goodIn_r _ [359, 36, 360, 361, 362, 2, 363, 337, 338, 339, 41, 42, 340, 341, 342, 343, 344, 345, 235, 236, 237, 238, 239, 240, 241, 202, 203, 204, 364, 365, 366, 271, 272, 273, 267, 268, 269, 270] (by decide +kernel) (by decide +kernel)) (goodIn_sub (fun _ h => List.mem_append_left _ (List.mem_append_left _ (List.mem_append_left _ (List.mem_append_right _ h)))) (by decide +kernel))
set_option maxRecDepth 20000 in
theorem gL_law_L_root : GoodIn wsL_law (va_wsS RL 167 yL_root wsL_root) := goodIn_app (goodIn_of _ (by decide +kernel)) ggL_law_L_root
set_option maxRecDepth 20000 in
theorem ggL_law_X1_root : GoodIn wsL_law wsX1_root := goodIn_r _ [370, 371, 350, 351, 352, 5, 353, 70, 71, 72, 73, 74, 75, 76, 30, 372, 373, 374, 221, 222, 223, 224, 220, 217, 218, 219, 582, 583, 584, 585, 586, 587, 588] (by decide +kernel) (by decide +kernel)
set_option maxRecDepth 20000 in
theorem gL_law_X1_root : GoodIn wsL_law (wsV RL 170 RX1 yX1_root wsX1_root) := goodIn_app (goodIn_of _ (by decide +kernel)) ggL_law_X1_root
set_option maxRecDepth 20000 in
theorem ggL_law_L_rootBits : GoodIn wsL_law wsL_rootBits := goodIn_ca (goodIn_r _ [377, 36, 378, 379, 380, 2, 381, 337, 338, 339, 41, 42, 340, 341, 342, 343, 344, 345, 235, 236, 237, 238, 239, 240, 241, 202, 203, 204] (by decide +kernel) (by decide +kernel)) (goodIn_sub (fun _ h => List.mem_append_left _ (List.mem_append_left _ (List.mem_append_left _ (List.mem_append_right _ h)))) (by decide +kernel))
set_option maxRecDepth 20000 in
theorem gL_law_L_rootBits : GoodIn wsL_law (va_wsS RL 171 yL_rootBits wsL_rootBits) := goodIn_app (goodIn_of _ (by decide +kernel)) ggL_law_L_rootBits
set_option maxRecDepth 20000 in
theorem ggL_law_X1_rootBits : GoodIn wsL_law wsX1_rootBits := goodIn_r _ [385, 350, 351, 352, 5, 353, 70, 71, 72, 73, 74, 75, 76, 30, 386, 387, 388, 389, 390, 391, 372, 373, 374, 221, 222, 223, 224, 220, 217, 218, 219, 582, 583, 584, 585, 586, 587, 588] (by decide +kernel) (by decide +kernel)
set_option maxRecDepth 20000 in
theorem gL_law_X1_rootBits : GoodIn wsL_law (wsV RL 174 RX1 yX1_rootBits wsX1_rootBits) := goodIn_app (goodIn_of _ (by decide +kernel)) ggL_law_X1_rootBits
set_option maxRecDepth 20000 in
theorem ggL_law_L_rootGrains : GoodIn wsL_law wsL_rootGrains := goodIn_ca (goodIn_r _ [394, 36, 395, 396, 397, 2, 398, 337, 338, 339, 41, 42, 340, 341, 342, 343, 344, 345, 199, 200, 201, 202, 203, 204] (by decide +kernel) (by decide +kernel)) (goodIn_sub (fun _ h => List.mem_append_left _ (List.mem_append_left _ (List.mem_append_left _ (List.mem_append_right _ h)))) (by decide +kernel))
set_option maxRecDepth 20000 in
theorem gL_law_L_rootGrains : GoodIn wsL_law (va_wsS RL 175 yL_rootGrains wsL_rootGrains) := goodIn_app (goodIn_of _ (by decide +kernel)) ggL_law_L_rootGrains
set_option maxRecDepth 20000 in
theorem ggL_law_X1_rootGrains : GoodIn wsL_law wsX1_rootGrains := goodIn_r _ [402, 350, 351, 352, 5, 353, 70, 71, 72, 73, 74, 75, 76, 30, 354, 355, 356, 217, 218, 219, 220, 221, 222, 223, 224, 582, 583, 584, 585, 586, 587, 588] (by decide +kernel) (by decide +kernel)
set_option maxRecDepth 20000 in
theorem gL_law_X1_rootGrains : GoodIn wsL_law (wsV RL 177 RX1 yX1_rootGrains wsX1_rootGrains) := goodIn_app (goodIn_of _ (by decide +kernel)) ggL_law_X1_rootGrains
set_option maxRecDepth 20000 in
theorem ggL_law_L_wholeRoot : GoodIn wsL_law wsL_wholeRoot := goodIn_ca (goodIn_r _ [405, 36, 406, 407, 408, 2, 409, 337, 338, 339, 41, 42, 340, 341, 342, 410, 411, 412, 202, 203, 204] (by decide +kernel) (by decide +kernel)) (goodIn_sub (fun _ h => List.mem_append_left _ (List.mem_append_left _ (List.mem_append_left _ (List.mem_append_right _ h)))) (by decide +kernel))
set_option maxRecDepth 20000 in
theorem gL_law_L_wholeRoot : GoodIn wsL_law (va_wsS RL 178 yL_wholeRoot wsL_wholeRoot) := goodIn_app (goodIn_of _ (by decide +kernel)) ggL_law_L_wholeRoot
set_option maxRecDepth 20000 in
theorem ggL_law_X1_wholeRoot : GoodIn wsL_law wsX1_wholeRoot := goodIn_r _ [416, 350, 351, 352, 5, 353, 70, 71, 72, 73, 74, 75, 76, 30, 417, 418, 419, 221, 222, 223, 224, 220, 582, 583, 584, 585, 586, 587, 588] (by decide +kernel) (by decide +kernel)
set_option maxRecDepth 20000 in
theorem gL_law_X1_wholeRoot : GoodIn wsL_law (wsV RL 180 RX1 yX1_wholeRoot wsX1_wholeRoot) := goodIn_app (goodIn_of _ (by decide +kernel)) ggL_law_X1_wholeRoot
set_option maxRecDepth 20000 in
theorem ggL_law_L_isNearest : GoodIn wsL_law wsL_isNearest := goodIn_ca (goodIn_r _ [422, 36, 423, 424, 425, 2, 426, 278, 337, 338, 339, 41, 42, 340, 341, 342, 343, 344, 345, 235, 236, 237, 238, 239, 240, 241, 202, 203, 204, 267, 268, 269, 270, 271, 272, 273, 274, 275, 276, 277, 279] (by decide +kernel) (by decide +kernel)) (goodIn_sub (fun _ h => List.mem_append_left _ (List.mem_append_left _ (List.mem_append_left _ (List.mem_append_right _ h)))) (by decide +kernel))
set_option maxRecDepth 20000 in
theorem gL_law_L_isNearest : GoodIn wsL_law (va_wsS RL 181 yL_isNearest wsL_isNearest) := goodIn_app (goodIn_of _ (by decide +kernel)) ggL_law_L_isNearest
set_option maxRecDepth 20000 in
theorem ggL_law_X1_isNearest : GoodIn wsL_law wsX1_isNearest := goodIn_r _ [430, 350, 351, 352, 5, 353, 70, 71, 72, 73, 74, 75, 76, 30, 582, 583, 584, 585, 586, 587, 588] (by decide +kernel) (by decide +kernel)
set_option maxRecDepth 20000 in
theorem gL_law_X1_isNearest : GoodIn wsL_law (wsV RL 183 RX1 yX1_isNearest wsX1_isNearest) := goodIn_app (goodIn_of _ (by decide +kernel)) ggL_law_X1_isNearest
set_option maxRecDepth 20000 in
theorem ggL_law_L_isHalved : GoodIn wsL_law wsL_isHalved := goodIn_ca (goodIn_r _ [433, 36, 434, 435, 436, 2, 437, 337, 338, 339, 41, 42, 340, 341, 342, 343, 344, 345, 235, 236, 237, 238, 239, 240, 241, 202, 203, 204, 253, 254, 255] (by decide +kernel) (by decide +kernel)) (goodIn_sub (fun _ h => List.mem_append_left _ (List.mem_append_left _ (List.mem_append_left _ (List.mem_append_right _ h)))) (by decide +kernel))
set_option maxRecDepth 20000 in
theorem gL_law_L_isHalved : GoodIn wsL_law (va_wsS RL 184 yL_isHalved wsL_isHalved) := goodIn_app (goodIn_of _ (by decide +kernel)) ggL_law_L_isHalved
set_option maxRecDepth 20000 in
theorem ggL_law_X1_isHalved : GoodIn wsL_law wsX1_isHalved := goodIn_r _ [441, 350, 351, 352, 5, 353, 70, 71, 72, 73, 74, 75, 76, 30, 582, 583, 584, 585, 586, 587, 588] (by decide +kernel) (by decide +kernel)
set_option maxRecDepth 20000 in
theorem gL_law_X1_isHalved : GoodIn wsL_law (wsV RL 186 RX1 yX1_isHalved wsX1_isHalved) := goodIn_app (goodIn_of _ (by decide +kernel)) ggL_law_X1_isHalved
set_option maxRecDepth 20000 in
theorem ggL_law_L_between : GoodIn wsL_law wsL_between := goodIn_ca (goodIn_r _ [444, 36, 445, 446, 447, 2, 448, 337, 338, 339, 41, 42, 340, 341, 342, 410, 411, 412, 202, 203, 204] (by decide +kernel) (by decide +kernel)) (goodIn_sub (fun _ h => List.mem_append_left _ (List.mem_append_left _ (List.mem_append_left _ (List.mem_append_right _ h)))) (by decide +kernel))
set_option maxRecDepth 20000 in
theorem gL_law_L_between : GoodIn wsL_law (va_wsS RL 187 yL_between wsL_between) := goodIn_app (goodIn_of _ (by decide +kernel)) ggL_law_L_between
set_option maxRecDepth 20000 in
theorem ggL_law_X1_between : GoodIn wsL_law wsX1_between := goodIn_r _ [452, 350, 351, 352, 5, 353, 70, 71, 72, 73, 74, 75, 76, 30, 417, 418, 419, 221, 222, 223, 224, 220, 582, 583, 584, 585, 586, 587, 588] (by decide +kernel) (by decide +kernel)
set_option maxRecDepth 20000 in
theorem gL_law_X1_between : GoodIn wsL_law (wsV RL 190 RX1 yX1_between wsX1_between) := goodIn_app (goodIn_of _ (by decide +kernel)) ggL_law_X1_between
set_option maxRecDepth 20000 in
theorem ggL_law_L_join : GoodIn wsL_law wsL_join := goodIn_ca (goodIn_ca (goodIn_ca (goodIn_r _ [455, 35, 84, 85, 456, 457, 458, 2, 459, 90, 91, 20, 19, 43, 44, 45, 46, 47, 48, 49, 50, 92, 93, 94, 95, 96, 97, 54, 55, 56, 57, 15, 576, 577, 578, 579, 580, 581] (by decide +kernel) (by decide +kernel)) (goodIn_sub (fun _ h => List.mem_append_left _ (List.mem_append_right _ h)) (by decide +kernel))) (goodIn_sub (fun _ h => List.mem_append_left _ (List.mem_append_left _ (List.mem_append_right _ h))) (by decide +kernel))) (goodIn_sub (fun _ h => List.mem_append_right _ h) (by decide +kernel))
set_option maxRecDepth 20000 in
theorem gL_law_L_join : GoodIn wsL_law (va_wsS RL 191 yL_join wsL_join) := goodIn_app (goodIn_of _ (by decide +kernel)) ggL_law_L_join
set_option maxRecDepth 20000 in
theorem ggL_law_X1_join : GoodIn wsL_law wsX1_join := goodIn_r _ [463, 118, 29, 110, 111, 112, 5, 113, 26, 66, 67, 68, 69, 70, 71, 72, 73, 74, 75, 76, 30, 582, 583, 584, 585, 586, 587, 588] (by decide +kernel) (by decide +kernel)
set_option maxRecDepth 20000 in
theorem gL_law_X1_join : GoodIn wsL_law (wsV RL 193 RX1 yX1_join wsX1_join) := goodIn_app (goodIn_of _ (by decide +kernel)) ggL_law_X1_join
set_option maxRecDepth 20000 in
theorem ggL_law_L_unjoin : GoodIn wsL_law wsL_unjoin := goodIn_ca (goodIn_r _ [466, 85, 467, 468, 469, 2, 470, 90, 91, 20, 102, 103, 104, 105, 19, 576, 577, 578, 579, 580, 581] (by decide +kernel) (by decide +kernel)) (goodIn_sub (fun _ h => List.mem_append_left _ (List.mem_append_right _ h)) (by decide +kernel))
set_option maxRecDepth 20000 in
theorem gL_law_L_unjoin : GoodIn wsL_law (va_wsS RL 194 yL_unjoin wsL_unjoin) := goodIn_app (goodIn_of _ (by decide +kernel)) ggL_law_L_unjoin
set_option maxRecDepth 20000 in
theorem ggL_law_X1_unjoin : GoodIn wsL_law wsX1_unjoin := goodIn_r _ [474, 118, 29, 73, 74, 75, 5, 76, 30, 582, 583, 584, 585, 586, 587, 588] (by decide +kernel) (by decide +kernel)
set_option maxRecDepth 20000 in
theorem gL_law_X1_unjoin : GoodIn wsL_law (wsV RL 197 RX1 yX1_unjoin wsX1_unjoin) := goodIn_app (goodIn_of _ (by decide +kernel)) ggL_law_X1_unjoin
set_option maxRecDepth 20000 in
theorem ggL_law_L_ringAt : GoodIn wsL_law wsL_ringAt := goodIn_ca (goodIn_r _ [477, 35, 478, 479, 480, 2, 481, 46, 47, 20, 102, 103, 104, 105, 19, 576, 577, 578, 579, 580, 581] (by decide +kernel) (by decide +kernel)) (goodIn_sub (fun _ h => List.mem_append_left _ (List.mem_append_left _ (List.mem_append_right _ h))) (by decide +kernel))
set_option maxRecDepth 20000 in
theorem gL_law_L_ringAt : GoodIn wsL_law (va_wsS RL 198 yL_ringAt wsL_ringAt) := goodIn_app (goodIn_of _ (by decide +kernel)) ggL_law_L_ringAt
set_option maxRecDepth 20000 in
theorem ggL_law_X1_ringAt : GoodIn wsL_law wsX1_ringAt := goodIn_r _ [485, 118, 29, 70, 71, 5, 72, 73, 74, 75, 76, 30, 582, 583, 584, 585, 586, 587, 588] (by decide +kernel) (by decide +kernel)
set_option maxRecDepth 20000 in
theorem gL_law_X1_ringAt : GoodIn wsL_law (wsV RL 200 RX1 yX1_ringAt wsX1_ringAt) := goodIn_app (goodIn_of _ (by decide +kernel)) ggL_law_X1_ringAt
set_option maxRecDepth 20000 in
theorem ggL_law_X0_around : GoodIn wsL_law wsX0_around := goodIn_r _ [489, 20, 102, 103, 104, 2, 105, 19, 490, 491, 492, 493, 192, 193, 194, 195, 21, 126, 127, 128, 129, 17, 48, 49, 50, 130, 131, 132, 133, 18, 196, 197, 198, 199, 200, 201, 202, 203, 204, 576, 577, 578, 579, 580, 581] (by decide +kernel) (by decide +kernel)
set_option maxRecDepth 20000 in
theorem gL_law_X0_around : GoodIn wsL_law (wsV RL 201 RX0 yX0_around wsX0_around) := goodIn_app (goodIn_of _ (by decide +kernel)) ggL_law_X0_around
set_option maxRecDepth 20000 in
theorem ggL_law_X1_around : GoodIn wsL_law wsX1_around := goodIn_r _ [497, 118, 29, 498, 499, 500, 5, 501, 213, 214, 215, 216, 27, 28, 180, 217, 218, 219, 220, 221, 222, 223, 224, 582, 583, 584, 585, 586, 587, 588] (by decide +kernel) (by decide +kernel)
set_option maxRecDepth 20000 in
theorem gL_law_X1_around : GoodIn wsL_law (wsV RL 204 RX1 yX1_around wsX1_around) := goodIn_app (goodIn_of _ (by decide +kernel)) ggL_law_X1_around
set_option maxRecDepth 20000 in
theorem ggL_law_X0_doubleArea : GoodIn wsL_law wsX0_doubleArea := goodIn_r _ [505, 20, 102, 103, 104, 2, 105, 19, 490, 491, 492, 493, 126, 127, 128, 129, 17, 48, 49, 50, 130, 131, 132, 133, 18, 576, 577, 578, 579, 580, 581] (by decide +kernel) (by decide +kernel)
set_option maxRecDepth 20000 in
theorem gL_law_X0_doubleArea : GoodIn wsL_law (wsV RL 205 RX0 yX0_doubleArea wsX0_doubleArea) := goodIn_app (goodIn_of _ (by decide +kernel)) ggL_law_X0_doubleArea
set_option maxRecDepth 20000 in
theorem ggL_law_X1_doubleArea : GoodIn wsL_law wsX1_doubleArea := goodIn_r _ [509, 118, 27, 29, 28, 498, 499, 500, 5, 501, 582, 583, 584, 585, 586, 587, 588] (by decide +kernel) (by decide +kernel)
set_option maxRecDepth 20000 in
theorem gL_law_X1_doubleArea : GoodIn wsL_law (wsV RL 208 RX1 yX1_doubleArea wsX1_doubleArea) := goodIn_app (goodIn_of _ (by decide +kernel)) ggL_law_X1_doubleArea
set_option maxRecDepth 20000 in
theorem ggL_law_L_sideBits : GoodIn wsL_law wsL_sideBits := goodIn_ca (goodIn_r _ [512, 85, 513, 514, 515, 2, 516, 90, 91, 517, 518, 519, 520, 521, 503, 504, 505, 20, 102, 103, 104, 105, 19, 490, 491, 492, 493, 126, 127, 128, 129, 17, 48, 49, 50, 130, 131, 132, 133, 18, 340, 341, 342, 343, 344, 345, 235, 236, 237, 238, 239, 240, 241, 202, 203, 204, 576, 577, 578, 579, 580, 581] (by decide +kernel) (by decide +kernel)) (goodIn_sub (fun _ h => List.mem_append_left _ (List.mem_append_right _ h)) (by decide +kernel))
set_option maxRecDepth 20000 in
theorem gL_law_L_sideBits : GoodIn wsL_law (va_wsS RL 209 yL_sideBits wsL_sideBits) := goodIn_app (goodIn_of _ (by decide +kernel)) ggL_law_L_sideBits
set_option maxRecDepth 20000 in
theorem ggL_law_X1_sideBits : GoodIn wsL_law wsX1_sideBits := goodIn_r _ [525, 526, 507, 508, 5, 509, 118, 27, 29, 28, 498, 499, 500, 501, 73, 74, 75, 76, 30, 386, 387, 388, 389, 390, 391, 372, 373, 374, 221, 222, 223, 224, 220, 217, 218, 219, 582, 583, 584, 585, 586, 587, 588] (by decide +kernel) (by decide +kernel)
set_option maxRecDepth 20000 in
theorem gL_law_X1_sideBits : GoodIn wsL_law (wsV RL 211 RX1 yX1_sideBits wsX1_sideBits) := goodIn_app (goodIn_of _ (by decide +kernel)) ggL_law_X1_sideBits
set_option maxRecDepth 20000 in
theorem ggL_law_X0_checksum : GoodIn wsL_law wsX0_checksum := goodIn_r _ [530, 531, 532, 20, 21, 54, 55, 56, 2, 57, 15, 48, 49, 50, 130, 131, 132, 133, 18, 126, 127, 128, 129, 17, 306, 307, 308, 309, 192, 193, 194, 195, 196, 197, 198, 199, 200, 201, 202, 203, 204, 102, 103, 104, 105, 19, 533, 487, 488, 489, 490, 491, 492, 493, 576, 577, 578, 579, 580, 581] (by decide +kernel) (by decide +kernel)
set_option maxRecDepth 20000 in
theorem gL_law_X0_checksum : GoodIn wsL_law (wsV RL 212 RX0 yX0_checksum wsX0_checksum) := goodIn_app (goodIn_of _ (by decide +kernel)) ggL_law_X0_checksum
set_option maxRecDepth 20000 in
theorem ggL_law_X1_checksum : GoodIn wsL_law wsX1_checksum := goodIn_r _ [537, 538, 26, 539, 118, 29, 180, 160, 161, 162, 5, 163, 28, 27, 315, 316, 317, 318, 213, 214, 215, 216, 217, 218, 219, 220, 221, 222, 223, 224, 540, 495, 496, 497, 498, 499, 500, 501, 582, 583, 584, 585, 586, 587, 588] (by decide +kernel) (by decide +kernel)
set_option maxRecDepth 20000 in
theorem gL_law_X1_checksum : GoodIn wsL_law (wsV RL 215 RX1 yX1_checksum wsX1_checksum) := goodIn_app (goodIn_of _ (by decide +kernel)) ggL_law_X1_checksum
set_option maxRecDepth 20000 in
theorem ggL_law_X0_isSound : GoodIn wsL_law wsX0_isSound := goodIn_ca (goodIn_ca (goodIn_ca (goodIn_r _ [544, 545, 546, 547, 2, 548, 54, 55, 56, 57, 15, 48, 49, 50, 549, 229, 230, 231, 21, 188, 189, 190, 191, 43, 44, 45, 46, 47, 92, 93, 94, 95, 96, 97, 126, 127, 128, 129, 17, 130, 131, 132, 133, 18, 232, 233, 234, 196, 197, 198, 235, 236, 237, 238, 239, 240, 241, 202, 203, 204, 550, 250, 251, 252, 253, 254, 255, 551, 264, 265, 266, 267, 268, 269, 270, 271, 272, 273, 274, 275, 276, 277, 278, 279, 552, 553, 554, 555, 556, 557, 558, 559, 560, 288, 289, 290, 192, 193, 194, 195, 199, 200, 201, 561, 562, 563, 564, 517, 518, 519, 520, 521, 503, 504, 505, 20, 102, 103, 104, 105, 19, 490, 491, 492, 493, 340, 341, 342, 565, 566, 567, 568, 569, 424, 425, 426, 337, 338, 339, 41, 42, 343, 344, 345, 570, 435, 436, 437, 571, 361, 362, 363, 364, 365, 366, 576, 577, 578, 579, 580, 581] (by decide +kernel) (by decide +kernel)) (goodIn_sub (fun _ h => List.mem_append_left _ (List.mem_append_left _ (List.mem_append_right _ h))) (by decide +kernel))) (goodIn_sub (fun _ h => List.mem_append_right _ h) (by decide +kernel))) (goodIn_sub (fun _ h => List.mem_append_left _ (List.mem_append_left _ (List.mem_append_left _ (List.mem_append_right _ h)))) (by decide +kernel))
set_option maxRecDepth 20000 in
theorem gL_law_X0_isSound : GoodIn wsL_law (wsV RL 216 RX0 yX0_isSound wsX0_isSound) := goodIn_app (goodIn_of _ (by decide +kernel)) ggL_law_X0_isSound
set_option maxRecDepth 20000 in
theorem ggL_law_X1_isSound : GoodIn wsL_law wsX1_isSound := goodIn_r _ [575, 26, 295, 296, 297, 5, 298, 213, 214, 215, 216, 27, 28, 180, 217, 218, 219, 220, 221, 222, 223, 224, 582, 583, 584, 585, 586, 587, 588] (by decide +kernel) (by decide +kernel)
set_option maxRecDepth 20000 in
theorem gL_law_X1_isSound : GoodIn wsL_law (wsV RL 220 RX1 yX1_isSound wsX1_isSound) := goodIn_app (goodIn_of _ (by decide +kernel)) ggL_law_X1_isSound
