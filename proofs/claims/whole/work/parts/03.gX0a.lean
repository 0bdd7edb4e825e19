set_option maxRecDepth 20000 in
theorem ggX0_put_X0_requirePeg : GoodIn wsX0_put wsX0_requirePeg := goodIn_ca (goodIn_r _ [6, 7, 8, 9, 10, 5, 11] (by decide +kernel) (by decide +kernel)) (goodIn_sub (fun _ h => List.mem_cons_of_mem _ (List.mem_append_right _ h)) (by decide +kernel))
set_option maxRecDepth 20000 in
theorem gX0_put_X0_requirePeg : GoodIn wsX0_put (va_wsS RX0 31 yX0_requirePeg wsX0_requirePeg) := goodIn_app (goodIn_of _ (by decide +kernel)) ggX0_put_X0_requirePeg
set_option maxRecDepth 20000 in
theorem ggX0_put_X0_isPlace : GoodIn wsX0_put wsX0_isPlace := goodIn_r _ [14] (by decide +kernel) (by decide +kernel)
set_option maxRecDepth 20000 in
theorem gX0_put_X0_isPlace : GoodIn wsX0_put (va_wsS RX0 35 yX0_isPlace wsX0_isPlace) := goodIn_app (goodIn_of _ (by decide +kernel)) ggX0_put_X0_isPlace
set_option maxRecDepth 20000 in
theorem ggX0_put_X0_stands : GoodIn wsX0_put wsX0_stands := goodIn_r _ [18, 19, 9, 10, 5, 11, 26, 27, 28, 29, 30, 31] (by decide +kernel) (by decide +kernel)
set_option maxRecDepth 20000 in
theorem gX0_put_X0_stands : GoodIn wsX0_put (wsV RX0 46 RX0 yX0_stands wsX0_stands) := goodIn_app (goodIn_of _ (by decide +kernel)) ggX0_put_X0_stands
set_option maxRecDepth 20000 in
theorem ggX0_put_X0_moveTo : GoodIn wsX0_put wsX0_moveTo := goodIn_r _ [23, 19, 24, 25, 9, 10, 5, 11, 26, 27, 28, 29, 30, 31] (by decide +kernel) (by decide +kernel)
set_option maxRecDepth 20000 in
theorem gX0_put_X0_moveTo : GoodIn wsX0_put (wsV RX0 49 RX0 yX0_moveTo wsX0_moveTo) := goodIn_app (goodIn_of _ (by decide +kernel)) ggX0_put_X0_moveTo
set_option maxRecDepth 20000 in
theorem ggX0_take_X0_requirePeg : GoodIn wsX0_take wsX0_requirePeg := goodIn_ca (goodIn_r _ [7, 8, 9, 10, 11, 6, 12] (by decide +kernel) (by decide +kernel)) (goodIn_sub (fun _ h => List.mem_cons_of_mem _ (List.mem_append_left _ (List.mem_append_right _ h))) (by decide +kernel))
set_option maxRecDepth 20000 in
theorem gX0_take_X0_requirePeg : GoodIn wsX0_take (va_wsS RX0 31 yX0_requirePeg wsX0_requirePeg) := goodIn_app (goodIn_of _ (by decide +kernel)) ggX0_take_X0_requirePeg
set_option maxRecDepth 20000 in
theorem ggX0_take_X0_requireStanding : GoodIn wsX0_take wsX0_requireStanding := goodIn_ca (goodIn_r _ [16, 17, 18, 19, 20, 21, 6, 22, 3, 10, 11, 12, 33, 34, 35, 36, 37, 38] (by decide +kernel) (by decide +kernel)) (goodIn_sub (fun _ h => List.mem_cons_of_mem _ (List.mem_append_right _ h)) (by decide +kernel))
set_option maxRecDepth 20000 in
theorem gX0_take_X0_requireStanding : GoodIn wsX0_take (wsV RX0 53 RX0 yX0_requireStanding wsX0_requireStanding) := goodIn_app (goodIn_of _ (by decide +kernel)) ggX0_take_X0_requireStanding
set_option maxRecDepth 20000 in
theorem ggX0_take_X0_isInRing : GoodIn wsX0_take wsX0_isInRing := goodIn_r _ [26, 27, 28, 29, 30, 6, 31, 32, 33, 34, 35, 36, 37, 38] (by decide +kernel) (by decide +kernel)
set_option maxRecDepth 20000 in
theorem gX0_take_X0_isInRing : GoodIn wsX0_take (wsV RX0 56 RX0 yX0_isInRing wsX0_isInRing) := goodIn_app (goodIn_of _ (by decide +kernel)) ggX0_take_X0_isInRing
set_option maxRecDepth 20000 in
theorem ggX0_take_X0_isPeg : GoodIn wsX0_take wsX0_isPeg := goodIn_r _ [12] (by decide +kernel) (by decide +kernel)
set_option maxRecDepth 20000 in
theorem gX0_take_X0_isPeg : GoodIn wsX0_take (va_wsS RX0 64 yX0_isPeg wsX0_isPeg) := goodIn_app (goodIn_of _ (by decide +kernel)) ggX0_take_X0_isPeg
set_option maxRecDepth 20000 in
theorem ggX0_step_X0_requirePeg : GoodIn wsX0_step wsX0_requirePeg := goodIn_ca (goodIn_r _ [6, 7, 8, 9, 10, 5, 11] (by decide +kernel) (by decide +kernel)) (goodIn_sub (fun _ h => List.mem_cons_of_mem _ (List.mem_append_left _ (List.mem_append_right _ h))) (by decide +kernel))
set_option maxRecDepth 20000 in
theorem gX0_step_X0_requirePeg : GoodIn wsX0_step (va_wsS RX0 31 yX0_requirePeg wsX0_requirePeg) := goodIn_app (goodIn_of _ (by decide +kernel)) ggX0_step_X0_requirePeg
set_option maxRecDepth 20000 in
theorem ggX0_step_X0_requireStanding : GoodIn wsX0_step wsX0_requireStanding := goodIn_ca (goodIn_r _ [15, 16, 17, 18, 19, 20, 5, 21, 22, 9, 10, 11, 40, 41, 42, 43, 44, 45] (by decide +kernel) (by decide +kernel)) (goodIn_sub (fun _ h => List.mem_cons_of_mem _ (List.mem_append_right _ h)) (by decide +kernel))
set_option maxRecDepth 20000 in
theorem gX0_step_X0_requireStanding : GoodIn wsX0_step (wsV RX0 53 RX0 yX0_requireStanding wsX0_requireStanding) := goodIn_app (goodIn_of _ (by decide +kernel)) ggX0_step_X0_requireStanding
set_option maxRecDepth 20000 in
theorem ggX0_step_X0_across : GoodIn wsX0_step wsX0_across := goodIn_r _ [26, 27, 9, 10, 5, 11, 40, 41, 42, 43, 44, 45] (by decide +kernel) (by decide +kernel)
set_option maxRecDepth 20000 in
theorem gX0_step_X0_across : GoodIn wsX0_step (wsV RX0 69 RX0 yX0_across wsX0_across) := goodIn_app (goodIn_of _ (by decide +kernel)) ggX0_step_X0_across
set_option maxRecDepth 20000 in
theorem ggX0_step_X0_up : GoodIn wsX0_step wsX0_up := goodIn_r _ [31, 32, 9, 10, 5, 11, 40, 41, 42, 43, 44, 45] (by decide +kernel) (by decide +kernel)
set_option maxRecDepth 20000 in
theorem gX0_step_X0_up : GoodIn wsX0_step (wsV RX0 73 RX0 yX0_up wsX0_up) := goodIn_app (goodIn_of _ (by decide +kernel)) ggX0_step_X0_up
set_option maxRecDepth 20000 in
theorem ggX0_step_X0_isPlace : GoodIn wsX0_step wsX0_isPlace := goodIn_r _ [35] (by decide +kernel) (by decide +kernel)
set_option maxRecDepth 20000 in
theorem gX0_step_X0_isPlace : GoodIn wsX0_step (va_wsS RX0 35 yX0_isPlace wsX0_isPlace) := goodIn_app (goodIn_of _ (by decide +kernel)) ggX0_step_X0_isPlace
set_option maxRecDepth 20000 in
theorem ggX0_step_X0_moveTo : GoodIn wsX0_step wsX0_moveTo := goodIn_r _ [39, 22, 27, 32, 9, 10, 5, 11, 40, 41, 42, 43, 44, 45] (by decide +kernel) (by decide +kernel)
set_option maxRecDepth 20000 in
theorem gX0_step_X0_moveTo : GoodIn wsX0_step (wsV RX0 49 RX0 yX0_moveTo wsX0_moveTo) := goodIn_app (goodIn_of _ (by decide +kernel)) ggX0_step_X0_moveTo
set_option maxRecDepth 20000 in
theorem ggX0_isThere_X0_requirePeg : GoodIn wsX0_isThere wsX0_requirePeg := goodIn_ca (goodIn_r _ [4, 5, 6, 7, 8, 3, 9] (by decide +kernel) (by decide +kernel)) (goodIn_sub (fun _ h => List.mem_cons_of_mem _ (List.mem_append_right _ h)) (by decide +kernel))
set_option maxRecDepth 20000 in
theorem gX0_isThere_X0_requirePeg : GoodIn wsX0_isThere (va_wsS RX0 31 yX0_requirePeg wsX0_requirePeg) := goodIn_app (goodIn_of _ (by decide +kernel)) ggX0_isThere_X0_requirePeg
set_option maxRecDepth 20000 in
theorem ggX0_isThere_X0_stands : GoodIn wsX0_isThere wsX0_stands := goodIn_r _ [13, 14, 7, 8, 3, 9, 15, 16, 17, 18, 19, 20] (by decide +kernel) (by decide +kernel)
set_option maxRecDepth 20000 in
theorem gX0_isThere_X0_stands : GoodIn wsX0_isThere (wsV RX0 46 RX0 yX0_stands wsX0_stands) := goodIn_app (goodIn_of _ (by decide +kernel)) ggX0_isThere_X0_stands
set_option maxRecDepth 20000 in
theorem ggX0_placeOf_X0_requirePeg : GoodIn wsX0_placeOf wsX0_requirePeg := goodIn_ca (goodIn_r _ [4, 5, 6, 7, 8, 3, 9] (by decide +kernel) (by decide +kernel)) (goodIn_sub (fun _ h => List.mem_cons_of_mem _ (List.mem_append_left _ (List.mem_append_right _ h))) (by decide +kernel))
set_option maxRecDepth 20000 in
theorem gX0_placeOf_X0_requirePeg : GoodIn wsX0_placeOf (va_wsS RX0 31 yX0_requirePeg wsX0_requirePeg) := goodIn_app (goodIn_of _ (by decide +kernel)) ggX0_placeOf_X0_requirePeg
set_option maxRecDepth 20000 in
theorem ggX0_placeOf_X0_requireStanding : GoodIn wsX0_placeOf wsX0_requireStanding := goodIn_ca (goodIn_r _ [13, 14, 15, 16, 17, 18, 3, 19, 20, 7, 8, 9, 31, 32, 33, 34, 35, 36] (by decide +kernel) (by decide +kernel)) (goodIn_sub (fun _ h => List.mem_cons_of_mem _ (List.mem_append_right _ h)) (by decide +kernel))
set_option maxRecDepth 20000 in
theorem gX0_placeOf_X0_requireStanding : GoodIn wsX0_placeOf (wsV RX0 53 RX0 yX0_requireStanding wsX0_requireStanding) := goodIn_app (goodIn_of _ (by decide +kernel)) ggX0_placeOf_X0_requireStanding
set_option maxRecDepth 20000 in
theorem ggX0_placeOf_X0_up : GoodIn wsX0_placeOf wsX0_up := goodIn_r _ [24, 25, 7, 8, 3, 9, 31, 32, 33, 34, 35, 36] (by decide +kernel) (by decide +kernel)
set_option maxRecDepth 20000 in
theorem gX0_placeOf_X0_up : GoodIn wsX0_placeOf (wsV RX0 73 RX0 yX0_up wsX0_up) := goodIn_app (goodIn_of _ (by decide +kernel)) ggX0_placeOf_X0_up
set_option maxRecDepth 20000 in
theorem ggX0_placeOf_X0_across : GoodIn wsX0_placeOf wsX0_across := goodIn_r _ [29, 30, 7, 8, 3, 9, 31, 32, 33, 34, 35, 36] (by decide +kernel) (by decide +kernel)
set_option maxRecDepth 20000 in
theorem gX0_placeOf_X0_across : GoodIn wsX0_placeOf (wsV RX0 69 RX0 yX0_across wsX0_across) := goodIn_app (goodIn_of _ (by decide +kernel)) ggX0_placeOf_X0_across
set_option maxRecDepth 20000 in
theorem ggX0_count_X0_stands : GoodIn wsX0_count wsX0_stands := goodIn_r _ [5, 6, 7, 8, 4, 9, 10, 11, 12, 13, 14, 15] (by decide +kernel) (by decide +kernel)
set_option maxRecDepth 20000 in
theorem gX0_count_X0_stands : GoodIn wsX0_count (wsV RX0 46 RX0 yX0_stands wsX0_stands) := goodIn_app (goodIn_of _ (by decide +kernel)) ggX0_count_X0_stands
set_option maxRecDepth 20000 in
theorem ggX0_stretch_X0_requireTwo : GoodIn wsX0_stretch wsX0_requireTwo := goodIn_ca (goodIn_ca (goodIn_r _ [5, 6, 7, 4, 8, 9, 10, 11, 12, 13, 14, 15, 16, 17, 18, 19, 20, 21, 22, 23, 24, 49, 50, 51, 52, 53, 54] (by decide +kernel) (by decide +kernel)) (goodIn_sub (fun _ h => List.mem_cons_of_mem _ (List.mem_append_left _ (List.mem_append_right _ h))) (by decide +kernel))) (goodIn_sub (fun _ h => List.mem_cons_of_mem _ (List.mem_append_right _ h)) (by decide +kernel))
set_option maxRecDepth 20000 in
theorem gX0_stretch_X0_requireTwo : GoodIn wsX0_stretch (wsV RX0 76 RX0 yX0_requireTwo wsX0_requireTwo) := goodIn_app (goodIn_of _ (by decide +kernel)) ggX0_stretch_X0_requireTwo
set_option maxRecDepth 20000 in
theorem ggX0_stretch_X0_stretchGrains : GoodIn wsX0_stretch wsX0_stretchGrains := goodIn_r _ [28, 29, 30, 31, 32, 4, 33, 34, 11, 12, 13, 35, 36, 37, 38, 39, 40, 41, 42, 43, 44, 45, 46, 47, 48, 49, 50, 51, 52, 53, 54] (by decide +kernel) (by decide +kernel)
set_option maxRecDepth 20000 in
theorem gX0_stretch_X0_stretchGrains : GoodIn wsX0_stretch (wsV RX0 80 RX0 yX0_stretchGrains wsX0_stretchGrains) := goodIn_app (goodIn_of _ (by decide +kernel)) ggX0_stretch_X0_stretchGrains
set_option maxRecDepth 20000 in
theorem ggX0_isSteady_X0_requireTwo : GoodIn wsX0_isSteady wsX0_requireTwo := goodIn_ca (goodIn_ca (goodIn_r _ [6, 7, 8, 5, 9, 10, 11, 12, 13, 14, 15, 16, 17, 18, 19, 20, 21, 22, 23, 24, 25, 52, 53, 54, 55, 56, 57] (by decide +kernel) (by decide +kernel)) (goodIn_sub (fun _ h => List.mem_cons_of_mem _ (List.mem_append_left _ (List.mem_append_right _ h))) (by decide +kernel))) (goodIn_sub (fun _ h => List.mem_cons_of_mem _ (List.mem_append_right _ h)) (by decide +kernel))
set_option maxRecDepth 20000 in
theorem gX0_isSteady_X0_requireTwo : GoodIn wsX0_isSteady (wsV RX0 76 RX0 yX0_requireTwo wsX0_requireTwo) := goodIn_app (goodIn_of _ (by decide +kernel)) ggX0_isSteady_X0_requireTwo
set_option maxRecDepth 20000 in
theorem ggX0_isSteady_X0_across : GoodIn wsX0_isSteady wsX0_across := goodIn_r _ [29, 30, 12, 13, 5, 14, 52, 53, 54, 55, 56, 57] (by decide +kernel) (by decide +kernel)
set_option maxRecDepth 20000 in
theorem gX0_isSteady_X0_across : GoodIn wsX0_isSteady (wsV RX0 69 RX0 yX0_across wsX0_across) := goodIn_app (goodIn_of _ (by decide +kernel)) ggX0_isSteady_X0_across
set_option maxRecDepth 20000 in
theorem ggX0_isSteady_X0_up : GoodIn wsX0_isSteady wsX0_up := goodIn_r _ [34, 35, 12, 13, 5, 14, 52, 53, 54, 55, 56, 57] (by decide +kernel) (by decide +kernel)
set_option maxRecDepth 20000 in
theorem gX0_isSteady_X0_up : GoodIn wsX0_isSteady (wsV RX0 73 RX0 yX0_up wsX0_up) := goodIn_app (goodIn_of _ (by decide +kernel)) ggX0_isSteady_X0_up
set_option maxRecDepth 20000 in
theorem ggX0_isSteady_X0_hypotenuseBits : GoodIn wsX0_isSteady wsX0_hypotenuseBits := goodIn_r _ [38, 39, 40, 5, 41, 42, 43, 44, 45, 46, 47, 48, 49, 50, 51] (by decide +kernel) (by decide +kernel)
set_option maxRecDepth 20000 in
theorem gX0_isSteady_X0_hypotenuseBits : GoodIn wsX0_isSteady (va_wsS RX0 84 yX0_hypotenuseBits wsX0_hypotenuseBits) := goodIn_app (goodIn_of _ (by decide +kernel)) ggX0_isSteady_X0_hypotenuseBits
set_option maxRecDepth 20000 in
theorem ggX0_isDoubled_X0_requireTwo : GoodIn wsX0_isDoubled wsX0_requireTwo := goodIn_ca (goodIn_ca (goodIn_r _ [5, 6, 7, 4, 8, 9, 10, 11, 12, 13, 14, 15, 16, 17, 18, 19, 20, 21, 22, 23, 24, 54, 55, 56, 57, 58, 59] (by decide +kernel) (by decide +kernel)) (goodIn_sub (fun _ h => List.mem_cons_of_mem _ (List.mem_append_left _ (List.mem_append_right _ h))) (by decide +kernel))) (goodIn_sub (fun _ h => List.mem_cons_of_mem _ (List.mem_append_right _ h)) (by decide +kernel))
set_option maxRecDepth 20000 in
theorem gX0_isDoubled_X0_requireTwo : GoodIn wsX0_isDoubled (wsV RX0 76 RX0 yX0_requireTwo wsX0_requireTwo) := goodIn_app (goodIn_of _ (by decide +kernel)) ggX0_isDoubled_X0_requireTwo
set_option maxRecDepth 20000 in
theorem ggX0_isDoubled_X0_across : GoodIn wsX0_isDoubled wsX0_across := goodIn_r _ [28, 29, 11, 12, 4, 13, 54, 55, 56, 57, 58, 59] (by decide +kernel) (by decide +kernel)
set_option maxRecDepth 20000 in
theorem gX0_isDoubled_X0_across : GoodIn wsX0_isDoubled (wsV RX0 69 RX0 yX0_across wsX0_across) := goodIn_app (goodIn_of _ (by decide +kernel)) ggX0_isDoubled_X0_across
set_option maxRecDepth 20000 in
theorem ggX0_isDoubled_X0_up : GoodIn wsX0_isDoubled wsX0_up := goodIn_r _ [33, 34, 11, 12, 4, 13, 54, 55, 56, 57, 58, 59] (by decide +kernel) (by decide +kernel)
set_option maxRecDepth 20000 in
theorem gX0_isDoubled_X0_up : GoodIn wsX0_isDoubled (wsV RX0 73 RX0 yX0_up wsX0_up) := goodIn_app (goodIn_of _ (by decide +kernel)) ggX0_isDoubled_X0_up
set_option maxRecDepth 20000 in
theorem ggX0_isDoubled_X0_hypotenuseBits : GoodIn wsX0_isDoubled wsX0_hypotenuseBits := goodIn_r _ [37, 38, 39, 4, 40, 41, 42, 43, 44, 45, 46, 47, 48, 49, 50] (by decide +kernel) (by decide +kernel)
set_option maxRecDepth 20000 in
theorem gX0_isDoubled_X0_hypotenuseBits : GoodIn wsX0_isDoubled (va_wsS RX0 84 yX0_hypotenuseBits wsX0_hypotenuseBits) := goodIn_app (goodIn_of _ (by decide +kernel)) ggX0_isDoubled_X0_hypotenuseBits
set_option maxRecDepth 20000 in
theorem ggX0_isDoubled_X0_twice : GoodIn wsX0_isDoubled wsX0_twice := goodIn_r _ [53, 44] (by decide +kernel) (by decide +kernel)
set_option maxRecDepth 20000 in
theorem gX0_isDoubled_X0_twice : GoodIn wsX0_isDoubled (va_wsS RX0 88 yX0_twice wsX0_twice) := goodIn_app (goodIn_of _ (by decide +kernel)) ggX0_isDoubled_X0_twice
set_option maxRecDepth 20000 in
theorem ggX0_isClose_X0_requireTwo : GoodIn wsX0_isClose wsX0_requireTwo := goodIn_ca (goodIn_ca (goodIn_r _ [6, 7, 8, 5, 9, 10, 11, 12, 13, 14, 15, 16, 17, 18, 19, 20, 21, 22, 23, 24, 25, 65, 66, 67, 68, 69, 70] (by decide +kernel) (by decide +kernel)) (goodIn_sub (fun _ h => List.mem_cons_of_mem _ (List.mem_append_left _ (List.mem_append_right _ h))) (by decide +kernel))) (goodIn_sub (fun _ h => List.mem_cons_of_mem _ (List.mem_append_right _ h)) (by decide +kernel))
set_option maxRecDepth 20000 in
theorem gX0_isClose_X0_requireTwo : GoodIn wsX0_isClose (wsV RX0 76 RX0 yX0_requireTwo wsX0_requireTwo) := goodIn_app (goodIn_of _ (by decide +kernel)) ggX0_isClose_X0_requireTwo
set_option maxRecDepth 20000 in
theorem ggX0_isClose_X0_across : GoodIn wsX0_isClose wsX0_across := goodIn_r _ [29, 30, 12, 13, 5, 14, 65, 66, 67, 68, 69, 70] (by decide +kernel) (by decide +kernel)
set_option maxRecDepth 20000 in
theorem gX0_isClose_X0_across : GoodIn wsX0_isClose (wsV RX0 69 RX0 yX0_across wsX0_across) := goodIn_app (goodIn_of _ (by decide +kernel)) ggX0_isClose_X0_across
set_option maxRecDepth 20000 in
theorem ggX0_isClose_X0_up : GoodIn wsX0_isClose wsX0_up := goodIn_r _ [34, 35, 12, 13, 5, 14, 65, 66, 67, 68, 69, 70] (by decide +kernel) (by decide +kernel)
set_option maxRecDepth 20000 in
theorem gX0_isClose_X0_up : GoodIn wsX0_isClose (wsV RX0 73 RX0 yX0_up wsX0_up) := goodIn_app (goodIn_of _ (by decide +kernel)) ggX0_isClose_X0_up
set_option maxRecDepth 20000 in
theorem ggX0_isClose_X0_hypotenuseBits : GoodIn wsX0_isClose wsX0_hypotenuseBits := goodIn_r _ [38, 39, 40, 5, 41, 42, 43, 44, 45, 46, 47, 48, 49, 50, 51] (by decide +kernel) (by decide +kernel)
set_option maxRecDepth 20000 in
theorem gX0_isClose_X0_hypotenuseBits : GoodIn wsX0_isClose (va_wsS RX0 84 yX0_hypotenuseBits wsX0_hypotenuseBits) := goodIn_app (goodIn_of _ (by decide +kernel)) ggX0_isClose_X0_hypotenuseBits
set_option maxRecDepth 20000 in
theorem ggX0_isClose_X0_squareSum : GoodIn wsX0_isClose wsX0_squareSum := goodIn_r _ [41] (by decide +kernel) (by decide +kernel)
set_option maxRecDepth 20000 in
theorem gX0_isClose_X0_squareSum : GoodIn wsX0_isClose (va_wsS RX0 92 yX0_squareSum wsX0_squareSum) := goodIn_app (goodIn_of _ (by decide +kernel)) ggX0_isClose_X0_squareSum
set_option maxRecDepth 20000 in
theorem ggX0_isClose_X0_unitsOf : GoodIn wsX0_isClose wsX0_unitsOf := goodIn_r _ [54, 55, 45] (by decide +kernel) (by decide +kernel)
set_option maxRecDepth 20000 in
theorem gX0_isClose_X0_unitsOf : GoodIn wsX0_isClose (va_wsS RX0 96 yX0_unitsOf wsX0_unitsOf) := goodIn_app (goodIn_of _ (by decide +kernel)) ggX0_isClose_X0_unitsOf
set_option maxRecDepth 20000 in
theorem ggX0_isClose_X0_placesAfterPoint : GoodIn wsX0_isClose wsX0_placesAfterPoint := goodIn_r _ [58] (by decide +kernel) (by decide +kernel)
set_option maxRecDepth 20000 in
theorem gX0_isClose_X0_placesAfterPoint : GoodIn wsX0_isClose (va_wsS RX0 99 yX0_placesAfterPoint wsX0_placesAfterPoint) := goodIn_app (goodIn_of _ (by decide +kernel)) ggX0_isClose_X0_placesAfterPoint
set_option maxRecDepth 20000 in
theorem ggX0_isClose_X0_compareSquare : GoodIn wsX0_isClose wsX0_compareSquare := goodIn_r _ [61, 62, 63, 64] (by decide +kernel) (by decide +kernel)
set_option maxRecDepth 20000 in
theorem gX0_isClose_X0_compareSquare : GoodIn wsX0_isClose (va_wsS RX0 103 yX0_compareSquare wsX0_compareSquare) := goodIn_app (goodIn_of _ (by decide +kernel)) ggX0_isClose_X0_compareSquare
set_option maxRecDepth 20000 in
theorem ggX0_isStraight_X0_requirePeg : GoodIn wsX0_isStraight wsX0_requirePeg := goodIn_ca (goodIn_r _ [4, 5, 6, 7, 8, 3, 9] (by decide +kernel) (by decide +kernel)) (goodIn_sub (fun _ h => List.mem_cons_of_mem _ (List.mem_append_left _ (List.mem_append_right _ h))) (by decide +kernel))
set_option maxRecDepth 20000 in
theorem gX0_isStraight_X0_requirePeg : GoodIn wsX0_isStraight (va_wsS RX0 31 yX0_requirePeg wsX0_requirePeg) := goodIn_app (goodIn_of _ (by decide +kernel)) ggX0_isStraight_X0_requirePeg
set_option maxRecDepth 20000 in
theorem ggX0_isStraight_X0_requireStanding : GoodIn wsX0_isStraight wsX0_requireStanding := goodIn_ca (goodIn_r _ [13, 14, 15, 16, 17, 18, 3, 19, 20, 7, 8, 9, 45, 46, 47, 48, 49, 50] (by decide +kernel) (by decide +kernel)) (goodIn_sub (fun _ h => List.mem_cons_of_mem _ (List.mem_append_right _ h)) (by decide +kernel))
set_option maxRecDepth 20000 in
theorem gX0_isStraight_X0_requireStanding : GoodIn wsX0_isStraight (wsV RX0 53 RX0 yX0_requireStanding wsX0_requireStanding) := goodIn_app (goodIn_of _ (by decide +kernel)) ggX0_isStraight_X0_requireStanding
set_option maxRecDepth 20000 in
theorem ggX0_isStraight_X0_stretchGrains : GoodIn wsX0_isStraight wsX0_stretchGrains := goodIn_r _ [24, 25, 26, 27, 28, 3, 29, 30, 7, 8, 9, 31, 32, 33, 34, 35, 36, 37, 38, 39, 40, 41, 42, 43, 44, 45, 46, 47, 48, 49, 50] (by decide +kernel) (by decide +kernel)
set_option maxRecDepth 20000 in
theorem gX0_isStraight_X0_stretchGrains : GoodIn wsX0_isStraight (wsV RX0 80 RX0 yX0_stretchGrains wsX0_stretchGrains) := goodIn_app (goodIn_of _ (by decide +kernel)) ggX0_isStraight_X0_stretchGrains
set_option maxRecDepth 20000 in
theorem ggX0_nearest_X0_requirePeg : GoodIn wsX0_nearest wsX0_requirePeg := goodIn_ca (goodIn_r _ [6, 7, 8, 9, 10, 5, 11] (by decide +kernel) (by decide +kernel)) (goodIn_sub (fun _ h => List.mem_cons_of_mem _ (List.mem_append_left _ (List.mem_append_right _ h))) (by decide +kernel))
set_option maxRecDepth 20000 in
theorem gX0_nearest_X0_requirePeg : GoodIn wsX0_nearest (va_wsS RX0 31 yX0_requirePeg wsX0_requirePeg) := goodIn_app (goodIn_of _ (by decide +kernel)) ggX0_nearest_X0_requirePeg
set_option maxRecDepth 20000 in
theorem ggX0_nearest_X0_requireStanding : GoodIn wsX0_nearest wsX0_requireStanding := goodIn_ca (goodIn_r _ [15, 16, 17, 18, 19, 20, 5, 21, 22, 9, 10, 11, 51, 52, 53, 54, 55, 56] (by decide +kernel) (by decide +kernel)) (goodIn_sub (fun _ h => List.mem_cons_of_mem _ (List.mem_append_right _ h)) (by decide +kernel))
set_option maxRecDepth 20000 in
theorem gX0_nearest_X0_requireStanding : GoodIn wsX0_nearest (wsV RX0 53 RX0 yX0_requireStanding wsX0_requireStanding) := goodIn_app (goodIn_of _ (by decide +kernel)) ggX0_nearest_X0_requireStanding
set_option maxRecDepth 20000 in
theorem ggX0_nearest_X0_nearestOther : GoodIn wsX0_nearest wsX0_nearestOther := goodIn_r _ [26, 18, 19, 20, 5, 21, 22, 9, 10, 11, 27, 28, 29, 30, 31, 32, 33, 34, 35, 36, 37, 38, 39, 40, 41, 42, 43, 44, 45, 46, 47, 48, 49, 50, 51, 52, 53, 54, 55, 56] (by decide +kernel) (by decide +kernel)
set_option maxRecDepth 20000 in
theorem gX0_nearest_X0_nearestOther : GoodIn wsX0_nearest (wsV RX0 107 RX0 yX0_nearestOther wsX0_nearestOther) := goodIn_app (goodIn_of _ (by decide +kernel)) ggX0_nearest_X0_nearestOther
set_option maxRecDepth 20000 in
theorem ggX0_rank_X0_requireTwo : GoodIn wsX0_rank wsX0_requireTwo := goodIn_ca (goodIn_ca (goodIn_r _ [5, 6, 7, 4, 8, 9, 10, 11, 12, 13, 14, 15, 16, 17, 18, 19, 20, 21, 22, 23, 24, 49, 50, 51, 52, 53, 54] (by decide +kernel) (by decide +kernel)) (goodIn_sub (fun _ h => List.mem_cons_of_mem _ (List.mem_append_left _ (List.mem_append_right _ h))) (by decide +kernel))) (goodIn_sub (fun _ h => List.mem_cons_of_mem _ (List.mem_append_right _ h)) (by decide +kernel))
set_option maxRecDepth 20000 in
theorem gX0_rank_X0_requireTwo : GoodIn wsX0_rank (wsV RX0 76 RX0 yX0_requireTwo wsX0_requireTwo) := goodIn_app (goodIn_of _ (by decide +kernel)) ggX0_rank_X0_requireTwo
