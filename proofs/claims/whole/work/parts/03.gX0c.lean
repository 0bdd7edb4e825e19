set_option maxRecDepth 20000 in
theorem ggX0_checksum_X0_up : GoodIn wsX0_checksum wsX0_up := goodIn_r _ [17, 18, 11, 12, 8, 13, 54, 55, 56, 57, 58, 59] (by decide +kernel) (by decide +kernel)
set_option maxRecDepth 20000 in
theorem gX0_checksum_X0_up : GoodIn wsX0_checksum (wsV RX0 73 RX0 yX0_up wsX0_up) := goodIn_app (goodIn_of _ (by decide +kernel)) ggX0_checksum_X0_up
set_option maxRecDepth 20000 in
theorem ggX0_checksum_X0_across : GoodIn wsX0_checksum wsX0_across := goodIn_r _ [22, 23, 11, 12, 8, 13, 54, 55, 56, 57, 58, 59] (by decide +kernel) (by decide +kernel)
set_option maxRecDepth 20000 in
theorem gX0_checksum_X0_across : GoodIn wsX0_checksum (wsV RX0 69 RX0 yX0_across wsX0_across) := goodIn_app (goodIn_of _ (by decide +kernel)) ggX0_checksum_X0_across
set_option maxRecDepth 20000 in
theorem ggX0_checksum_X0_nearestOther : GoodIn wsX0_checksum wsX0_nearestOther := goodIn_r _ [27, 5, 6, 7, 8, 9, 10, 11, 12, 13, 28, 29, 30, 31, 4, 19, 20, 21, 22, 23, 14, 15, 16, 17, 18, 32, 33, 34, 35, 36, 37, 38, 39, 40, 54, 55, 56, 57, 58, 59] (by decide +kernel) (by decide +kernel)
set_option maxRecDepth 20000 in
theorem gX0_checksum_X0_nearestOther : GoodIn wsX0_checksum (wsV RX0 107 RX0 yX0_nearestOther wsX0_nearestOther) := goodIn_app (goodIn_of _ (by decide +kernel)) ggX0_checksum_X0_nearestOther
set_option maxRecDepth 20000 in
theorem ggX0_checksum_X0_pegInRing : GoodIn wsX0_checksum wsX0_pegInRing := goodIn_r _ [44, 45, 54, 55, 56, 57, 58, 59] (by decide +kernel) (by decide +kernel)
set_option maxRecDepth 20000 in
theorem gX0_checksum_X0_pegInRing : GoodIn wsX0_checksum (wsV RX0 139 RX0 yX0_pegInRing wsX0_pegInRing) := goodIn_app (goodIn_of _ (by decide +kernel)) ggX0_checksum_X0_pegInRing
set_option maxRecDepth 20000 in
theorem ggX0_checksum_X0_around : GoodIn wsX0_checksum wsX0_around := goodIn_r _ [49, 3, 41, 42, 43, 8, 44, 45, 50, 51, 52, 53, 28, 29, 30, 31, 4, 19, 20, 21, 22, 23, 11, 12, 13, 14, 15, 16, 17, 18, 32, 33, 34, 35, 36, 37, 38, 39, 40, 54, 55, 56, 57, 58, 59] (by decide +kernel) (by decide +kernel)
set_option maxRecDepth 20000 in
theorem gX0_checksum_X0_around : GoodIn wsX0_checksum (wsV RX0 168 RX0 yX0_around wsX0_around) := goodIn_app (goodIn_of _ (by decide +kernel)) ggX0_checksum_X0_around
set_option maxRecDepth 20000 in
theorem ggX0_isSound_X0_arePairsSound : GoodIn wsX0_isSound wsX0_arePairsSound := goodIn_ca (goodIn_ca (goodIn_r _ [5, 6, 7, 8, 4, 9, 10, 11, 12, 13, 14, 15, 16, 17, 18, 19, 20, 21, 22, 23, 24, 25, 26, 27, 28, 29, 30, 31, 32, 33, 34, 35, 36, 37, 38, 39, 40, 41, 42, 43, 44, 45, 46, 47, 48, 49, 50, 51, 52, 53, 54, 55, 56, 57, 58, 59, 60, 61, 62, 63, 64, 65, 66, 67, 68, 69, 70, 71, 72, 73, 74, 75, 76, 77, 78, 79, 80, 81, 82, 83, 155, 156, 157, 158, 159, 160] (by decide +kernel) (by decide +kernel)) (goodIn_sub (fun _ h => List.mem_cons_of_mem _ (List.mem_append_left _ (List.mem_append_left _ (List.mem_append_right _ h)))) (by decide +kernel))) (goodIn_sub (fun _ h => List.mem_cons_of_mem _ (List.mem_append_left _ (List.mem_append_right _ h))) (by decide +kernel))
set_option maxRecDepth 20000 in
theorem gX0_isSound_X0_arePairsSound : GoodIn wsX0_isSound (wsV RX0 171 RX0 yX0_arePairsSound wsX0_arePairsSound) := goodIn_app (goodIn_of _ (by decide +kernel)) ggX0_isSound_X0_arePairsSound
set_option maxRecDepth 20000 in
theorem ggX0_isSound_X0_areThreesSound : GoodIn wsX0_isSound wsX0_areThreesSound := goodIn_ca (goodIn_ca (goodIn_r _ [87, 6, 7, 8, 4, 9, 10, 11, 12, 13, 88, 89, 90, 91, 92, 93, 94, 95, 23, 24, 25, 26, 27, 28, 29, 30, 31, 32, 33, 96, 97, 98, 99, 18, 34, 35, 36, 37, 38, 39, 40, 41, 42, 43, 47, 48, 49, 100, 101, 102, 57, 58, 59, 155, 156, 157, 158, 159, 160] (by decide +kernel) (by decide +kernel)) (goodIn_sub (fun _ h => List.mem_cons_of_mem _ (List.mem_append_left _ (List.mem_append_left _ (List.mem_append_right _ h)))) (by decide +kernel))) (goodIn_sub (fun _ h => List.mem_cons_of_mem _ (List.mem_append_left _ (List.mem_append_right _ h))) (by decide +kernel))
set_option maxRecDepth 20000 in
theorem gX0_isSound_X0_areThreesSound : GoodIn wsX0_isSound (wsV RX0 175 RX0 yX0_areThreesSound wsX0_areThreesSound) := goodIn_app (goodIn_of _ (by decide +kernel)) ggX0_isSound_X0_areThreesSound
set_option maxRecDepth 20000 in
theorem ggX0_isSound_X0_isAreaSound : GoodIn wsX0_isSound wsX0_isAreaSound := goodIn_ca (goodIn_r _ [106, 107, 108, 109, 110, 111, 112, 113, 4, 114, 115, 116, 117, 118, 119, 120, 121, 122, 123, 124, 34, 35, 36, 37, 38, 11, 12, 13, 39, 40, 41, 42, 43, 125, 126, 127, 128, 129, 130, 131, 132, 133, 134, 135, 82, 136, 137, 138, 139, 140, 141, 142, 143, 50, 51, 52, 53, 54, 55, 56, 57, 58, 59, 71, 72, 73, 74, 75, 76, 77, 78, 79, 80, 81, 83, 144, 145, 146, 147, 64, 65, 66, 148, 149, 150, 151, 152, 153, 154, 155, 156, 157, 158, 159, 160] (by decide +kernel) (by decide +kernel)) (goodIn_sub (fun _ h => List.mem_cons_of_mem _ (List.mem_append_right _ h)) (by decide +kernel))
set_option maxRecDepth 20000 in
theorem gX0_isSound_X0_isAreaSound : GoodIn wsX0_isSound (wsV RX0 178 RX0 yX0_isAreaSound wsX0_isAreaSound) := goodIn_app (goodIn_of _ (by decide +kernel)) ggX0_isSound_X0_isAreaSound
set_option maxRecDepth 20000 in
theorem ggX0_arePairsSound_X0_stands : GoodIn wsX0_arePairsSound wsX0_stands := goodIn_r _ [5, 6, 7, 8, 4, 9, 80, 81, 82, 83, 84, 85] (by decide +kernel) (by decide +kernel)
set_option maxRecDepth 20000 in
theorem gX0_arePairsSound_X0_stands : GoodIn wsX0_arePairsSound (wsV RX0 46 RX0 yX0_stands wsX0_stands) := goodIn_app (goodIn_of _ (by decide +kernel)) ggX0_arePairsSound_X0_stands
set_option maxRecDepth 20000 in
theorem ggX0_arePairsSound_X0_isSteady : GoodIn wsX0_arePairsSound wsX0_isSteady := goodIn_ca (goodIn_ca (goodIn_r _ [13, 14, 15, 16, 17, 4, 18, 19, 20, 21, 22, 23, 7, 8, 9, 24, 25, 26, 27, 28, 29, 1, 2, 3, 5, 6, 30, 31, 32, 33, 34, 35, 36, 37, 38, 39, 40, 41, 42, 43, 44, 45, 46, 47, 48, 49, 50, 51, 52, 53, 54, 55, 80, 81, 82, 83, 84, 85] (by decide +kernel) (by decide +kernel)) (goodIn_sub (fun _ h => List.mem_cons_of_mem _ (List.mem_append_left _ (List.mem_append_right _ h))) (by decide +kernel))) (goodIn_sub (fun _ h => List.mem_cons_of_mem _ (List.mem_append_right _ h)) (by decide +kernel))
set_option maxRecDepth 20000 in
theorem gX0_arePairsSound_X0_isSteady : GoodIn wsX0_arePairsSound (wsV RX0 181 RX0 yX0_isSteady wsX0_isSteady) := goodIn_app (goodIn_of _ (by decide +kernel)) ggX0_arePairsSound_X0_isSteady
set_option maxRecDepth 20000 in
theorem ggX0_arePairsSound_X0_isDoubled : GoodIn wsX0_arePairsSound wsX0_isDoubled := goodIn_ca (goodIn_ca (goodIn_r _ [59, 15, 16, 17, 4, 18, 19, 20, 21, 22, 23, 7, 8, 9, 24, 25, 26, 27, 28, 29, 1, 2, 3, 5, 6, 30, 31, 32, 33, 34, 35, 36, 37, 38, 39, 40, 41, 42, 43, 44, 45, 46, 47, 48, 49, 50, 51, 52, 53, 54, 55, 60, 61, 62, 80, 81, 82, 83, 84, 85] (by decide +kernel) (by decide +kernel)) (goodIn_sub (fun _ h => List.mem_cons_of_mem _ (List.mem_append_left _ (List.mem_append_right _ h))) (by decide +kernel))) (goodIn_sub (fun _ h => List.mem_cons_of_mem _ (List.mem_append_right _ h)) (by decide +kernel))
set_option maxRecDepth 20000 in
theorem gX0_arePairsSound_X0_isDoubled : GoodIn wsX0_arePairsSound (wsV RX0 185 RX0 yX0_isDoubled wsX0_isDoubled) := goodIn_app (goodIn_of _ (by decide +kernel)) ggX0_arePairsSound_X0_isDoubled
set_option maxRecDepth 20000 in
theorem ggX0_arePairsSound_X0_isClose : GoodIn wsX0_arePairsSound wsX0_isClose := goodIn_ca (goodIn_ca (goodIn_r _ [66, 14, 15, 16, 17, 4, 18, 19, 20, 21, 22, 23, 7, 8, 9, 24, 25, 26, 27, 28, 29, 1, 2, 3, 5, 6, 30, 31, 32, 33, 34, 35, 36, 37, 38, 39, 40, 41, 42, 43, 44, 45, 46, 47, 48, 49, 50, 51, 52, 53, 54, 55, 67, 68, 69, 70, 71, 72, 73, 74, 75, 76, 77, 78, 79, 80, 81, 82, 83, 84, 85] (by decide +kernel) (by decide +kernel)) (goodIn_sub (fun _ h => List.mem_cons_of_mem _ (List.mem_append_left _ (List.mem_append_right _ h))) (by decide +kernel))) (goodIn_sub (fun _ h => List.mem_cons_of_mem _ (List.mem_append_right _ h)) (by decide +kernel))
set_option maxRecDepth 20000 in
theorem gX0_arePairsSound_X0_isClose : GoodIn wsX0_arePairsSound (wsV RX0 188 RX0 yX0_isClose wsX0_isClose) := goodIn_app (goodIn_of _ (by decide +kernel)) ggX0_arePairsSound_X0_isClose
set_option maxRecDepth 20000 in
theorem ggX0_areThreesSound_X0_stands : GoodIn wsX0_areThreesSound wsX0_stands := goodIn_r _ [5, 6, 7, 8, 4, 9, 53, 54, 55, 56, 57, 58] (by decide +kernel) (by decide +kernel)
set_option maxRecDepth 20000 in
theorem gX0_areThreesSound_X0_stands : GoodIn wsX0_areThreesSound (wsV RX0 46 RX0 yX0_stands wsX0_stands) := goodIn_app (goodIn_of _ (by decide +kernel)) ggX0_areThreesSound_X0_stands
set_option maxRecDepth 20000 in
theorem ggX0_areThreesSound_X0_isStraightByAll : GoodIn wsX0_areThreesSound wsX0_isStraightByAll := goodIn_ca (goodIn_ca (goodIn_r _ [13, 1, 2, 3, 4, 5, 6, 7, 8, 9, 14, 15, 16, 17, 18, 19, 20, 21, 22, 23, 24, 25, 26, 27, 28, 29, 30, 31, 32, 33, 34, 35, 36, 37, 38, 39, 40, 41, 42, 43, 44, 45, 46, 47, 48, 49, 50, 51, 52, 53, 54, 55, 56, 57, 58] (by decide +kernel) (by decide +kernel)) (goodIn_sub (fun _ h => List.mem_cons_of_mem _ (List.mem_append_left _ (List.mem_append_right _ h))) (by decide +kernel))) (goodIn_sub (fun _ h => List.mem_cons_of_mem _ (List.mem_append_right _ h)) (by decide +kernel))
set_option maxRecDepth 20000 in
theorem gX0_areThreesSound_X0_isStraightByAll : GoodIn wsX0_areThreesSound (wsV RX0 191 RX0 yX0_isStraightByAll wsX0_isStraightByAll) := goodIn_app (goodIn_of _ (by decide +kernel)) ggX0_areThreesSound_X0_isStraightByAll
set_option maxRecDepth 20000 in
theorem ggX0_isStraightByAll_X0_stands : GoodIn wsX0_isStraightByAll wsX0_stands := goodIn_r _ [5, 6, 7, 8, 4, 9, 49, 50, 51, 52, 53, 54] (by decide +kernel) (by decide +kernel)
set_option maxRecDepth 20000 in
theorem gX0_isStraightByAll_X0_stands : GoodIn wsX0_isStraightByAll (wsV RX0 46 RX0 yX0_stands wsX0_stands) := goodIn_app (goodIn_of _ (by decide +kernel)) ggX0_isStraightByAll_X0_stands
set_option maxRecDepth 20000 in
theorem ggX0_isStraightByAll_X0_isStraight : GoodIn wsX0_isStraightByAll wsX0_isStraight := goodIn_ca (goodIn_ca (goodIn_r _ [13, 14, 15, 4, 16, 17, 18, 7, 8, 9, 19, 20, 21, 22, 23, 24, 1, 2, 3, 5, 6, 25, 26, 27, 28, 29, 30, 31, 32, 33, 34, 35, 36, 37, 38, 39, 40, 41, 42, 43, 44, 45, 46, 47, 48, 49, 50, 51, 52, 53, 54] (by decide +kernel) (by decide +kernel)) (goodIn_sub (fun _ h => List.mem_cons_of_mem _ (List.mem_append_left _ (List.mem_append_right _ h))) (by decide +kernel))) (goodIn_sub (fun _ h => List.mem_cons_of_mem _ (List.mem_append_right _ h)) (by decide +kernel))
set_option maxRecDepth 20000 in
theorem gX0_isStraightByAll_X0_isStraight : GoodIn wsX0_isStraightByAll (wsV RX0 194 RX0 yX0_isStraight wsX0_isStraight) := goodIn_app (goodIn_of _ (by decide +kernel)) ggX0_isStraightByAll_X0_isStraight
set_option maxRecDepth 20000 in
theorem ggX0_isAreaSound_X0_doubleArea : GoodIn wsX0_isAreaSound wsX0_doubleArea := goodIn_r _ [9, 10, 11, 12, 13, 8, 14, 15, 16, 17, 18, 19, 20, 21, 22, 23, 24, 25, 26, 27, 28, 29, 30, 31, 32, 89, 90, 91, 92, 93, 94] (by decide +kernel) (by decide +kernel)
set_option maxRecDepth 20000 in
theorem gX0_isAreaSound_X0_doubleArea : GoodIn wsX0_isAreaSound (wsV RX0 150 RX0 yX0_doubleArea wsX0_doubleArea) := goodIn_app (goodIn_of _ (by decide +kernel)) ggX0_isAreaSound_X0_doubleArea
set_option maxRecDepth 20000 in
theorem ggX0_isAreaSound_X0_isNumber : GoodIn wsX0_isAreaSound wsX0_isNumber := goodIn_r _ [35] (by decide +kernel) (by decide +kernel)
set_option maxRecDepth 20000 in
theorem gX0_isAreaSound_X0_isNumber : GoodIn wsX0_isAreaSound (va_wsS RX0 159 yX0_isNumber wsX0_isNumber) := goodIn_app (goodIn_of _ (by decide +kernel)) ggX0_isAreaSound_X0_isNumber
set_option maxRecDepth 20000 in
theorem ggX0_isAreaSound_X0_isRootSound : GoodIn wsX0_isAreaSound wsX0_isRootSound := goodIn_ca (goodIn_r _ [39, 40, 41, 42, 8, 43, 44, 45, 46, 47, 48, 49, 33, 34, 35, 50, 51, 52, 53, 54, 55, 56, 57, 58, 59, 60, 61, 62, 63, 64, 65, 66, 67, 68, 69, 70, 71, 72, 73, 74, 75, 76, 77, 78, 79, 80, 81] (by decide +kernel) (by decide +kernel)) (goodIn_sub (fun _ h => List.mem_cons_of_mem _ (List.mem_append_right _ h)) (by decide +kernel))
set_option maxRecDepth 20000 in
theorem gX0_isAreaSound_X0_isRootSound : GoodIn wsX0_isAreaSound (wsV RX0 198 RX0 yX0_isRootSound wsX0_isRootSound) := goodIn_app (goodIn_of _ (by decide +kernel)) ggX0_isAreaSound_X0_isRootSound
set_option maxRecDepth 20000 in
theorem ggX0_isAreaSound_X0_root : GoodIn wsX0_isAreaSound wsX0_root := goodIn_ca (goodIn_r _ [85, 45, 46, 8, 47, 48, 49, 33, 34, 35, 50, 51, 52, 53, 54, 55, 56, 57, 58, 59, 60, 61, 62, 86, 87, 88, 67, 68, 69, 63, 64, 65, 66] (by decide +kernel) (by decide +kernel)) (goodIn_sub (fun _ h => List.mem_cons_of_mem _ (List.mem_append_right _ h)) (by decide +kernel))
set_option maxRecDepth 20000 in
theorem gX0_isAreaSound_X0_root : GoodIn wsX0_isAreaSound (wsV RX0 201 RX0 yX0_root wsX0_root) := goodIn_app (goodIn_of _ (by decide +kernel)) ggX0_isAreaSound_X0_root
set_option maxRecDepth 20000 in
theorem ggX0_isRootSound_X0_isNearest : GoodIn wsX0_isRootSound wsX0_isNearest := goodIn_ca (goodIn_r _ [5, 6, 7, 8, 4, 9, 10, 11, 12, 13, 14, 15, 16, 17, 18, 19, 20, 21, 22, 23, 24, 25, 26, 27, 28, 29, 30, 31, 32, 33, 34, 35, 36, 37, 38, 39] (by decide +kernel) (by decide +kernel)) (goodIn_sub (fun _ h => List.mem_cons_of_mem _ (List.mem_append_right _ h)) (by decide +kernel))
set_option maxRecDepth 20000 in
theorem gX0_isRootSound_X0_isNearest : GoodIn wsX0_isRootSound (wsV RX0 205 RX0 yX0_isNearest wsX0_isNearest) := goodIn_app (goodIn_of _ (by decide +kernel)) ggX0_isRootSound_X0_isNearest
set_option maxRecDepth 20000 in
theorem ggX0_isRootSound_X0_isHalved : GoodIn wsX0_isRootSound wsX0_isHalved := goodIn_ca (goodIn_r _ [43, 7, 8, 4, 9, 10, 11, 12, 13, 14, 15, 16, 17, 18, 19, 20, 21, 22, 23, 24, 25, 26, 27, 44, 45, 46] (by decide +kernel) (by decide +kernel)) (goodIn_sub (fun _ h => List.mem_cons_of_mem _ (List.mem_append_right _ h)) (by decide +kernel))
set_option maxRecDepth 20000 in
theorem gX0_isRootSound_X0_isHalved : GoodIn wsX0_isRootSound (wsV RX0 209 RX0 yX0_isHalved wsX0_isHalved) := goodIn_app (goodIn_of _ (by decide +kernel)) ggX0_isRootSound_X0_isHalved
set_option maxRecDepth 20000 in
theorem ggX0_requirePeg_X0_isPeg : GoodIn wsX0_requirePeg wsX0_isPeg := goodIn_r _ [6] (by decide +kernel) (by decide +kernel)
set_option maxRecDepth 20000 in
theorem gX0_requirePeg_X0_isPeg : GoodIn wsX0_requirePeg (va_wsS RX0 64 yX0_isPeg wsX0_isPeg) := goodIn_app (goodIn_of _ (by decide +kernel)) ggX0_requirePeg_X0_isPeg
set_option maxRecDepth 20000 in
theorem ggX0_requireStanding_X0_stands : GoodIn wsX0_requireStanding wsX0_stands := goodIn_r _ [7, 8, 9, 10, 6, 11, 12, 13, 14, 15, 16, 17] (by decide +kernel) (by decide +kernel)
set_option maxRecDepth 20000 in
theorem gX0_requireStanding_X0_stands : GoodIn wsX0_requireStanding (wsV RX0 46 RX0 yX0_stands wsX0_stands) := goodIn_app (goodIn_of _ (by decide +kernel)) ggX0_requireStanding_X0_stands
set_option maxRecDepth 20000 in
theorem ggX0_requireTwo_X0_requirePeg : GoodIn wsX0_requireTwo wsX0_requirePeg := goodIn_ca (goodIn_r _ [4, 5, 6, 7, 8, 3, 9] (by decide +kernel) (by decide +kernel)) (goodIn_sub (fun _ h => List.mem_cons_of_mem _ (List.mem_append_left _ (List.mem_append_right _ h))) (by decide +kernel))
set_option maxRecDepth 20000 in
theorem gX0_requireTwo_X0_requirePeg : GoodIn wsX0_requireTwo (va_wsS RX0 31 yX0_requirePeg wsX0_requirePeg) := goodIn_app (goodIn_of _ (by decide +kernel)) ggX0_requireTwo_X0_requirePeg
set_option maxRecDepth 20000 in
theorem ggX0_requireTwo_X0_requireStanding : GoodIn wsX0_requireTwo wsX0_requireStanding := goodIn_ca (goodIn_r _ [13, 14, 15, 16, 17, 18, 3, 19, 20, 7, 8, 9, 21, 22, 23, 24, 25, 26] (by decide +kernel) (by decide +kernel)) (goodIn_sub (fun _ h => List.mem_cons_of_mem _ (List.mem_append_right _ h)) (by decide +kernel))
set_option maxRecDepth 20000 in
theorem gX0_requireTwo_X0_requireStanding : GoodIn wsX0_requireTwo (wsV RX0 53 RX0 yX0_requireStanding wsX0_requireStanding) := goodIn_app (goodIn_of _ (by decide +kernel)) ggX0_requireTwo_X0_requireStanding
set_option maxRecDepth 20000 in
theorem ggX0_requireNumber_X0_isNumber : GoodIn wsX0_requireNumber wsX0_isNumber := goodIn_r _ [6] (by decide +kernel) (by decide +kernel)
set_option maxRecDepth 20000 in
theorem gX0_requireNumber_X0_isNumber : GoodIn wsX0_requireNumber (va_wsS RX0 159 yX0_isNumber wsX0_isNumber) := goodIn_app (goodIn_of _ (by decide +kernel)) ggX0_requireNumber_X0_isNumber
set_option maxRecDepth 20000 in
theorem ggX0_stands_X0_isPeg : GoodIn wsX0_stands wsX0_isPeg := goodIn_r _ [5] (by decide +kernel) (by decide +kernel)
set_option maxRecDepth 20000 in
theorem gX0_stands_X0_isPeg : GoodIn wsX0_stands (va_wsS RX0 64 yX0_isPeg wsX0_isPeg) := goodIn_app (goodIn_of _ (by decide +kernel)) ggX0_stands_X0_isPeg
set_option maxRecDepth 20000 in
theorem ggX0_across_X0_isPeg : GoodIn wsX0_across wsX0_isPeg := goodIn_r _ [5] (by decide +kernel) (by decide +kernel)
set_option maxRecDepth 20000 in
theorem gX0_across_X0_isPeg : GoodIn wsX0_across (va_wsS RX0 64 yX0_isPeg wsX0_isPeg) := goodIn_app (goodIn_of _ (by decide +kernel)) ggX0_across_X0_isPeg
set_option maxRecDepth 20000 in
theorem ggX0_up_X0_isPeg : GoodIn wsX0_up wsX0_isPeg := goodIn_r _ [5] (by decide +kernel) (by decide +kernel)
set_option maxRecDepth 20000 in
theorem gX0_up_X0_isPeg : GoodIn wsX0_up (va_wsS RX0 64 yX0_isPeg wsX0_isPeg) := goodIn_app (goodIn_of _ (by decide +kernel)) ggX0_up_X0_isPeg
set_option maxRecDepth 20000 in
theorem ggX0_moveTo_X0_isPeg : GoodIn wsX0_moveTo wsX0_isPeg := goodIn_r _ [7] (by decide +kernel) (by decide +kernel)
set_option maxRecDepth 20000 in
theorem gX0_moveTo_X0_isPeg : GoodIn wsX0_moveTo (va_wsS RX0 64 yX0_isPeg wsX0_isPeg) := goodIn_app (goodIn_of _ (by decide +kernel)) ggX0_moveTo_X0_isPeg
set_option maxRecDepth 20000 in
theorem ggX0_isInRing_X0_pegInRing : GoodIn wsX0_isInRing wsX0_pegInRing := goodIn_r _ [6, 7, 8, 9, 10, 11, 12, 13] (by decide +kernel) (by decide +kernel)
set_option maxRecDepth 20000 in
theorem gX0_isInRing_X0_pegInRing : GoodIn wsX0_isInRing (wsV RX0 139 RX0 yX0_pegInRing wsX0_pegInRing) := goodIn_app (goodIn_of _ (by decide +kernel)) ggX0_isInRing_X0_pegInRing
set_option maxRecDepth 20000 in
theorem ggX0_nearestOther_X0_stands : GoodIn wsX0_nearestOther wsX0_stands := goodIn_r _ [5, 6, 7, 8, 4, 9, 34, 35, 36, 37, 38, 39] (by decide +kernel) (by decide +kernel)
set_option maxRecDepth 20000 in
theorem gX0_nearestOther_X0_stands : GoodIn wsX0_nearestOther (wsV RX0 46 RX0 yX0_stands wsX0_stands) := goodIn_app (goodIn_of _ (by decide +kernel)) ggX0_nearestOther_X0_stands
set_option maxRecDepth 20000 in
theorem ggX0_nearestOther_X0_stretchGrains : GoodIn wsX0_nearestOther wsX0_stretchGrains := goodIn_r _ [13, 14, 15, 16, 17, 4, 18, 19, 7, 8, 9, 20, 21, 22, 23, 24, 25, 26, 27, 28, 29, 30, 31, 32, 33, 34, 35, 36, 37, 38, 39] (by decide +kernel) (by decide +kernel)
set_option maxRecDepth 20000 in
theorem gX0_nearestOther_X0_stretchGrains : GoodIn wsX0_nearestOther (wsV RX0 80 RX0 yX0_stretchGrains wsX0_stretchGrains) := goodIn_app (goodIn_of _ (by decide +kernel)) ggX0_nearestOther_X0_stretchGrains
set_option maxRecDepth 20000 in
theorem ggX0_stretchGrains_X0_across : GoodIn wsX0_stretchGrains wsX0_across := goodIn_r _ [6, 7, 8, 9, 5, 10, 25, 26, 27, 28, 29, 30] (by decide +kernel) (by decide +kernel)
set_option maxRecDepth 20000 in
theorem gX0_stretchGrains_X0_across : GoodIn wsX0_stretchGrains (wsV RX0 69 RX0 yX0_across wsX0_across) := goodIn_app (goodIn_of _ (by decide +kernel)) ggX0_stretchGrains_X0_across
set_option maxRecDepth 20000 in
theorem ggX0_stretchGrains_X0_up : GoodIn wsX0_stretchGrains wsX0_up := goodIn_r _ [14, 15, 8, 9, 5, 10, 25, 26, 27, 28, 29, 30] (by decide +kernel) (by decide +kernel)
set_option maxRecDepth 20000 in
theorem gX0_stretchGrains_X0_up : GoodIn wsX0_stretchGrains (wsV RX0 73 RX0 yX0_up wsX0_up) := goodIn_app (goodIn_of _ (by decide +kernel)) ggX0_stretchGrains_X0_up
set_option maxRecDepth 20000 in
theorem ggX0_stretchGrains_X0_squareSum : GoodIn wsX0_stretchGrains wsX0_squareSum := goodIn_r _ [18] (by decide +kernel) (by decide +kernel)
set_option maxRecDepth 20000 in
theorem gX0_stretchGrains_X0_squareSum : GoodIn wsX0_stretchGrains (va_wsS RX0 92 yX0_squareSum wsX0_squareSum) := goodIn_app (goodIn_of _ (by decide +kernel)) ggX0_stretchGrains_X0_squareSum
set_option maxRecDepth 20000 in
theorem ggX0_stretchGrains_X0_grainsOfRoot : GoodIn wsX0_stretchGrains wsX0_grainsOfRoot := goodIn_r _ [21, 22, 23, 5, 24] (by decide +kernel) (by decide +kernel)
set_option maxRecDepth 20000 in
theorem gX0_stretchGrains_X0_grainsOfRoot : GoodIn wsX0_stretchGrains (va_wsS RX0 119 yX0_grainsOfRoot wsX0_grainsOfRoot) := goodIn_app (goodIn_of _ (by decide +kernel)) ggX0_stretchGrains_X0_grainsOfRoot
set_option maxRecDepth 20000 in
theorem ggX0_hypotenuseBits_X0_squareSum : GoodIn wsX0_hypotenuseBits wsX0_squareSum := goodIn_r _ [4] (by decide +kernel) (by decide +kernel)
set_option maxRecDepth 20000 in
theorem gX0_hypotenuseBits_X0_squareSum : GoodIn wsX0_hypotenuseBits (va_wsS RX0 92 yX0_squareSum wsX0_squareSum) := goodIn_app (goodIn_of _ (by decide +kernel)) ggX0_hypotenuseBits_X0_squareSum
set_option maxRecDepth 20000 in
theorem ggX0_hypotenuseBits_X0_bitsOfRoot : GoodIn wsX0_hypotenuseBits wsX0_bitsOfRoot := goodIn_r _ [7, 8, 9, 10, 3, 11, 12, 13, 14] (by decide +kernel) (by decide +kernel)
set_option maxRecDepth 20000 in
theorem gX0_hypotenuseBits_X0_bitsOfRoot : GoodIn wsX0_hypotenuseBits (va_wsS RX0 122 yX0_bitsOfRoot wsX0_bitsOfRoot) := goodIn_app (goodIn_of _ (by decide +kernel)) ggX0_hypotenuseBits_X0_bitsOfRoot
set_option maxRecDepth 20000 in
theorem ggX0_wholePart_X0_rootDigits : GoodIn wsX0_wholePart wsX0_rootDigits := goodIn_r _ [4] (by decide +kernel) (by decide +kernel)
set_option maxRecDepth 20000 in
theorem gX0_wholePart_X0_rootDigits : GoodIn wsX0_wholePart (va_wsS RX0 221 yX0_rootDigits wsX0_rootDigits) := goodIn_app (goodIn_of _ (by decide +kernel)) ggX0_wholePart_X0_rootDigits
set_option maxRecDepth 20000 in
theorem ggX0_grainsOfRoot_X0_rootDigits : GoodIn wsX0_grainsOfRoot wsX0_rootDigits := goodIn_r _ [4] (by decide +kernel) (by decide +kernel)
set_option maxRecDepth 20000 in
theorem gX0_grainsOfRoot_X0_rootDigits : GoodIn wsX0_grainsOfRoot (va_wsS RX0 221 yX0_rootDigits wsX0_rootDigits) := goodIn_app (goodIn_of _ (by decide +kernel)) ggX0_grainsOfRoot_X0_rootDigits
set_option maxRecDepth 20000 in
theorem ggX0_bitsOfRoot_X0_highestPair : GoodIn wsX0_bitsOfRoot wsX0_highestPair := goodIn_r _ [5] (by decide +kernel) (by decide +kernel)
set_option maxRecDepth 20000 in
theorem gX0_bitsOfRoot_X0_highestPair : GoodIn wsX0_bitsOfRoot (va_wsS RX0 225 yX0_highestPair wsX0_highestPair) := goodIn_app (goodIn_of _ (by decide +kernel)) ggX0_bitsOfRoot_X0_highestPair
set_option maxRecDepth 20000 in
theorem ggX0_bitsOfRoot_X0_rootDigits : GoodIn wsX0_bitsOfRoot wsX0_rootDigits := goodIn_r _ [8] (by decide +kernel) (by decide +kernel)
set_option maxRecDepth 20000 in
theorem gX0_bitsOfRoot_X0_rootDigits : GoodIn wsX0_bitsOfRoot (va_wsS RX0 221 yX0_rootDigits wsX0_rootDigits) := goodIn_app (goodIn_of _ (by decide +kernel)) ggX0_bitsOfRoot_X0_rootDigits
set_option maxRecDepth 20000 in
theorem ggX0_doubleOf_X0_placesAfterPoint : GoodIn wsX0_doubleOf wsX0_placesAfterPoint := goodIn_r _ [4] (by decide +kernel) (by decide +kernel)
set_option maxRecDepth 20000 in
theorem gX0_doubleOf_X0_placesAfterPoint : GoodIn wsX0_doubleOf (va_wsS RX0 99 yX0_placesAfterPoint wsX0_placesAfterPoint) := goodIn_app (goodIn_of _ (by decide +kernel)) ggX0_doubleOf_X0_placesAfterPoint
set_option maxRecDepth 20000 in
theorem ggX0_doubleOf_X0_unitsOf : GoodIn wsX0_doubleOf wsX0_unitsOf := goodIn_r _ [7, 8, 9] (by decide +kernel) (by decide +kernel)
set_option maxRecDepth 20000 in
theorem gX0_doubleOf_X0_unitsOf : GoodIn wsX0_doubleOf (va_wsS RX0 96 yX0_unitsOf wsX0_unitsOf) := goodIn_app (goodIn_of _ (by decide +kernel)) ggX0_doubleOf_X0_unitsOf
