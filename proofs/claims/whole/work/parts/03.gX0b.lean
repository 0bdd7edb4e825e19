set_option maxRecDepth 20000 in
theorem ggX0_rank_X0_stretchGrains : GoodIn wsX0_rank wsX0_stretchGrains := goodIn_r _ [28, 29, 30, 31, 32, 4, 33, 34, 11, 12, 13, 35, 36, 37, 38, 39, 40, 41, 42, 43, 44, 45, 46, 47, 48, 49, 50, 51, 52, 53, 54] (by decide +kernel) (by decide +kernel)
set_option maxRecDepth 20000 in
theorem gX0_rank_X0_stretchGrains : GoodIn wsX0_rank (wsV RX0 80 RX0 yX0_stretchGrains wsX0_stretchGrains) := goodIn_app (goodIn_of _ (by decide +kernel)) ggX0_rank_X0_stretchGrains
set_option maxRecDepth 20000 in
theorem ggX0_rank_X0_stands : GoodIn wsX0_rank wsX0_stands := goodIn_r _ [23, 24, 11, 12, 4, 13, 49, 50, 51, 52, 53, 54] (by decide +kernel) (by decide +kernel)
set_option maxRecDepth 20000 in
theorem gX0_rank_X0_stands : GoodIn wsX0_rank (wsV RX0 46 RX0 yX0_stands wsX0_stands) := goodIn_app (goodIn_of _ (by decide +kernel)) ggX0_rank_X0_stands
set_option maxRecDepth 20000 in
theorem ggX0_isIn_X0_requireTwo : GoodIn wsX0_isIn wsX0_requireTwo := goodIn_ca (goodIn_ca (goodIn_r _ [5, 6, 7, 4, 8, 9, 10, 11, 12, 13, 14, 15, 16, 17, 18, 19, 20, 21, 22, 23, 24, 60, 61, 62, 63, 64, 65] (by decide +kernel) (by decide +kernel)) (goodIn_sub (fun _ h => List.mem_cons_of_mem _ (List.mem_append_left _ (List.mem_append_left _ (List.mem_append_right _ h)))) (by decide +kernel))) (goodIn_sub (fun _ h => List.mem_cons_of_mem _ (List.mem_append_left _ (List.mem_append_right _ h))) (by decide +kernel))
set_option maxRecDepth 20000 in
theorem gX0_isIn_X0_requireTwo : GoodIn wsX0_isIn (wsV RX0 76 RX0 yX0_requireTwo wsX0_requireTwo) := goodIn_app (goodIn_of _ (by decide +kernel)) ggX0_isIn_X0_requireTwo
set_option maxRecDepth 20000 in
theorem ggX0_isIn_X0_requireNumber : GoodIn wsX0_isIn wsX0_requireNumber := goodIn_ca (goodIn_r _ [27, 28, 29, 30, 31, 4, 32] (by decide +kernel) (by decide +kernel)) (goodIn_sub (fun _ h => List.mem_cons_of_mem _ (List.mem_append_right _ h)) (by decide +kernel))
set_option maxRecDepth 20000 in
theorem gX0_isIn_X0_requireNumber : GoodIn wsX0_isIn (va_wsS RX0 112 yX0_requireNumber wsX0_requireNumber) := goodIn_app (goodIn_of _ (by decide +kernel)) ggX0_isIn_X0_requireNumber
set_option maxRecDepth 20000 in
theorem ggX0_isIn_X0_stretchGrains : GoodIn wsX0_isIn wsX0_stretchGrains := goodIn_r _ [36, 37, 38, 39, 40, 4, 41, 42, 11, 12, 13, 43, 44, 45, 46, 47, 48, 49, 50, 51, 52, 53, 54, 55, 56, 60, 61, 62, 63, 64, 65] (by decide +kernel) (by decide +kernel)
set_option maxRecDepth 20000 in
theorem gX0_isIn_X0_stretchGrains : GoodIn wsX0_isIn (wsV RX0 80 RX0 yX0_stretchGrains wsX0_stretchGrains) := goodIn_app (goodIn_of _ (by decide +kernel)) ggX0_isIn_X0_stretchGrains
set_option maxRecDepth 20000 in
theorem ggX0_isIn_X0_sixteenthsOf : GoodIn wsX0_isIn wsX0_sixteenthsOf := goodIn_r _ [59] (by decide +kernel) (by decide +kernel)
set_option maxRecDepth 20000 in
theorem gX0_isIn_X0_sixteenthsOf : GoodIn wsX0_isIn (va_wsS RX0 115 yX0_sixteenthsOf wsX0_sixteenthsOf) := goodIn_app (goodIn_of _ (by decide +kernel)) ggX0_isIn_X0_sixteenthsOf
set_option maxRecDepth 20000 in
theorem ggX0_isIn_X0_grainsOfRoot : GoodIn wsX0_isIn wsX0_grainsOfRoot := goodIn_r _ [53, 54, 55, 4, 56] (by decide +kernel) (by decide +kernel)
set_option maxRecDepth 20000 in
theorem gX0_isIn_X0_grainsOfRoot : GoodIn wsX0_isIn (va_wsS RX0 119 yX0_grainsOfRoot wsX0_grainsOfRoot) := goodIn_app (goodIn_of _ (by decide +kernel)) ggX0_isIn_X0_grainsOfRoot
set_option maxRecDepth 20000 in
theorem ggX0_root_X0_requireNumber : GoodIn wsX0_root wsX0_requireNumber := goodIn_ca (goodIn_r _ [4, 5, 6, 7, 8, 3, 9] (by decide +kernel) (by decide +kernel)) (goodIn_sub (fun _ h => List.mem_cons_of_mem _ (List.mem_append_right _ h)) (by decide +kernel))
set_option maxRecDepth 20000 in
theorem gX0_root_X0_requireNumber : GoodIn wsX0_root (va_wsS RX0 112 yX0_requireNumber wsX0_requireNumber) := goodIn_app (goodIn_of _ (by decide +kernel)) ggX0_root_X0_requireNumber
set_option maxRecDepth 20000 in
theorem ggX0_root_X0_sixteenthsOf : GoodIn wsX0_root wsX0_sixteenthsOf := goodIn_r _ [12] (by decide +kernel) (by decide +kernel)
set_option maxRecDepth 20000 in
theorem gX0_root_X0_sixteenthsOf : GoodIn wsX0_root (va_wsS RX0 115 yX0_sixteenthsOf wsX0_sixteenthsOf) := goodIn_app (goodIn_of _ (by decide +kernel)) ggX0_root_X0_sixteenthsOf
set_option maxRecDepth 20000 in
theorem ggX0_root_X0_bitsOfRoot : GoodIn wsX0_root wsX0_bitsOfRoot := goodIn_r _ [15, 16, 17, 18, 3, 19, 20, 21, 22] (by decide +kernel) (by decide +kernel)
set_option maxRecDepth 20000 in
theorem gX0_root_X0_bitsOfRoot : GoodIn wsX0_root (va_wsS RX0 122 yX0_bitsOfRoot wsX0_bitsOfRoot) := goodIn_app (goodIn_of _ (by decide +kernel)) ggX0_root_X0_bitsOfRoot
set_option maxRecDepth 20000 in
theorem ggX0_root_X0_doubleOf : GoodIn wsX0_root wsX0_doubleOf := goodIn_r _ [25, 26, 27, 3, 28, 29, 30, 31, 32, 16] (by decide +kernel) (by decide +kernel)
set_option maxRecDepth 20000 in
theorem gX0_root_X0_doubleOf : GoodIn wsX0_root (va_wsS RX0 126 yX0_doubleOf wsX0_doubleOf) := goodIn_app (goodIn_of _ (by decide +kernel)) ggX0_root_X0_doubleOf
set_option maxRecDepth 20000 in
theorem ggX0_rootBits_X0_requireNumber : GoodIn wsX0_rootBits wsX0_requireNumber := goodIn_ca (goodIn_r _ [4, 5, 6, 7, 8, 3, 9] (by decide +kernel) (by decide +kernel)) (goodIn_sub (fun _ h => List.mem_cons_of_mem _ (List.mem_append_right _ h)) (by decide +kernel))
set_option maxRecDepth 20000 in
theorem gX0_rootBits_X0_requireNumber : GoodIn wsX0_rootBits (va_wsS RX0 112 yX0_requireNumber wsX0_requireNumber) := goodIn_app (goodIn_of _ (by decide +kernel)) ggX0_rootBits_X0_requireNumber
set_option maxRecDepth 20000 in
theorem ggX0_rootBits_X0_sixteenthsOf : GoodIn wsX0_rootBits wsX0_sixteenthsOf := goodIn_r _ [12] (by decide +kernel) (by decide +kernel)
set_option maxRecDepth 20000 in
theorem gX0_rootBits_X0_sixteenthsOf : GoodIn wsX0_rootBits (va_wsS RX0 115 yX0_sixteenthsOf wsX0_sixteenthsOf) := goodIn_app (goodIn_of _ (by decide +kernel)) ggX0_rootBits_X0_sixteenthsOf
set_option maxRecDepth 20000 in
theorem ggX0_rootBits_X0_bitsOfRoot : GoodIn wsX0_rootBits wsX0_bitsOfRoot := goodIn_r _ [15, 16, 17, 18, 3, 19, 20, 21, 22] (by decide +kernel) (by decide +kernel)
set_option maxRecDepth 20000 in
theorem gX0_rootBits_X0_bitsOfRoot : GoodIn wsX0_rootBits (va_wsS RX0 122 yX0_bitsOfRoot wsX0_bitsOfRoot) := goodIn_app (goodIn_of _ (by decide +kernel)) ggX0_rootBits_X0_bitsOfRoot
set_option maxRecDepth 20000 in
theorem ggX0_rootGrains_X0_requireNumber : GoodIn wsX0_rootGrains wsX0_requireNumber := goodIn_ca (goodIn_r _ [4, 5, 6, 7, 8, 3, 9] (by decide +kernel) (by decide +kernel)) (goodIn_sub (fun _ h => List.mem_cons_of_mem _ (List.mem_append_right _ h)) (by decide +kernel))
set_option maxRecDepth 20000 in
theorem gX0_rootGrains_X0_requireNumber : GoodIn wsX0_rootGrains (va_wsS RX0 112 yX0_requireNumber wsX0_requireNumber) := goodIn_app (goodIn_of _ (by decide +kernel)) ggX0_rootGrains_X0_requireNumber
set_option maxRecDepth 20000 in
theorem ggX0_rootGrains_X0_sixteenthsOf : GoodIn wsX0_rootGrains wsX0_sixteenthsOf := goodIn_r _ [12] (by decide +kernel) (by decide +kernel)
set_option maxRecDepth 20000 in
theorem gX0_rootGrains_X0_sixteenthsOf : GoodIn wsX0_rootGrains (va_wsS RX0 115 yX0_sixteenthsOf wsX0_sixteenthsOf) := goodIn_app (goodIn_of _ (by decide +kernel)) ggX0_rootGrains_X0_sixteenthsOf
set_option maxRecDepth 20000 in
theorem ggX0_rootGrains_X0_grainsOfRoot : GoodIn wsX0_rootGrains wsX0_grainsOfRoot := goodIn_r _ [15, 16, 17, 3, 18] (by decide +kernel) (by decide +kernel)
set_option maxRecDepth 20000 in
theorem gX0_rootGrains_X0_grainsOfRoot : GoodIn wsX0_rootGrains (va_wsS RX0 119 yX0_grainsOfRoot wsX0_grainsOfRoot) := goodIn_app (goodIn_of _ (by decide +kernel)) ggX0_rootGrains_X0_grainsOfRoot
set_option maxRecDepth 20000 in
theorem ggX0_wholeRoot_X0_requireNumber : GoodIn wsX0_wholeRoot wsX0_requireNumber := goodIn_ca (goodIn_r _ [4, 5, 6, 7, 8, 3, 9] (by decide +kernel) (by decide +kernel)) (goodIn_sub (fun _ h => List.mem_cons_of_mem _ (List.mem_append_right _ h)) (by decide +kernel))
set_option maxRecDepth 20000 in
theorem gX0_wholeRoot_X0_requireNumber : GoodIn wsX0_wholeRoot (va_wsS RX0 112 yX0_requireNumber wsX0_requireNumber) := goodIn_app (goodIn_of _ (by decide +kernel)) ggX0_wholeRoot_X0_requireNumber
set_option maxRecDepth 20000 in
theorem ggX0_wholeRoot_X0_wholePart : GoodIn wsX0_wholeRoot wsX0_wholePart := goodIn_r _ [12, 13, 14, 3, 15] (by decide +kernel) (by decide +kernel)
set_option maxRecDepth 20000 in
theorem gX0_wholeRoot_X0_wholePart : GoodIn wsX0_wholeRoot (va_wsS RX0 130 yX0_wholePart wsX0_wholePart) := goodIn_app (goodIn_of _ (by decide +kernel)) ggX0_wholeRoot_X0_wholePart
set_option maxRecDepth 20000 in
theorem ggX0_isNearest_X0_requireNumber : GoodIn wsX0_isNearest wsX0_requireNumber := goodIn_ca (goodIn_r _ [5, 6, 7, 8, 9, 4, 10] (by decide +kernel) (by decide +kernel)) (goodIn_sub (fun _ h => List.mem_cons_of_mem _ (List.mem_append_right _ h)) (by decide +kernel))
set_option maxRecDepth 20000 in
theorem gX0_isNearest_X0_requireNumber : GoodIn wsX0_isNearest (va_wsS RX0 112 yX0_requireNumber wsX0_requireNumber) := goodIn_app (goodIn_of _ (by decide +kernel)) ggX0_isNearest_X0_requireNumber
set_option maxRecDepth 20000 in
theorem ggX0_isNearest_X0_sixteenthsOf : GoodIn wsX0_isNearest wsX0_sixteenthsOf := goodIn_r _ [13] (by decide +kernel) (by decide +kernel)
set_option maxRecDepth 20000 in
theorem gX0_isNearest_X0_sixteenthsOf : GoodIn wsX0_isNearest (va_wsS RX0 115 yX0_sixteenthsOf wsX0_sixteenthsOf) := goodIn_app (goodIn_of _ (by decide +kernel)) ggX0_isNearest_X0_sixteenthsOf
set_option maxRecDepth 20000 in
theorem ggX0_isNearest_X0_bitsOfRoot : GoodIn wsX0_isNearest wsX0_bitsOfRoot := goodIn_r _ [16, 17, 18, 19, 4, 20, 21, 22, 23] (by decide +kernel) (by decide +kernel)
set_option maxRecDepth 20000 in
theorem gX0_isNearest_X0_bitsOfRoot : GoodIn wsX0_isNearest (va_wsS RX0 122 yX0_bitsOfRoot wsX0_bitsOfRoot) := goodIn_app (goodIn_of _ (by decide +kernel)) ggX0_isNearest_X0_bitsOfRoot
set_option maxRecDepth 20000 in
theorem ggX0_isNearest_X0_unitsOf : GoodIn wsX0_isNearest wsX0_unitsOf := goodIn_r _ [26, 27, 17] (by decide +kernel) (by decide +kernel)
set_option maxRecDepth 20000 in
theorem gX0_isNearest_X0_unitsOf : GoodIn wsX0_isNearest (va_wsS RX0 96 yX0_unitsOf wsX0_unitsOf) := goodIn_app (goodIn_of _ (by decide +kernel)) ggX0_isNearest_X0_unitsOf
set_option maxRecDepth 20000 in
theorem ggX0_isNearest_X0_placesAfterPoint : GoodIn wsX0_isNearest wsX0_placesAfterPoint := goodIn_r _ [30] (by decide +kernel) (by decide +kernel)
set_option maxRecDepth 20000 in
theorem gX0_isNearest_X0_placesAfterPoint : GoodIn wsX0_isNearest (va_wsS RX0 99 yX0_placesAfterPoint wsX0_placesAfterPoint) := goodIn_app (goodIn_of _ (by decide +kernel)) ggX0_isNearest_X0_placesAfterPoint
set_option maxRecDepth 20000 in
theorem ggX0_isNearest_X0_compareSquare : GoodIn wsX0_isNearest wsX0_compareSquare := goodIn_r _ [33, 34, 1, 35] (by decide +kernel) (by decide +kernel)
set_option maxRecDepth 20000 in
theorem gX0_isNearest_X0_compareSquare : GoodIn wsX0_isNearest (va_wsS RX0 103 yX0_compareSquare wsX0_compareSquare) := goodIn_app (goodIn_of _ (by decide +kernel)) ggX0_isNearest_X0_compareSquare
set_option maxRecDepth 20000 in
theorem ggX0_isHalved_X0_requireNumber : GoodIn wsX0_isHalved wsX0_requireNumber := goodIn_ca (goodIn_r _ [4, 5, 6, 7, 8, 3, 9] (by decide +kernel) (by decide +kernel)) (goodIn_sub (fun _ h => List.mem_cons_of_mem _ (List.mem_append_right _ h)) (by decide +kernel))
set_option maxRecDepth 20000 in
theorem gX0_isHalved_X0_requireNumber : GoodIn wsX0_isHalved (va_wsS RX0 112 yX0_requireNumber wsX0_requireNumber) := goodIn_app (goodIn_of _ (by decide +kernel)) ggX0_isHalved_X0_requireNumber
set_option maxRecDepth 20000 in
theorem ggX0_isHalved_X0_sixteenthsOf : GoodIn wsX0_isHalved wsX0_sixteenthsOf := goodIn_r _ [12] (by decide +kernel) (by decide +kernel)
set_option maxRecDepth 20000 in
theorem gX0_isHalved_X0_sixteenthsOf : GoodIn wsX0_isHalved (va_wsS RX0 115 yX0_sixteenthsOf wsX0_sixteenthsOf) := goodIn_app (goodIn_of _ (by decide +kernel)) ggX0_isHalved_X0_sixteenthsOf
set_option maxRecDepth 20000 in
theorem ggX0_isHalved_X0_bitsOfRoot : GoodIn wsX0_isHalved wsX0_bitsOfRoot := goodIn_r _ [15, 16, 17, 18, 3, 19, 20, 21, 22] (by decide +kernel) (by decide +kernel)
set_option maxRecDepth 20000 in
theorem gX0_isHalved_X0_bitsOfRoot : GoodIn wsX0_isHalved (va_wsS RX0 122 yX0_bitsOfRoot wsX0_bitsOfRoot) := goodIn_app (goodIn_of _ (by decide +kernel)) ggX0_isHalved_X0_bitsOfRoot
set_option maxRecDepth 20000 in
theorem ggX0_isHalved_X0_twice : GoodIn wsX0_isHalved wsX0_twice := goodIn_r _ [25, 16] (by decide +kernel) (by decide +kernel)
set_option maxRecDepth 20000 in
theorem gX0_isHalved_X0_twice : GoodIn wsX0_isHalved (va_wsS RX0 88 yX0_twice wsX0_twice) := goodIn_app (goodIn_of _ (by decide +kernel)) ggX0_isHalved_X0_twice
set_option maxRecDepth 20000 in
theorem ggX0_between_X0_requireNumber : GoodIn wsX0_between wsX0_requireNumber := goodIn_ca (goodIn_r _ [4, 5, 6, 7, 8, 3, 9] (by decide +kernel) (by decide +kernel)) (goodIn_sub (fun _ h => List.mem_cons_of_mem _ (List.mem_append_right _ h)) (by decide +kernel))
set_option maxRecDepth 20000 in
theorem gX0_between_X0_requireNumber : GoodIn wsX0_between (va_wsS RX0 112 yX0_requireNumber wsX0_requireNumber) := goodIn_app (goodIn_of _ (by decide +kernel)) ggX0_between_X0_requireNumber
set_option maxRecDepth 20000 in
theorem ggX0_between_X0_wholePart : GoodIn wsX0_between wsX0_wholePart := goodIn_r _ [12, 13, 14, 3, 15] (by decide +kernel) (by decide +kernel)
set_option maxRecDepth 20000 in
theorem gX0_between_X0_wholePart : GoodIn wsX0_between (va_wsS RX0 130 yX0_wholePart wsX0_wholePart) := goodIn_app (goodIn_of _ (by decide +kernel)) ggX0_between_X0_wholePart
set_option maxRecDepth 20000 in
theorem ggX0_join_X0_requirePeg : GoodIn wsX0_join wsX0_requirePeg := goodIn_ca (goodIn_r _ [8, 9, 10, 11, 12, 7, 13] (by decide +kernel) (by decide +kernel)) (goodIn_sub (fun _ h => List.mem_cons_of_mem _ (List.mem_append_left _ (List.mem_append_right _ h))) (by decide +kernel))
set_option maxRecDepth 20000 in
theorem gX0_join_X0_requirePeg : GoodIn wsX0_join (va_wsS RX0 31 yX0_requirePeg wsX0_requirePeg) := goodIn_app (goodIn_of _ (by decide +kernel)) ggX0_join_X0_requirePeg
set_option maxRecDepth 20000 in
theorem ggX0_join_X0_requireStanding : GoodIn wsX0_join wsX0_requireStanding := goodIn_ca (goodIn_r _ [17, 18, 19, 20, 21, 22, 7, 23, 24, 11, 12, 13, 25, 26, 27, 28, 29, 30] (by decide +kernel) (by decide +kernel)) (goodIn_sub (fun _ h => List.mem_cons_of_mem _ (List.mem_append_right _ h)) (by decide +kernel))
set_option maxRecDepth 20000 in
theorem gX0_join_X0_requireStanding : GoodIn wsX0_join (wsV RX0 53 RX0 yX0_requireStanding wsX0_requireStanding) := goodIn_app (goodIn_of _ (by decide +kernel)) ggX0_join_X0_requireStanding
set_option maxRecDepth 20000 in
theorem ggX0_unjoin_X0_pegInRing : GoodIn wsX0_unjoin wsX0_pegInRing := goodIn_r _ [8, 9, 10, 11, 12, 13, 14, 15] (by decide +kernel) (by decide +kernel)
set_option maxRecDepth 20000 in
theorem gX0_unjoin_X0_pegInRing : GoodIn wsX0_unjoin (wsV RX0 139 RX0 yX0_pegInRing wsX0_pegInRing) := goodIn_app (goodIn_of _ (by decide +kernel)) ggX0_unjoin_X0_pegInRing
set_option maxRecDepth 20000 in
theorem ggX0_ringAt_X0_pegInRing : GoodIn wsX0_ringAt wsX0_pegInRing := goodIn_r _ [8, 9, 10, 11, 12, 13, 14, 15] (by decide +kernel) (by decide +kernel)
set_option maxRecDepth 20000 in
theorem gX0_ringAt_X0_pegInRing : GoodIn wsX0_ringAt (wsV RX0 139 RX0 yX0_pegInRing wsX0_pegInRing) := goodIn_app (goodIn_of _ (by decide +kernel)) ggX0_ringAt_X0_pegInRing
set_option maxRecDepth 20000 in
theorem ggX0_around_X0_pegInRing : GoodIn wsX0_around wsX0_pegInRing := goodIn_r _ [6, 7, 39, 40, 41, 42, 43, 44] (by decide +kernel) (by decide +kernel)
set_option maxRecDepth 20000 in
theorem gX0_around_X0_pegInRing : GoodIn wsX0_around (wsV RX0 139 RX0 yX0_pegInRing wsX0_pegInRing) := goodIn_app (goodIn_of _ (by decide +kernel)) ggX0_around_X0_pegInRing
set_option maxRecDepth 20000 in
theorem ggX0_around_X0_placeAfter : GoodIn wsX0_around wsX0_placeAfter := goodIn_r _ [11, 1, 39, 40, 41, 42, 43, 44] (by decide +kernel) (by decide +kernel)
set_option maxRecDepth 20000 in
theorem gX0_around_X0_placeAfter : GoodIn wsX0_around (wsV RX0 147 RX0 yX0_placeAfter wsX0_placeAfter) := goodIn_app (goodIn_of _ (by decide +kernel)) ggX0_around_X0_placeAfter
set_option maxRecDepth 20000 in
theorem ggX0_around_X0_stretchGrains : GoodIn wsX0_around wsX0_stretchGrains := goodIn_r _ [15, 16, 17, 18, 19, 5, 20, 21, 22, 23, 24, 25, 26, 27, 28, 29, 30, 31, 32, 33, 34, 35, 36, 37, 38, 39, 40, 41, 42, 43, 44] (by decide +kernel) (by decide +kernel)
set_option maxRecDepth 20000 in
theorem gX0_around_X0_stretchGrains : GoodIn wsX0_around (wsV RX0 80 RX0 yX0_stretchGrains wsX0_stretchGrains) := goodIn_app (goodIn_of _ (by decide +kernel)) ggX0_around_X0_stretchGrains
set_option maxRecDepth 20000 in
theorem ggX0_doubleArea_X0_pegInRing : GoodIn wsX0_doubleArea wsX0_pegInRing := goodIn_r _ [6, 7, 25, 26, 27, 28, 29, 30] (by decide +kernel) (by decide +kernel)
set_option maxRecDepth 20000 in
theorem gX0_doubleArea_X0_pegInRing : GoodIn wsX0_doubleArea (wsV RX0 139 RX0 yX0_pegInRing wsX0_pegInRing) := goodIn_app (goodIn_of _ (by decide +kernel)) ggX0_doubleArea_X0_pegInRing
set_option maxRecDepth 20000 in
theorem ggX0_doubleArea_X0_placeAfter : GoodIn wsX0_doubleArea wsX0_placeAfter := goodIn_r _ [11, 1, 25, 26, 27, 28, 29, 30] (by decide +kernel) (by decide +kernel)
set_option maxRecDepth 20000 in
theorem gX0_doubleArea_X0_placeAfter : GoodIn wsX0_doubleArea (wsV RX0 147 RX0 yX0_placeAfter wsX0_placeAfter) := goodIn_app (goodIn_of _ (by decide +kernel)) ggX0_doubleArea_X0_placeAfter
set_option maxRecDepth 20000 in
theorem ggX0_doubleArea_X0_across : GoodIn wsX0_doubleArea wsX0_across := goodIn_r _ [15, 16, 17, 18, 5, 19, 25, 26, 27, 28, 29, 30] (by decide +kernel) (by decide +kernel)
set_option maxRecDepth 20000 in
theorem gX0_doubleArea_X0_across : GoodIn wsX0_doubleArea (wsV RX0 69 RX0 yX0_across wsX0_across) := goodIn_app (goodIn_of _ (by decide +kernel)) ggX0_doubleArea_X0_across
set_option maxRecDepth 20000 in
theorem ggX0_doubleArea_X0_up : GoodIn wsX0_doubleArea wsX0_up := goodIn_r _ [23, 24, 17, 18, 5, 19, 25, 26, 27, 28, 29, 30] (by decide +kernel) (by decide +kernel)
set_option maxRecDepth 20000 in
theorem gX0_doubleArea_X0_up : GoodIn wsX0_doubleArea (wsV RX0 73 RX0 yX0_up wsX0_up) := goodIn_app (goodIn_of _ (by decide +kernel)) ggX0_doubleArea_X0_up
set_option maxRecDepth 20000 in
theorem ggX0_sideBits_X0_doubleArea : GoodIn wsX0_sideBits wsX0_doubleArea := goodIn_r _ [11, 12, 13, 14, 15, 10, 16, 17, 18, 19, 20, 21, 22, 23, 24, 25, 26, 27, 28, 29, 30, 31, 32, 33, 34, 51, 52, 53, 54, 55, 56] (by decide +kernel) (by decide +kernel)
set_option maxRecDepth 20000 in
theorem gX0_sideBits_X0_doubleArea : GoodIn wsX0_sideBits (wsV RX0 150 RX0 yX0_doubleArea wsX0_doubleArea) := goodIn_app (goodIn_of _ (by decide +kernel)) ggX0_sideBits_X0_doubleArea
set_option maxRecDepth 20000 in
theorem ggX0_sideBits_X0_isNumber : GoodIn wsX0_sideBits wsX0_isNumber := goodIn_r _ [37] (by decide +kernel) (by decide +kernel)
set_option maxRecDepth 20000 in
theorem gX0_sideBits_X0_isNumber : GoodIn wsX0_sideBits (va_wsS RX0 159 yX0_isNumber wsX0_isNumber) := goodIn_app (goodIn_of _ (by decide +kernel)) ggX0_sideBits_X0_isNumber
set_option maxRecDepth 20000 in
theorem ggX0_sideBits_X0_sixteenthsOf : GoodIn wsX0_sideBits wsX0_sixteenthsOf := goodIn_r _ [40] (by decide +kernel) (by decide +kernel)
set_option maxRecDepth 20000 in
theorem gX0_sideBits_X0_sixteenthsOf : GoodIn wsX0_sideBits (va_wsS RX0 115 yX0_sixteenthsOf wsX0_sixteenthsOf) := goodIn_app (goodIn_of _ (by decide +kernel)) ggX0_sideBits_X0_sixteenthsOf
set_option maxRecDepth 20000 in
theorem ggX0_sideBits_X0_bitsOfRoot : GoodIn wsX0_sideBits wsX0_bitsOfRoot := goodIn_r _ [43, 44, 45, 46, 10, 47, 48, 49, 50] (by decide +kernel) (by decide +kernel)
set_option maxRecDepth 20000 in
theorem gX0_sideBits_X0_bitsOfRoot : GoodIn wsX0_sideBits (va_wsS RX0 122 yX0_bitsOfRoot wsX0_bitsOfRoot) := goodIn_app (goodIn_of _ (by decide +kernel)) ggX0_sideBits_X0_bitsOfRoot
set_option maxRecDepth 20000 in
theorem ggX0_checksum_X0_stands : GoodIn wsX0_checksum wsX0_stands := goodIn_r _ [9, 10, 11, 12, 8, 13, 54, 55, 56, 57, 58, 59] (by decide +kernel) (by decide +kernel)
set_option maxRecDepth 20000 in
theorem gX0_checksum_X0_stands : GoodIn wsX0_checksum (wsV RX0 46 RX0 yX0_stands wsX0_stands) := goodIn_app (goodIn_of _ (by decide +kernel)) ggX0_checksum_X0_stands
