set_option maxRecDepth 20000 in
theorem ggX1_isNoNumber_X1_lies : GoodIn wsX1_isNoNumber wsX1_lies := goodIn_r _ [4] (by decide +kernel) (by decide +kernel)
set_option maxRecDepth 20000 in
theorem gX1_isNoNumber_X1_lies : GoodIn wsX1_isNoNumber (va_wsS RX1 27 yX1_lies wsX1_lies) := goodIn_app (goodIn_of _ (by decide +kernel)) ggX1_isNoNumber_X1_lies
set_option maxRecDepth 20000 in
theorem ggX1_isNoNumber_X1_isThrown : GoodIn wsX1_isNoNumber wsX1_isThrown := goodIn_r _ [8, 9, 10, 11, 12, 13, 14, 15, 16] (by decide +kernel) (by decide +kernel)
set_option maxRecDepth 20000 in
theorem gX1_isNoNumber_X1_isThrown : GoodIn wsX1_isNoNumber (wsV RX1 31 RX1 yX1_isThrown wsX1_isThrown) := goodIn_app (goodIn_of _ (by decide +kernel)) ggX1_isNoNumber_X1_isThrown
set_option maxRecDepth 20000 in
theorem ggX1_isNoPeg_X1_isNoNumber : GoodIn wsX1_isNoPeg wsX1_isNoNumber := goodIn_r _ [6, 7, 8, 5, 9, 10, 11, 12, 13, 14, 15, 16, 17, 18, 19, 20, 21] (by decide +kernel) (by decide +kernel)
set_option maxRecDepth 20000 in
theorem gX1_isNoPeg_X1_isNoNumber : GoodIn wsX1_isNoPeg (wsV RX1 35 RX1 yX1_isNoNumber wsX1_isNoNumber) := goodIn_app (goodIn_of _ (by decide +kernel)) ggX1_isNoPeg_X1_isNoNumber
set_option maxRecDepth 20000 in
theorem ggX1_isNoPeg_X1_isThrown : GoodIn wsX1_isNoPeg wsX1_isThrown := goodIn_r _ [13, 14, 15, 16, 17, 18, 19, 20, 21] (by decide +kernel) (by decide +kernel)
set_option maxRecDepth 20000 in
theorem gX1_isNoPeg_X1_isThrown : GoodIn wsX1_isNoPeg (wsV RX1 31 RX1 yX1_isThrown wsX1_isThrown) := goodIn_app (goodIn_of _ (by decide +kernel)) ggX1_isNoPeg_X1_isThrown
set_option maxRecDepth 20000 in
theorem ggX1_isNoPair_X1_isNoNumber : GoodIn wsX1_isNoPair wsX1_isNoNumber := goodIn_r _ [6, 7, 8, 5, 9, 10, 11, 12, 13, 14, 15, 16, 17, 18, 19, 20, 21] (by decide +kernel) (by decide +kernel)
set_option maxRecDepth 20000 in
theorem gX1_isNoPair_X1_isNoNumber : GoodIn wsX1_isNoPair (wsV RX1 35 RX1 yX1_isNoNumber wsX1_isNoNumber) := goodIn_app (goodIn_of _ (by decide +kernel)) ggX1_isNoPair_X1_isNoNumber
set_option maxRecDepth 20000 in
theorem ggX1_isNoPair_X1_isThrown : GoodIn wsX1_isNoPair wsX1_isThrown := goodIn_r _ [13, 14, 15, 16, 17, 18, 19, 20, 21] (by decide +kernel) (by decide +kernel)
set_option maxRecDepth 20000 in
theorem gX1_isNoPair_X1_isThrown : GoodIn wsX1_isNoPair (wsV RX1 31 RX1 yX1_isThrown wsX1_isThrown) := goodIn_app (goodIn_of _ (by decide +kernel)) ggX1_isNoPair_X1_isThrown
set_option maxRecDepth 20000 in
theorem ggX1_isNoAsked_X1_lies : GoodIn wsX1_isNoAsked wsX1_lies := goodIn_r _ [4] (by decide +kernel) (by decide +kernel)
set_option maxRecDepth 20000 in
theorem gX1_isNoAsked_X1_lies : GoodIn wsX1_isNoAsked (va_wsS RX1 27 yX1_lies wsX1_lies) := goodIn_app (goodIn_of _ (by decide +kernel)) ggX1_isNoAsked_X1_lies
set_option maxRecDepth 20000 in
theorem ggX1_isNoAsked_X1_isThrown : GoodIn wsX1_isNoAsked wsX1_isThrown := goodIn_r _ [8, 9, 10, 11, 12, 13, 14, 15, 16] (by decide +kernel) (by decide +kernel)
set_option maxRecDepth 20000 in
theorem gX1_isNoAsked_X1_isThrown : GoodIn wsX1_isNoAsked (wsV RX1 31 RX1 yX1_isThrown wsX1_isThrown) := goodIn_app (goodIn_of _ (by decide +kernel)) ggX1_isNoAsked_X1_isThrown
set_option maxRecDepth 20000 in
theorem ggX1_near_X1_rooted : GoodIn wsX1_near wsX1_rooted := goodIn_r _ [5, 6, 1] (by decide +kernel) (by decide +kernel)
set_option maxRecDepth 20000 in
theorem gX1_near_X1_rooted : GoodIn wsX1_near (va_wsS RX1 43 yX1_rooted wsX1_rooted) := goodIn_app (goodIn_of _ (by decide +kernel)) ggX1_near_X1_rooted
set_option maxRecDepth 20000 in
theorem ggX1_powerOf_X1_rooted : GoodIn wsX1_powerOf wsX1_rooted := goodIn_r _ [4, 5, 6] (by decide +kernel) (by decide +kernel)
set_option maxRecDepth 20000 in
theorem gX1_powerOf_X1_rooted : GoodIn wsX1_powerOf (va_wsS RX1 43 yX1_rooted wsX1_rooted) := goodIn_app (goodIn_of _ (by decide +kernel)) ggX1_powerOf_X1_rooted
set_option maxRecDepth 20000 in
theorem ggX1_bitsOf_X1_powerOf : GoodIn wsX1_bitsOf wsX1_powerOf := goodIn_r _ [7, 8, 9, 6, 10, 11, 12] (by decide +kernel) (by decide +kernel)
set_option maxRecDepth 20000 in
theorem gX1_bitsOf_X1_powerOf : GoodIn wsX1_bitsOf (va_wsS RX1 47 yX1_powerOf wsX1_powerOf) := goodIn_app (goodIn_of _ (by decide +kernel)) ggX1_bitsOf_X1_powerOf
set_option maxRecDepth 20000 in
theorem ggX1_bitsOf_X1_near : GoodIn wsX1_bitsOf wsX1_near := goodIn_r _ [15, 12, 8, 9, 6, 10, 11] (by decide +kernel) (by decide +kernel)
set_option maxRecDepth 20000 in
theorem gX1_bitsOf_X1_near : GoodIn wsX1_bitsOf (va_wsS RX1 55 yX1_near wsX1_near) := goodIn_app (goodIn_of _ (by decide +kernel)) ggX1_bitsOf_X1_near
set_option maxRecDepth 20000 in
theorem ggX1_rootGrainsOf_X1_near : GoodIn wsX1_rootGrainsOf wsX1_near := goodIn_r _ [4, 5, 6, 7, 3, 8, 9] (by decide +kernel) (by decide +kernel)
set_option maxRecDepth 20000 in
theorem gX1_rootGrainsOf_X1_near : GoodIn wsX1_rootGrainsOf (va_wsS RX1 55 yX1_near wsX1_near) := goodIn_app (goodIn_of _ (by decide +kernel)) ggX1_rootGrainsOf_X1_near
set_option maxRecDepth 20000 in
theorem ggX1_wholeOf_X1_rooted : GoodIn wsX1_wholeOf wsX1_rooted := goodIn_r _ [4, 5, 6] (by decide +kernel) (by decide +kernel)
set_option maxRecDepth 20000 in
theorem gX1_wholeOf_X1_rooted : GoodIn wsX1_wholeOf (va_wsS RX1 43 yX1_rooted wsX1_rooted) := goodIn_app (goodIn_of _ (by decide +kernel)) ggX1_wholeOf_X1_rooted
set_option maxRecDepth 20000 in
theorem ggX1_put_X1_isNoNumber : GoodIn wsX1_put wsX1_isNoNumber := goodIn_r _ [8, 9, 10, 7, 11, 12, 13, 14, 15, 16, 17, 18, 19, 20, 21, 22, 23] (by decide +kernel) (by decide +kernel)
set_option maxRecDepth 20000 in
theorem gX1_put_X1_isNoNumber : GoodIn wsX1_put (wsV RX1 35 RX1 yX1_isNoNumber wsX1_isNoNumber) := goodIn_app (goodIn_of _ (by decide +kernel)) ggX1_put_X1_isNoNumber
set_option maxRecDepth 20000 in
theorem ggX1_put_X1_lies : GoodIn wsX1_put wsX1_lies := goodIn_r _ [11] (by decide +kernel) (by decide +kernel)
set_option maxRecDepth 20000 in
theorem gX1_put_X1_lies : GoodIn wsX1_put (va_wsS RX1 27 yX1_lies wsX1_lies) := goodIn_app (goodIn_of _ (by decide +kernel)) ggX1_put_X1_lies
set_option maxRecDepth 20000 in
theorem ggX1_put_X1_isThrown : GoodIn wsX1_put wsX1_isThrown := goodIn_r _ [15, 16, 17, 18, 19, 20, 21, 22, 23] (by decide +kernel) (by decide +kernel)
set_option maxRecDepth 20000 in
theorem gX1_put_X1_isThrown : GoodIn wsX1_put (wsV RX1 31 RX1 yX1_isThrown wsX1_isThrown) := goodIn_app (goodIn_of _ (by decide +kernel)) ggX1_put_X1_isThrown
set_option maxRecDepth 20000 in
theorem ggX1_take_X1_isNoPeg : GoodIn wsX1_take wsX1_isNoPeg := goodIn_r _ [6, 1, 7, 8, 9, 5, 10, 11, 12, 13, 14, 15, 16, 17, 18, 25, 26, 27, 28, 29, 30, 31] (by decide +kernel) (by decide +kernel)
set_option maxRecDepth 20000 in
theorem gX1_take_X1_isNoPeg : GoodIn wsX1_take (wsV RX1 63 RX1 yX1_isNoPeg wsX1_isNoPeg) := goodIn_app (goodIn_of _ (by decide +kernel)) ggX1_take_X1_isNoPeg
set_option maxRecDepth 20000 in
theorem ggX1_take_X1_isInRing : GoodIn wsX1_take wsX1_isInRing := goodIn_r _ [22, 23, 24, 25, 26, 27, 28, 29, 30, 31] (by decide +kernel) (by decide +kernel)
set_option maxRecDepth 20000 in
theorem gX1_take_X1_isInRing : GoodIn wsX1_take (wsV RX1 66 RX1 yX1_isInRing wsX1_isInRing) := goodIn_app (goodIn_of _ (by decide +kernel)) ggX1_take_X1_isInRing
set_option maxRecDepth 20000 in
theorem ggX1_take_X1_isThrown : GoodIn wsX1_take wsX1_isThrown := goodIn_r _ [17, 18, 25, 26, 27, 28, 29, 30, 31] (by decide +kernel) (by decide +kernel)
set_option maxRecDepth 20000 in
theorem gX1_take_X1_isThrown : GoodIn wsX1_take (wsV RX1 31 RX1 yX1_isThrown wsX1_isThrown) := goodIn_app (goodIn_of _ (by decide +kernel)) ggX1_take_X1_isThrown
set_option maxRecDepth 20000 in
theorem ggX1_step_X1_isNoPeg : GoodIn wsX1_step wsX1_isNoPeg := goodIn_r _ [7, 8, 9, 10, 11, 6, 12, 13, 14, 15, 16, 17, 18, 19, 20, 21, 22, 23, 24, 25, 26, 27] (by decide +kernel) (by decide +kernel)
set_option maxRecDepth 20000 in
theorem gX1_step_X1_isNoPeg : GoodIn wsX1_step (wsV RX1 63 RX1 yX1_isNoPeg wsX1_isNoPeg) := goodIn_app (goodIn_of _ (by decide +kernel)) ggX1_step_X1_isNoPeg
set_option maxRecDepth 20000 in
theorem ggX1_step_X1_isThrown : GoodIn wsX1_step wsX1_isThrown := goodIn_r _ [19, 20, 21, 22, 23, 24, 25, 26, 27] (by decide +kernel) (by decide +kernel)
set_option maxRecDepth 20000 in
theorem gX1_step_X1_isThrown : GoodIn wsX1_step (wsV RX1 31 RX1 yX1_isThrown wsX1_isThrown) := goodIn_app (goodIn_of _ (by decide +kernel)) ggX1_step_X1_isThrown
set_option maxRecDepth 20000 in
theorem ggX1_step_X1_lies : GoodIn wsX1_step wsX1_lies := goodIn_r _ [15] (by decide +kernel) (by decide +kernel)
set_option maxRecDepth 20000 in
theorem gX1_step_X1_lies : GoodIn wsX1_step (va_wsS RX1 27 yX1_lies wsX1_lies) := goodIn_app (goodIn_of _ (by decide +kernel)) ggX1_step_X1_lies
set_option maxRecDepth 20000 in
theorem ggX1_isThere_X1_isNoNumber : GoodIn wsX1_isThere wsX1_isNoNumber := goodIn_r _ [6, 7, 8, 5, 9, 10, 11, 12, 13, 14, 15, 16, 17, 18, 19, 20, 21] (by decide +kernel) (by decide +kernel)
set_option maxRecDepth 20000 in
theorem gX1_isThere_X1_isNoNumber : GoodIn wsX1_isThere (wsV RX1 35 RX1 yX1_isNoNumber wsX1_isNoNumber) := goodIn_app (goodIn_of _ (by decide +kernel)) ggX1_isThere_X1_isNoNumber
set_option maxRecDepth 20000 in
theorem ggX1_placeOf_X1_isNoPeg : GoodIn wsX1_placeOf wsX1_isNoPeg := goodIn_r _ [5, 6, 7, 8, 9, 4, 10, 11, 12, 13, 14, 15, 16, 17, 18, 25, 26, 27, 28, 29, 30, 31] (by decide +kernel) (by decide +kernel)
set_option maxRecDepth 20000 in
theorem gX1_placeOf_X1_isNoPeg : GoodIn wsX1_placeOf (wsV RX1 63 RX1 yX1_isNoPeg wsX1_isNoPeg) := goodIn_app (goodIn_of _ (by decide +kernel)) ggX1_placeOf_X1_isNoPeg
set_option maxRecDepth 20000 in
theorem ggX1_placeOf_X1_placed : GoodIn wsX1_placeOf wsX1_placed := goodIn_r _ [22, 23, 24, 25, 26, 27, 28, 29, 30, 31] (by decide +kernel) (by decide +kernel)
set_option maxRecDepth 20000 in
theorem gX1_placeOf_X1_placed : GoodIn wsX1_placeOf (wsV RX1 69 RX1 yX1_placed wsX1_placed) := goodIn_app (goodIn_of _ (by decide +kernel)) ggX1_placeOf_X1_placed
set_option maxRecDepth 20000 in
theorem ggX1_grainsOf_X1_near : GoodIn wsX1_grainsOf wsX1_near := goodIn_r _ [7, 8, 9, 10, 6, 11, 12] (by decide +kernel) (by decide +kernel)
set_option maxRecDepth 20000 in
theorem gX1_grainsOf_X1_near : GoodIn wsX1_grainsOf (va_wsS RX1 55 yX1_near wsX1_near) := goodIn_app (goodIn_of _ (by decide +kernel)) ggX1_grainsOf_X1_near
set_option maxRecDepth 20000 in
theorem ggX1_stretch_X1_isNoPair : GoodIn wsX1_stretch wsX1_isNoPair := goodIn_r _ [5, 6, 7, 8, 9, 4, 10, 11, 12, 13, 14, 15, 16, 17, 18, 34, 35, 36, 37, 38, 39, 40] (by decide +kernel) (by decide +kernel)
set_option maxRecDepth 20000 in
theorem gX1_stretch_X1_isNoPair : GoodIn wsX1_stretch (wsV RX1 76 RX1 yX1_isNoPair wsX1_isNoPair) := goodIn_app (goodIn_of _ (by decide +kernel)) ggX1_stretch_X1_isNoPair
set_option maxRecDepth 20000 in
theorem ggX1_stretch_X1_grainsOf : GoodIn wsX1_stretch wsX1_grainsOf := goodIn_r _ [22, 23, 24, 25, 26, 27, 4, 28, 29, 30, 31, 32, 33, 34, 35, 36, 37, 38, 39, 40] (by decide +kernel) (by decide +kernel)
set_option maxRecDepth 20000 in
theorem gX1_stretch_X1_grainsOf : GoodIn wsX1_stretch (wsV RX1 80 RX1 yX1_grainsOf wsX1_grainsOf) := goodIn_app (goodIn_of _ (by decide +kernel)) ggX1_stretch_X1_grainsOf
set_option maxRecDepth 20000 in
theorem ggX1_isSteady_X1_isNoPair : GoodIn wsX1_isSteady wsX1_isNoPair := goodIn_r _ [5, 6, 7, 8, 9, 4, 10, 11, 12, 13, 14, 15, 16, 17, 18, 19, 20, 21, 22, 23, 24, 25] (by decide +kernel) (by decide +kernel)
set_option maxRecDepth 20000 in
theorem gX1_isSteady_X1_isNoPair : GoodIn wsX1_isSteady (wsV RX1 76 RX1 yX1_isNoPair wsX1_isNoPair) := goodIn_app (goodIn_of _ (by decide +kernel)) ggX1_isSteady_X1_isNoPair
set_option maxRecDepth 20000 in
theorem ggX1_isDoubled_X1_isNoPair : GoodIn wsX1_isDoubled wsX1_isNoPair := goodIn_r _ [5, 6, 7, 8, 9, 4, 10, 11, 12, 13, 14, 15, 16, 17, 18, 19, 20, 21, 22, 23, 24, 25] (by decide +kernel) (by decide +kernel)
set_option maxRecDepth 20000 in
theorem gX1_isDoubled_X1_isNoPair : GoodIn wsX1_isDoubled (wsV RX1 76 RX1 yX1_isNoPair wsX1_isNoPair) := goodIn_app (goodIn_of _ (by decide +kernel)) ggX1_isDoubled_X1_isNoPair
set_option maxRecDepth 20000 in
theorem ggX1_isClose_X1_isNoPair : GoodIn wsX1_isClose wsX1_isNoPair := goodIn_r _ [5, 6, 7, 8, 9, 4, 10, 11, 12, 13, 14, 15, 16, 17, 18, 19, 20, 21, 22, 23, 24, 25] (by decide +kernel) (by decide +kernel)
set_option maxRecDepth 20000 in
theorem gX1_isClose_X1_isNoPair : GoodIn wsX1_isClose (wsV RX1 76 RX1 yX1_isNoPair wsX1_isNoPair) := goodIn_app (goodIn_of _ (by decide +kernel)) ggX1_isClose_X1_isNoPair
set_option maxRecDepth 20000 in
theorem ggX1_isNoLonger_X1_grainsOf : GoodIn wsX1_isNoLonger wsX1_grainsOf := goodIn_r _ [5, 6, 7, 8, 9, 10, 4, 11, 12, 13, 14, 15, 16, 17, 18, 19, 20, 21, 22, 23] (by decide +kernel) (by decide +kernel)
set_option maxRecDepth 20000 in
theorem gX1_isNoLonger_X1_grainsOf : GoodIn wsX1_isNoLonger (wsV RX1 80 RX1 yX1_grainsOf wsX1_grainsOf) := goodIn_app (goodIn_of _ (by decide +kernel)) ggX1_isNoLonger_X1_grainsOf
set_option maxRecDepth 20000 in
theorem ggX1_isStraight_X1_isNoNumber : GoodIn wsX1_isStraight wsX1_isNoNumber := goodIn_r _ [6, 7, 8, 5, 9, 10, 11, 12, 13, 14, 34, 35, 36, 37, 38, 39, 40] (by decide +kernel) (by decide +kernel)
set_option maxRecDepth 20000 in
theorem gX1_isStraight_X1_isNoNumber : GoodIn wsX1_isStraight (wsV RX1 35 RX1 yX1_isNoNumber wsX1_isNoNumber) := goodIn_app (goodIn_of _ (by decide +kernel)) ggX1_isStraight_X1_isNoNumber
set_option maxRecDepth 20000 in
theorem ggX1_isStraight_X1_isThrown : GoodIn wsX1_isStraight wsX1_isThrown := goodIn_r _ [13, 14, 34, 35, 36, 37, 38, 39, 40] (by decide +kernel) (by decide +kernel)
set_option maxRecDepth 20000 in
theorem gX1_isStraight_X1_isThrown : GoodIn wsX1_isStraight (wsV RX1 31 RX1 yX1_isThrown wsX1_isThrown) := goodIn_app (goodIn_of _ (by decide +kernel)) ggX1_isStraight_X1_isThrown
set_option maxRecDepth 20000 in
theorem ggX1_isStraight_X1_isNoLonger : GoodIn wsX1_isStraight wsX1_isNoLonger := goodIn_r _ [18, 19, 20, 21, 5, 22, 23, 24, 25, 26, 27, 28, 29, 30, 31, 32, 33, 34, 35, 36, 37, 38, 39, 40] (by decide +kernel) (by decide +kernel)
set_option maxRecDepth 20000 in
theorem gX1_isStraight_X1_isNoLonger : GoodIn wsX1_isStraight (wsV RX1 84 RX1 yX1_isNoLonger wsX1_isNoLonger) := goodIn_app (goodIn_of _ (by decide +kernel)) ggX1_isStraight_X1_isNoLonger
set_option maxRecDepth 20000 in
theorem ggX1_nearestTo_X1_grainsOf : GoodIn wsX1_nearestTo wsX1_grainsOf := goodIn_r _ [6, 7, 8, 9, 10, 11, 5, 12, 13, 14, 15, 16, 17, 18, 19, 20, 21, 22, 23, 24] (by decide +kernel) (by decide +kernel)
set_option maxRecDepth 20000 in
theorem gX1_nearestTo_X1_grainsOf : GoodIn wsX1_nearestTo (wsV RX1 80 RX1 yX1_grainsOf wsX1_grainsOf) := goodIn_app (goodIn_of _ (by decide +kernel)) ggX1_nearestTo_X1_grainsOf
set_option maxRecDepth 20000 in
theorem ggX1_nearest_X1_isNoPeg : GoodIn wsX1_nearest wsX1_isNoPeg := goodIn_r _ [5, 6, 7, 8, 9, 4, 10, 11, 12, 13, 14, 15, 16, 17, 18, 42, 43, 44, 45, 46, 47, 48] (by decide +kernel) (by decide +kernel)
set_option maxRecDepth 20000 in
theorem gX1_nearest_X1_isNoPeg : GoodIn wsX1_nearest (wsV RX1 63 RX1 yX1_isNoPeg wsX1_isNoPeg) := goodIn_app (goodIn_of _ (by decide +kernel)) ggX1_nearest_X1_isNoPeg
