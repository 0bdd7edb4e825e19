set_option maxRecDepth 20000 in
theorem ggX1_nearest_X1_count : GoodIn wsX1_nearest wsX1_count := goodIn_r _ [22, 6, 42, 43, 44, 45, 46, 47, 48] (by decide +kernel) (by decide +kernel)
set_option maxRecDepth 20000 in
theorem gX1_nearest_X1_count : GoodIn wsX1_nearest (wsV RX1 87 RX1 yX1_count wsX1_count) := goodIn_app (goodIn_of _ (by decide +kernel)) ggX1_nearest_X1_count
set_option maxRecDepth 20000 in
theorem ggX1_nearest_X1_isThrown : GoodIn wsX1_nearest wsX1_isThrown := goodIn_r _ [17, 18, 42, 43, 44, 45, 46, 47, 48] (by decide +kernel) (by decide +kernel)
set_option maxRecDepth 20000 in
theorem gX1_nearest_X1_isThrown : GoodIn wsX1_nearest (wsV RX1 31 RX1 yX1_isThrown wsX1_isThrown) := goodIn_app (goodIn_of _ (by decide +kernel)) ggX1_nearest_X1_isThrown
set_option maxRecDepth 20000 in
theorem ggX1_nearest_X1_nearestTo : GoodIn wsX1_nearest wsX1_nearestTo := goodIn_r _ [26, 6, 27, 28, 29, 4, 30, 31, 32, 33, 34, 35, 36, 37, 38, 39, 40, 41, 42, 43, 44, 45, 46, 47, 48] (by decide +kernel) (by decide +kernel)
set_option maxRecDepth 20000 in
theorem gX1_nearest_X1_nearestTo : GoodIn wsX1_nearest (wsV RX1 91 RX1 yX1_nearestTo wsX1_nearestTo) := goodIn_app (goodIn_of _ (by decide +kernel)) ggX1_nearest_X1_nearestTo
set_option maxRecDepth 20000 in
theorem ggX1_rank_X1_isNoPair : GoodIn wsX1_rank wsX1_isNoPair := goodIn_r _ [6, 1, 7, 8, 9, 5, 10, 11, 12, 13, 14, 15, 16, 17, 18, 34, 35, 36, 37, 38, 39, 40] (by decide +kernel) (by decide +kernel)
set_option maxRecDepth 20000 in
theorem gX1_rank_X1_isNoPair : GoodIn wsX1_rank (wsV RX1 76 RX1 yX1_isNoPair wsX1_isNoPair) := goodIn_app (goodIn_of _ (by decide +kernel)) ggX1_rank_X1_isNoPair
set_option maxRecDepth 20000 in
theorem ggX1_rank_X1_grainsOf : GoodIn wsX1_rank wsX1_grainsOf := goodIn_r _ [22, 23, 24, 25, 26, 27, 5, 28, 29, 30, 31, 32, 33, 34, 35, 36, 37, 38, 39, 40] (by decide +kernel) (by decide +kernel)
set_option maxRecDepth 20000 in
theorem gX1_rank_X1_grainsOf : GoodIn wsX1_rank (wsV RX1 80 RX1 yX1_grainsOf wsX1_grainsOf) := goodIn_app (goodIn_of _ (by decide +kernel)) ggX1_rank_X1_grainsOf
set_option maxRecDepth 20000 in
theorem ggX1_isIn_X1_isNoPair : GoodIn wsX1_isIn wsX1_isNoPair := goodIn_r _ [5, 6, 7, 8, 9, 4, 10, 11, 12, 13, 14, 15, 16, 17, 18, 41, 42, 43, 44, 45, 46, 47] (by decide +kernel) (by decide +kernel)
set_option maxRecDepth 20000 in
theorem gX1_isIn_X1_isNoPair : GoodIn wsX1_isIn (wsV RX1 76 RX1 yX1_isNoPair wsX1_isNoPair) := goodIn_app (goodIn_of _ (by decide +kernel)) ggX1_isIn_X1_isNoPair
set_option maxRecDepth 20000 in
theorem ggX1_isIn_X1_isNoAsked : GoodIn wsX1_isIn wsX1_isNoAsked := goodIn_r _ [22, 11, 12, 4, 13, 14, 15, 16, 17, 18, 41, 42, 43, 44, 45, 46, 47] (by decide +kernel) (by decide +kernel)
set_option maxRecDepth 20000 in
theorem gX1_isIn_X1_isNoAsked : GoodIn wsX1_isIn (wsV RX1 94 RX1 yX1_isNoAsked wsX1_isNoAsked) := goodIn_app (goodIn_of _ (by decide +kernel)) ggX1_isIn_X1_isNoAsked
set_option maxRecDepth 20000 in
theorem ggX1_isIn_X1_grainsOf : GoodIn wsX1_isIn wsX1_grainsOf := goodIn_r _ [26, 27, 28, 29, 30, 31, 4, 32, 33, 34, 35, 36, 37, 41, 42, 43, 44, 45, 46, 47] (by decide +kernel) (by decide +kernel)
set_option maxRecDepth 20000 in
theorem gX1_isIn_X1_grainsOf : GoodIn wsX1_isIn (wsV RX1 80 RX1 yX1_grainsOf wsX1_grainsOf) := goodIn_app (goodIn_of _ (by decide +kernel)) ggX1_isIn_X1_grainsOf
set_option maxRecDepth 20000 in
theorem ggX1_isIn_X1_rootGrainsOf : GoodIn wsX1_isIn wsX1_rootGrainsOf := goodIn_r _ [40, 30, 31, 4, 32, 33, 34, 35, 36, 37] (by decide +kernel) (by decide +kernel)
set_option maxRecDepth 20000 in
theorem gX1_isIn_X1_rootGrainsOf : GoodIn wsX1_isIn (va_wsS RX1 97 yX1_rootGrainsOf wsX1_rootGrainsOf) := goodIn_app (goodIn_of _ (by decide +kernel)) ggX1_isIn_X1_rootGrainsOf
set_option maxRecDepth 20000 in
theorem ggX1_root_X1_isNoAsked : GoodIn wsX1_root wsX1_isNoAsked := goodIn_r _ [6, 7, 8, 5, 9, 10, 11, 12, 13, 14, 26, 27, 28, 29, 30, 31, 32] (by decide +kernel) (by decide +kernel)
set_option maxRecDepth 20000 in
theorem gX1_root_X1_isNoAsked : GoodIn wsX1_root (wsV RX1 94 RX1 yX1_isNoAsked wsX1_isNoAsked) := goodIn_app (goodIn_of _ (by decide +kernel)) ggX1_root_X1_isNoAsked
set_option maxRecDepth 20000 in
theorem ggX1_root_X1_powerOf : GoodIn wsX1_root wsX1_powerOf := goodIn_r _ [17, 18, 19, 5, 20, 21, 22] (by decide +kernel) (by decide +kernel)
set_option maxRecDepth 20000 in
theorem gX1_root_X1_powerOf : GoodIn wsX1_root (va_wsS RX1 47 yX1_powerOf wsX1_powerOf) := goodIn_app (goodIn_of _ (by decide +kernel)) ggX1_root_X1_powerOf
set_option maxRecDepth 20000 in
theorem ggX1_root_X1_near : GoodIn wsX1_root wsX1_near := goodIn_r _ [25, 22, 18, 19, 5, 20, 21] (by decide +kernel) (by decide +kernel)
set_option maxRecDepth 20000 in
theorem gX1_root_X1_near : GoodIn wsX1_root (va_wsS RX1 55 yX1_near wsX1_near) := goodIn_app (goodIn_of _ (by decide +kernel)) ggX1_root_X1_near
set_option maxRecDepth 20000 in
theorem ggX1_rootBits_X1_isNoAsked : GoodIn wsX1_rootBits wsX1_isNoAsked := goodIn_r _ [5, 6, 7, 4, 8, 9, 10, 11, 12, 13, 31, 32, 33, 34, 35, 36, 37] (by decide +kernel) (by decide +kernel)
set_option maxRecDepth 20000 in
theorem gX1_rootBits_X1_isNoAsked : GoodIn wsX1_rootBits (wsV RX1 94 RX1 yX1_isNoAsked wsX1_isNoAsked) := goodIn_app (goodIn_of _ (by decide +kernel)) ggX1_rootBits_X1_isNoAsked
set_option maxRecDepth 20000 in
theorem ggX1_rootBits_X1_bitsOf : GoodIn wsX1_rootBits wsX1_bitsOf := goodIn_r _ [16, 17, 18, 19, 20, 21, 4, 22, 23, 24, 25, 26, 27, 28, 29, 30] (by decide +kernel) (by decide +kernel)
set_option maxRecDepth 20000 in
theorem gX1_rootBits_X1_bitsOf : GoodIn wsX1_rootBits (va_wsS RX1 103 yX1_bitsOf wsX1_bitsOf) := goodIn_app (goodIn_of _ (by decide +kernel)) ggX1_rootBits_X1_bitsOf
set_option maxRecDepth 20000 in
theorem ggX1_rootGrains_X1_isNoAsked : GoodIn wsX1_rootGrains wsX1_isNoAsked := goodIn_r _ [5, 6, 7, 4, 8, 9, 10, 11, 12, 13, 25, 26, 27, 28, 29, 30, 31] (by decide +kernel) (by decide +kernel)
set_option maxRecDepth 20000 in
theorem gX1_rootGrains_X1_isNoAsked : GoodIn wsX1_rootGrains (wsV RX1 94 RX1 yX1_isNoAsked wsX1_isNoAsked) := goodIn_app (goodIn_of _ (by decide +kernel)) ggX1_rootGrains_X1_isNoAsked
set_option maxRecDepth 20000 in
theorem ggX1_rootGrains_X1_rootGrainsOf : GoodIn wsX1_rootGrains wsX1_rootGrainsOf := goodIn_r _ [16, 17, 18, 4, 19, 20, 21, 22, 23, 24] (by decide +kernel) (by decide +kernel)
set_option maxRecDepth 20000 in
theorem gX1_rootGrains_X1_rootGrainsOf : GoodIn wsX1_rootGrains (va_wsS RX1 97 yX1_rootGrainsOf wsX1_rootGrainsOf) := goodIn_app (goodIn_of _ (by decide +kernel)) ggX1_rootGrains_X1_rootGrainsOf
set_option maxRecDepth 20000 in
theorem ggX1_wholeRoot_X1_isNoAsked : GoodIn wsX1_wholeRoot wsX1_isNoAsked := goodIn_r _ [5, 6, 7, 4, 8, 9, 10, 11, 12, 13, 22, 23, 24, 25, 26, 27, 28] (by decide +kernel) (by decide +kernel)
set_option maxRecDepth 20000 in
theorem gX1_wholeRoot_X1_isNoAsked : GoodIn wsX1_wholeRoot (wsV RX1 94 RX1 yX1_isNoAsked wsX1_isNoAsked) := goodIn_app (goodIn_of _ (by decide +kernel)) ggX1_wholeRoot_X1_isNoAsked
set_option maxRecDepth 20000 in
theorem ggX1_wholeRoot_X1_wholeOf : GoodIn wsX1_wholeRoot wsX1_wholeOf := goodIn_r _ [16, 17, 18, 4, 19, 20, 21] (by decide +kernel) (by decide +kernel)
set_option maxRecDepth 20000 in
theorem gX1_wholeRoot_X1_wholeOf : GoodIn wsX1_wholeRoot (va_wsS RX1 107 yX1_wholeOf wsX1_wholeOf) := goodIn_app (goodIn_of _ (by decide +kernel)) ggX1_wholeRoot_X1_wholeOf
set_option maxRecDepth 20000 in
theorem ggX1_isNearest_X1_isNoAsked : GoodIn wsX1_isNearest wsX1_isNoAsked := goodIn_r _ [5, 6, 7, 4, 8, 9, 10, 11, 12, 13, 14, 15, 16, 17, 18, 19, 20] (by decide +kernel) (by decide +kernel)
set_option maxRecDepth 20000 in
theorem gX1_isNearest_X1_isNoAsked : GoodIn wsX1_isNearest (wsV RX1 94 RX1 yX1_isNoAsked wsX1_isNoAsked) := goodIn_app (goodIn_of _ (by decide +kernel)) ggX1_isNearest_X1_isNoAsked
set_option maxRecDepth 20000 in
theorem ggX1_isHalved_X1_isNoAsked : GoodIn wsX1_isHalved wsX1_isNoAsked := goodIn_r _ [5, 6, 7, 4, 8, 9, 10, 11, 12, 13, 14, 15, 16, 17, 18, 19, 20] (by decide +kernel) (by decide +kernel)
set_option maxRecDepth 20000 in
theorem gX1_isHalved_X1_isNoAsked : GoodIn wsX1_isHalved (wsV RX1 94 RX1 yX1_isNoAsked wsX1_isNoAsked) := goodIn_app (goodIn_of _ (by decide +kernel)) ggX1_isHalved_X1_isNoAsked
set_option maxRecDepth 20000 in
theorem ggX1_between_X1_isNoAsked : GoodIn wsX1_between wsX1_isNoAsked := goodIn_r _ [5, 6, 7, 4, 8, 9, 10, 11, 12, 13, 22, 23, 24, 25, 26, 27, 28] (by decide +kernel) (by decide +kernel)
set_option maxRecDepth 20000 in
theorem gX1_between_X1_isNoAsked : GoodIn wsX1_between (wsV RX1 94 RX1 yX1_isNoAsked wsX1_isNoAsked) := goodIn_app (goodIn_of _ (by decide +kernel)) ggX1_between_X1_isNoAsked
set_option maxRecDepth 20000 in
theorem ggX1_between_X1_wholeOf : GoodIn wsX1_between wsX1_wholeOf := goodIn_r _ [16, 17, 18, 4, 19, 20, 21] (by decide +kernel) (by decide +kernel)
set_option maxRecDepth 20000 in
theorem gX1_between_X1_wholeOf : GoodIn wsX1_between (va_wsS RX1 107 yX1_wholeOf wsX1_wholeOf) := goodIn_app (goodIn_of _ (by decide +kernel)) ggX1_between_X1_wholeOf
set_option maxRecDepth 20000 in
theorem ggX1_join_X1_isNoPeg : GoodIn wsX1_join wsX1_isNoPeg := goodIn_r _ [7, 8, 9, 10, 11, 6, 12, 13, 14, 15, 16, 17, 18, 19, 20, 21, 22, 23, 24, 25, 26, 27] (by decide +kernel) (by decide +kernel)
set_option maxRecDepth 20000 in
theorem gX1_join_X1_isNoPeg : GoodIn wsX1_join (wsV RX1 63 RX1 yX1_isNoPeg wsX1_isNoPeg) := goodIn_app (goodIn_of _ (by decide +kernel)) ggX1_join_X1_isNoPeg
set_option maxRecDepth 20000 in
theorem ggX1_join_X1_isThrown : GoodIn wsX1_join wsX1_isThrown := goodIn_r _ [19, 20, 21, 22, 23, 24, 25, 26, 27] (by decide +kernel) (by decide +kernel)
set_option maxRecDepth 20000 in
theorem gX1_join_X1_isThrown : GoodIn wsX1_join (wsV RX1 31 RX1 yX1_isThrown wsX1_isThrown) := goodIn_app (goodIn_of _ (by decide +kernel)) ggX1_join_X1_isThrown
set_option maxRecDepth 20000 in
theorem ggX1_unjoin_X1_isThrown : GoodIn wsX1_unjoin wsX1_isThrown := goodIn_r _ [7, 8, 9, 10, 11, 12, 13, 14, 15] (by decide +kernel) (by decide +kernel)
set_option maxRecDepth 20000 in
theorem gX1_unjoin_X1_isThrown : GoodIn wsX1_unjoin (wsV RX1 31 RX1 yX1_isThrown wsX1_isThrown) := goodIn_app (goodIn_of _ (by decide +kernel)) ggX1_unjoin_X1_isThrown
set_option maxRecDepth 20000 in
theorem ggX1_ringAt_X1_lies : GoodIn wsX1_ringAt wsX1_lies := goodIn_r _ [6] (by decide +kernel) (by decide +kernel)
set_option maxRecDepth 20000 in
theorem gX1_ringAt_X1_lies : GoodIn wsX1_ringAt (va_wsS RX1 27 yX1_lies wsX1_lies) := goodIn_app (goodIn_of _ (by decide +kernel)) ggX1_ringAt_X1_lies
set_option maxRecDepth 20000 in
theorem ggX1_ringAt_X1_isThrown : GoodIn wsX1_ringAt wsX1_isThrown := goodIn_r _ [10, 11, 12, 13, 14, 15, 16, 17, 18] (by decide +kernel) (by decide +kernel)
set_option maxRecDepth 20000 in
theorem gX1_ringAt_X1_isThrown : GoodIn wsX1_ringAt (wsV RX1 31 RX1 yX1_isThrown wsX1_isThrown) := goodIn_app (goodIn_of _ (by decide +kernel)) ggX1_ringAt_X1_isThrown
set_option maxRecDepth 20000 in
theorem ggX1_around_X1_behind : GoodIn wsX1_around wsX1_behind := goodIn_r _ [7, 2, 1, 23, 24, 25, 26, 27, 28, 29] (by decide +kernel) (by decide +kernel)
set_option maxRecDepth 20000 in
theorem gX1_around_X1_behind : GoodIn wsX1_around (wsV RX1 110 RX1 yX1_behind wsX1_behind) := goodIn_app (goodIn_of _ (by decide +kernel)) ggX1_around_X1_behind
set_option maxRecDepth 20000 in
theorem ggX1_around_X1_grainsOf : GoodIn wsX1_around wsX1_grainsOf := goodIn_r _ [11, 12, 13, 14, 15, 16, 6, 17, 18, 19, 20, 21, 22, 23, 24, 25, 26, 27, 28, 29] (by decide +kernel) (by decide +kernel)
set_option maxRecDepth 20000 in
theorem gX1_around_X1_grainsOf : GoodIn wsX1_around (wsV RX1 80 RX1 yX1_grainsOf wsX1_grainsOf) := goodIn_app (goodIn_of _ (by decide +kernel)) ggX1_around_X1_grainsOf
set_option maxRecDepth 20000 in
theorem ggX1_doubleArea_X1_behind : GoodIn wsX1_doubleArea wsX1_behind := goodIn_r _ [9, 3, 1, 10, 11, 12, 13, 14, 15, 16] (by decide +kernel) (by decide +kernel)
set_option maxRecDepth 20000 in
theorem gX1_doubleArea_X1_behind : GoodIn wsX1_doubleArea (wsV RX1 110 RX1 yX1_behind wsX1_behind) := goodIn_app (goodIn_of _ (by decide +kernel)) ggX1_doubleArea_X1_behind
set_option maxRecDepth 20000 in
theorem ggX1_sideBits_X1_doubleArea : GoodIn wsX1_sideBits wsX1_doubleArea := goodIn_r _ [5, 6, 7, 8, 9, 10, 11, 12, 4, 13, 36, 37, 38, 39, 40, 41, 42] (by decide +kernel) (by decide +kernel)
set_option maxRecDepth 20000 in
theorem gX1_sideBits_X1_doubleArea : GoodIn wsX1_sideBits (wsV RX1 113 RX1 yX1_doubleArea wsX1_doubleArea) := goodIn_app (goodIn_of _ (by decide +kernel)) ggX1_sideBits_X1_doubleArea
set_option maxRecDepth 20000 in
theorem ggX1_sideBits_X1_isThrown : GoodIn wsX1_sideBits wsX1_isThrown := goodIn_r _ [17, 18, 36, 37, 38, 39, 40, 41, 42] (by decide +kernel) (by decide +kernel)
set_option maxRecDepth 20000 in
theorem gX1_sideBits_X1_isThrown : GoodIn wsX1_sideBits (wsV RX1 31 RX1 yX1_isThrown wsX1_isThrown) := goodIn_app (goodIn_of _ (by decide +kernel)) ggX1_sideBits_X1_isThrown
set_option maxRecDepth 20000 in
theorem ggX1_sideBits_X1_bitsOf : GoodIn wsX1_sideBits wsX1_bitsOf := goodIn_r _ [21, 22, 23, 24, 25, 26, 4, 27, 28, 29, 30, 31, 32, 33, 34, 35] (by decide +kernel) (by decide +kernel)
set_option maxRecDepth 20000 in
theorem gX1_sideBits_X1_bitsOf : GoodIn wsX1_sideBits (va_wsS RX1 103 yX1_bitsOf wsX1_bitsOf) := goodIn_app (goodIn_of _ (by decide +kernel)) ggX1_sideBits_X1_bitsOf
set_option maxRecDepth 20000 in
theorem ggX1_checksum_X1_placed : GoodIn wsX1_checksum wsX1_placed := goodIn_r _ [11, 12, 13, 38, 39, 40, 41, 42, 43, 44] (by decide +kernel) (by decide +kernel)
set_option maxRecDepth 20000 in
theorem gX1_checksum_X1_placed : GoodIn wsX1_checksum (wsV RX1 69 RX1 yX1_placed wsX1_placed) := goodIn_app (goodIn_of _ (by decide +kernel)) ggX1_checksum_X1_placed
set_option maxRecDepth 20000 in
theorem ggX1_checksum_X1_nearestTo : GoodIn wsX1_checksum wsX1_nearestTo := goodIn_r _ [17, 2, 18, 19, 20, 10, 21, 13, 12, 6, 22, 23, 24, 25, 26, 27, 28, 29, 38, 39, 40, 41, 42, 43, 44] (by decide +kernel) (by decide +kernel)
set_option maxRecDepth 20000 in
theorem gX1_checksum_X1_nearestTo : GoodIn wsX1_checksum (wsV RX1 91 RX1 yX1_nearestTo wsX1_nearestTo) := goodIn_app (goodIn_of _ (by decide +kernel)) ggX1_checksum_X1_nearestTo
set_option maxRecDepth 20000 in
theorem ggX1_checksum_X1_around : GoodIn wsX1_checksum wsX1_around := goodIn_r _ [33, 4, 5, 34, 35, 36, 10, 37, 18, 19, 20, 21, 13, 12, 6, 22, 23, 24, 25, 26, 27, 28, 29, 38, 39, 40, 41, 42, 43, 44] (by decide +kernel) (by decide +kernel)
set_option maxRecDepth 20000 in
theorem gX1_checksum_X1_around : GoodIn wsX1_checksum (wsV RX1 120 RX1 yX1_around wsX1_around) := goodIn_app (goodIn_of _ (by decide +kernel)) ggX1_checksum_X1_around
set_option maxRecDepth 20000 in
theorem ggX1_isSound_X1_isNoLonger : GoodIn wsX1_isSound wsX1_isNoLonger := goodIn_r _ [6, 7, 8, 9, 5, 10, 11, 12, 13, 14, 15, 16, 17, 18, 19, 20, 21, 22, 23, 24, 25, 26, 27, 28] (by decide +kernel) (by decide +kernel)
set_option maxRecDepth 20000 in
theorem gX1_isSound_X1_isNoLonger : GoodIn wsX1_isSound (wsV RX1 84 RX1 yX1_isNoLonger wsX1_isNoLonger) := goodIn_app (goodIn_of _ (by decide +kernel)) ggX1_isSound_X1_isNoLonger
