/-! the program as tables: class names, methods, what the pool entries name (written by gen1.py out of the printed names) -/
def ocnL : List String := [RX0, RX1, RX2, RX3, RX5, RX6, RX7, RX4, RL, RJ6, RJ13, RJ9]
def ocn (o : Nat) : String := ocnL.getD o ""
abbrev Mth : Type := Nat × MethodName × ByteArray × Nat × Option FieldType × List (Nat × Nat × Nat × Nat) × Nat
abbrev m0_ : Mth := (5, yX6_init, cX6_init, 1, none, [], 0)
abbrev m1_ : Mth := (0, yX0_init, cX0_init, 1, none, [], 0)
abbrev m2_ : Mth := (3, yX3_init, cX3_init, 1, none, [], 0)
abbrev m3_ : Mth := (1, yX1_init, cX1_init, 1, none, [], 0)
abbrev m4_ : Mth := (2, yX2_init, cX2_init, 1, none, [], 0)
abbrev m5_ : Mth := (4, yX5_init, cX5_init, 1, none, [], 0)
abbrev m6_ : Mth := (6, yX7_init, cX7_init, 1, none, [], 0)
abbrev m7_ : Mth := (8, yL_begin, cL_begin, 4, (some .int), [(0, 9, 12, 13)], 3)
abbrev m8_ : Mth := (5, yX6_begin, cX6_begin, 3, (some .int), [], 1)
abbrev m9_ : Mth := (0, yX0_size, cX0_size, 1, (some .int), [], 0)
abbrev m10_ : Mth := (0, yX0_reset, cX0_reset, 3, none, [], 1)
abbrev m11_ : Mth := (11, yJ9_min_7cf53, cJ9_min_7cf53, 2, (some .int), [], 2)
abbrev m12_ : Mth := (11, yJ9_max_7cf53, cJ9_max_7cf53, 2, (some .int), [], 2)
abbrev m13_ : Mth := (6, yX7_begin, cX7_begin, 3, (some .int), [], 1)
abbrev m14_ : Mth := (6, yX7_in, cX7_in, 3, (some .boolean), [], 3)
abbrev m15_ : Mth := (6, yX7_throwsAt, cX7_throwsAt, 3, (some .boolean), [], 2)
abbrev m16_ : Mth := (6, yX7_clears, cX7_clears, 4, none, [], 1)
abbrev m17_ : Mth := (6, yX7_thrown, cX7_thrown, 1, (some .int), [], 0)
abbrev m18_ : Mth := (8, yL_place, cL_place, 3, (some .int), [(0, 8, 11, 19)], 2)
abbrev m19_ : Mth := (5, yX6_place, cX6_place, 1, (some .int), [], 0)
abbrev m20_ : Mth := (5, yX6_needRoomFor, cX6_needRoomFor, 2, none, [], 1)
abbrev m21_ : Mth := (0, yX0_append, cX0_append, 3, none, [], 1)
abbrev m22_ : Mth := (0, yX0_all, cX0_all, 1, (some .int), [], 0)
abbrev m23_ : Mth := (6, yX7_place, cX7_place, 1, (some .int), [], 0)
abbrev m24_ : Mth := (8, yL_star, cL_star, 3, (some .int), [(0, 8, 11, 19)], 2)
abbrev m25_ : Mth := (5, yX6_star, cX6_star, 1, (some .int), [], 0)
abbrev m26_ : Mth := (0, yX0_wayCount, cX0_wayCount, 3, (some .int), [], 0)
abbrev m27_ : Mth := (9, yJ6_bitCount_0f7a4, cJ6_bitCount_0f7a4, 1, (some .int), [], 1)
abbrev m28_ : Mth := (6, yX7_star, cX7_star, 2, (some .int), [], 0)
abbrev m29_ : Mth := (6, yX7_ways, cX7_ways, 1, (some .int), [], 0)
abbrev m30_ : Mth := (6, yX7_waysOf, cX7_waysOf, 5, (some .int), [], 2)
abbrev m31_ : Mth := (8, yL_leave, cL_leave, 4, (some .int), [(0, 9, 12, 27)], 3)
abbrev m32_ : Mth := (5, yX6_leave, cX6_leave, 3, (some .int), [], 1)
abbrev m33_ : Mth := (5, yX6_needPlace, cX6_needPlace, 2, none, [], 1)
abbrev m34_ : Mth := (0, yX0_has, cX0_has, 2, (some .boolean), [], 1)
abbrev m35_ : Mth := (0, yX0_near, cX0_near, 2, (some .int), [], 1)
abbrev m36_ : Mth := (0, yX0_remove, cX0_remove, 3, none, [], 1)
abbrev m37_ : Mth := (0, yX0_withoutBit, cX0_withoutBit, 4, (some .int), [], 2)
abbrev m38_ : Mth := (6, yX7_leave, cX7_leave, 3, (some .int), [], 1)
abbrev m39_ : Mth := (6, yX7_is, cX7_is, 2, (some .boolean), [], 1)
abbrev m40_ : Mth := (6, yX7_degreeOf, cX7_degreeOf, 4, (some .int), [], 1)
abbrev m41_ : Mth := (6, yX7_goes, cX7_goes, 5, none, [], 3)
abbrev m42_ : Mth := (8, yL_way, cL_way, 5, (some .int), [(0, 17, 20, 27), (0, 17, 24, 13)], 4)
abbrev m43_ : Mth := (5, yX6_way, cX6_way, 4, (some .boolean), [], 2)
abbrev m44_ : Mth := (5, yX6_needTwoPlaces, cX6_needTwoPlaces, 3, none, [], 2)
abbrev m45_ : Mth := (0, yX0_joined, cX0_joined, 3, (some .boolean), [], 2)
abbrev m46_ : Mth := (0, yX0_join, cX0_join, 3, none, [], 2)
abbrev m47_ : Mth := (6, yX7_way, cX7_way, 4, (some .boolean), [], 2)
abbrev m48_ : Mth := (8, yL_tear, cL_tear, 5, (some .int), [(0, 10, 13, 27), (0, 10, 17, 37)], 4)
abbrev m49_ : Mth := (5, yX6_tear, cX6_tear, 3, (some .int), [], 2)
abbrev m50_ : Mth := (0, yX0_cut, cX0_cut, 3, none, [], 2)
abbrev m51_ : Mth := (6, yX7_tear, cX7_tear, 3, (some .int), [], 2)
abbrev m52_ : Mth := (8, yL_draw, cL_draw, 5, (some .int), [(0, 10, 13, 27), (0, 10, 17, 13)], 4)
abbrev m53_ : Mth := (5, yX6_draw, cX6_draw, 3, (some .int), [], 2)
abbrev m54_ : Mth := (0, yX0_merge, cX0_merge, 4, none, [], 2)
abbrev m55_ : Mth := (6, yX7_draw, cX7_draw, 3, (some .int), [], 2)
abbrev m56_ : Mth := (6, yX7_draws, cX7_draws, 5, none, [], 4)
abbrev m57_ : Mth := (8, yL_swap, cL_swap, 5, (some .int), [(0, 17, 20, 27)], 4)
abbrev m58_ : Mth := (5, yX6_swap, cX6_swap, 3, (some .boolean), [], 2)
abbrev m59_ : Mth := (0, yX0_exchange, cX0_exchange, 6, (some .boolean), [], 2)
abbrev m60_ : Mth := (0, yX0_withBitsExchanged, cX0_withBitsExchanged, 4, (some .int), [], 3)
abbrev m61_ : Mth := (6, yX7_swap, cX7_swap, 6, (some .boolean), [], 2)
abbrev m62_ : Mth := (5, yX6_others, cX6_others, 1, (some .int), [], 0)
abbrev m63_ : Mth := (0, yX0_invert, cX0_invert, 2, none, [], 0)
abbrev m64_ : Mth := (6, yX7_others, cX7_others, 3, (some .int), [], 0)
abbrev m65_ : Mth := (5, yX6_keep, cX6_keep, 2, (some .int), [], 0)
abbrev m66_ : Mth := (0, yX0_copyFrom, cX0_copyFrom, 3, none, [], 1)
abbrev m67_ : Mth := (6, yX7_keep, cX7_keep, 4, (some .int), [], 0)
abbrev m68_ : Mth := (5, yX6_turn, cX6_turn, 2, (some .boolean), [], 0)
abbrev m69_ : Mth := (0, yX0_sameAs, cX0_sameAs, 3, (some .boolean), [], 1)
abbrev m70_ : Mth := (6, yX7_turn, cX7_turn, 4, (some .boolean), [], 0)
abbrev m71_ : Mth := (8, yL_beside, cL_beside, 3, (some .int), [(0, 8, 11, 19)], 2)
abbrev m72_ : Mth := (5, yX6_beside, cX6_beside, 1, (some .int), [], 0)
abbrev m73_ : Mth := (0, yX0_appendAll, cX0_appendAll, 5, none, [], 1)
abbrev m74_ : Mth := (6, yX7_beside, cX7_beside, 3, (some .int), [], 0)
abbrev m75_ : Mth := (5, yX6_places, cX6_places, 1, (some .int), [], 0)
abbrev m76_ : Mth := (6, yX7_places, cX7_places, 1, (some .int), [], 0)
abbrev m77_ : Mth := (5, yX6_ways, cX6_ways, 1, (some .int), [], 0)
abbrev m78_ : Mth := (8, yL_isWay, cL_isWay, 5, (some .int), [(0, 17, 20, 27)], 4)
abbrev m79_ : Mth := (5, yX6_isWay, cX6_isWay, 3, (some .boolean), [], 2)
abbrev m80_ : Mth := (6, yX7_isWay, cX7_isWay, 3, (some .boolean), [], 2)
abbrev m81_ : Mth := (8, yL_degree, cL_degree, 4, (some .int), [(0, 9, 12, 27)], 3)
abbrev m82_ : Mth := (5, yX6_degree, cX6_degree, 2, (some .int), [], 1)
abbrev m83_ : Mth := (6, yX7_degree, cX7_degree, 2, (some .int), [], 1)
abbrev m84_ : Mth := (8, yL_next, cL_next, 5, (some .int), [(0, 10, 13, 27)], 4)
abbrev m85_ : Mth := (5, yX6_next, cX6_next, 4, (some .int), [], 2)
abbrev m86_ : Mth := (5, yX6_needNumber, cX6_needNumber, 3, none, [], 2)
abbrev m87_ : Mth := (6, yX7_next, cX7_next, 4, (some .int), [], 2)
abbrev m88_ : Mth := (8, yL_previous, cL_previous, 5, (some .int), [(0, 10, 13, 27)], 4)
abbrev m89_ : Mth := (5, yX6_previous, cX6_previous, 4, (some .int), [], 2)
abbrev m90_ : Mth := (6, yX7_previous, cX7_previous, 5, (some .int), [], 2)
abbrev m91_ : Mth := (8, yL_mean, cL_mean, 3, (some .int), [(0, 7, 10, 19)], 2)
abbrev m92_ : Mth := (5, yX6_mean, cX6_mean, 2, (some .double), [], 0)
abbrev m93_ : Mth := (6, yX7_mean, cX7_mean, 1, (some .double), [], 0)
abbrev m94_ : Mth := (5, yX6_pieces, cX6_pieces, 1, (some .int), [], 0)
abbrev m95_ : Mth := (7, yX4_pieceCount, cX4_pieceCount, 3, (some .int), [], 1)
abbrev m96_ : Mth := (7, yX4_leastOfPiece, cX4_leastOfPiece, 4, (some .int), [], 2)
abbrev m97_ : Mth := (7, yX4_neighboursOf, cX4_neighboursOf, 4, (some .int), [], 2)
abbrev m98_ : Mth := (6, yX7_pieces, cX7_pieces, 3, (some .int), [], 0)
abbrev m99_ : Mth := (6, yX7_parts, cX7_parts, 4, none, [], 0)
abbrev m100_ : Mth := (8, yL_piece, cL_piece, 4, (some .int), [(0, 9, 12, 27)], 3)
abbrev m101_ : Mth := (5, yX6_piece, cX6_piece, 2, (some .int), [], 1)
abbrev m102_ : Mth := (6, yX7_piece, cX7_piece, 2, (some .int), [], 1)
abbrev m103_ : Mth := (5, yX6_apart, cX6_apart, 1, (some .int), [], 0)
abbrev m104_ : Mth := (7, yX4_mostApart, cX4_mostApart, 4, (some .int), [], 1)
abbrev m105_ : Mth := (7, yX4_areApart, cX4_areApart, 2, (some .boolean), [], 2)
abbrev m106_ : Mth := (6, yX7_apart, cX7_apart, 1, (some .int), [], 0)
abbrev m107_ : Mth := (6, yX7_set, cX7_set, 8, (some .int), [], 1)
abbrev m108_ : Mth := (5, yX6_together, cX6_together, 1, (some .int), [], 0)
abbrev m109_ : Mth := (7, yX4_mostTogether, cX4_mostTogether, 4, (some .int), [], 1)
abbrev m110_ : Mth := (7, yX4_areTogether, cX4_areTogether, 4, (some .boolean), [], 2)
abbrev m111_ : Mth := (6, yX7_together, cX7_together, 1, (some .int), [], 0)
abbrev m112_ : Mth := (8, yL_partings, cL_partings, 4, (some .int), [(0, 9, 12, 13)], 3)
abbrev m113_ : Mth := (5, yX6_partings, cX6_partings, 2, (some .int), [], 1)
abbrev m114_ : Mth := (3, yX3_read, cX3_read, 2, none, [], 1)
abbrev m115_ : Mth := (3, yX3_countPartings, cX3_countPartings, 2, none, [], 0)
abbrev m116_ : Mth := (3, yX3_part, cX3_part, 9, none, [], 5)
abbrev m117_ : Mth := (3, yX3_multiplyOut, cX3_multiplyOut, 4, none, [], 0)
abbrev m118_ : Mth := (3, yX3_partingsInto, cX3_partingsInto, 2, (some .int), [], 1)
abbrev m119_ : Mth := (6, yX7_partings, cX7_partings, 2, (some .int), [], 1)
abbrev m120_ : Mth := (6, yX7_counted, cX7_counted, 4, none, [], 2)
abbrev m121_ : Mth := (6, yX7_part, cX7_part, 9, none, [], 5)
abbrev m122_ : Mth := (5, yX6_isTwo, cX6_isTwo, 1, (some .boolean), [], 0)
abbrev m123_ : Mth := (7, yX4_noOddRing, cX4_noOddRing, 5, (some .boolean), [], 1)
abbrev m124_ : Mth := (6, yX7_isTwo, cX7_isTwo, 1, (some .boolean), [], 0)
abbrev m125_ : Mth := (6, yX7_paint, cX7_paint, 7, (some .int), [], 2)
abbrev m126_ : Mth := (5, yX6_fewest, cX6_fewest, 1, (some .int), [], 0)
abbrev m127_ : Mth := (3, yX3_leastSets, cX3_leastSets, 2, (some .int), [], 0)
abbrev m128_ : Mth := (6, yX7_fewest, cX7_fewest, 2, (some .int), [], 0)
abbrev m129_ : Mth := (8, yL_colour, cL_colour, 4, (some .int), [(0, 9, 12, 27)], 3)
abbrev m130_ : Mth := (5, yX6_colour, cX6_colour, 2, (some .int), [], 1)
abbrev m131_ : Mth := (1, yX1_inRow, cX1_inRow, 3, (some .int), [], 2)
abbrev m132_ : Mth := (1, yX1_paintRow, cX1_paintRow, 5, none, [], 1)
abbrev m133_ : Mth := (1, yX1_leastNotIn, cX1_leastNotIn, 2, (some .int), [], 1)
abbrev m134_ : Mth := (6, yX7_colour, cX7_colour, 2, (some .int), [], 1)
abbrev m135_ : Mth := (6, yX7_inRow, cX7_inRow, 6, (some .int), [], 1)
abbrev m136_ : Mth := (8, yL_colourings, cL_colourings, 4, (some .int), [(0, 9, 12, 13)], 3)
abbrev m137_ : Mth := (5, yX6_colourings, cX6_colourings, 2, (some .int), [], 1)
abbrev m138_ : Mth := (1, yX1_count, cX1_count, 3, (some .int), [], 2)
abbrev m139_ : Mth := (1, yX1_paint, cX1_paint, 9, (some .int), [], 5)
abbrev m140_ : Mth := (6, yX7_colourings, cX7_colourings, 2, (some .int), [], 1)
abbrev m141_ : Mth := (8, yL_coefficient, cL_coefficient, 4, (some .int), [(0, 8, 11, 27)], 3)
abbrev m142_ : Mth := (5, yX6_coefficient, cX6_coefficient, 2, (some .long), [], 1)
abbrev m143_ : Mth := (3, yX3_factor, cX3_factor, 2, (some .long), [], 1)
abbrev m144_ : Mth := (6, yX7_coefficient, cX7_coefficient, 2, (some .long), [], 1)
abbrev m145_ : Mth := (6, yX7_expands, cX7_expands, 5, none, [], 2)
abbrev m146_ : Mth := (8, yL_value, cL_value, 4, (some .int), [(0, 9, 12, 83)], 3)
abbrev m147_ : Mth := (5, yX6_value, cX6_value, 2, (some .int), [], 1)
abbrev m148_ : Mth := (5, yX6_evaluate, cX6_evaluate, 4, none, [], 2)
abbrev m149_ : Mth := (4, yX5_clear, cX5_clear, 2, none, [], 0)
abbrev m150_ : Mth := (4, yX5_times, cX5_times, 9, none, [], 1)
abbrev m151_ : Mth := (11, yJ9_abs_067f4, cJ9_abs_067f4, 2, (some .long), [], 1)
abbrev m152_ : Mth := (4, yX5_negate, cX5_negate, 2, none, [], 0)
abbrev m153_ : Mth := (4, yX5_plus, cX5_plus, 10, none, [], 1)
abbrev m154_ : Mth := (4, yX5_fitsInt, cX5_fitsInt, 5, (some .boolean), [], 0)
abbrev m155_ : Mth := (4, yX5_lowLong, cX5_lowLong, 1, (some .long), [], 0)
abbrev m156_ : Mth := (6, yX7_value, cX7_value, 6, (some .int), [], 1)
abbrev m157_ : Mth := (6, yX7_reckons, cX7_reckons, 6, (some .int), [], 1)
abbrev m158_ : Mth := (6, yX7_becomes, cX7_becomes, 6, none, [], 2)
abbrev m159_ : Mth := (6, yX7_times, cX7_times, 6, none, [], 2)
abbrev m160_ : Mth := (6, yX7_plus, cX7_plus, 4, none, [], 2)
abbrev m161_ : Mth := (6, yX7_isZero, cX7_isZero, 5, (some .boolean), [], 1)
abbrev m162_ : Mth := (5, yX6_round, cX6_round, 2, (some .long), [], 1)
abbrev m163_ : Mth := (6, yX7_round, cX7_round, 2, (some .long), [], 1)
abbrev m164_ : Mth := (6, yX7_rounded, cX7_rounded, 8, (some .long), [], 3)
abbrev m165_ : Mth := (5, yX6_bits, cX6_bits, 2, (some .int), [], 1)
abbrev m166_ : Mth := (4, yX5_dropSign, cX5_dropSign, 1, none, [], 0)
abbrev m167_ : Mth := (4, yX5_isBelowZero, cX5_isBelowZero, 1, (some .boolean), [], 0)
abbrev m168_ : Mth := (4, yX5_binaryDigits, cX5_binaryDigits, 2, (some .int), [], 0)
abbrev m169_ : Mth := (6, yX7_bits, cX7_bits, 6, (some .int), [], 1)
abbrev m170_ : Mth := (5, yX6_sign, cX6_sign, 2, (some .int), [], 1)
abbrev m171_ : Mth := (4, yX5_signum, cX5_signum, 1, (some .int), [], 0)
abbrev m172_ : Mth := (6, yX7_sign, cX7_sign, 2, (some .int), [], 1)
abbrev m173_ : Mth := (8, yL_digit, cL_digit, 5, (some .int), [(0, 10, 13, 27)], 4)
abbrev m174_ : Mth := (5, yX6_digit, cX6_digit, 4, (some .int), [], 2)
abbrev m175_ : Mth := (4, yX5_divideByTen, cX5_divideByTen, 6, (some .int), [], 0)
abbrev m176_ : Mth := (6, yX7_digit, cX7_digit, 4, (some .int), [], 2)
abbrev m177_ : Mth := (8, yL_rest, cL_rest, 5, (some .int), [(0, 10, 13, 83)], 4)
abbrev m178_ : Mth := (5, yX6_rest, cX6_rest, 3, (some .int), [], 2)
abbrev m179_ : Mth := (3, yX3_restAt, cX3_restAt, 8, (some .int), [], 2)
abbrev m180_ : Mth := (11, yJ9_floorMod_f86c9, cJ9_floorMod_f86c9, 6, (some .long), [], 2)
abbrev m181_ : Mth := (6, yX7_rest, cX7_rest, 7, (some .int), [], 2)
abbrev m182_ : Mth := (5, yX6_compare, cX6_compare, 3, (some .int), [], 2)
abbrev m183_ : Mth := (4, yX5_against, cX5_against, 3, (some .int), [], 1)
abbrev m184_ : Mth := (6, yX7_compare, cX7_compare, 6, (some .int), [], 2)
abbrev m185_ : Mth := (5, yX6_directions, cX6_directions, 1, (some .long), [], 0)
abbrev m186_ : Mth := (3, yX3_at, cX3_at, 6, (some .long), [], 1)
abbrev m187_ : Mth := (6, yX7_directions, cX7_directions, 3, (some .long), [], 0)
abbrev m188_ : Mth := (8, yL_tried, cL_tried, 3, (some .int), [(0, 8, 11, 94)], 2)
abbrev m189_ : Mth := (5, yX6_tried, cX6_tried, 1, (some .int), [], 0)
abbrev m190_ : Mth := (2, yX2_countRingless, cX2_countRingless, 3, (some .int), [], 1)
abbrev m191_ : Mth := (2, yX2_readWays, cX2_readWays, 4, none, [], 1)
abbrev m192_ : Mth := (2, yX2_direct, cX2_direct, 8, (some .int), [], 5)
abbrev m193_ : Mth := (2, yX2_isRingless, cX2_isRingless, 4, (some .boolean), [], 1)
abbrev m194_ : Mth := (6, yX7_tried, cX7_tried, 1, (some .int), [], 0)
abbrev m195_ : Mth := (6, yX7_directed, cX7_directed, 8, (some .int), [], 0)
abbrev m196_ : Mth := (6, yX7_hasNoRing, cX7_hasNoRing, 6, (some .boolean), [], 0)
abbrev m197_ : Mth := (5, yX6_isTrue, cX6_isTrue, 1, (some .boolean), [], 0)
abbrev m198_ : Mth := (5, yX6_coefficientsHold, cX6_coefficientsHold, 5, (some .boolean), [], 0)
abbrev m199_ : Mth := (10, yJ13_compare_74951, cJ13_compare_74951, 4, (some .int), [], 2)
abbrev m200_ : Mth := (5, yX6_countsHold, cX6_countsHold, 2, (some .boolean), [], 0)
abbrev m201_ : Mth := (5, yX6_directionsHold, cX6_directionsHold, 1, (some .boolean), [], 0)
abbrev m202_ : Mth := (5, yX6_firstWayHolds, cX6_firstWayHolds, 3, (some .boolean), [], 0)
abbrev m203_ : Mth := (5, yX6_wayHolds, cX6_wayHolds, 4, (some .boolean), [], 2)
abbrev m204_ : Mth := (5, yX6_fewestHolds, cX6_fewestHolds, 2, (some .boolean), [], 0)
abbrev m205_ : Mth := (1, yX1_countInRow, cX1_countInRow, 4, (some .int), [], 1)
abbrev m206_ : Mth := (6, yX7_isTrue, cX7_isTrue, 5, (some .boolean), [], 0)
abbrev m207_ : Mth := (6, yX7_areCoefficients, cX7_areCoefficients, 5, (some .boolean), [], 0)
abbrev m208_ : Mth := (6, yX7_isTorn, cX7_isTorn, 8, (some .boolean), [], 2)
abbrev m209_ : Mth := (6, yX7_copies, cX7_copies, 3, none, [], 0)
abbrev m210_ : Mth := (6, yX7_hasOddRing, cX7_hasOddRing, 7, (some .boolean), [], 0)
abbrev m211_ : Mth := (5, yX6_checksum, cX6_checksum, 4, (some .long), [], 0)
abbrev m212_ : Mth := (5, yX6_mixChart, cX6_mixChart, 6, (some .long), [], 2)
abbrev m213_ : Mth := (5, yX6_mix, cX6_mix, 4, (some .long), [], 2)
abbrev m214_ : Mth := (6, yX7_checksum, cX7_checksum, 4, (some .long), [], 0)
abbrev m215_ : Mth := (6, yX7_folded, cX7_folded, 9, (some .long), [], 3)
abbrev m216_ : Mth := (8, x, code, 9, ret, [], 1)
def mthL0 : List Mth := [m0_, m1_, m2_, m3_, m4_, m5_, m6_, m7_, m8_, m9_, m10_, m11_, m12_, m13_, m14_, m15_, m16_, m17_, m18_, m19_]
def mthL1 : List Mth := [m20_, m21_, m22_, m23_, m24_, m25_, m26_, m27_, m28_, m29_, m30_, m31_, m32_, m33_, m34_, m35_, m36_, m37_, m38_, m39_]
def mthL2 : List Mth := [m40_, m41_, m42_, m43_, m44_, m45_, m46_, m47_, m48_, m49_, m50_, m51_, m52_, m53_, m54_, m55_, m56_, m57_, m58_, m59_]
def mthL3 : List Mth := [m60_, m61_, m62_, m63_, m64_, m65_, m66_, m67_, m68_, m69_, m70_, m71_, m72_, m73_, m74_, m75_, m76_, m77_, m78_, m79_]
def mthL4 : List Mth := [m80_, m81_, m82_, m83_, m84_, m85_, m86_, m87_, m88_, m89_, m90_, m91_, m92_, m93_, m94_, m95_, m96_, m97_, m98_, m99_]
def mthL5 : List Mth := [m100_, m101_, m102_, m103_, m104_, m105_, m106_, m107_, m108_, m109_, m110_, m111_, m112_, m113_, m114_, m115_, m116_, m117_, m118_, m119_]
def mthL6 : List Mth := [m120_, m121_, m122_, m123_, m124_, m125_, m126_, m127_, m128_, m129_, m130_, m131_, m132_, m133_, m134_, m135_, m136_, m137_, m138_, m139_]
def mthL7 : List Mth := [m140_, m141_, m142_, m143_, m144_, m145_, m146_, m147_, m148_, m149_, m150_, m151_, m152_, m153_, m154_, m155_, m156_, m157_, m158_, m159_]
def mthL8 : List Mth := [m160_, m161_, m162_, m163_, m164_, m165_, m166_, m167_, m168_, m169_, m170_, m171_, m172_, m173_, m174_, m175_, m176_, m177_, m178_, m179_]
def mthL9 : List Mth := [m180_, m181_, m182_, m183_, m184_, m185_, m186_, m187_, m188_, m189_, m190_, m191_, m192_, m193_, m194_, m195_, m196_, m197_, m198_, m199_]
def mthL10 : List Mth := [m200_, m201_, m202_, m203_, m204_, m205_, m206_, m207_, m208_, m209_, m210_, m211_, m212_, m213_, m214_, m215_, m216_]
def mthLL : List (List Mth) := [mthL0, mthL1, mthL2, mthL3, mthL4, mthL5, mthL6, mthL7, mthL8, mthL9, mthL10]
def mth (m : Nat) : Mth := ((mthLL.getD (m / 20) []).getD (m % 20) (0, x, ⟨#[]⟩, 0, none, [], 0))
abbrev mo (m : Nat) : Nat := (mth m).1
abbrev my (m : Nat) : MethodName := (mth m).2.1
abbrev mcode (m : Nat) : ByteArray := (mth m).2.2.1
abbrev mmax (m : Nat) : Nat := (mth m).2.2.2.1
abbrev mret (m : Nat) : Option FieldType := (mth m).2.2.2.2.1
abbrev mhh (m : Nat) : List (Nat × Nat × Nat × Nat) := (mth m).2.2.2.2.2.1
abbrev mna (m : Nat) : Nat := (mth m).2.2.2.2.2.2
theorem e0_ : mth 0 = m0_ := rfl
theorem e1_ : mth 1 = m1_ := rfl
theorem e2_ : mth 2 = m2_ := rfl
theorem e3_ : mth 3 = m3_ := rfl
theorem e4_ : mth 4 = m4_ := rfl
theorem e5_ : mth 5 = m5_ := rfl
theorem e6_ : mth 6 = m6_ := rfl
theorem e7_ : mth 7 = m7_ := rfl
theorem e8_ : mth 8 = m8_ := rfl
theorem e9_ : mth 9 = m9_ := rfl
theorem e10_ : mth 10 = m10_ := rfl
theorem e11_ : mth 11 = m11_ := rfl
theorem e12_ : mth 12 = m12_ := rfl
theorem e13_ : mth 13 = m13_ := rfl
theorem e14_ : mth 14 = m14_ := rfl
theorem e15_ : mth 15 = m15_ := rfl
theorem e16_ : mth 16 = m16_ := rfl
theorem e17_ : mth 17 = m17_ := rfl
theorem e18_ : mth 18 = m18_ := rfl
theorem e19_ : mth 19 = m19_ := rfl
theorem e20_ : mth 20 = m20_ := rfl
theorem e21_ : mth 21 = m21_ := rfl
theorem e22_ : mth 22 = m22_ := rfl
theorem e23_ : mth 23 = m23_ := rfl
theorem e24_ : mth 24 = m24_ := rfl
theorem e25_ : mth 25 = m25_ := rfl
theorem e26_ : mth 26 = m26_ := rfl
theorem e27_ : mth 27 = m27_ := rfl
theorem e28_ : mth 28 = m28_ := rfl
theorem e29_ : mth 29 = m29_ := rfl
theorem e30_ : mth 30 = m30_ := rfl
theorem e31_ : mth 31 = m31_ := rfl
theorem e32_ : mth 32 = m32_ := rfl
theorem e33_ : mth 33 = m33_ := rfl
theorem e34_ : mth 34 = m34_ := rfl
theorem e35_ : mth 35 = m35_ := rfl
theorem e36_ : mth 36 = m36_ := rfl
theorem e37_ : mth 37 = m37_ := rfl
theorem e38_ : mth 38 = m38_ := rfl
theorem e39_ : mth 39 = m39_ := rfl
theorem e40_ : mth 40 = m40_ := rfl
theorem e41_ : mth 41 = m41_ := rfl
theorem e42_ : mth 42 = m42_ := rfl
theorem e43_ : mth 43 = m43_ := rfl
theorem e44_ : mth 44 = m44_ := rfl
theorem e45_ : mth 45 = m45_ := rfl
theorem e46_ : mth 46 = m46_ := rfl
theorem e47_ : mth 47 = m47_ := rfl
theorem e48_ : mth 48 = m48_ := rfl
theorem e49_ : mth 49 = m49_ := rfl
theorem e50_ : mth 50 = m50_ := rfl
theorem e51_ : mth 51 = m51_ := rfl
theorem e52_ : mth 52 = m52_ := rfl
theorem e53_ : mth 53 = m53_ := rfl
theorem e54_ : mth 54 = m54_ := rfl
theorem e55_ : mth 55 = m55_ := rfl
theorem e56_ : mth 56 = m56_ := rfl
theorem e57_ : mth 57 = m57_ := rfl
theorem e58_ : mth 58 = m58_ := rfl
theorem e59_ : mth 59 = m59_ := rfl
theorem e60_ : mth 60 = m60_ := rfl
theorem e61_ : mth 61 = m61_ := rfl
theorem e62_ : mth 62 = m62_ := rfl
theorem e63_ : mth 63 = m63_ := rfl
theorem e64_ : mth 64 = m64_ := rfl
theorem e65_ : mth 65 = m65_ := rfl
theorem e66_ : mth 66 = m66_ := rfl
theorem e67_ : mth 67 = m67_ := rfl
theorem e68_ : mth 68 = m68_ := rfl
theorem e69_ : mth 69 = m69_ := rfl
theorem e70_ : mth 70 = m70_ := rfl
theorem e71_ : mth 71 = m71_ := rfl
theorem e72_ : mth 72 = m72_ := rfl
theorem e73_ : mth 73 = m73_ := rfl
theorem e74_ : mth 74 = m74_ := rfl
theorem e75_ : mth 75 = m75_ := rfl
theorem e76_ : mth 76 = m76_ := rfl
theorem e77_ : mth 77 = m77_ := rfl
theorem e78_ : mth 78 = m78_ := rfl
theorem e79_ : mth 79 = m79_ := rfl
theorem e80_ : mth 80 = m80_ := rfl
theorem e81_ : mth 81 = m81_ := rfl
theorem e82_ : mth 82 = m82_ := rfl
theorem e83_ : mth 83 = m83_ := rfl
theorem e84_ : mth 84 = m84_ := rfl
theorem e85_ : mth 85 = m85_ := rfl
theorem e86_ : mth 86 = m86_ := rfl
theorem e87_ : mth 87 = m87_ := rfl
theorem e88_ : mth 88 = m88_ := rfl
theorem e89_ : mth 89 = m89_ := rfl
theorem e90_ : mth 90 = m90_ := rfl
theorem e91_ : mth 91 = m91_ := rfl
theorem e92_ : mth 92 = m92_ := rfl
theorem e93_ : mth 93 = m93_ := rfl
theorem e94_ : mth 94 = m94_ := rfl
theorem e95_ : mth 95 = m95_ := rfl
theorem e96_ : mth 96 = m96_ := rfl
theorem e97_ : mth 97 = m97_ := rfl
theorem e98_ : mth 98 = m98_ := rfl
theorem e99_ : mth 99 = m99_ := rfl
theorem e100_ : mth 100 = m100_ := rfl
theorem e101_ : mth 101 = m101_ := rfl
theorem e102_ : mth 102 = m102_ := rfl
theorem e103_ : mth 103 = m103_ := rfl
theorem e104_ : mth 104 = m104_ := rfl
theorem e105_ : mth 105 = m105_ := rfl
theorem e106_ : mth 106 = m106_ := rfl
theorem e107_ : mth 107 = m107_ := rfl
theorem e108_ : mth 108 = m108_ := rfl
theorem e109_ : mth 109 = m109_ := rfl
theorem e110_ : mth 110 = m110_ := rfl
theorem e111_ : mth 111 = m111_ := rfl
theorem e112_ : mth 112 = m112_ := rfl
theorem e113_ : mth 113 = m113_ := rfl
theorem e114_ : mth 114 = m114_ := rfl
theorem e115_ : mth 115 = m115_ := rfl
theorem e116_ : mth 116 = m116_ := rfl
theorem e117_ : mth 117 = m117_ := rfl
theorem e118_ : mth 118 = m118_ := rfl
theorem e119_ : mth 119 = m119_ := rfl
theorem e120_ : mth 120 = m120_ := rfl
theorem e121_ : mth 121 = m121_ := rfl
theorem e122_ : mth 122 = m122_ := rfl
theorem e123_ : mth 123 = m123_ := rfl
theorem e124_ : mth 124 = m124_ := rfl
theorem e125_ : mth 125 = m125_ := rfl
theorem e126_ : mth 126 = m126_ := rfl
theorem e127_ : mth 127 = m127_ := rfl
theorem e128_ : mth 128 = m128_ := rfl
theorem e129_ : mth 129 = m129_ := rfl
theorem e130_ : mth 130 = m130_ := rfl
theorem e131_ : mth 131 = m131_ := rfl
theorem e132_ : mth 132 = m132_ := rfl
theorem e133_ : mth 133 = m133_ := rfl
theorem e134_ : mth 134 = m134_ := rfl
theorem e135_ : mth 135 = m135_ := rfl
theorem e136_ : mth 136 = m136_ := rfl
theorem e137_ : mth 137 = m137_ := rfl
theorem e138_ : mth 138 = m138_ := rfl
theorem e139_ : mth 139 = m139_ := rfl
theorem e140_ : mth 140 = m140_ := rfl
theorem e141_ : mth 141 = m141_ := rfl
theorem e142_ : mth 142 = m142_ := rfl
theorem e143_ : mth 143 = m143_ := rfl
theorem e144_ : mth 144 = m144_ := rfl
theorem e145_ : mth 145 = m145_ := rfl
theorem e146_ : mth 146 = m146_ := rfl
theorem e147_ : mth 147 = m147_ := rfl
theorem e148_ : mth 148 = m148_ := rfl
theorem e149_ : mth 149 = m149_ := rfl
theorem e150_ : mth 150 = m150_ := rfl
theorem e151_ : mth 151 = m151_ := rfl
theorem e152_ : mth 152 = m152_ := rfl
theorem e153_ : mth 153 = m153_ := rfl
theorem e154_ : mth 154 = m154_ := rfl
theorem e155_ : mth 155 = m155_ := rfl
theorem e156_ : mth 156 = m156_ := rfl
theorem e157_ : mth 157 = m157_ := rfl
theorem e158_ : mth 158 = m158_ := rfl
theorem e159_ : mth 159 = m159_ := rfl
theorem e160_ : mth 160 = m160_ := rfl
theorem e161_ : mth 161 = m161_ := rfl
theorem e162_ : mth 162 = m162_ := rfl
theorem e163_ : mth 163 = m163_ := rfl
theorem e164_ : mth 164 = m164_ := rfl
theorem e165_ : mth 165 = m165_ := rfl
theorem e166_ : mth 166 = m166_ := rfl
theorem e167_ : mth 167 = m167_ := rfl
theorem e168_ : mth 168 = m168_ := rfl
theorem e169_ : mth 169 = m169_ := rfl
theorem e170_ : mth 170 = m170_ := rfl
theorem e171_ : mth 171 = m171_ := rfl
theorem e172_ : mth 172 = m172_ := rfl
theorem e173_ : mth 173 = m173_ := rfl
theorem e174_ : mth 174 = m174_ := rfl
theorem e175_ : mth 175 = m175_ := rfl
theorem e176_ : mth 176 = m176_ := rfl
theorem e177_ : mth 177 = m177_ := rfl
theorem e178_ : mth 178 = m178_ := rfl
theorem e179_ : mth 179 = m179_ := rfl
theorem e180_ : mth 180 = m180_ := rfl
theorem e181_ : mth 181 = m181_ := rfl
theorem e182_ : mth 182 = m182_ := rfl
theorem e183_ : mth 183 = m183_ := rfl
theorem e184_ : mth 184 = m184_ := rfl
theorem e185_ : mth 185 = m185_ := rfl
theorem e186_ : mth 186 = m186_ := rfl
theorem e187_ : mth 187 = m187_ := rfl
theorem e188_ : mth 188 = m188_ := rfl
theorem e189_ : mth 189 = m189_ := rfl
theorem e190_ : mth 190 = m190_ := rfl
theorem e191_ : mth 191 = m191_ := rfl
theorem e192_ : mth 192 = m192_ := rfl
theorem e193_ : mth 193 = m193_ := rfl
theorem e194_ : mth 194 = m194_ := rfl
theorem e195_ : mth 195 = m195_ := rfl
theorem e196_ : mth 196 = m196_ := rfl
theorem e197_ : mth 197 = m197_ := rfl
theorem e198_ : mth 198 = m198_ := rfl
theorem e199_ : mth 199 = m199_ := rfl
theorem e200_ : mth 200 = m200_ := rfl
theorem e201_ : mth 201 = m201_ := rfl
theorem e202_ : mth 202 = m202_ := rfl
theorem e203_ : mth 203 = m203_ := rfl
theorem e204_ : mth 204 = m204_ := rfl
theorem e205_ : mth 205 = m205_ := rfl
theorem e206_ : mth 206 = m206_ := rfl
theorem e207_ : mth 207 = m207_ := rfl
theorem e208_ : mth 208 = m208_ := rfl
theorem e209_ : mth 209 = m209_ := rfl
theorem e210_ : mth 210 = m210_ := rfl
theorem e211_ : mth 211 = m211_ := rfl
theorem e212_ : mth 212 = m212_ := rfl
theorem e213_ : mth 213 = m213_ := rfl
theorem e214_ : mth 214 = m214_ := rfl
theorem e215_ : mth 215 = m215_ := rfl
theorem e216_ : mth 216 = m216_ := rfl
def acl : List vw_C := [(RX0, TX0, 2), (RX1, TX1, 2), (RX2, TX2, 4), (RX3, TX3, 5), (RX5, TX5, 1), (RX6, TX6, 11), (RX7, TX7, 16)]
def exn (E : Nat) : String := (["java/lang/IllegalArgumentException", "java/lang/IllegalStateException", "java/lang/IndexOutOfBoundsException", "java/util/NoSuchElementException", "java/lang/ArithmeticException", "java/lang/UnsupportedOperationException"] : List String).getD E ""
def fresL : List (Nat × Nat × Nat × Nat) := [(5, 10, 5, 0), (5, 16, 5, 1), (5, 22, 5, 2), (5, 29, 5, 3), (5, 36, 5, 4), (5, 43, 5, 5), (5, 47, 5, 6), (5, 50, 5, 7), (5, 53, 5, 8), (5, 56, 5, 9), (5, 59, 5, 10), (0, 9, 0, 0), (0, 15, 0, 1), (3, 9, 3, 0), (3, 18, 3, 1), (3, 22, 3, 2), (3, 26, 3, 3), (3, 29, 3, 4), (1, 9, 1, 0), (1, 15, 1, 1), (2, 9, 2, 0), (2, 15, 2, 1), (2, 18, 2, 2), (2, 21, 2, 3), (4, 9, 4, 0), (6, 11, 6, 2), (6, 14, 6, 4), (6, 17, 6, 5), (6, 21, 6, 6), (6, 24, 6, 7), (6, 28, 6, 8), (6, 31, 6, 9), (6, 34, 6, 10), (6, 37, 6, 11), (6, 40, 6, 12), (6, 43, 6, 13), (6, 46, 6, 14), (6, 49, 6, 15), (6, 52, 6, 0), (6, 56, 6, 1), (6, 91, 6, 3)]
def mresL0 : List (Nat × Nat × Nat × Nat) := [(8, 96, 2, 0), (5, 1, 3, 0), (0, 3, 3, 0), (3, 3, 3, 0), (1, 3, 3, 0), (2, 3, 3, 0), (4, 1, 3, 0), (8, 99, 2, 6), (6, 1, 3, 0), (8, 100, 1, 7)]
def mresL1 : List (Nat × Nat × Nat × Nat) := [(8, 7, 0, 8), (5, 69, 0, 9), (5, 73, 0, 10), (0, 29, 1, 11), (0, 35, 1, 12), (8, 105, 0, 13), (6, 59, 1, 14), (6, 67, 0, 15), (6, 71, 0, 16), (8, 106, 0, 17)]
def mresL2 : List (Nat × Nat × Nat × Nat) := [(8, 109, 1, 18), (8, 15, 0, 19), (5, 77, 0, 20), (5, 80, 0, 21), (0, 38, 0, 22), (8, 112, 0, 23), (8, 113, 1, 24), (8, 21, 0, 25), (5, 83, 0, 22), (5, 86, 0, 26)]
def mresL3 : List (Nat × Nat × Nat × Nat) := [(0, 23, 1, 27), (8, 115, 0, 28), (6, 75, 0, 29), (6, 94, 1, 30), (8, 116, 1, 31), (8, 24, 0, 32), (5, 89, 0, 33), (5, 286, 0, 34), (5, 92, 0, 35), (0, 19, 0, 34)]
def mresL4 : List (Nat × Nat × Nat × Nat) := [(5, 96, 1, 27), (5, 101, 0, 36), (0, 46, 1, 37), (8, 118, 0, 38), (6, 79, 0, 39), (6, 83, 0, 40), (6, 63, 1, 41), (8, 119, 1, 42), (8, 29, 0, 43), (5, 104, 0, 44)]
def mresL5 : List (Nat × Nat × Nat × Nat) := [(5, 108, 0, 45), (5, 112, 0, 46), (8, 122, 0, 47), (8, 123, 1, 48), (8, 33, 0, 49), (5, 120, 0, 50), (8, 125, 0, 51), (8, 126, 1, 52), (8, 39, 0, 53), (5, 123, 0, 54)]
def mresL6 : List (Nat × Nat × Nat × Nat) := [(0, 49, 0, 45), (0, 53, 0, 46), (0, 57, 0, 36), (8, 128, 0, 55), (6, 87, 1, 56), (8, 129, 1, 57), (8, 42, 0, 58), (5, 126, 0, 59), (0, 60, 1, 60), (8, 131, 0, 61)]
def mresL7 : List (Nat × Nat × Nat × Nat) := [(8, 132, 0, 62), (5, 129, 0, 63), (8, 135, 0, 64), (8, 136, 0, 65), (5, 132, 0, 66), (8, 139, 0, 67), (8, 140, 0, 68), (5, 136, 0, 69), (8, 144, 0, 70), (8, 145, 1, 71)]
def mresL8 : List (Nat × Nat × Nat × Nat) := [(8, 45, 0, 72), (5, 140, 0, 73), (0, 42, 0, 21), (8, 147, 0, 74), (8, 148, 0, 75), (8, 151, 0, 76), (8, 152, 0, 77), (8, 155, 0, 29), (8, 156, 1, 78), (8, 48, 0, 79)]
def mresL9 : List (Nat × Nat × Nat × Nat) := [(8, 158, 0, 80), (8, 159, 1, 81), (8, 51, 0, 82), (8, 161, 0, 83), (8, 162, 1, 84), (8, 54, 0, 85), (5, 143, 0, 86), (8, 164, 0, 87), (8, 165, 1, 88), (8, 57, 0, 89)]
def mresL10 : List (Nat × Nat × Nat × Nat) := [(5, 146, 1, 11), (8, 167, 0, 90), (8, 168, 1, 91), (8, 60, 0, 92), (8, 171, 0, 93), (8, 172, 0, 94), (5, 157, 1, 95), (7, 7, 0, 9), (7, 13, 1, 96), (7, 19, 1, 97)]
def mresL11 : List (Nat × Nat × Nat × Nat) := [(7, 22, 0, 35), (8, 175, 0, 98), (6, 98, 0, 99), (8, 176, 1, 100), (8, 64, 0, 101), (5, 163, 1, 96), (8, 178, 0, 102), (8, 179, 0, 103), (5, 167, 1, 104), (7, 26, 0, 22)]
def mresL12 : List (Nat × Nat × Nat × Nat) := [(7, 29, 1, 27), (7, 34, 1, 105), (8, 182, 0, 106), (6, 101, 0, 107), (8, 183, 0, 108), (5, 170, 1, 109), (7, 38, 1, 110), (8, 186, 0, 111), (8, 187, 1, 112), (8, 67, 0, 113)]
def mresL13 : List (Nat × Nat × Nat × Nat) := [(5, 175, 0, 114), (3, 33, 0, 69), (3, 37, 0, 66), (3, 41, 0, 115), (3, 47, 0, 9), (3, 57, 1, 116), (3, 61, 0, 35), (3, 44, 0, 117), (5, 178, 0, 118), (8, 189, 0, 119)]
def mresL14 : List (Nat × Nat × Nat × Nat) := [(6, 109, 0, 120), (6, 105, 0, 121), (8, 190, 0, 122), (5, 181, 1, 123), (8, 193, 0, 124), (6, 113, 0, 125), (8, 194, 0, 126), (5, 184, 0, 127), (8, 197, 0, 128), (8, 198, 1, 129)]
def mresL15 : List (Nat × Nat × Nat × Nat) := [(8, 70, 0, 130), (5, 187, 0, 131), (1, 18, 0, 132), (1, 22, 0, 9), (1, 34, 0, 45), (1, 38, 1, 133), (8, 200, 0, 134), (6, 117, 0, 135), (8, 201, 1, 136), (8, 73, 0, 137)]
def mresL16 : List (Nat × Nat × Nat × Nat) := [(5, 192, 0, 138), (1, 42, 1, 139), (1, 46, 0, 35), (8, 203, 0, 140), (8, 204, 1, 141), (8, 76, 0, 142), (5, 200, 0, 143), (8, 206, 0, 144), (6, 120, 0, 145), (8, 207, 1, 146)]
def mresL17 : List (Nat × Nat × Nat × Nat) := [(8, 80, 0, 147), (5, 204, 0, 148), (5, 298, 0, 149), (5, 301, 0, 150), (4, 15, 1, 151), (4, 21, 0, 152), (4, 30, 0, 153), (5, 304, 0, 153), (5, 208, 0, 154), (5, 217, 0, 155)]
def mresL18 : List (Nat × Nat × Nat × Nat) := [(8, 209, 0, 156), (6, 140, 0, 157), (6, 125, 1, 158), (6, 129, 1, 159), (6, 132, 1, 160), (6, 136, 1, 161), (8, 210, 0, 162), (8, 213, 0, 163), (6, 149, 0, 164), (8, 214, 0, 165)]
def mresL19 : List (Nat × Nat × Nat × Nat) := [(5, 221, 0, 166), (4, 24, 0, 167), (5, 224, 0, 168), (8, 217, 0, 169), (8, 218, 0, 170), (5, 227, 0, 171), (4, 34, 0, 168), (8, 221, 0, 172), (8, 222, 1, 173), (8, 85, 0, 174)]
def mresL20 : List (Nat × Nat × Nat × Nat) := [(5, 232, 0, 175), (8, 224, 0, 176), (8, 225, 1, 177), (8, 88, 0, 178), (5, 237, 0, 179), (3, 51, 1, 180), (8, 227, 0, 181), (8, 228, 0, 182), (5, 240, 0, 183), (8, 231, 0, 184)]
def mresL21 : List (Nat × Nat × Nat × Nat) := [(8, 232, 0, 185), (5, 250, 1, 151), (5, 246, 0, 186), (8, 236, 0, 187), (8, 237, 1, 188), (8, 91, 0, 189), (5, 258, 0, 190), (2, 25, 0, 191), (2, 33, 0, 9), (2, 39, 0, 45)]
def mresL22 : List (Nat × Nat × Nat × Nat) := [(2, 29, 1, 192), (2, 43, 1, 193), (8, 239, 0, 194), (6, 159, 0, 195), (6, 155, 0, 196), (8, 240, 0, 197), (5, 261, 0, 198), (5, 310, 1, 199), (5, 264, 0, 200), (5, 267, 0, 201)]
def mresL23 : List (Nat × Nat × Nat × Nat) := [(5, 270, 0, 202), (5, 316, 0, 203), (5, 273, 0, 204), (5, 321, 0, 205), (1, 28, 1, 12), (8, 243, 0, 206), (6, 168, 0, 207), (6, 162, 0, 98), (6, 171, 0, 187), (6, 175, 0, 208)]
def mresL24 : List (Nat × Nat × Nat × Nat) := [(6, 165, 0, 209), (6, 179, 0, 128), (6, 182, 0, 124), (6, 185, 0, 210), (6, 188, 0, 106), (6, 191, 0, 111), (8, 244, 0, 211), (5, 278, 1, 212), (5, 282, 1, 213), (8, 247, 0, 214)]
def mresL25 : List (Nat × Nat × Nat × Nat) := [(6, 198, 1, 215), (5, 21, 4, 2), (5, 28, 4, 3), (5, 35, 4, 4), (5, 42, 4, 5), (5, 9, 4, 1), (3, 17, 4, 1)]
def mresL : List (Nat × Nat × Nat × Nat) := mresL0 ++ (mresL1 ++ (mresL2 ++ (mresL3 ++ (mresL4 ++ (mresL5 ++ (mresL6 ++ (mresL7 ++ (mresL8 ++ (mresL9 ++ (mresL10 ++ (mresL11 ++ (mresL12 ++ (mresL13 ++ (mresL14 ++ (mresL15 ++ (mresL16 ++ (mresL17 ++ (mresL18 ++ (mresL19 ++ (mresL20 ++ (mresL21 ++ (mresL22 ++ (mresL23 ++ (mresL24 ++ (mresL25)))))))))))))))))))))))))
def cresL : List (Nat × Nat × Nat × Nat) := [(8, 8, 0, 5), (8, 97, 0, 6), (5, 7, 0, 0), (5, 19, 0, 3), (5, 26, 0, 1), (5, 33, 0, 2), (5, 40, 0, 4), (3, 15, 0, 0), (5, 62, 1, 0), (5, 152, 1, 1), (5, 195, 1, 2), (5, 115, 1, 3), (5, 212, 1, 4), (5, 253, 1, 5)]
def catL : List (Nat × Nat × Nat × Nat) := [(8, 13, 1, 0), (8, 19, 1, 1), (8, 27, 1, 2), (8, 37, 1, 3), (8, 83, 1, 4), (8, 94, 1, 5)]
def kresL : List (Nat × Nat × Int32) := [(9, 265, 1431655765), (9, 266, 858993459), (9, 267, 252645135)]
def lresL : List (Nat × Nat × Int64) := [(4, 13, 4294967295), (4, 28, (-1)), (6, 123, 10), (6, 143, 1099511627776), (6, 145, (-2147483648)), (6, 147, 2147483647), (4, 38, 10), (5, 244, (-1)), (6, 153, (-1)), (5, 319, 2), (5, 276, 7), (5, 308, 31), (6, 196, 7), (6, 194, 31)]
def fres (o i : Nat) : Option (Nat × Nat) := (fresL.find? (fun e => e.1 == o && e.2.1 == i)).map (fun e => e.2.2)
def mres (o i : Nat) : Option (Nat × Nat) := (mresL.find? (fun e => e.1 == o && e.2.1 == i)).map (fun e => e.2.2)
def cres (o i : Nat) : Option (Nat × Nat) := (cresL.find? (fun e => e.1 == o && e.2.1 == i)).map (fun e => e.2.2)
def cat (o i : Nat) : Option (Nat × Nat) := (catL.find? (fun e => e.1 == o && e.2.1 == i)).map (fun e => e.2.2)
def kres (o i : Nat) : Option (Int32) := (kresL.find? (fun e => e.1 == o && e.2.1 == i)).map (fun e => e.2.2)
def lres (o i : Nat) : Option (Int64) := (lresL.find? (fun e => e.1 == o && e.2.1 == i)).map (fun e => e.2.2)
def strL : List (Nat × String) := [(64, "many is out of range"), (117, "there is no way between them"), (154, "there are no places"), (173, "sets is out of range"), (190, "k is out of range"), (197, "power is out of range"), (214, "the value is not an int"), (230, "index is out of range"), (235, "by is below 1"), (255, "there are more than 10 ways"), (290, "no such place"), (292, "both are the same"), (294, "the number is too low"), (296, "there would be more than 9 places")]
def nestL : List (Nat × Nat × Nat) := [(5, 21, 2), (5, 28, 3), (5, 35, 4), (5, 42, 5), (5, 9, 1), (3, 17, 1)]
def excL : List (Nat × Nat) := [(0, 66), (1, 156), (2, 199), (3, 119), (4, 216), (5, 257)]
