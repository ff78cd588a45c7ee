def M_X0_init : MT := ((yX0_init, cX0_init), ((2, none), ((RX0, 0), (2, 41))))
def M_X0_tell : MT := ((yX0_tell, cX0_tell), ((4, none), ((RX0, 0), (2, 45))))
def M_X0_go : MT := ((yX0_go, cX0_go), ((3, none), ((RX0, 0), (1, 23))))
def M_X0_gone : MT := ((yX0_gone, cX0_gone), ((4, (some .int)), ((RX0, 0), (0, 0))))
def M_X0_above : MT := ((yX0_above, cX0_above), ((3, (some .int)), ((RX0, 0), (1, 23))))
def M_X0_below : MT := ((yX0_below, cX0_below), ((4, (some .int)), ((RX0, 0), (1, 23))))
def M_X0_nextBehind : MT := ((yX0_nextBehind, cX0_nextBehind), ((4, (some (.object "UnguessedRound$Fraction"))), ((RX0, 0), (3, 68))))
def M_X0_likelihood : MT := ((yX0_likelihood, cX0_likelihood), ((4, (some (.object "UnguessedRound$Fraction"))), ((RX0, 0), (3, 80))))
def M_X0_unlikeSteps : MT := ((yX0_unlikeSteps, cX0_unlikeSteps), ((3, (some .int)), ((RX0, 0), (3, 68))))
def M_X0_allSteps : MT := ((yX0_allSteps, cX0_allSteps), ((3, (some .int)), ((RX0, 0), (3, 68))))
def M_X0_leastNewRow : MT := ((yX0_leastNewRow, cX0_leastNewRow), ((5, (some .int)), ((RX0, 0), (3, 70))))
def M_X0_findEndings : MT := ((yX0_findEndings, cX0_findEndings), ((3, none), ((RX0, 0), (3, 71))))
def M_X0_endingsBehind : MT := ((yX0_endingsBehind, cX0_endingsBehind), ((5, (some .int)), ((RX0, 0), (2, 47))))
def M_X0_endingsBy : MT := ((yX0_endingsBy, cX0_endingsBy), ((5, (some .int)), ((RX0, 0), (1, 23))))
def M_X0_leastOn : MT := ((yX0_leastOn, cX0_leastOn), ((4, (some .int)), ((RX0, 0), (2, 47))))
def M_X1_init : MT := ((yX1_init, cX1_init), ((2, none), ((RX1, 1), (2, 41))))
def M_X1_alike : MT := ((yX1_alike, cX1_alike), ((4, (some .int)), ((RX1, 1), (2, 47))))
def M_X1_chance : MT := ((yX1_chance, cX1_chance), ((6, (some (.object "UnguessedRound$Fraction"))), ((RX1, 1), (3, 80))))
def M_X1_fittingSeeds : MT := ((yX1_fittingSeeds, cX1_fittingSeeds), ((3, (some .int)), ((RX1, 1), (3, 71))))
def M_X1_leastSeed : MT := ((yX1_leastSeed, cX1_leastSeed), ((2, (some .int)), ((RX1, 1), (3, 71))))
def M_X1_fits : MT := ((yX1_fits, cX1_fits), ((5, (some .boolean)), ((RX1, 1), (2, 47))))
def M_X2_init : MT := ((yX2_init, cX2_init), ((1, none), ((RX2, 2), (1, 21))))
def M_X2_become : MT := ((yX2_become, cX2_become), ((7, (some (.object "UnguessedRound$Fraction"))), ((RX2, 2), (1, 30))))
def M_X2_multiply : MT := ((yX2_multiply, cX2_multiply), ((5, none), ((RX2, 2), (2, 56))))
def M_X2_part : MT := ((yX2_part, cX2_part), ((2, (some .long)), ((RX2, 2), (0, 0))))
def M_X2_commonDivisor : MT := ((yX2_commonDivisor, cX2_commonDivisor), ((11, (some .long)), ((RX2, 2), (0, 0))))
def M_X3_init : MT := ((yX3_init, cX3_init), ((2, none), ((RX3, 3), (1, 21))))
def M_X3_worthOf : MT := ((yX3_worthOf, cX3_worthOf), ((2, (some .int)), ((RX3, 3), (0, 0))))
def M_X3_changeWorth : MT := ((yX3_changeWorth, cX3_changeWorth), ((4, (some .int)), ((RX3, 3), (1, 22))))
def M_X3_wayOf : MT := ((yX3_wayOf, cX3_wayOf), ((5, (some .int)), ((RX3, 3), (0, 0))))
def M_X3_changeWay : MT := ((yX3_changeWay, cX3_changeWay), ((5, (some .int)), ((RX3, 3), (1, 24))))
def M_X3_changeLook : MT := ((yX3_changeLook, cX3_changeLook), ((3, (some .int)), ((RX3, 3), (0, 0))))
def M_X3_changeNeed : MT := ((yX3_changeNeed, cX3_changeNeed), ((3, (some .int)), ((RX3, 3), (0, 0))))
def M_X3_allWorths : MT := ((yX3_allWorths, cX3_allWorths), ((3, (some .int)), ((RX3, 3), (1, 21))))
def M_X3_allWays : MT := ((yX3_allWays, cX3_allWays), ((4, (some .int)), ((RX3, 3), (1, 24))))
def M_X4_init : MT := ((yX4_init, cX4_init), ((1, none), ((RX4, 4), (1, 21))))
def M_X4_add : MT := ((yX4_add, cX4_add), ((2, (some .boolean)), ((RX4, 4), (4, 86))))
def M_X4_empty : MT := ((yX4_empty, cX4_empty), ((2, (some .int)), ((RX4, 4), (4, 86))))
def M_X4_reread : MT := ((yX4_reread, cX4_reread), ((2, none), ((RX4, 4), (3, 65))))
def M_X4_goesOnWith : MT := ((yX4_goesOnWith, cX4_goesOnWith), ((4, (some .boolean)), ((RX4, 4), (2, 42))))
def M_X4_isTold : MT := ((yX4_isTold, cX4_isTold), ((2, (some .boolean)), ((RX4, 4), (0, 0))))
def M_X4_lengthOf : MT := ((yX4_lengthOf, cX4_lengthOf), ((2, (some .int)), ((RX4, 4), (0, 0))))
def M_X4_shedOf : MT := ((yX4_shedOf, cX4_shedOf), ((5, (some .int)), ((RX4, 4), (0, 0))))
def M_X4_same : MT := ((yX4_same, cX4_same), ((4, (some .boolean)), ((RX4, 4), (1, 24))))
def M_X5_init : MT := ((yX5_init, cX5_init), ((2, none), ((RX5, 5), (1, 21))))
def M_X5_found : MT := ((yX5_found, cX5_found), ((2, (some .int)), ((RX5, 5), (0, 0))))
def M_X5_isLost : MT := ((yX5_isLost, cX5_isLost), ((2, (some .boolean)), ((RX5, 5), (2, 42))))
def M_X5_formOf : MT := ((yX5_formOf, cX5_formOf), ((2, (some .int)), ((RX5, 5), (1, 21))))
def M_X5_sizeOf : MT := ((yX5_sizeOf, cX5_sizeOf), ((2, (some .int)), ((RX5, 5), (1, 21))))
def M_X5_itemOf : MT := ((yX5_itemOf, cX5_itemOf), ((3, (some .int)), ((RX5, 5), (1, 21))))
def M_X5_change : MT := ((yX5_change, cX5_change), ((4, none), ((RX5, 5), (2, 42))))
def M_X5_narrow : MT := ((yX5_narrow, cX5_narrow), ((2, (some .int)), ((RX5, 5), (0, 0))))
def M_X5_make : MT := ((yX5_make, cX5_make), ((5, none), ((RX5, 5), (3, 65))))
def M_X5_drop : MT := ((yX5_drop, cX5_drop), ((2, (some .int)), ((RX5, 5), (2, 42))))
def M_X5_hindrance : MT := ((yX5_hindrance, cX5_hindrance), ((4, (some .int)), ((RX5, 5), (3, 63))))
def M_X5_hasItems : MT := ((yX5_hasItems, cX5_hasItems), ((4, (some .boolean)), ((RX5, 5), (2, 42))))
def M_X5_move : MT := ((yX5_move, cX5_move), ((7, none), ((RX5, 5), (3, 65))))
def M_X6_init : MT := ((yX6_init, cX6_init), ((3, none), ((RX6, 6), (2, 41))))
def M_X6_haul : MT := ((yX6_haul, cX6_haul), ((5, (some .int)), ((RX6, 6), (1, 21))))
def M_X6_seek : MT := ((yX6_seek, cX6_seek), ((11, none), ((RX6, 6), (2, 48))))
def M_X6_take : MT := ((yX6_take, cX6_take), ((4, none), ((RX6, 6), (0, 0))))
def M_X6_part : MT := ((yX6_part, cX6_part), ((2, (some .int)), ((RX6, 6), (0, 0))))
def M_X6_weigh : MT := ((yX6_weigh, cX6_weigh), ((7, none), ((RX6, 6), (2, 48))))
def M_X6_sort : MT := ((yX6_sort, cX6_sort), ((3, none), ((RX6, 6), (1, 21))))
def M_X6_meetAboveBoth : MT := ((yX6_meetAboveBoth, cX6_meetAboveBoth), ((1, (some .boolean)), ((RX6, 6), (0, 0))))
def M_X6_leastLot : MT := ((yX6_leastLot, cX6_leastLot), ((3, (some (.object "UnguessedRound$Fraction"))), ((RX6, 6), (3, 74))))
def M_X6_leastMean : MT := ((yX6_leastMean, cX6_leastMean), ((3, (some (.object "UnguessedRound$Fraction"))), ((RX6, 6), (3, 74))))
def M_X6_learnBy : MT := ((yX6_learnBy, cX6_learnBy), ((10, none), ((RX6, 6), (3, 78))))
def M_X7_init : MT := ((yX7_init, cX7_init), ((3, none), ((RX7, 7), (1, 21))))
def M_X7_shedIn : MT := ((yX7_shedIn, cX7_shedIn), ((5, (some .int)), ((RX7, 7), (1, 24))))
def M_X7_comesTo : MT := ((yX7_comesTo, cX7_comesTo), ((5, (some .int)), ((RX7, 7), (1, 24))))
def M_X7_aloneFor : MT := ((yX7_aloneFor, cX7_aloneFor), ((4, (some .int)), ((RX7, 7), (2, 48))))
def M_X7_aloneFrom : MT := ((yX7_aloneFrom, cX7_aloneFrom), ((4, (some .int)), ((RX7, 7), (2, 48))))
def M_X8_init : MT := ((yX8_init, cX8_init), ((4, none), ((RX8, 8), (3, 63))))
def M_X8_type : MT := ((yX8_type, cX8_type), ((2, (some .int)), ((RX8, 8), (5, 107))))
def M_X8_wipe : MT := ((yX8_wipe, cX8_wipe), ((1, (some .int)), ((RX8, 8), (5, 107))))
def M_X8_fault : MT := ((yX8_fault, cX8_fault), ((1, (some .int)), ((RX8, 8), (0, 0))))
def M_X8_worth : MT := ((yX8_worth, cX8_worth), ((3, (some .int)), ((RX8, 8), (2, 45))))
def M_X8_way : MT := ((yX8_way, cX8_way), ((4, (some .int)), ((RX8, 8), (2, 48))))
def M_X8_set : MT := ((yX8_set, cX8_set), ((3, (some .int)), ((RX8, 8), (1, 22))))
def M_X8_read : MT := ((yX8_read, cX8_read), ((3, (some .int)), ((RX8, 8), (3, 63))))
def M_X8_night : MT := ((yX8_night, cX8_night), ((3, (some .int)), ((RX8, 8), (1, 24))))
def M_X8_at : MT := ((yX8_at, cX8_at), ((3, (some .int)), ((RX8, 8), (2, 48))))
def M_X8_when : MT := ((yX8_when, cX8_when), ((3, (some .int)), ((RX8, 8), (2, 48))))
def M_X8_alone : MT := ((yX8_alone, cX8_alone), ((4, (some .int)), ((RX8, 8), (3, 71))))
def M_X8_steals : MT := ((yX8_steals, cX8_steals), ((4, (some .int)), ((RX8, 8), (2, 48))))
def M_X8_next : MT := ((yX8_next, cX8_next), ((5, (some .long)), ((RX8, 8), (4, 91))))
def M_X8_likely : MT := ((yX8_likely, cX8_likely), ((3, (some .long)), ((RX8, 8), (4, 103))))
def M_X8_fresh : MT := ((yX8_fresh, cX8_fresh), ((2, (some .int)), ((RX8, 8), (4, 94))))
def M_X8_breaks : MT := ((yX8_breaks, cX8_breaks), ((5, (some .int)), ((RX8, 8), (3, 78))))
def M_X8_seen : MT := ((yX8_seen, cX8_seen), ((8, (some .int)), ((RX8, 8), (3, 78))))
def M_X8_least : MT := ((yX8_least, cX8_least), ((4, (some .long)), ((RX8, 8), (4, 96))))
def M_X8_lamp : MT := ((yX8_lamp, cX8_lamp), ((6, (some .int)), ((RX8, 8), (3, 78))))
def M_X8_learn : MT := ((yX8_learn, cX8_learn), ((5, (some .int)), ((RX8, 8), (4, 107))))
def M_X8_dice : MT := ((yX8_dice, cX8_dice), ((4, (some .long)), ((RX8, 8), (4, 105))))
def M_X8_seeds : MT := ((yX8_seeds, cX8_seeds), ((2, (some .int)), ((RX8, 8), (4, 93))))
def M_X8_sheet : MT := ((yX8_sheet, cX8_sheet), ((4, (some .int)), ((RX8, 8), (4, 89))))
def M_X8_lose : MT := ((yX8_lose, cX8_lose), ((2, (some .int)), ((RX8, 8), (3, 63))))
def M_X8_put : MT := ((yX8_put, cX8_put), ((6, (some .int)), ((RX8, 8), (4, 86))))
def M_X8_get : MT := ((yX8_get, cX8_get), ((5, (some .int)), ((RX8, 8), (4, 86))))
def M_X8_copy : MT := ((yX8_copy, cX8_copy), ((6, (some .int)), ((RX8, 8), (4, 91))))
def M_X8_write : MT := ((yX8_write, cX8_write), ((5, (some .int)), ((RX8, 8), (3, 65))))
def M_X8_count : MT := ((yX8_count, cX8_count), ((2, (some .int)), ((RX8, 8), (4, 90))))
def M_X8_digest : MT := ((yX8_digest, cX8_digest), ((4, (some .long)), ((RX8, 8), (6, 156))))
def M_X8_joinNight : MT := ((yX8_joinNight, cX8_joinNight), ((7, (some .long)), ((RX8, 8), (5, 128))))
def M_X8_joinBook : MT := ((yX8_joinBook, cX8_joinBook), ((7, (some .long)), ((RX8, 8), (5, 115))))
def M_X8_joinLots : MT := ((yX8_joinLots, cX8_joinLots), ((6, (some .long)), ((RX8, 8), (5, 131))))
def M_X8_join : MT := ((yX8_join, cX8_join), ((4, (some .long)), ((RX8, 8), (0, 0))))
def M_X8_refusal : MT := ((yX8_refusal, cX8_refusal), ((1, (some .long)), ((RX8, 8), (0, 0))))
def M_X8_isLot : MT := ((yX8_isLot, cX8_isLot), ((4, (some .boolean)), ((RX8, 8), (2, 42))))
def M_X8_isSixteenths : MT := ((yX8_isSixteenths, cX8_isSixteenths), ((1, (some .boolean)), ((RX8, 8), (1, 22))))
def M_X8_isShed : MT := ((yX8_isShed, cX8_isShed), ((1, (some .boolean)), ((RX8, 8), (1, 22))))
def M_X8_isWorth : MT := ((yX8_isWorth, cX8_isWorth), ((1, (some .boolean)), ((RX8, 8), (1, 22))))
def M_X8_isSheet : MT := ((yX8_isSheet, cX8_isSheet), ((1, (some .boolean)), ((RX8, 8), (1, 22))))
def M_X8_isForm : MT := ((yX8_isForm, cX8_isForm), ((1, (some .boolean)), ((RX8, 8), (1, 22))))
def M_X8_within : MT := ((yX8_within, cX8_within), ((3, (some .boolean)), ((RX8, 8), (0, 0))))
def M_X8_item : MT := ((yX8_item, cX8_item), ((2, (some .int)), ((RX8, 8), (0, 0))))
def M_X8_keep : MT := ((yX8_keep, cX8_keep), ((3, none), ((RX8, 8), (0, 0))))
def M_X8_fill : MT := ((yX8_fill, cX8_fill), ((3, none), ((RX8, 8), (0, 0))))
def M_X9_init : MT := ((yX9_init, cX9_init), ((2, none), ((RX9, 9), (1, 21))))
def M_X9_in : MT := ((yX9_in, cX9_in), ((3, (some .boolean)), ((RX9, 9), (0, 0))))
def M_X9_no : MT := ((yX9_no, cX9_no), ((1, (some .long)), ((RX9, 9), (0, 0))))
def M_X9_lowest : MT := ((yX9_lowest, cX9_lowest), ((11, (some .long)), ((RX9, 9), (0, 0))))
def M_X9_type : MT := ((yX9_type, cX9_type), ((2, (some .int)), ((RX9, 9), (1, 22))))
def M_X9_wipe : MT := ((yX9_wipe, cX9_wipe), ((2, (some .int)), ((RX9, 9), (0, 0))))
def M_X9_shedAt : MT := ((yX9_shedAt, cX9_shedAt), ((3, (some .int)), ((RX9, 9), (1, 22))))
def M_X9_faultNow : MT := ((yX9_faultNow, cX9_faultNow), ((5, (some .int)), ((RX9, 9), (2, 44))))
def M_X9_fault : MT := ((yX9_fault, cX9_fault), ((1, (some .int)), ((RX9, 9), (3, 68))))
def M_X9_isNight : MT := ((yX9_isNight, cX9_isNight), ((3, (some .boolean)), ((RX9, 9), (3, 68))))
def M_X9_isShed : MT := ((yX9_isShed, cX9_isShed), ((1, (some .boolean)), ((RX9, 9), (1, 22))))
def M_X9_worth : MT := ((yX9_worth, cX9_worth), ((4, (some .int)), ((RX9, 9), (2, 42))))
def M_X9_way : MT := ((yX9_way, cX9_way), ((5, (some .int)), ((RX9, 9), (2, 42))))
def M_X9_set : MT := ((yX9_set, cX9_set), ((4, (some .int)), ((RX9, 9), (1, 22))))
def M_X9_read : MT := ((yX9_read, cX9_read), ((3, (some .int)), ((RX9, 9), (2, 42))))
def M_X9_nightOf : MT := ((yX9_nightOf, cX9_nightOf), ((3, (some .int)), ((RX9, 9), (0, 0))))
def M_X9_night : MT := ((yX9_night, cX9_night), ((3, (some .int)), ((RX9, 9), (4, 90))))
def M_X9_atOf : MT := ((yX9_atOf, cX9_atOf), ((6, (some .int)), ((RX9, 9), (1, 22))))
def M_X9_at : MT := ((yX9_at, cX9_at), ((3, (some .int)), ((RX9, 9), (4, 90))))
def M_X9_whenOf : MT := ((yX9_whenOf, cX9_whenOf), ((4, (some .int)), ((RX9, 9), (2, 47))))
def M_X9_when : MT := ((yX9_when, cX9_when), ((3, (some .int)), ((RX9, 9), (4, 90))))
def M_X9_aloneOf : MT := ((yX9_aloneOf, cX9_aloneOf), ((8, (some .int)), ((RX9, 9), (2, 47))))
def M_X9_alone : MT := ((yX9_alone, cX9_alone), ((4, (some .int)), ((RX9, 9), (4, 90))))
def M_X9_stealsOf : MT := ((yX9_stealsOf, cX9_stealsOf), ((5, (some .int)), ((RX9, 9), (2, 47))))
def M_X9_steals : MT := ((yX9_steals, cX9_steals), ((4, (some .int)), ((RX9, 9), (4, 90))))
def M_X9_goneIn : MT := ((yX9_goneIn, cX9_goneIn), ((8, (some .int)), ((RX9, 9), (0, 0))))
def M_X9_nextOf : MT := ((yX9_nextOf, cX9_nextOf), ((6, (some .long)), ((RX9, 9), (1, 30))))
def M_X9_next : MT := ((yX9_next, cX9_next), ((6, (some .long)), ((RX9, 9), (3, 68))))
def M_X9_likelyOf : MT := ((yX9_likelyOf, cX9_likelyOf), ((9, (some .long)), ((RX9, 9), (2, 55))))
def M_X9_likely : MT := ((yX9_likely, cX9_likely), ((3, (some .long)), ((RX9, 9), (4, 90))))
def M_X9_freshOf : MT := ((yX9_freshOf, cX9_freshOf), ((9, (some .int)), ((RX9, 9), (3, 68))))
def M_X9_isFresh : MT := ((yX9_isFresh, cX9_isFresh), ((6, (some .boolean)), ((RX9, 9), (1, 27))))
def M_X9_fresh : MT := ((yX9_fresh, cX9_fresh), ((2, (some .int)), ((RX9, 9), (4, 96))))
def M_X9_lays : MT := ((yX9_lays, cX9_lays), ((5, none), ((RX9, 9), (3, 71))))
def M_X9_most : MT := ((yX9_most, cX9_most), ((9, (some .int)), ((RX9, 9), (0, 0))))
def M_X9_areNights : MT := ((yX9_areNights, cX9_areNights), ((3, (some .boolean)), ((RX9, 9), (4, 90))))
def M_X9_breaksOf : MT := ((yX9_breaksOf, cX9_breaksOf), ((6, (some .int)), ((RX9, 9), (4, 95))))
def M_X9_breaks : MT := ((yX9_breaks, cX9_breaks), ((5, (some .int)), ((RX9, 9), (5, 120))))
def M_X9_seenOf : MT := ((yX9_seenOf, cX9_seenOf), ((9, (some .int)), ((RX9, 9), (4, 95))))
def M_X9_seen : MT := ((yX9_seen, cX9_seen), ((6, (some .int)), ((RX9, 9), (5, 123))))
def M_X9_leastOf : MT := ((yX9_leastOf, cX9_leastOf), ((16, (some .long)), ((RX9, 9), (4, 95))))
def M_X9_least : MT := ((yX9_least, cX9_least), ((4, (some .long)), ((RX9, 9), (5, 130))))
def M_X9_lampOf : MT := ((yX9_lampOf, cX9_lampOf), ((5, (some .int)), ((RX9, 9), (4, 95))))
def M_X9_lamp : MT := ((yX9_lamp, cX9_lamp), ((5, (some .int)), ((RX9, 9), (5, 119))))
def M_X9_learnOf : MT := ((yX9_learnOf, cX9_learnOf), ((12, (some .int)), ((RX9, 9), (4, 95))))
def M_X9_learn : MT := ((yX9_learn, cX9_learn), ((5, (some .int)), ((RX9, 9), (5, 126))))
def M_X9_areAlike : MT := ((yX9_areAlike, cX9_areAlike), ((5, (some .boolean)), ((RX9, 9), (0, 0))))
def M_X9_diceOf : MT := ((yX9_diceOf, cX9_diceOf), ((11, (some .long)), ((RX9, 9), (1, 30))))
def M_X9_dice : MT := ((yX9_dice, cX9_dice), ((4, (some .long)), ((RX9, 9), (4, 90))))
def M_X9_seedsOf : MT := ((yX9_seedsOf, cX9_seedsOf), ((9, (some .int)), ((RX9, 9), (3, 68))))
def M_X9_seeds : MT := ((yX9_seeds, cX9_seeds), ((2, (some .int)), ((RX9, 9), (4, 96))))
def M_X9_meets : MT := ((yX9_meets, cX9_meets), ((2, (some .int)), ((RX9, 9), (0, 0))))
def M_X9_isSheet : MT := ((yX9_isSheet, cX9_isSheet), ((1, (some .boolean)), ((RX9, 9), (1, 22))))
def M_X9_sheet : MT := ((yX9_sheet, cX9_sheet), ((5, (some .int)), ((RX9, 9), (2, 42))))
def M_X9_lose : MT := ((yX9_lose, cX9_lose), ((2, (some .int)), ((RX9, 9), (2, 42))))
def M_X9_lacks : MT := ((yX9_lacks, cX9_lacks), ((4, (some .int)), ((RX9, 9), (1, 22))))
def M_X9_keep : MT := ((yX9_keep, cX9_keep), ((4, none), ((RX9, 9), (0, 0))))
def M_X9_put : MT := ((yX9_put, cX9_put), ((6, (some .int)), ((RX9, 9), (2, 45))))
def M_X9_get : MT := ((yX9_get, cX9_get), ((5, (some .int)), ((RX9, 9), (2, 45))))
def M_X9_copy : MT := ((yX9_copy, cX9_copy), ((7, (some .int)), ((RX9, 9), (2, 42))))
def M_X9_write : MT := ((yX9_write, cX9_write), ((4, (some .int)), ((RX9, 9), (4, 90))))
def M_X9_sumOf : MT := ((yX9_sumOf, cX9_sumOf), ((6, (some .int)), ((RX9, 9), (3, 68))))
def M_X9_count : MT := ((yX9_count, cX9_count), ((2, (some .int)), ((RX9, 9), (4, 93))))
def M_X9_digest : MT := ((yX9_digest, cX9_digest), ((5, (some .long)), ((RX9, 9), (6, 153))))
def M_law : MT := ((x, code), ((4, ret), ((RL, 99), (9, 362))))
theorem hp_X0_init : plainName (mY M_X0_init).cls = true ∧ (mY M_X0_init).cls = mO M_X0_init := ⟨by decide +kernel, rfl⟩
theorem mf_X0_init : MFv M_X0_init 1 := ⟨List.mem_append_right _ (List.mem_of_getElem? (i := 98) rfl), List.mem_append_right _ (List.mem_of_getElem? (i := 5) (by decide +kernel)), ⟨by decide +kernel, by decide +kernel⟩, by decide +kernel⟩
theorem mi_X0_init : Cond.instanceMethod (mY M_X0_init) ∈ lw_tbl := List.mem_append_right _ (List.mem_of_getElem? (i := 97) (by decide +kernel))
theorem hp_X0_tell : plainName (mY M_X0_tell).cls = true ∧ (mY M_X0_tell).cls = mO M_X0_tell := ⟨by decide +kernel, rfl⟩
theorem mf_X0_tell : MFv M_X0_tell 1 := ⟨List.mem_append_right _ (List.mem_of_getElem? (i := 417) rfl), List.mem_append_right _ (List.mem_of_getElem? (i := 5) (by decide +kernel)), ⟨by decide +kernel, by decide +kernel⟩, by decide +kernel⟩
theorem mi_X0_tell : MFi M_X0_tell := ⟨List.mem_append_right _ (List.mem_of_getElem? (i := 416) (by decide +kernel)), List.mem_append_left _ (List.mem_of_getElem? (i := 24) (by decide +kernel)), rfl, by decide⟩
theorem hp_X0_go : plainName (mY M_X0_go).cls = true ∧ (mY M_X0_go).cls = mO M_X0_go := ⟨by decide +kernel, rfl⟩
theorem mf_X0_go : MFv M_X0_go 2 := ⟨List.mem_append_right _ (List.mem_of_getElem? (i := 424) rfl), List.mem_append_right _ (List.mem_of_getElem? (i := 5) (by decide +kernel)), ⟨by decide +kernel, by decide +kernel⟩, by decide +kernel⟩
theorem mi_X0_go : MFi M_X0_go := ⟨List.mem_append_right _ (List.mem_of_getElem? (i := 423) (by decide +kernel)), List.mem_append_left _ (List.mem_of_getElem? (i := 25) (by decide +kernel)), rfl, by decide⟩
theorem hp_X0_gone : plainName (mY M_X0_gone).cls = true ∧ (mY M_X0_gone).cls = mO M_X0_gone := ⟨by decide +kernel, rfl⟩
theorem mf_X0_gone : MFv M_X0_gone 2 := ⟨List.mem_append_right _ (List.mem_of_getElem? (i := 428) rfl), List.mem_append_right _ (List.mem_of_getElem? (i := 5) (by decide +kernel)), ⟨by decide +kernel, by decide +kernel⟩, by decide +kernel⟩
theorem mi_X0_gone : MFi M_X0_gone := ⟨List.mem_append_right _ (List.mem_of_getElem? (i := 427) (by decide +kernel)), List.mem_append_left _ (List.mem_of_getElem? (i := 26) (by decide +kernel)), rfl, by decide⟩
theorem hp_X0_above : plainName (mY M_X0_above).cls = true ∧ (mY M_X0_above).cls = mO M_X0_above := ⟨by decide +kernel, rfl⟩
theorem mf_X0_above : MFv M_X0_above 2 := ⟨List.mem_append_right _ (List.mem_of_getElem? (i := 433) rfl), List.mem_append_right _ (List.mem_of_getElem? (i := 5) (by decide +kernel)), ⟨by decide +kernel, by decide +kernel⟩, by decide +kernel⟩
theorem mi_X0_above : MFi M_X0_above := ⟨List.mem_append_right _ (List.mem_of_getElem? (i := 432) (by decide +kernel)), List.mem_append_left _ (List.mem_of_getElem? (i := 27) (by decide +kernel)), rfl, by decide⟩
theorem hp_X0_below : plainName (mY M_X0_below).cls = true ∧ (mY M_X0_below).cls = mO M_X0_below := ⟨by decide +kernel, rfl⟩
theorem mf_X0_below : MFv M_X0_below 1 := ⟨List.mem_append_right _ (List.mem_of_getElem? (i := 437) rfl), List.mem_append_right _ (List.mem_of_getElem? (i := 5) (by decide +kernel)), ⟨by decide +kernel, by decide +kernel⟩, by decide +kernel⟩
theorem mi_X0_below : MFi M_X0_below := ⟨List.mem_append_right _ (List.mem_of_getElem? (i := 436) (by decide +kernel)), List.mem_append_left _ (List.mem_of_getElem? (i := 28) (by decide +kernel)), rfl, by decide⟩
theorem hp_X0_nextBehind : plainName (mY M_X0_nextBehind).cls = true ∧ (mY M_X0_nextBehind).cls = mO M_X0_nextBehind := ⟨by decide +kernel, rfl⟩
theorem mf_X0_nextBehind : MFv M_X0_nextBehind 3 := ⟨List.mem_append_right _ (List.mem_of_getElem? (i := 413) rfl), List.mem_append_right _ (List.mem_of_getElem? (i := 5) (by decide +kernel)), ⟨by decide +kernel, by decide +kernel⟩, by decide +kernel⟩
theorem mi_X0_nextBehind : MFi M_X0_nextBehind := ⟨List.mem_append_right _ (List.mem_of_getElem? (i := 412) (by decide +kernel)), List.mem_append_left _ (List.mem_of_getElem? (i := 23) (by decide +kernel)), rfl, by decide⟩
theorem hp_X0_likelihood : plainName (mY M_X0_likelihood).cls = true ∧ (mY M_X0_likelihood).cls = mO M_X0_likelihood := ⟨by decide +kernel, rfl⟩
theorem mf_X0_likelihood : MFv M_X0_likelihood 1 := ⟨List.mem_append_right _ (List.mem_of_getElem? (i := 456) rfl), List.mem_append_right _ (List.mem_of_getElem? (i := 5) (by decide +kernel)), ⟨by decide +kernel, by decide +kernel⟩, by decide +kernel⟩
theorem mi_X0_likelihood : MFi M_X0_likelihood := ⟨List.mem_append_right _ (List.mem_of_getElem? (i := 455) (by decide +kernel)), List.mem_append_left _ (List.mem_of_getElem? (i := 31) (by decide +kernel)), rfl, by decide⟩
theorem hp_X0_unlikeSteps : plainName (mY M_X0_unlikeSteps).cls = true ∧ (mY M_X0_unlikeSteps).cls = mO M_X0_unlikeSteps := ⟨by decide +kernel, rfl⟩
theorem mf_X0_unlikeSteps : MFv M_X0_unlikeSteps 0 := ⟨List.mem_append_right _ (List.mem_of_getElem? (i := 671) rfl), List.mem_append_right _ (List.mem_of_getElem? (i := 5) (by decide +kernel)), ⟨by decide +kernel, by decide +kernel⟩, by decide +kernel⟩
theorem mi_X0_unlikeSteps : MFi M_X0_unlikeSteps := ⟨List.mem_append_right _ (List.mem_of_getElem? (i := 670) (by decide +kernel)), List.mem_append_left _ (List.mem_of_getElem? (i := 62) (by decide +kernel)), rfl, by decide⟩
theorem hp_X0_allSteps : plainName (mY M_X0_allSteps).cls = true ∧ (mY M_X0_allSteps).cls = mO M_X0_allSteps := ⟨by decide +kernel, rfl⟩
theorem mf_X0_allSteps : MFv M_X0_allSteps 0 := ⟨List.mem_append_right _ (List.mem_of_getElem? (i := 675) rfl), List.mem_append_right _ (List.mem_of_getElem? (i := 5) (by decide +kernel)), ⟨by decide +kernel, by decide +kernel⟩, by decide +kernel⟩
theorem mi_X0_allSteps : MFi M_X0_allSteps := ⟨List.mem_append_right _ (List.mem_of_getElem? (i := 674) (by decide +kernel)), List.mem_append_left _ (List.mem_of_getElem? (i := 63) (by decide +kernel)), rfl, by decide⟩
theorem hp_X0_leastNewRow : plainName (mY M_X0_leastNewRow).cls = true ∧ (mY M_X0_leastNewRow).cls = mO M_X0_leastNewRow := ⟨by decide +kernel, rfl⟩
theorem mf_X0_leastNewRow : MFv M_X0_leastNewRow 1 := ⟨List.mem_append_right _ (List.mem_of_getElem? (i := 483) rfl), List.mem_append_right _ (List.mem_of_getElem? (i := 5) (by decide +kernel)), ⟨by decide +kernel, by decide +kernel⟩, by decide +kernel⟩
theorem mi_X0_leastNewRow : MFi M_X0_leastNewRow := ⟨List.mem_append_right _ (List.mem_of_getElem? (i := 482) (by decide +kernel)), List.mem_append_left _ (List.mem_of_getElem? (i := 36) (by decide +kernel)), rfl, by decide⟩
theorem hp_X0_findEndings : plainName (mY M_X0_findEndings).cls = true ∧ (mY M_X0_findEndings).cls = mO M_X0_findEndings := ⟨by decide +kernel, rfl⟩
theorem mf_X0_findEndings : MFv M_X0_findEndings 0 := ⟨List.mem_append_right _ (List.mem_of_getElem? (i := 469) rfl), List.mem_append_right _ (List.mem_of_getElem? (i := 5) (by decide +kernel)), ⟨by decide +kernel, by decide +kernel⟩, by decide +kernel⟩
theorem mi_X0_findEndings : MFi M_X0_findEndings := ⟨List.mem_append_right _ (List.mem_of_getElem? (i := 468) (by decide +kernel)), List.mem_append_left _ (List.mem_of_getElem? (i := 33) (by decide +kernel)), rfl, by decide⟩
theorem hp_X0_endingsBehind : plainName (mY M_X0_endingsBehind).cls = true ∧ (mY M_X0_endingsBehind).cls = mO M_X0_endingsBehind := ⟨by decide +kernel, rfl⟩
theorem mf_X0_endingsBehind : MFv M_X0_endingsBehind 2 := ⟨List.mem_append_right _ (List.mem_of_getElem? (i := 473) rfl), List.mem_append_right _ (List.mem_of_getElem? (i := 5) (by decide +kernel)), ⟨by decide +kernel, by decide +kernel⟩, by decide +kernel⟩
theorem mi_X0_endingsBehind : MFi M_X0_endingsBehind := ⟨List.mem_append_right _ (List.mem_of_getElem? (i := 472) (by decide +kernel)), List.mem_append_left _ (List.mem_of_getElem? (i := 34) (by decide +kernel)), rfl, by decide⟩
theorem hp_X0_endingsBy : plainName (mY M_X0_endingsBy).cls = true ∧ (mY M_X0_endingsBy).cls = mO M_X0_endingsBy := ⟨by decide +kernel, rfl⟩
theorem mf_X0_endingsBy : MFv M_X0_endingsBy 3 := ⟨List.mem_append_right _ (List.mem_of_getElem? (i := 477) rfl), List.mem_append_right _ (List.mem_of_getElem? (i := 5) (by decide +kernel)), ⟨by decide +kernel, by decide +kernel⟩, by decide +kernel⟩
theorem mi_X0_endingsBy : MFi M_X0_endingsBy := ⟨List.mem_append_right _ (List.mem_of_getElem? (i := 476) (by decide +kernel)), List.mem_append_left _ (List.mem_of_getElem? (i := 35) (by decide +kernel)), rfl, by decide⟩
theorem hp_X0_leastOn : plainName (mY M_X0_leastOn).cls = true ∧ (mY M_X0_leastOn).cls = mO M_X0_leastOn := ⟨by decide +kernel, rfl⟩
theorem mf_X0_leastOn : MFv M_X0_leastOn 2 := ⟨List.mem_append_right _ (List.mem_of_getElem? (i := 487) rfl), List.mem_append_right _ (List.mem_of_getElem? (i := 5) (by decide +kernel)), ⟨by decide +kernel, by decide +kernel⟩, by decide +kernel⟩
theorem mi_X0_leastOn : MFi M_X0_leastOn := ⟨List.mem_append_right _ (List.mem_of_getElem? (i := 486) (by decide +kernel)), List.mem_append_left _ (List.mem_of_getElem? (i := 37) (by decide +kernel)), rfl, by decide⟩
theorem hp_X1_init : plainName (mY M_X1_init).cls = true ∧ (mY M_X1_init).cls = mO M_X1_init := ⟨by decide +kernel, rfl⟩
theorem mf_X1_init : MFv M_X1_init 1 := ⟨List.mem_append_right _ (List.mem_of_getElem? (i := 174) rfl), List.mem_append_right _ (List.mem_of_getElem? (i := 8) (by decide +kernel)), ⟨by decide +kernel, by decide +kernel⟩, by decide +kernel⟩
theorem mi_X1_init : Cond.instanceMethod (mY M_X1_init) ∈ lw_tbl := List.mem_append_right _ (List.mem_of_getElem? (i := 173) (by decide +kernel))
theorem hp_X1_alike : plainName (mY M_X1_alike).cls = true ∧ (mY M_X1_alike).cls = mO M_X1_alike := ⟨by decide +kernel, rfl⟩
theorem mf_X1_alike : MFv M_X1_alike 1 := ⟨List.mem_append_right _ (List.mem_of_getElem? (i := 563) rfl), List.mem_append_right _ (List.mem_of_getElem? (i := 8) (by decide +kernel)), ⟨by decide +kernel, by decide +kernel⟩, by decide +kernel⟩
theorem mi_X1_alike : MFi M_X1_alike := ⟨List.mem_append_right _ (List.mem_of_getElem? (i := 562) (by decide +kernel)), List.mem_append_left _ (List.mem_of_getElem? (i := 48) (by decide +kernel)), rfl, by decide⟩
theorem hp_X1_chance : plainName (mY M_X1_chance).cls = true ∧ (mY M_X1_chance).cls = mO M_X1_chance := ⟨by decide +kernel, rfl⟩
theorem mf_X1_chance : MFv M_X1_chance 2 := ⟨List.mem_append_right _ (List.mem_of_getElem? (i := 572) rfl), List.mem_append_right _ (List.mem_of_getElem? (i := 8) (by decide +kernel)), ⟨by decide +kernel, by decide +kernel⟩, by decide +kernel⟩
theorem mi_X1_chance : MFi M_X1_chance := ⟨List.mem_append_right _ (List.mem_of_getElem? (i := 571) (by decide +kernel)), List.mem_append_left _ (List.mem_of_getElem? (i := 50) (by decide +kernel)), rfl, by decide⟩
theorem hp_X1_fittingSeeds : plainName (mY M_X1_fittingSeeds).cls = true ∧ (mY M_X1_fittingSeeds).cls = mO M_X1_fittingSeeds := ⟨by decide +kernel, rfl⟩
theorem mf_X1_fittingSeeds : MFv M_X1_fittingSeeds 0 := ⟨List.mem_append_right _ (List.mem_of_getElem? (i := 584) rfl), List.mem_append_right _ (List.mem_of_getElem? (i := 8) (by decide +kernel)), ⟨by decide +kernel, by decide +kernel⟩, by decide +kernel⟩
theorem mi_X1_fittingSeeds : MFi M_X1_fittingSeeds := ⟨List.mem_append_right _ (List.mem_of_getElem? (i := 583) (by decide +kernel)), List.mem_append_left _ (List.mem_of_getElem? (i := 51) (by decide +kernel)), rfl, by decide⟩
theorem hp_X1_leastSeed : plainName (mY M_X1_leastSeed).cls = true ∧ (mY M_X1_leastSeed).cls = mO M_X1_leastSeed := ⟨by decide +kernel, rfl⟩
theorem mf_X1_leastSeed : MFv M_X1_leastSeed 0 := ⟨List.mem_append_right _ (List.mem_of_getElem? (i := 593) rfl), List.mem_append_right _ (List.mem_of_getElem? (i := 8) (by decide +kernel)), ⟨by decide +kernel, by decide +kernel⟩, by decide +kernel⟩
theorem mi_X1_leastSeed : MFi M_X1_leastSeed := ⟨List.mem_append_right _ (List.mem_of_getElem? (i := 592) (by decide +kernel)), List.mem_append_left _ (List.mem_of_getElem? (i := 53) (by decide +kernel)), rfl, by decide⟩
theorem hp_X1_fits : plainName (mY M_X1_fits).cls = true ∧ (mY M_X1_fits).cls = mO M_X1_fits := ⟨by decide +kernel, rfl⟩
theorem mf_X1_fits : MFv M_X1_fits 1 := ⟨List.mem_append_right _ (List.mem_of_getElem? (i := 588) rfl), List.mem_append_right _ (List.mem_of_getElem? (i := 8) (by decide +kernel)), ⟨by decide +kernel, by decide +kernel⟩, by decide +kernel⟩
theorem mi_X1_fits : MFi M_X1_fits := ⟨List.mem_append_right _ (List.mem_of_getElem? (i := 587) (by decide +kernel)), List.mem_append_left _ (List.mem_of_getElem? (i := 52) (by decide +kernel)), rfl, by decide⟩
theorem hp_X2_init : plainName (mY M_X2_init).cls = true ∧ (mY M_X2_init).cls = mO M_X2_init := ⟨by decide +kernel, rfl⟩
theorem mf_X2_init : MFv M_X2_init 0 := ⟨List.mem_append_right _ (List.mem_of_getElem? (i := 104) rfl), List.mem_append_right _ (List.mem_of_getElem? (i := 6) (by decide +kernel)), ⟨by decide +kernel, by decide +kernel⟩, by decide +kernel⟩
theorem mi_X2_init : Cond.instanceMethod (mY M_X2_init) ∈ lw_tbl := List.mem_append_right _ (List.mem_of_getElem? (i := 103) (by decide +kernel))
theorem hp_X2_become : plainName (mY M_X2_become).cls = true ∧ (mY M_X2_become).cls = mO M_X2_become := ⟨by decide +kernel, rfl⟩
theorem mf_X2_become : MFv M_X2_become 2 := ⟨List.mem_append_right _ (List.mem_of_getElem? (i := 441) rfl), List.mem_append_right _ (List.mem_of_getElem? (i := 6) (by decide +kernel)), ⟨by decide +kernel, by decide +kernel⟩, by decide +kernel⟩
theorem mi_X2_become : MFi M_X2_become := ⟨List.mem_append_right _ (List.mem_of_getElem? (i := 440) (by decide +kernel)), List.mem_append_left _ (List.mem_of_getElem? (i := 29) (by decide +kernel)), rfl, by decide⟩
theorem hp_X2_multiply : plainName (mY M_X2_multiply).cls = true ∧ (mY M_X2_multiply).cls = mO M_X2_multiply := ⟨by decide +kernel, rfl⟩
theorem mf_X2_multiply : MFv M_X2_multiply 2 := ⟨List.mem_append_right _ (List.mem_of_getElem? (i := 460) rfl), List.mem_append_right _ (List.mem_of_getElem? (i := 6) (by decide +kernel)), ⟨by decide +kernel, by decide +kernel⟩, by decide +kernel⟩
theorem mi_X2_multiply : MFi M_X2_multiply := ⟨List.mem_append_right _ (List.mem_of_getElem? (i := 459) (by decide +kernel)), List.mem_append_left _ (List.mem_of_getElem? (i := 32) (by decide +kernel)), rfl, by decide⟩
theorem hp_X2_part : plainName (mY M_X2_part).cls = true ∧ (mY M_X2_part).cls = mO M_X2_part := ⟨by decide +kernel, rfl⟩
theorem mf_X2_part : MFv M_X2_part 1 := ⟨List.mem_append_right _ (List.mem_of_getElem? (i := 448) rfl), List.mem_append_right _ (List.mem_of_getElem? (i := 6) (by decide +kernel)), ⟨by decide +kernel, by decide +kernel⟩, by decide +kernel⟩
theorem mi_X2_part : MFi M_X2_part := ⟨List.mem_append_right _ (List.mem_of_getElem? (i := 447) (by decide +kernel)), List.mem_append_left _ (List.mem_of_getElem? (i := 30) (by decide +kernel)), rfl, by decide⟩
theorem hp_X2_commonDivisor : plainName (mY M_X2_commonDivisor).cls = true ∧ (mY M_X2_commonDivisor).cls = mO M_X2_commonDivisor := ⟨by decide +kernel, rfl⟩
theorem mf_X2_commonDivisor : MFv M_X2_commonDivisor 2 := ⟨List.mem_append_right _ (List.mem_of_getElem? (i := 444) rfl), List.mem_append_right _ (List.mem_of_getElem? (i := 6) (by decide +kernel)), ⟨by decide +kernel, by decide +kernel⟩, by decide +kernel⟩
theorem ms_X2_commonDivisor : Cond.static (mY M_X2_commonDivisor) ∈ lw_tbl := List.mem_append_right _ (List.mem_of_getElem? (i := 443) (by decide +kernel))
theorem hp_X3_init : plainName (mY M_X3_init).cls = true ∧ (mY M_X3_init).cls = mO M_X3_init := ⟨by decide +kernel, rfl⟩
theorem mf_X3_init : MFv M_X3_init 0 := ⟨List.mem_append_right _ (List.mem_of_getElem? (i := 24) rfl), List.mem_append_right _ (List.mem_of_getElem? (i := 2) (by decide +kernel)), ⟨by decide +kernel, by decide +kernel⟩, by decide +kernel⟩
theorem mi_X3_init : Cond.instanceMethod (mY M_X3_init) ∈ lw_tbl := List.mem_append_right _ (List.mem_of_getElem? (i := 23) (by decide +kernel))
theorem hp_X3_worthOf : plainName (mY M_X3_worthOf).cls = true ∧ (mY M_X3_worthOf).cls = mO M_X3_worthOf := ⟨by decide +kernel, rfl⟩
theorem mf_X3_worthOf : MFv M_X3_worthOf 1 := ⟨List.mem_append_right _ (List.mem_of_getElem? (i := 288) rfl), List.mem_append_right _ (List.mem_of_getElem? (i := 2) (by decide +kernel)), ⟨by decide +kernel, by decide +kernel⟩, by decide +kernel⟩
theorem mi_X3_worthOf : MFi M_X3_worthOf := ⟨List.mem_append_right _ (List.mem_of_getElem? (i := 287) (by decide +kernel)), List.mem_append_left _ (List.mem_of_getElem? (i := 5) (by decide +kernel)), rfl, by decide⟩
theorem hp_X3_changeWorth : plainName (mY M_X3_changeWorth).cls = true ∧ (mY M_X3_changeWorth).cls = mO M_X3_changeWorth := ⟨by decide +kernel, rfl⟩
theorem mf_X3_changeWorth : MFv M_X3_changeWorth 2 := ⟨List.mem_append_right _ (List.mem_of_getElem? (i := 284) rfl), List.mem_append_right _ (List.mem_of_getElem? (i := 2) (by decide +kernel)), ⟨by decide +kernel, by decide +kernel⟩, by decide +kernel⟩
theorem mi_X3_changeWorth : MFi M_X3_changeWorth := ⟨List.mem_append_right _ (List.mem_of_getElem? (i := 283) (by decide +kernel)), List.mem_append_left _ (List.mem_of_getElem? (i := 4) (by decide +kernel)), rfl, by decide⟩
theorem hp_X3_wayOf : plainName (mY M_X3_wayOf).cls = true ∧ (mY M_X3_wayOf).cls = mO M_X3_wayOf := ⟨by decide +kernel, rfl⟩
theorem mf_X3_wayOf : MFv M_X3_wayOf 2 := ⟨List.mem_append_right _ (List.mem_of_getElem? (i := 301) rfl), List.mem_append_right _ (List.mem_of_getElem? (i := 2) (by decide +kernel)), ⟨by decide +kernel, by decide +kernel⟩, by decide +kernel⟩
theorem mi_X3_wayOf : MFi M_X3_wayOf := ⟨List.mem_append_right _ (List.mem_of_getElem? (i := 300) (by decide +kernel)), List.mem_append_left _ (List.mem_of_getElem? (i := 7) (by decide +kernel)), rfl, by decide⟩
theorem hp_X3_changeWay : plainName (mY M_X3_changeWay).cls = true ∧ (mY M_X3_changeWay).cls = mO M_X3_changeWay := ⟨by decide +kernel, rfl⟩
theorem mf_X3_changeWay : MFv M_X3_changeWay 3 := ⟨List.mem_append_right _ (List.mem_of_getElem? (i := 297) rfl), List.mem_append_right _ (List.mem_of_getElem? (i := 2) (by decide +kernel)), ⟨by decide +kernel, by decide +kernel⟩, by decide +kernel⟩
theorem mi_X3_changeWay : MFi M_X3_changeWay := ⟨List.mem_append_right _ (List.mem_of_getElem? (i := 296) (by decide +kernel)), List.mem_append_left _ (List.mem_of_getElem? (i := 6) (by decide +kernel)), rfl, by decide⟩
theorem hp_X3_changeLook : plainName (mY M_X3_changeLook).cls = true ∧ (mY M_X3_changeLook).cls = mO M_X3_changeLook := ⟨by decide +kernel, rfl⟩
theorem mf_X3_changeLook : MFv M_X3_changeLook 1 := ⟨List.mem_append_right _ (List.mem_of_getElem? (i := 309) rfl), List.mem_append_right _ (List.mem_of_getElem? (i := 2) (by decide +kernel)), ⟨by decide +kernel, by decide +kernel⟩, by decide +kernel⟩
theorem mi_X3_changeLook : MFi M_X3_changeLook := ⟨List.mem_append_right _ (List.mem_of_getElem? (i := 308) (by decide +kernel)), List.mem_append_left _ (List.mem_of_getElem? (i := 8) (by decide +kernel)), rfl, by decide⟩
theorem hp_X3_changeNeed : plainName (mY M_X3_changeNeed).cls = true ∧ (mY M_X3_changeNeed).cls = mO M_X3_changeNeed := ⟨by decide +kernel, rfl⟩
theorem mf_X3_changeNeed : MFv M_X3_changeNeed 1 := ⟨List.mem_append_right _ (List.mem_of_getElem? (i := 313) rfl), List.mem_append_right _ (List.mem_of_getElem? (i := 2) (by decide +kernel)), ⟨by decide +kernel, by decide +kernel⟩, by decide +kernel⟩
theorem mi_X3_changeNeed : MFi M_X3_changeNeed := ⟨List.mem_append_right _ (List.mem_of_getElem? (i := 312) (by decide +kernel)), List.mem_append_left _ (List.mem_of_getElem? (i := 9) (by decide +kernel)), rfl, by decide⟩
theorem hp_X3_allWorths : plainName (mY M_X3_allWorths).cls = true ∧ (mY M_X3_allWorths).cls = mO M_X3_allWorths := ⟨by decide +kernel, rfl⟩
theorem mf_X3_allWorths : MFv M_X3_allWorths 0 := ⟨List.mem_append_right _ (List.mem_of_getElem? (i := 663) rfl), List.mem_append_right _ (List.mem_of_getElem? (i := 2) (by decide +kernel)), ⟨by decide +kernel, by decide +kernel⟩, by decide +kernel⟩
theorem mi_X3_allWorths : MFi M_X3_allWorths := ⟨List.mem_append_right _ (List.mem_of_getElem? (i := 662) (by decide +kernel)), List.mem_append_left _ (List.mem_of_getElem? (i := 60) (by decide +kernel)), rfl, by decide⟩
theorem hp_X3_allWays : plainName (mY M_X3_allWays).cls = true ∧ (mY M_X3_allWays).cls = mO M_X3_allWays := ⟨by decide +kernel, rfl⟩
theorem mf_X3_allWays : MFv M_X3_allWays 0 := ⟨List.mem_append_right _ (List.mem_of_getElem? (i := 667) rfl), List.mem_append_right _ (List.mem_of_getElem? (i := 2) (by decide +kernel)), ⟨by decide +kernel, by decide +kernel⟩, by decide +kernel⟩
theorem mi_X3_allWays : MFi M_X3_allWays := ⟨List.mem_append_right _ (List.mem_of_getElem? (i := 666) (by decide +kernel)), List.mem_append_left _ (List.mem_of_getElem? (i := 61) (by decide +kernel)), rfl, by decide⟩
theorem hp_X4_init : plainName (mY M_X4_init).cls = true ∧ (mY M_X4_init).cls = mO M_X4_init := ⟨by decide +kernel, rfl⟩
theorem mf_X4_init : MFv M_X4_init 0 := ⟨List.mem_append_right _ (List.mem_of_getElem? (i := 49) rfl), List.mem_append_right _ (List.mem_of_getElem? (i := 3) (by decide +kernel)), ⟨by decide +kernel, by decide +kernel⟩, by decide +kernel⟩
theorem mi_X4_init : Cond.instanceMethod (mY M_X4_init) ∈ lw_tbl := List.mem_append_right _ (List.mem_of_getElem? (i := 48) (by decide +kernel))
theorem hp_X4_add : plainName (mY M_X4_add).cls = true ∧ (mY M_X4_add).cls = mO M_X4_add := ⟨by decide +kernel, rfl⟩
theorem mf_X4_add : MFv M_X4_add 1 := ⟨List.mem_append_right _ (List.mem_of_getElem? (i := 240) rfl), List.mem_append_right _ (List.mem_of_getElem? (i := 3) (by decide +kernel)), ⟨by decide +kernel, by decide +kernel⟩, by decide +kernel⟩
theorem mi_X4_add : MFi M_X4_add := ⟨List.mem_append_right _ (List.mem_of_getElem? (i := 239) (by decide +kernel)), List.mem_append_left _ (List.mem_of_getElem? (i := 0) (by decide +kernel)), rfl, by decide⟩
theorem hp_X4_empty : plainName (mY M_X4_empty).cls = true ∧ (mY M_X4_empty).cls = mO M_X4_empty := ⟨by decide +kernel, rfl⟩
theorem mf_X4_empty : MFv M_X4_empty 0 := ⟨List.mem_append_right _ (List.mem_of_getElem? (i := 268) rfl), List.mem_append_right _ (List.mem_of_getElem? (i := 3) (by decide +kernel)), ⟨by decide +kernel, by decide +kernel⟩, by decide +kernel⟩
theorem mi_X4_empty : MFi M_X4_empty := ⟨List.mem_append_right _ (List.mem_of_getElem? (i := 267) (by decide +kernel)), List.mem_append_left _ (List.mem_of_getElem? (i := 3) (by decide +kernel)), rfl, by decide⟩
theorem hp_X4_reread : plainName (mY M_X4_reread).cls = true ∧ (mY M_X4_reread).cls = mO M_X4_reread := ⟨by decide +kernel, rfl⟩
theorem mf_X4_reread : MFv M_X4_reread 0 := ⟨List.mem_append_right _ (List.mem_of_getElem? (i := 247) rfl), List.mem_append_right _ (List.mem_of_getElem? (i := 3) (by decide +kernel)), ⟨by decide +kernel, by decide +kernel⟩, by decide +kernel⟩
theorem mi_X4_reread : MFi M_X4_reread := ⟨List.mem_append_right _ (List.mem_of_getElem? (i := 246) (by decide +kernel)), List.mem_append_left _ (List.mem_of_getElem? (i := 1) (by decide +kernel)), rfl, by decide⟩
theorem hp_X4_goesOnWith : plainName (mY M_X4_goesOnWith).cls = true ∧ (mY M_X4_goesOnWith).cls = mO M_X4_goesOnWith := ⟨by decide +kernel, rfl⟩
theorem mf_X4_goesOnWith : MFv M_X4_goesOnWith 1 := ⟨List.mem_append_right _ (List.mem_of_getElem? (i := 257) rfl), List.mem_append_right _ (List.mem_of_getElem? (i := 3) (by decide +kernel)), ⟨by decide +kernel, by decide +kernel⟩, by decide +kernel⟩
theorem mi_X4_goesOnWith : MFi M_X4_goesOnWith := ⟨List.mem_append_right _ (List.mem_of_getElem? (i := 256) (by decide +kernel)), List.mem_append_left _ (List.mem_of_getElem? (i := 2) (by decide +kernel)), rfl, by decide⟩
theorem hp_X4_isTold : plainName (mY M_X4_isTold).cls = true ∧ (mY M_X4_isTold).cls = mO M_X4_isTold := ⟨by decide +kernel, rfl⟩
theorem mf_X4_isTold : MFv M_X4_isTold 1 := ⟨List.mem_append_right _ (List.mem_of_getElem? (i := 349) rfl), List.mem_append_right _ (List.mem_of_getElem? (i := 3) (by decide +kernel)), ⟨by decide +kernel, by decide +kernel⟩, by decide +kernel⟩
theorem mi_X4_isTold : MFi M_X4_isTold := ⟨List.mem_append_right _ (List.mem_of_getElem? (i := 348) (by decide +kernel)), List.mem_append_left _ (List.mem_of_getElem? (i := 15) (by decide +kernel)), rfl, by decide⟩
theorem hp_X4_lengthOf : plainName (mY M_X4_lengthOf).cls = true ∧ (mY M_X4_lengthOf).cls = mO M_X4_lengthOf := ⟨by decide +kernel, rfl⟩
theorem mf_X4_lengthOf : MFv M_X4_lengthOf 1 := ⟨List.mem_append_right _ (List.mem_of_getElem? (i := 365) rfl), List.mem_append_right _ (List.mem_of_getElem? (i := 3) (by decide +kernel)), ⟨by decide +kernel, by decide +kernel⟩, by decide +kernel⟩
theorem mi_X4_lengthOf : MFi M_X4_lengthOf := ⟨List.mem_append_right _ (List.mem_of_getElem? (i := 364) (by decide +kernel)), List.mem_append_left _ (List.mem_of_getElem? (i := 18) (by decide +kernel)), rfl, by decide⟩
theorem hp_X4_shedOf : plainName (mY M_X4_shedOf).cls = true ∧ (mY M_X4_shedOf).cls = mO M_X4_shedOf := ⟨by decide +kernel, rfl⟩
theorem mf_X4_shedOf : MFv M_X4_shedOf 2 := ⟨List.mem_append_right _ (List.mem_of_getElem? (i := 353) rfl), List.mem_append_right _ (List.mem_of_getElem? (i := 3) (by decide +kernel)), ⟨by decide +kernel, by decide +kernel⟩, by decide +kernel⟩
theorem mi_X4_shedOf : MFi M_X4_shedOf := ⟨List.mem_append_right _ (List.mem_of_getElem? (i := 352) (by decide +kernel)), List.mem_append_left _ (List.mem_of_getElem? (i := 16) (by decide +kernel)), rfl, by decide⟩
theorem hp_X4_same : plainName (mY M_X4_same).cls = true ∧ (mY M_X4_same).cls = mO M_X4_same := ⟨by decide +kernel, rfl⟩
theorem mf_X4_same : MFv M_X4_same 2 := ⟨List.mem_append_right _ (List.mem_of_getElem? (i := 567) rfl), List.mem_append_right _ (List.mem_of_getElem? (i := 3) (by decide +kernel)), ⟨by decide +kernel, by decide +kernel⟩, by decide +kernel⟩
theorem mi_X4_same : MFi M_X4_same := ⟨List.mem_append_right _ (List.mem_of_getElem? (i := 566) (by decide +kernel)), List.mem_append_left _ (List.mem_of_getElem? (i := 49) (by decide +kernel)), rfl, by decide⟩
theorem hp_X5_init : plainName (mY M_X5_init).cls = true ∧ (mY M_X5_init).cls = mO M_X5_init := ⟨by decide +kernel, rfl⟩
theorem mf_X5_init : MFv M_X5_init 0 := ⟨List.mem_append_right _ (List.mem_of_getElem? (i := 189) rfl), List.mem_append_right _ (List.mem_of_getElem? (i := 9) (by decide +kernel)), ⟨by decide +kernel, by decide +kernel⟩, by decide +kernel⟩
theorem mi_X5_init : Cond.instanceMethod (mY M_X5_init) ∈ lw_tbl := List.mem_append_right _ (List.mem_of_getElem? (i := 188) (by decide +kernel))
theorem hp_X5_found : plainName (mY M_X5_found).cls = true ∧ (mY M_X5_found).cls = mO M_X5_found := ⟨by decide +kernel, rfl⟩
theorem mf_X5_found : MFv M_X5_found 1 := ⟨List.mem_append_right _ (List.mem_of_getElem? (i := 333) rfl), List.mem_append_right _ (List.mem_of_getElem? (i := 9) (by decide +kernel)), ⟨by decide +kernel, by decide +kernel⟩, by decide +kernel⟩
theorem mi_X5_found : MFi M_X5_found := ⟨List.mem_append_right _ (List.mem_of_getElem? (i := 332) (by decide +kernel)), List.mem_append_left _ (List.mem_of_getElem? (i := 12) (by decide +kernel)), rfl, by decide⟩
theorem hp_X5_isLost : plainName (mY M_X5_isLost).cls = true ∧ (mY M_X5_isLost).cls = mO M_X5_isLost := ⟨by decide +kernel, rfl⟩
theorem mf_X5_isLost : MFv M_X5_isLost 1 := ⟨List.mem_append_right _ (List.mem_of_getElem? (i := 324) rfl), List.mem_append_right _ (List.mem_of_getElem? (i := 9) (by decide +kernel)), ⟨by decide +kernel, by decide +kernel⟩, by decide +kernel⟩
theorem mi_X5_isLost : MFi M_X5_isLost := ⟨List.mem_append_right _ (List.mem_of_getElem? (i := 323) (by decide +kernel)), List.mem_append_left _ (List.mem_of_getElem? (i := 10) (by decide +kernel)), rfl, by decide⟩
theorem hp_X5_formOf : plainName (mY M_X5_formOf).cls = true ∧ (mY M_X5_formOf).cls = mO M_X5_formOf := ⟨by decide +kernel, rfl⟩
theorem mf_X5_formOf : MFv M_X5_formOf 1 := ⟨List.mem_append_right _ (List.mem_of_getElem? (i := 328) rfl), List.mem_append_right _ (List.mem_of_getElem? (i := 9) (by decide +kernel)), ⟨by decide +kernel, by decide +kernel⟩, by decide +kernel⟩
theorem mi_X5_formOf : MFi M_X5_formOf := ⟨List.mem_append_right _ (List.mem_of_getElem? (i := 327) (by decide +kernel)), List.mem_append_left _ (List.mem_of_getElem? (i := 11) (by decide +kernel)), rfl, by decide⟩
theorem hp_X5_sizeOf : plainName (mY M_X5_sizeOf).cls = true ∧ (mY M_X5_sizeOf).cls = mO M_X5_sizeOf := ⟨by decide +kernel, rfl⟩
theorem mf_X5_sizeOf : MFv M_X5_sizeOf 1 := ⟨List.mem_append_right _ (List.mem_of_getElem? (i := 337) rfl), List.mem_append_right _ (List.mem_of_getElem? (i := 9) (by decide +kernel)), ⟨by decide +kernel, by decide +kernel⟩, by decide +kernel⟩
theorem mi_X5_sizeOf : MFi M_X5_sizeOf := ⟨List.mem_append_right _ (List.mem_of_getElem? (i := 336) (by decide +kernel)), List.mem_append_left _ (List.mem_of_getElem? (i := 13) (by decide +kernel)), rfl, by decide⟩
theorem hp_X5_itemOf : plainName (mY M_X5_itemOf).cls = true ∧ (mY M_X5_itemOf).cls = mO M_X5_itemOf := ⟨by decide +kernel, rfl⟩
theorem mf_X5_itemOf : MFv M_X5_itemOf 2 := ⟨List.mem_append_right _ (List.mem_of_getElem? (i := 341) rfl), List.mem_append_right _ (List.mem_of_getElem? (i := 9) (by decide +kernel)), ⟨by decide +kernel, by decide +kernel⟩, by decide +kernel⟩
theorem mi_X5_itemOf : MFi M_X5_itemOf := ⟨List.mem_append_right _ (List.mem_of_getElem? (i := 340) (by decide +kernel)), List.mem_append_left _ (List.mem_of_getElem? (i := 14) (by decide +kernel)), rfl, by decide⟩
theorem hp_X5_change : plainName (mY M_X5_change).cls = true ∧ (mY M_X5_change).cls = mO M_X5_change := ⟨by decide +kernel, rfl⟩
theorem mf_X5_change : MFv M_X5_change 3 := ⟨List.mem_append_right _ (List.mem_of_getElem? (i := 609) rfl), List.mem_append_right _ (List.mem_of_getElem? (i := 9) (by decide +kernel)), ⟨by decide +kernel, by decide +kernel⟩, by decide +kernel⟩
theorem mi_X5_change : MFi M_X5_change := ⟨List.mem_append_right _ (List.mem_of_getElem? (i := 608) (by decide +kernel)), List.mem_append_left _ (List.mem_of_getElem? (i := 55) (by decide +kernel)), rfl, by decide⟩
theorem hp_X5_narrow : plainName (mY M_X5_narrow).cls = true ∧ (mY M_X5_narrow).cls = mO M_X5_narrow := ⟨by decide +kernel, rfl⟩
theorem mf_X5_narrow : MFv M_X5_narrow 2 := ⟨List.mem_append_right _ (List.mem_of_getElem? (i := 612) rfl), List.mem_append_right _ (List.mem_of_getElem? (i := 9) (by decide +kernel)), ⟨by decide +kernel, by decide +kernel⟩, by decide +kernel⟩
theorem ms_X5_narrow : Cond.static (mY M_X5_narrow) ∈ lw_tbl := List.mem_append_right _ (List.mem_of_getElem? (i := 611) (by decide +kernel))
theorem hp_X5_make : plainName (mY M_X5_make).cls = true ∧ (mY M_X5_make).cls = mO M_X5_make := ⟨by decide +kernel, rfl⟩
theorem mf_X5_make : MFv M_X5_make 3 := ⟨List.mem_append_right _ (List.mem_of_getElem? (i := 604) rfl), List.mem_append_right _ (List.mem_of_getElem? (i := 9) (by decide +kernel)), ⟨by decide +kernel, by decide +kernel⟩, by decide +kernel⟩
theorem mi_X5_make : MFi M_X5_make := ⟨List.mem_append_right _ (List.mem_of_getElem? (i := 603) (by decide +kernel)), List.mem_append_left _ (List.mem_of_getElem? (i := 54) (by decide +kernel)), rfl, by decide⟩
theorem hp_X5_drop : plainName (mY M_X5_drop).cls = true ∧ (mY M_X5_drop).cls = mO M_X5_drop := ⟨by decide +kernel, rfl⟩
theorem mf_X5_drop : MFv M_X5_drop 1 := ⟨List.mem_append_right _ (List.mem_of_getElem? (i := 620) rfl), List.mem_append_right _ (List.mem_of_getElem? (i := 9) (by decide +kernel)), ⟨by decide +kernel, by decide +kernel⟩, by decide +kernel⟩
theorem mi_X5_drop : MFi M_X5_drop := ⟨List.mem_append_right _ (List.mem_of_getElem? (i := 619) (by decide +kernel)), List.mem_append_left _ (List.mem_of_getElem? (i := 56) (by decide +kernel)), rfl, by decide⟩
theorem hp_X5_hindrance : plainName (mY M_X5_hindrance).cls = true ∧ (mY M_X5_hindrance).cls = mO M_X5_hindrance := ⟨by decide +kernel, rfl⟩
theorem mf_X5_hindrance : MFv M_X5_hindrance 3 := ⟨List.mem_append_right _ (List.mem_of_getElem? (i := 629) rfl), List.mem_append_right _ (List.mem_of_getElem? (i := 9) (by decide +kernel)), ⟨by decide +kernel, by decide +kernel⟩, by decide +kernel⟩
theorem mi_X5_hindrance : MFi M_X5_hindrance := ⟨List.mem_append_right _ (List.mem_of_getElem? (i := 628) (by decide +kernel)), List.mem_append_left _ (List.mem_of_getElem? (i := 57) (by decide +kernel)), rfl, by decide⟩
theorem hp_X5_hasItems : plainName (mY M_X5_hasItems).cls = true ∧ (mY M_X5_hasItems).cls = mO M_X5_hasItems := ⟨by decide +kernel, rfl⟩
theorem mf_X5_hasItems : MFv M_X5_hasItems 3 := ⟨List.mem_append_right _ (List.mem_of_getElem? (i := 646) rfl), List.mem_append_right _ (List.mem_of_getElem? (i := 9) (by decide +kernel)), ⟨by decide +kernel, by decide +kernel⟩, by decide +kernel⟩
theorem mi_X5_hasItems : MFi M_X5_hasItems := ⟨List.mem_append_right _ (List.mem_of_getElem? (i := 645) (by decide +kernel)), List.mem_append_left _ (List.mem_of_getElem? (i := 58) (by decide +kernel)), rfl, by decide⟩
theorem hp_X5_move : plainName (mY M_X5_move).cls = true ∧ (mY M_X5_move).cls = mO M_X5_move := ⟨by decide +kernel, rfl⟩
theorem mf_X5_move : MFv M_X5_move 5 := ⟨List.mem_append_right _ (List.mem_of_getElem? (i := 650) rfl), List.mem_append_right _ (List.mem_of_getElem? (i := 9) (by decide +kernel)), ⟨by decide +kernel, by decide +kernel⟩, by decide +kernel⟩
theorem mi_X5_move : MFi M_X5_move := ⟨List.mem_append_right _ (List.mem_of_getElem? (i := 649) (by decide +kernel)), List.mem_append_left _ (List.mem_of_getElem? (i := 59) (by decide +kernel)), rfl, by decide⟩
theorem hp_X6_init : plainName (mY M_X6_init).cls = true ∧ (mY M_X6_init).cls = mO M_X6_init := ⟨by decide +kernel, rfl⟩
theorem mf_X6_init : MFv M_X6_init 2 := ⟨List.mem_append_right _ (List.mem_of_getElem? (i := 130) rfl), List.mem_append_right _ (List.mem_of_getElem? (i := 7) (by decide +kernel)), ⟨by decide +kernel, by decide +kernel⟩, by decide +kernel⟩
theorem mi_X6_init : Cond.instanceMethod (mY M_X6_init) ∈ lw_tbl := List.mem_append_right _ (List.mem_of_getElem? (i := 129) (by decide +kernel))
theorem hp_X6_haul : plainName (mY M_X6_haul).cls = true ∧ (mY M_X6_haul).cls = mO M_X6_haul := ⟨by decide +kernel, rfl⟩
theorem mf_X6_haul : MFv M_X6_haul 3 := ⟨List.mem_append_right _ (List.mem_of_getElem? (i := 400) rfl), List.mem_append_right _ (List.mem_of_getElem? (i := 7) (by decide +kernel)), ⟨by decide +kernel, by decide +kernel⟩, by decide +kernel⟩
theorem mi_X6_haul : MFi M_X6_haul := ⟨List.mem_append_right _ (List.mem_of_getElem? (i := 399) (by decide +kernel)), List.mem_append_left _ (List.mem_of_getElem? (i := 22) (by decide +kernel)), rfl, by decide⟩
theorem hp_X6_seek : plainName (mY M_X6_seek).cls = true ∧ (mY M_X6_seek).cls = mO M_X6_seek := ⟨by decide +kernel, rfl⟩
theorem mf_X6_seek : MFv M_X6_seek 6 := ⟨List.mem_append_right _ (List.mem_of_getElem? (i := 502) rfl), List.mem_append_right _ (List.mem_of_getElem? (i := 7) (by decide +kernel)), ⟨by decide +kernel, by decide +kernel⟩, by decide +kernel⟩
theorem mi_X6_seek : MFi M_X6_seek := ⟨List.mem_append_right _ (List.mem_of_getElem? (i := 501) (by decide +kernel)), List.mem_append_left _ (List.mem_of_getElem? (i := 39) (by decide +kernel)), rfl, by decide⟩
theorem hp_X6_take : plainName (mY M_X6_take).cls = true ∧ (mY M_X6_take).cls = mO M_X6_take := ⟨by decide +kernel, rfl⟩
theorem mf_X6_take : MFv M_X6_take 3 := ⟨List.mem_append_right _ (List.mem_of_getElem? (i := 508) rfl), List.mem_append_right _ (List.mem_of_getElem? (i := 7) (by decide +kernel)), ⟨by decide +kernel, by decide +kernel⟩, by decide +kernel⟩
theorem mi_X6_take : MFi M_X6_take := ⟨List.mem_append_right _ (List.mem_of_getElem? (i := 507) (by decide +kernel)), List.mem_append_left _ (List.mem_of_getElem? (i := 40) (by decide +kernel)), rfl, by decide⟩
theorem hp_X6_part : plainName (mY M_X6_part).cls = true ∧ (mY M_X6_part).cls = mO M_X6_part := ⟨by decide +kernel, rfl⟩
theorem mf_X6_part : MFv M_X6_part 1 := ⟨List.mem_append_right _ (List.mem_of_getElem? (i := 512) rfl), List.mem_append_right _ (List.mem_of_getElem? (i := 7) (by decide +kernel)), ⟨by decide +kernel, by decide +kernel⟩, by decide +kernel⟩
theorem mi_X6_part : MFi M_X6_part := ⟨List.mem_append_right _ (List.mem_of_getElem? (i := 511) (by decide +kernel)), List.mem_append_left _ (List.mem_of_getElem? (i := 41) (by decide +kernel)), rfl, by decide⟩
theorem hp_X6_weigh : plainName (mY M_X6_weigh).cls = true ∧ (mY M_X6_weigh).cls = mO M_X6_weigh := ⟨by decide +kernel, rfl⟩
theorem mf_X6_weigh : MFv M_X6_weigh 2 := ⟨List.mem_append_right _ (List.mem_of_getElem? (i := 528) rfl), List.mem_append_right _ (List.mem_of_getElem? (i := 7) (by decide +kernel)), ⟨by decide +kernel, by decide +kernel⟩, by decide +kernel⟩
theorem mi_X6_weigh : MFi M_X6_weigh := ⟨List.mem_append_right _ (List.mem_of_getElem? (i := 527) (by decide +kernel)), List.mem_append_left _ (List.mem_of_getElem? (i := 43) (by decide +kernel)), rfl, by decide⟩
theorem hp_X6_sort : plainName (mY M_X6_sort).cls = true ∧ (mY M_X6_sort).cls = mO M_X6_sort := ⟨by decide +kernel, rfl⟩
theorem mf_X6_sort : MFv M_X6_sort 2 := ⟨List.mem_append_right _ (List.mem_of_getElem? (i := 532) rfl), List.mem_append_right _ (List.mem_of_getElem? (i := 7) (by decide +kernel)), ⟨by decide +kernel, by decide +kernel⟩, by decide +kernel⟩
theorem mi_X6_sort : MFi M_X6_sort := ⟨List.mem_append_right _ (List.mem_of_getElem? (i := 531) (by decide +kernel)), List.mem_append_left _ (List.mem_of_getElem? (i := 44) (by decide +kernel)), rfl, by decide⟩
theorem hp_X6_meetAboveBoth : plainName (mY M_X6_meetAboveBoth).cls = true ∧ (mY M_X6_meetAboveBoth).cls = mO M_X6_meetAboveBoth := ⟨by decide +kernel, rfl⟩
theorem mf_X6_meetAboveBoth : MFv M_X6_meetAboveBoth 0 := ⟨List.mem_append_right _ (List.mem_of_getElem? (i := 537) rfl), List.mem_append_right _ (List.mem_of_getElem? (i := 7) (by decide +kernel)), ⟨by decide +kernel, by decide +kernel⟩, by decide +kernel⟩
theorem mi_X6_meetAboveBoth : MFi M_X6_meetAboveBoth := ⟨List.mem_append_right _ (List.mem_of_getElem? (i := 536) (by decide +kernel)), List.mem_append_left _ (List.mem_of_getElem? (i := 45) (by decide +kernel)), rfl, by decide⟩
theorem hp_X6_leastLot : plainName (mY M_X6_leastLot).cls = true ∧ (mY M_X6_leastLot).cls = mO M_X6_leastLot := ⟨by decide +kernel, rfl⟩
theorem mf_X6_leastLot : MFv M_X6_leastLot 2 := ⟨List.mem_append_right _ (List.mem_of_getElem? (i := 524) rfl), List.mem_append_right _ (List.mem_of_getElem? (i := 7) (by decide +kernel)), ⟨by decide +kernel, by decide +kernel⟩, by decide +kernel⟩
theorem mi_X6_leastLot : MFi M_X6_leastLot := ⟨List.mem_append_right _ (List.mem_of_getElem? (i := 523) (by decide +kernel)), List.mem_append_left _ (List.mem_of_getElem? (i := 42) (by decide +kernel)), rfl, by decide⟩
theorem hp_X6_leastMean : plainName (mY M_X6_leastMean).cls = true ∧ (mY M_X6_leastMean).cls = mO M_X6_leastMean := ⟨by decide +kernel, rfl⟩
theorem mf_X6_leastMean : MFv M_X6_leastMean 2 := ⟨List.mem_append_right _ (List.mem_of_getElem? (i := 542) rfl), List.mem_append_right _ (List.mem_of_getElem? (i := 7) (by decide +kernel)), ⟨by decide +kernel, by decide +kernel⟩, by decide +kernel⟩
theorem mi_X6_leastMean : MFi M_X6_leastMean := ⟨List.mem_append_right _ (List.mem_of_getElem? (i := 541) (by decide +kernel)), List.mem_append_left _ (List.mem_of_getElem? (i := 46) (by decide +kernel)), rfl, by decide⟩
theorem hp_X6_learnBy : plainName (mY M_X6_learnBy).cls = true ∧ (mY M_X6_learnBy).cls = mO M_X6_learnBy := ⟨by decide +kernel, rfl⟩
theorem mf_X6_learnBy : MFv M_X6_learnBy 3 := ⟨List.mem_append_right _ (List.mem_of_getElem? (i := 554) rfl), List.mem_append_right _ (List.mem_of_getElem? (i := 7) (by decide +kernel)), ⟨by decide +kernel, by decide +kernel⟩, by decide +kernel⟩
theorem mi_X6_learnBy : MFi M_X6_learnBy := ⟨List.mem_append_right _ (List.mem_of_getElem? (i := 553) (by decide +kernel)), List.mem_append_left _ (List.mem_of_getElem? (i := 47) (by decide +kernel)), rfl, by decide⟩
theorem hp_X7_init : plainName (mY M_X7_init).cls = true ∧ (mY M_X7_init).cls = mO M_X7_init := ⟨by decide +kernel, rfl⟩
theorem mf_X7_init : MFv M_X7_init 2 := ⟨List.mem_append_right _ (List.mem_of_getElem? (i := 85) rfl), List.mem_append_right _ (List.mem_of_getElem? (i := 4) (by decide +kernel)), ⟨by decide +kernel, by decide +kernel⟩, by decide +kernel⟩
theorem mi_X7_init : Cond.instanceMethod (mY M_X7_init) ∈ lw_tbl := List.mem_append_right _ (List.mem_of_getElem? (i := 84) (by decide +kernel))
theorem hp_X7_shedIn : plainName (mY M_X7_shedIn).cls = true ∧ (mY M_X7_shedIn).cls = mO M_X7_shedIn := ⟨by decide +kernel, rfl⟩
theorem mf_X7_shedIn : MFv M_X7_shedIn 2 := ⟨List.mem_append_right _ (List.mem_of_getElem? (i := 361) rfl), List.mem_append_right _ (List.mem_of_getElem? (i := 4) (by decide +kernel)), ⟨by decide +kernel, by decide +kernel⟩, by decide +kernel⟩
theorem mi_X7_shedIn : MFi M_X7_shedIn := ⟨List.mem_append_right _ (List.mem_of_getElem? (i := 360) (by decide +kernel)), List.mem_append_left _ (List.mem_of_getElem? (i := 17) (by decide +kernel)), rfl, by decide⟩
theorem hp_X7_comesTo : plainName (mY M_X7_comesTo).cls = true ∧ (mY M_X7_comesTo).cls = mO M_X7_comesTo := ⟨by decide +kernel, rfl⟩
theorem mf_X7_comesTo : MFv M_X7_comesTo 2 := ⟨List.mem_append_right _ (List.mem_of_getElem? (i := 376) rfl), List.mem_append_right _ (List.mem_of_getElem? (i := 4) (by decide +kernel)), ⟨by decide +kernel, by decide +kernel⟩, by decide +kernel⟩
theorem mi_X7_comesTo : MFi M_X7_comesTo := ⟨List.mem_append_right _ (List.mem_of_getElem? (i := 375) (by decide +kernel)), List.mem_append_left _ (List.mem_of_getElem? (i := 19) (by decide +kernel)), rfl, by decide⟩
theorem hp_X7_aloneFor : plainName (mY M_X7_aloneFor).cls = true ∧ (mY M_X7_aloneFor).cls = mO M_X7_aloneFor := ⟨by decide +kernel, rfl⟩
theorem mf_X7_aloneFor : MFv M_X7_aloneFor 2 := ⟨List.mem_append_right _ (List.mem_of_getElem? (i := 384) rfl), List.mem_append_right _ (List.mem_of_getElem? (i := 4) (by decide +kernel)), ⟨by decide +kernel, by decide +kernel⟩, by decide +kernel⟩
theorem mi_X7_aloneFor : MFi M_X7_aloneFor := ⟨List.mem_append_right _ (List.mem_of_getElem? (i := 383) (by decide +kernel)), List.mem_append_left _ (List.mem_of_getElem? (i := 20) (by decide +kernel)), rfl, by decide⟩
theorem hp_X7_aloneFrom : plainName (mY M_X7_aloneFrom).cls = true ∧ (mY M_X7_aloneFrom).cls = mO M_X7_aloneFrom := ⟨by decide +kernel, rfl⟩
theorem mf_X7_aloneFrom : MFv M_X7_aloneFrom 2 := ⟨List.mem_append_right _ (List.mem_of_getElem? (i := 392) rfl), List.mem_append_right _ (List.mem_of_getElem? (i := 4) (by decide +kernel)), ⟨by decide +kernel, by decide +kernel⟩, by decide +kernel⟩
theorem mi_X7_aloneFrom : MFi M_X7_aloneFrom := ⟨List.mem_append_right _ (List.mem_of_getElem? (i := 391) (by decide +kernel)), List.mem_append_left _ (List.mem_of_getElem? (i := 21) (by decide +kernel)), rfl, by decide⟩
theorem hp_X8_init : plainName (mY M_X8_init).cls = true ∧ (mY M_X8_init).cls = mO M_X8_init := ⟨by decide +kernel, rfl⟩
theorem mf_X8_init : MFv M_X8_init 0 := ⟨List.mem_append_right _ (List.mem_of_getElem? (i := 16) rfl), List.mem_append_right _ (List.mem_of_getElem? (i := 1) (by decide +kernel)), ⟨by decide +kernel, by decide +kernel⟩, by decide +kernel⟩
theorem mi_X8_init : Cond.instanceMethod (mY M_X8_init) ∈ lw_tbl := List.mem_append_right _ (List.mem_of_getElem? (i := 15) (by decide +kernel))
theorem hp_X8_type : plainName (mY M_X8_type).cls = true ∧ (mY M_X8_type).cls = mO M_X8_type := ⟨by decide +kernel, rfl⟩
theorem mf_X8_type : MFv M_X8_type 1 := ⟨List.mem_append_right _ (List.mem_of_getElem? (i := 233) rfl), List.mem_append_right _ (List.mem_of_getElem? (i := 1) (by decide +kernel)), ⟨by decide +kernel, by decide +kernel⟩, by decide +kernel⟩
theorem mi_X8_type : MFi M_X8_type := ⟨List.mem_append_right _ (List.mem_of_getElem? (i := 231) (by decide +kernel)), List.mem_append_right _ (List.mem_of_getElem? (i := 232) (by decide +kernel)), rfl, by decide⟩
theorem hp_X8_wipe : plainName (mY M_X8_wipe).cls = true ∧ (mY M_X8_wipe).cls = mO M_X8_wipe := ⟨by decide +kernel, rfl⟩
theorem mf_X8_wipe : MFv M_X8_wipe 0 := ⟨List.mem_append_right _ (List.mem_of_getElem? (i := 264) rfl), List.mem_append_right _ (List.mem_of_getElem? (i := 1) (by decide +kernel)), ⟨by decide +kernel, by decide +kernel⟩, by decide +kernel⟩
theorem mi_X8_wipe : MFi M_X8_wipe := ⟨List.mem_append_right _ (List.mem_of_getElem? (i := 262) (by decide +kernel)), List.mem_append_right _ (List.mem_of_getElem? (i := 263) (by decide +kernel)), rfl, by decide⟩
theorem hp_X8_fault : plainName (mY M_X8_fault).cls = true ∧ (mY M_X8_fault).cls = mO M_X8_fault := ⟨by decide +kernel, rfl⟩
theorem mf_X8_fault : MFv M_X8_fault 0 := ⟨List.mem_append_right _ (List.mem_of_getElem? (i := 272) rfl), List.mem_append_right _ (List.mem_of_getElem? (i := 1) (by decide +kernel)), ⟨by decide +kernel, by decide +kernel⟩, by decide +kernel⟩
theorem mi_X8_fault : MFi M_X8_fault := ⟨List.mem_append_right _ (List.mem_of_getElem? (i := 270) (by decide +kernel)), List.mem_append_right _ (List.mem_of_getElem? (i := 271) (by decide +kernel)), rfl, by decide⟩
theorem hp_X8_worth : plainName (mY M_X8_worth).cls = true ∧ (mY M_X8_worth).cls = mO M_X8_worth := ⟨by decide +kernel, rfl⟩
theorem mf_X8_worth : MFv M_X8_worth 2 := ⟨List.mem_append_right _ (List.mem_of_getElem? (i := 276) rfl), List.mem_append_right _ (List.mem_of_getElem? (i := 1) (by decide +kernel)), ⟨by decide +kernel, by decide +kernel⟩, by decide +kernel⟩
theorem mi_X8_worth : MFi M_X8_worth := ⟨List.mem_append_right _ (List.mem_of_getElem? (i := 274) (by decide +kernel)), List.mem_append_right _ (List.mem_of_getElem? (i := 275) (by decide +kernel)), rfl, by decide⟩
theorem hp_X8_way : plainName (mY M_X8_way).cls = true ∧ (mY M_X8_way).cls = mO M_X8_way := ⟨by decide +kernel, rfl⟩
theorem mf_X8_way : MFv M_X8_way 3 := ⟨List.mem_append_right _ (List.mem_of_getElem? (i := 293) rfl), List.mem_append_right _ (List.mem_of_getElem? (i := 1) (by decide +kernel)), ⟨by decide +kernel, by decide +kernel⟩, by decide +kernel⟩
theorem mi_X8_way : MFi M_X8_way := ⟨List.mem_append_right _ (List.mem_of_getElem? (i := 291) (by decide +kernel)), List.mem_append_right _ (List.mem_of_getElem? (i := 292) (by decide +kernel)), rfl, by decide⟩
theorem hp_X8_set : plainName (mY M_X8_set).cls = true ∧ (mY M_X8_set).cls = mO M_X8_set := ⟨by decide +kernel, rfl⟩
theorem mf_X8_set : MFv M_X8_set 2 := ⟨List.mem_append_right _ (List.mem_of_getElem? (i := 305) rfl), List.mem_append_right _ (List.mem_of_getElem? (i := 1) (by decide +kernel)), ⟨by decide +kernel, by decide +kernel⟩, by decide +kernel⟩
theorem mi_X8_set : MFi M_X8_set := ⟨List.mem_append_right _ (List.mem_of_getElem? (i := 303) (by decide +kernel)), List.mem_append_right _ (List.mem_of_getElem? (i := 304) (by decide +kernel)), rfl, by decide⟩
theorem hp_X8_read : plainName (mY M_X8_read).cls = true ∧ (mY M_X8_read).cls = mO M_X8_read := ⟨by decide +kernel, rfl⟩
theorem mf_X8_read : MFv M_X8_read 1 := ⟨List.mem_append_right _ (List.mem_of_getElem? (i := 317) rfl), List.mem_append_right _ (List.mem_of_getElem? (i := 1) (by decide +kernel)), ⟨by decide +kernel, by decide +kernel⟩, by decide +kernel⟩
theorem mi_X8_read : MFi M_X8_read := ⟨List.mem_append_right _ (List.mem_of_getElem? (i := 315) (by decide +kernel)), List.mem_append_right _ (List.mem_of_getElem? (i := 316) (by decide +kernel)), rfl, by decide⟩
theorem hp_X8_night : plainName (mY M_X8_night).cls = true ∧ (mY M_X8_night).cls = mO M_X8_night := ⟨by decide +kernel, rfl⟩
theorem mf_X8_night : MFv M_X8_night 2 := ⟨List.mem_append_right _ (List.mem_of_getElem? (i := 345) rfl), List.mem_append_right _ (List.mem_of_getElem? (i := 1) (by decide +kernel)), ⟨by decide +kernel, by decide +kernel⟩, by decide +kernel⟩
theorem mi_X8_night : MFi M_X8_night := ⟨List.mem_append_right _ (List.mem_of_getElem? (i := 343) (by decide +kernel)), List.mem_append_right _ (List.mem_of_getElem? (i := 344) (by decide +kernel)), rfl, by decide⟩
theorem hp_X8_at : plainName (mY M_X8_at).cls = true ∧ (mY M_X8_at).cls = mO M_X8_at := ⟨by decide +kernel, rfl⟩
theorem mf_X8_at : MFv M_X8_at 2 := ⟨List.mem_append_right _ (List.mem_of_getElem? (i := 357) rfl), List.mem_append_right _ (List.mem_of_getElem? (i := 1) (by decide +kernel)), ⟨by decide +kernel, by decide +kernel⟩, by decide +kernel⟩
theorem mi_X8_at : MFi M_X8_at := ⟨List.mem_append_right _ (List.mem_of_getElem? (i := 355) (by decide +kernel)), List.mem_append_right _ (List.mem_of_getElem? (i := 356) (by decide +kernel)), rfl, by decide⟩
theorem hp_X8_when : plainName (mY M_X8_when).cls = true ∧ (mY M_X8_when).cls = mO M_X8_when := ⟨by decide +kernel, rfl⟩
theorem mf_X8_when : MFv M_X8_when 2 := ⟨List.mem_append_right _ (List.mem_of_getElem? (i := 372) rfl), List.mem_append_right _ (List.mem_of_getElem? (i := 1) (by decide +kernel)), ⟨by decide +kernel, by decide +kernel⟩, by decide +kernel⟩
theorem mi_X8_when : MFi M_X8_when := ⟨List.mem_append_right _ (List.mem_of_getElem? (i := 370) (by decide +kernel)), List.mem_append_right _ (List.mem_of_getElem? (i := 371) (by decide +kernel)), rfl, by decide⟩
theorem hp_X8_alone : plainName (mY M_X8_alone).cls = true ∧ (mY M_X8_alone).cls = mO M_X8_alone := ⟨by decide +kernel, rfl⟩
theorem mf_X8_alone : MFv M_X8_alone 3 := ⟨List.mem_append_right _ (List.mem_of_getElem? (i := 380) rfl), List.mem_append_right _ (List.mem_of_getElem? (i := 1) (by decide +kernel)), ⟨by decide +kernel, by decide +kernel⟩, by decide +kernel⟩
theorem mi_X8_alone : MFi M_X8_alone := ⟨List.mem_append_right _ (List.mem_of_getElem? (i := 378) (by decide +kernel)), List.mem_append_right _ (List.mem_of_getElem? (i := 379) (by decide +kernel)), rfl, by decide⟩
theorem hp_X8_steals : plainName (mY M_X8_steals).cls = true ∧ (mY M_X8_steals).cls = mO M_X8_steals := ⟨by decide +kernel, rfl⟩
theorem mf_X8_steals : MFv M_X8_steals 3 := ⟨List.mem_append_right _ (List.mem_of_getElem? (i := 396) rfl), List.mem_append_right _ (List.mem_of_getElem? (i := 1) (by decide +kernel)), ⟨by decide +kernel, by decide +kernel⟩, by decide +kernel⟩
theorem mi_X8_steals : MFi M_X8_steals := ⟨List.mem_append_right _ (List.mem_of_getElem? (i := 394) (by decide +kernel)), List.mem_append_right _ (List.mem_of_getElem? (i := 395) (by decide +kernel)), rfl, by decide⟩
theorem hp_X8_next : plainName (mY M_X8_next).cls = true ∧ (mY M_X8_next).cls = mO M_X8_next := ⟨by decide +kernel, rfl⟩
theorem mf_X8_next : MFv M_X8_next 4 := ⟨List.mem_append_right _ (List.mem_of_getElem? (i := 405) rfl), List.mem_append_right _ (List.mem_of_getElem? (i := 1) (by decide +kernel)), ⟨by decide +kernel, by decide +kernel⟩, by decide +kernel⟩
theorem mi_X8_next : MFi M_X8_next := ⟨List.mem_append_right _ (List.mem_of_getElem? (i := 403) (by decide +kernel)), List.mem_append_right _ (List.mem_of_getElem? (i := 404) (by decide +kernel)), rfl, by decide⟩
theorem hp_X8_likely : plainName (mY M_X8_likely).cls = true ∧ (mY M_X8_likely).cls = mO M_X8_likely := ⟨by decide +kernel, rfl⟩
theorem mf_X8_likely : MFv M_X8_likely 2 := ⟨List.mem_append_right _ (List.mem_of_getElem? (i := 452) rfl), List.mem_append_right _ (List.mem_of_getElem? (i := 1) (by decide +kernel)), ⟨by decide +kernel, by decide +kernel⟩, by decide +kernel⟩
theorem mi_X8_likely : MFi M_X8_likely := ⟨List.mem_append_right _ (List.mem_of_getElem? (i := 450) (by decide +kernel)), List.mem_append_right _ (List.mem_of_getElem? (i := 451) (by decide +kernel)), rfl, by decide⟩
theorem hp_X8_fresh : plainName (mY M_X8_fresh).cls = true ∧ (mY M_X8_fresh).cls = mO M_X8_fresh := ⟨by decide +kernel, rfl⟩
theorem mf_X8_fresh : MFv M_X8_fresh 1 := ⟨List.mem_append_right _ (List.mem_of_getElem? (i := 465) rfl), List.mem_append_right _ (List.mem_of_getElem? (i := 1) (by decide +kernel)), ⟨by decide +kernel, by decide +kernel⟩, by decide +kernel⟩
theorem mi_X8_fresh : MFi M_X8_fresh := ⟨List.mem_append_right _ (List.mem_of_getElem? (i := 463) (by decide +kernel)), List.mem_append_right _ (List.mem_of_getElem? (i := 464) (by decide +kernel)), rfl, by decide⟩
theorem hp_X8_breaks : plainName (mY M_X8_breaks).cls = true ∧ (mY M_X8_breaks).cls = mO M_X8_breaks := ⟨by decide +kernel, rfl⟩
theorem mf_X8_breaks : MFv M_X8_breaks 4 := ⟨List.mem_append_right _ (List.mem_of_getElem? (i := 491) rfl), List.mem_append_right _ (List.mem_of_getElem? (i := 1) (by decide +kernel)), ⟨by decide +kernel, by decide +kernel⟩, by decide +kernel⟩
theorem mi_X8_breaks : MFi M_X8_breaks := ⟨List.mem_append_right _ (List.mem_of_getElem? (i := 489) (by decide +kernel)), List.mem_append_right _ (List.mem_of_getElem? (i := 490) (by decide +kernel)), rfl, by decide⟩
theorem hp_X8_seen : plainName (mY M_X8_seen).cls = true ∧ (mY M_X8_seen).cls = mO M_X8_seen := ⟨by decide +kernel, rfl⟩
theorem mf_X8_seen : MFv M_X8_seen 5 := ⟨List.mem_append_right _ (List.mem_of_getElem? (i := 516) rfl), List.mem_append_right _ (List.mem_of_getElem? (i := 1) (by decide +kernel)), ⟨by decide +kernel, by decide +kernel⟩, by decide +kernel⟩
theorem mi_X8_seen : MFi M_X8_seen := ⟨List.mem_append_right _ (List.mem_of_getElem? (i := 514) (by decide +kernel)), List.mem_append_right _ (List.mem_of_getElem? (i := 515) (by decide +kernel)), rfl, by decide⟩
theorem hp_X8_least : plainName (mY M_X8_least).cls = true ∧ (mY M_X8_least).cls = mO M_X8_least := ⟨by decide +kernel, rfl⟩
theorem mf_X8_least : MFv M_X8_least 3 := ⟨List.mem_append_right _ (List.mem_of_getElem? (i := 520) rfl), List.mem_append_right _ (List.mem_of_getElem? (i := 1) (by decide +kernel)), ⟨by decide +kernel, by decide +kernel⟩, by decide +kernel⟩
theorem mi_X8_least : MFi M_X8_least := ⟨List.mem_append_right _ (List.mem_of_getElem? (i := 518) (by decide +kernel)), List.mem_append_right _ (List.mem_of_getElem? (i := 519) (by decide +kernel)), rfl, by decide⟩
theorem hp_X8_lamp : plainName (mY M_X8_lamp).cls = true ∧ (mY M_X8_lamp).cls = mO M_X8_lamp := ⟨by decide +kernel, rfl⟩
theorem mf_X8_lamp : MFv M_X8_lamp 4 := ⟨List.mem_append_right _ (List.mem_of_getElem? (i := 546) rfl), List.mem_append_right _ (List.mem_of_getElem? (i := 1) (by decide +kernel)), ⟨by decide +kernel, by decide +kernel⟩, by decide +kernel⟩
theorem mi_X8_lamp : MFi M_X8_lamp := ⟨List.mem_append_right _ (List.mem_of_getElem? (i := 544) (by decide +kernel)), List.mem_append_right _ (List.mem_of_getElem? (i := 545) (by decide +kernel)), rfl, by decide⟩
theorem hp_X8_learn : plainName (mY M_X8_learn).cls = true ∧ (mY M_X8_learn).cls = mO M_X8_learn := ⟨by decide +kernel, rfl⟩
theorem mf_X8_learn : MFv M_X8_learn 4 := ⟨List.mem_append_right _ (List.mem_of_getElem? (i := 550) rfl), List.mem_append_right _ (List.mem_of_getElem? (i := 1) (by decide +kernel)), ⟨by decide +kernel, by decide +kernel⟩, by decide +kernel⟩
theorem mi_X8_learn : MFi M_X8_learn := ⟨List.mem_append_right _ (List.mem_of_getElem? (i := 548) (by decide +kernel)), List.mem_append_right _ (List.mem_of_getElem? (i := 549) (by decide +kernel)), rfl, by decide⟩
theorem hp_X8_dice : plainName (mY M_X8_dice).cls = true ∧ (mY M_X8_dice).cls = mO M_X8_dice := ⟨by decide +kernel, rfl⟩
theorem mf_X8_dice : MFv M_X8_dice 3 := ⟨List.mem_append_right _ (List.mem_of_getElem? (i := 559) rfl), List.mem_append_right _ (List.mem_of_getElem? (i := 1) (by decide +kernel)), ⟨by decide +kernel, by decide +kernel⟩, by decide +kernel⟩
theorem mi_X8_dice : MFi M_X8_dice := ⟨List.mem_append_right _ (List.mem_of_getElem? (i := 557) (by decide +kernel)), List.mem_append_right _ (List.mem_of_getElem? (i := 558) (by decide +kernel)), rfl, by decide⟩
theorem hp_X8_seeds : plainName (mY M_X8_seeds).cls = true ∧ (mY M_X8_seeds).cls = mO M_X8_seeds := ⟨by decide +kernel, rfl⟩
theorem mf_X8_seeds : MFv M_X8_seeds 1 := ⟨List.mem_append_right _ (List.mem_of_getElem? (i := 580) rfl), List.mem_append_right _ (List.mem_of_getElem? (i := 1) (by decide +kernel)), ⟨by decide +kernel, by decide +kernel⟩, by decide +kernel⟩
theorem mi_X8_seeds : MFi M_X8_seeds := ⟨List.mem_append_right _ (List.mem_of_getElem? (i := 578) (by decide +kernel)), List.mem_append_right _ (List.mem_of_getElem? (i := 579) (by decide +kernel)), rfl, by decide⟩
theorem hp_X8_sheet : plainName (mY M_X8_sheet).cls = true ∧ (mY M_X8_sheet).cls = mO M_X8_sheet := ⟨by decide +kernel, rfl⟩
theorem mf_X8_sheet : MFv M_X8_sheet 3 := ⟨List.mem_append_right _ (List.mem_of_getElem? (i := 597) rfl), List.mem_append_right _ (List.mem_of_getElem? (i := 1) (by decide +kernel)), ⟨by decide +kernel, by decide +kernel⟩, by decide +kernel⟩
theorem mi_X8_sheet : MFi M_X8_sheet := ⟨List.mem_append_right _ (List.mem_of_getElem? (i := 595) (by decide +kernel)), List.mem_append_right _ (List.mem_of_getElem? (i := 596) (by decide +kernel)), rfl, by decide⟩
theorem hp_X8_lose : plainName (mY M_X8_lose).cls = true ∧ (mY M_X8_lose).cls = mO M_X8_lose := ⟨by decide +kernel, rfl⟩
theorem mf_X8_lose : MFv M_X8_lose 1 := ⟨List.mem_append_right _ (List.mem_of_getElem? (i := 616) rfl), List.mem_append_right _ (List.mem_of_getElem? (i := 1) (by decide +kernel)), ⟨by decide +kernel, by decide +kernel⟩, by decide +kernel⟩
theorem mi_X8_lose : MFi M_X8_lose := ⟨List.mem_append_right _ (List.mem_of_getElem? (i := 614) (by decide +kernel)), List.mem_append_right _ (List.mem_of_getElem? (i := 615) (by decide +kernel)), rfl, by decide⟩
theorem hp_X8_put : plainName (mY M_X8_put).cls = true ∧ (mY M_X8_put).cls = mO M_X8_put := ⟨by decide +kernel, rfl⟩
theorem mf_X8_put : MFv M_X8_put 4 := ⟨List.mem_append_right _ (List.mem_of_getElem? (i := 625) rfl), List.mem_append_right _ (List.mem_of_getElem? (i := 1) (by decide +kernel)), ⟨by decide +kernel, by decide +kernel⟩, by decide +kernel⟩
theorem mi_X8_put : MFi M_X8_put := ⟨List.mem_append_right _ (List.mem_of_getElem? (i := 623) (by decide +kernel)), List.mem_append_right _ (List.mem_of_getElem? (i := 624) (by decide +kernel)), rfl, by decide⟩
theorem hp_X8_get : plainName (mY M_X8_get).cls = true ∧ (mY M_X8_get).cls = mO M_X8_get := ⟨by decide +kernel, rfl⟩
theorem mf_X8_get : MFv M_X8_get 3 := ⟨List.mem_append_right _ (List.mem_of_getElem? (i := 636) rfl), List.mem_append_right _ (List.mem_of_getElem? (i := 1) (by decide +kernel)), ⟨by decide +kernel, by decide +kernel⟩, by decide +kernel⟩
theorem mi_X8_get : MFi M_X8_get := ⟨List.mem_append_right _ (List.mem_of_getElem? (i := 634) (by decide +kernel)), List.mem_append_right _ (List.mem_of_getElem? (i := 635) (by decide +kernel)), rfl, by decide⟩
theorem hp_X8_copy : plainName (mY M_X8_copy).cls = true ∧ (mY M_X8_copy).cls = mO M_X8_copy := ⟨by decide +kernel, rfl⟩
theorem mf_X8_copy : MFv M_X8_copy 5 := ⟨List.mem_append_right _ (List.mem_of_getElem? (i := 641) rfl), List.mem_append_right _ (List.mem_of_getElem? (i := 1) (by decide +kernel)), ⟨by decide +kernel, by decide +kernel⟩, by decide +kernel⟩
theorem mi_X8_copy : MFi M_X8_copy := ⟨List.mem_append_right _ (List.mem_of_getElem? (i := 639) (by decide +kernel)), List.mem_append_right _ (List.mem_of_getElem? (i := 640) (by decide +kernel)), rfl, by decide⟩
theorem hp_X8_write : plainName (mY M_X8_write).cls = true ∧ (mY M_X8_write).cls = mO M_X8_write := ⟨by decide +kernel, rfl⟩
theorem mf_X8_write : MFv M_X8_write 2 := ⟨List.mem_append_right _ (List.mem_of_getElem? (i := 655) rfl), List.mem_append_right _ (List.mem_of_getElem? (i := 1) (by decide +kernel)), ⟨by decide +kernel, by decide +kernel⟩, by decide +kernel⟩
theorem mi_X8_write : MFi M_X8_write := ⟨List.mem_append_right _ (List.mem_of_getElem? (i := 653) (by decide +kernel)), List.mem_append_right _ (List.mem_of_getElem? (i := 654) (by decide +kernel)), rfl, by decide⟩
theorem hp_X8_count : plainName (mY M_X8_count).cls = true ∧ (mY M_X8_count).cls = mO M_X8_count := ⟨by decide +kernel, rfl⟩
theorem mf_X8_count : MFv M_X8_count 1 := ⟨List.mem_append_right _ (List.mem_of_getElem? (i := 659) rfl), List.mem_append_right _ (List.mem_of_getElem? (i := 1) (by decide +kernel)), ⟨by decide +kernel, by decide +kernel⟩, by decide +kernel⟩
theorem mi_X8_count : MFi M_X8_count := ⟨List.mem_append_right _ (List.mem_of_getElem? (i := 657) (by decide +kernel)), List.mem_append_right _ (List.mem_of_getElem? (i := 658) (by decide +kernel)), rfl, by decide⟩
theorem hp_X8_digest : plainName (mY M_X8_digest).cls = true ∧ (mY M_X8_digest).cls = mO M_X8_digest := ⟨by decide +kernel, rfl⟩
theorem mf_X8_digest : MFv M_X8_digest 0 := ⟨List.mem_append_right _ (List.mem_of_getElem? (i := 679) rfl), List.mem_append_right _ (List.mem_of_getElem? (i := 1) (by decide +kernel)), ⟨by decide +kernel, by decide +kernel⟩, by decide +kernel⟩
theorem mi_X8_digest : MFi M_X8_digest := ⟨List.mem_append_right _ (List.mem_of_getElem? (i := 677) (by decide +kernel)), List.mem_append_right _ (List.mem_of_getElem? (i := 678) (by decide +kernel)), rfl, by decide⟩
theorem hp_X8_joinNight : plainName (mY M_X8_joinNight).cls = true ∧ (mY M_X8_joinNight).cls = mO M_X8_joinNight := ⟨by decide +kernel, rfl⟩
theorem mf_X8_joinNight : MFv M_X8_joinNight 2 := ⟨List.mem_append_right _ (List.mem_of_getElem? (i := 690) rfl), List.mem_append_right _ (List.mem_of_getElem? (i := 1) (by decide +kernel)), ⟨by decide +kernel, by decide +kernel⟩, by decide +kernel⟩
theorem mi_X8_joinNight : MFi M_X8_joinNight := ⟨List.mem_append_right _ (List.mem_of_getElem? (i := 689) (by decide +kernel)), List.mem_append_left _ (List.mem_of_getElem? (i := 64) (by decide +kernel)), rfl, by decide⟩
theorem hp_X8_joinBook : plainName (mY M_X8_joinBook).cls = true ∧ (mY M_X8_joinBook).cls = mO M_X8_joinBook := ⟨by decide +kernel, rfl⟩
theorem mf_X8_joinBook : MFv M_X8_joinBook 1 := ⟨List.mem_append_right _ (List.mem_of_getElem? (i := 701) rfl), List.mem_append_right _ (List.mem_of_getElem? (i := 1) (by decide +kernel)), ⟨by decide +kernel, by decide +kernel⟩, by decide +kernel⟩
theorem mi_X8_joinBook : MFi M_X8_joinBook := ⟨List.mem_append_right _ (List.mem_of_getElem? (i := 700) (by decide +kernel)), List.mem_append_left _ (List.mem_of_getElem? (i := 65) (by decide +kernel)), rfl, by decide⟩
theorem hp_X8_joinLots : plainName (mY M_X8_joinLots).cls = true ∧ (mY M_X8_joinLots).cls = mO M_X8_joinLots := ⟨by decide +kernel, rfl⟩
theorem mf_X8_joinLots : MFv M_X8_joinLots 1 := ⟨List.mem_append_right _ (List.mem_of_getElem? (i := 707) rfl), List.mem_append_right _ (List.mem_of_getElem? (i := 1) (by decide +kernel)), ⟨by decide +kernel, by decide +kernel⟩, by decide +kernel⟩
theorem mi_X8_joinLots : MFi M_X8_joinLots := ⟨List.mem_append_right _ (List.mem_of_getElem? (i := 706) (by decide +kernel)), List.mem_append_left _ (List.mem_of_getElem? (i := 66) (by decide +kernel)), rfl, by decide⟩
theorem hp_X8_join : plainName (mY M_X8_join).cls = true ∧ (mY M_X8_join).cls = mO M_X8_join := ⟨by decide +kernel, rfl⟩
theorem mf_X8_join : MFv M_X8_join 2 := ⟨List.mem_append_right _ (List.mem_of_getElem? (i := 684) rfl), List.mem_append_right _ (List.mem_of_getElem? (i := 1) (by decide +kernel)), ⟨by decide +kernel, by decide +kernel⟩, by decide +kernel⟩
theorem ms_X8_join : Cond.static (mY M_X8_join) ∈ lw_tbl := List.mem_append_right _ (List.mem_of_getElem? (i := 683) (by decide +kernel))
theorem hp_X8_refusal : plainName (mY M_X8_refusal).cls = true ∧ (mY M_X8_refusal).cls = mO M_X8_refusal := ⟨by decide +kernel, rfl⟩
theorem mf_X8_refusal : MFv M_X8_refusal 1 := ⟨List.mem_append_right _ (List.mem_of_getElem? (i := 408) rfl), List.mem_append_right _ (List.mem_of_getElem? (i := 1) (by decide +kernel)), ⟨by decide +kernel, by decide +kernel⟩, by decide +kernel⟩
theorem ms_X8_refusal : Cond.static (mY M_X8_refusal) ∈ lw_tbl := List.mem_append_right _ (List.mem_of_getElem? (i := 407) (by decide +kernel))
theorem hp_X8_isLot : plainName (mY M_X8_isLot).cls = true ∧ (mY M_X8_isLot).cls = mO M_X8_isLot := ⟨by decide +kernel, rfl⟩
theorem mf_X8_isLot : MFv M_X8_isLot 3 := ⟨List.mem_append_right _ (List.mem_of_getElem? (i := 495) rfl), List.mem_append_right _ (List.mem_of_getElem? (i := 1) (by decide +kernel)), ⟨by decide +kernel, by decide +kernel⟩, by decide +kernel⟩
theorem mi_X8_isLot : MFi M_X8_isLot := ⟨List.mem_append_right _ (List.mem_of_getElem? (i := 494) (by decide +kernel)), List.mem_append_left _ (List.mem_of_getElem? (i := 38) (by decide +kernel)), rfl, by decide⟩
theorem hp_X8_isSixteenths : plainName (mY M_X8_isSixteenths).cls = true ∧ (mY M_X8_isSixteenths).cls = mO M_X8_isSixteenths := ⟨by decide +kernel, rfl⟩
theorem mf_X8_isSixteenths : MFv M_X8_isSixteenths 1 := ⟨List.mem_append_right _ (List.mem_of_getElem? (i := 498) rfl), List.mem_append_right _ (List.mem_of_getElem? (i := 1) (by decide +kernel)), ⟨by decide +kernel, by decide +kernel⟩, by decide +kernel⟩
theorem ms_X8_isSixteenths : Cond.static (mY M_X8_isSixteenths) ∈ lw_tbl := List.mem_append_right _ (List.mem_of_getElem? (i := 497) (by decide +kernel))
theorem hp_X8_isShed : plainName (mY M_X8_isShed).cls = true ∧ (mY M_X8_isShed).cls = mO M_X8_isShed := ⟨by decide +kernel, rfl⟩
theorem mf_X8_isShed : MFv M_X8_isShed 1 := ⟨List.mem_append_right _ (List.mem_of_getElem? (i := 260) rfl), List.mem_append_right _ (List.mem_of_getElem? (i := 1) (by decide +kernel)), ⟨by decide +kernel, by decide +kernel⟩, by decide +kernel⟩
theorem ms_X8_isShed : Cond.static (mY M_X8_isShed) ∈ lw_tbl := List.mem_append_right _ (List.mem_of_getElem? (i := 259) (by decide +kernel))
theorem hp_X8_isWorth : plainName (mY M_X8_isWorth).cls = true ∧ (mY M_X8_isWorth).cls = mO M_X8_isWorth := ⟨by decide +kernel, rfl⟩
theorem mf_X8_isWorth : MFv M_X8_isWorth 1 := ⟨List.mem_append_right _ (List.mem_of_getElem? (i := 280) rfl), List.mem_append_right _ (List.mem_of_getElem? (i := 1) (by decide +kernel)), ⟨by decide +kernel, by decide +kernel⟩, by decide +kernel⟩
theorem ms_X8_isWorth : Cond.static (mY M_X8_isWorth) ∈ lw_tbl := List.mem_append_right _ (List.mem_of_getElem? (i := 279) (by decide +kernel))
theorem hp_X8_isSheet : plainName (mY M_X8_isSheet).cls = true ∧ (mY M_X8_isSheet).cls = mO M_X8_isSheet := ⟨by decide +kernel, rfl⟩
theorem mf_X8_isSheet : MFv M_X8_isSheet 1 := ⟨List.mem_append_right _ (List.mem_of_getElem? (i := 320) rfl), List.mem_append_right _ (List.mem_of_getElem? (i := 1) (by decide +kernel)), ⟨by decide +kernel, by decide +kernel⟩, by decide +kernel⟩
theorem ms_X8_isSheet : Cond.static (mY M_X8_isSheet) ∈ lw_tbl := List.mem_append_right _ (List.mem_of_getElem? (i := 319) (by decide +kernel))
theorem hp_X8_isForm : plainName (mY M_X8_isForm).cls = true ∧ (mY M_X8_isForm).cls = mO M_X8_isForm := ⟨by decide +kernel, rfl⟩
theorem mf_X8_isForm : MFv M_X8_isForm 1 := ⟨List.mem_append_right _ (List.mem_of_getElem? (i := 600) rfl), List.mem_append_right _ (List.mem_of_getElem? (i := 1) (by decide +kernel)), ⟨by decide +kernel, by decide +kernel⟩, by decide +kernel⟩
theorem ms_X8_isForm : Cond.static (mY M_X8_isForm) ∈ lw_tbl := List.mem_append_right _ (List.mem_of_getElem? (i := 599) (by decide +kernel))
theorem hp_X8_within : plainName (mY M_X8_within).cls = true ∧ (mY M_X8_within).cls = mO M_X8_within := ⟨by decide +kernel, rfl⟩
theorem mf_X8_within : MFv M_X8_within 3 := ⟨List.mem_append_right _ (List.mem_of_getElem? (i := 236) rfl), List.mem_append_right _ (List.mem_of_getElem? (i := 1) (by decide +kernel)), ⟨by decide +kernel, by decide +kernel⟩, by decide +kernel⟩
theorem ms_X8_within : Cond.static (mY M_X8_within) ∈ lw_tbl := List.mem_append_right _ (List.mem_of_getElem? (i := 235) (by decide +kernel))
theorem hp_X8_item : plainName (mY M_X8_item).cls = true ∧ (mY M_X8_item).cls = mO M_X8_item := ⟨by decide +kernel, rfl⟩
theorem mf_X8_item : MFv M_X8_item 2 := ⟨List.mem_append_right _ (List.mem_of_getElem? (i := 253) rfl), List.mem_append_right _ (List.mem_of_getElem? (i := 1) (by decide +kernel)), ⟨by decide +kernel, by decide +kernel⟩, by decide +kernel⟩
theorem ms_X8_item : Cond.static (mY M_X8_item) ∈ lw_tbl := List.mem_append_right _ (List.mem_of_getElem? (i := 252) (by decide +kernel))
theorem hp_X8_keep : plainName (mY M_X8_keep).cls = true ∧ (mY M_X8_keep).cls = mO M_X8_keep := ⟨by decide +kernel, rfl⟩
theorem mf_X8_keep : MFv M_X8_keep 3 := ⟨List.mem_append_right _ (List.mem_of_getElem? (i := 243) rfl), List.mem_append_right _ (List.mem_of_getElem? (i := 1) (by decide +kernel)), ⟨by decide +kernel, by decide +kernel⟩, by decide +kernel⟩
theorem ms_X8_keep : Cond.static (mY M_X8_keep) ∈ lw_tbl := List.mem_append_right _ (List.mem_of_getElem? (i := 242) (by decide +kernel))
theorem hp_X8_fill : plainName (mY M_X8_fill).cls = true ∧ (mY M_X8_fill).cls = mO M_X8_fill := ⟨by decide +kernel, rfl⟩
theorem mf_X8_fill : MFv M_X8_fill 2 := ⟨List.mem_append_right _ (List.mem_of_getElem? (i := 250) rfl), List.mem_append_right _ (List.mem_of_getElem? (i := 1) (by decide +kernel)), ⟨by decide +kernel, by decide +kernel⟩, by decide +kernel⟩
theorem ms_X8_fill : Cond.static (mY M_X8_fill) ∈ lw_tbl := List.mem_append_right _ (List.mem_of_getElem? (i := 249) (by decide +kernel))
theorem hp_X9_init : plainName (mY M_X9_init).cls = true ∧ (mY M_X9_init).cls = mO M_X9_init := ⟨by decide +kernel, rfl⟩
theorem mf_X9_init : MFv M_X9_init 0 := ⟨List.mem_append_right _ (List.mem_of_getElem? (i := 718) rfl), List.mem_append_right _ (List.mem_of_getElem? (i := 10) (by decide +kernel)), ⟨by decide +kernel, by decide +kernel⟩, by decide +kernel⟩
theorem mi_X9_init : Cond.instanceMethod (mY M_X9_init) ∈ lw_tbl := List.mem_append_right _ (List.mem_of_getElem? (i := 717) (by decide +kernel))
theorem hp_X9_in : plainName (mY M_X9_in).cls = true ∧ (mY M_X9_in).cls = mO M_X9_in := ⟨by decide +kernel, rfl⟩
theorem mf_X9_in : MFv M_X9_in 3 := ⟨List.mem_append_right _ (List.mem_of_getElem? (i := 782) rfl), List.mem_append_right _ (List.mem_of_getElem? (i := 10) (by decide +kernel)), ⟨by decide +kernel, by decide +kernel⟩, by decide +kernel⟩
theorem ms_X9_in : Cond.static (mY M_X9_in) ∈ lw_tbl := List.mem_append_right _ (List.mem_of_getElem? (i := 781) (by decide +kernel))
theorem hp_X9_no : plainName (mY M_X9_no).cls = true ∧ (mY M_X9_no).cls = mO M_X9_no := ⟨by decide +kernel, rfl⟩
theorem mf_X9_no : MFv M_X9_no 1 := ⟨List.mem_append_right _ (List.mem_of_getElem? (i := 888) rfl), List.mem_append_right _ (List.mem_of_getElem? (i := 10) (by decide +kernel)), ⟨by decide +kernel, by decide +kernel⟩, by decide +kernel⟩
theorem ms_X9_no : Cond.static (mY M_X9_no) ∈ lw_tbl := List.mem_append_right _ (List.mem_of_getElem? (i := 887) (by decide +kernel))
theorem hp_X9_lowest : plainName (mY M_X9_lowest).cls = true ∧ (mY M_X9_lowest).cls = mO M_X9_lowest := ⟨by decide +kernel, rfl⟩
theorem mf_X9_lowest : MFv M_X9_lowest 3 := ⟨List.mem_append_right _ (List.mem_of_getElem? (i := 885) rfl), List.mem_append_right _ (List.mem_of_getElem? (i := 10) (by decide +kernel)), ⟨by decide +kernel, by decide +kernel⟩, by decide +kernel⟩
theorem ms_X9_lowest : Cond.static (mY M_X9_lowest) ∈ lw_tbl := List.mem_append_right _ (List.mem_of_getElem? (i := 884) (by decide +kernel))
theorem hp_X9_type : plainName (mY M_X9_type).cls = true ∧ (mY M_X9_type).cls = mO M_X9_type := ⟨by decide +kernel, rfl⟩
theorem mf_X9_type : MFv M_X9_type 1 := ⟨List.mem_append_right _ (List.mem_of_getElem? (i := 779) rfl), List.mem_append_right _ (List.mem_of_getElem? (i := 10) (by decide +kernel)), ⟨by decide +kernel, by decide +kernel⟩, by decide +kernel⟩
theorem mi_X9_type : MFi M_X9_type := ⟨List.mem_append_right _ (List.mem_of_getElem? (i := 777) (by decide +kernel)), List.mem_append_right _ (List.mem_of_getElem? (i := 778) (by decide +kernel)), rfl, by decide⟩
theorem hp_X9_wipe : plainName (mY M_X9_wipe).cls = true ∧ (mY M_X9_wipe).cls = mO M_X9_wipe := ⟨by decide +kernel, rfl⟩
theorem mf_X9_wipe : MFv M_X9_wipe 0 := ⟨List.mem_append_right _ (List.mem_of_getElem? (i := 786) rfl), List.mem_append_right _ (List.mem_of_getElem? (i := 10) (by decide +kernel)), ⟨by decide +kernel, by decide +kernel⟩, by decide +kernel⟩
theorem mi_X9_wipe : MFi M_X9_wipe := ⟨List.mem_append_right _ (List.mem_of_getElem? (i := 784) (by decide +kernel)), List.mem_append_right _ (List.mem_of_getElem? (i := 785) (by decide +kernel)), rfl, by decide⟩
theorem hp_X9_shedAt : plainName (mY M_X9_shedAt).cls = true ∧ (mY M_X9_shedAt).cls = mO M_X9_shedAt := ⟨by decide +kernel, rfl⟩
theorem mf_X9_shedAt : MFv M_X9_shedAt 1 := ⟨List.mem_append_right _ (List.mem_of_getElem? (i := 798) rfl), List.mem_append_right _ (List.mem_of_getElem? (i := 10) (by decide +kernel)), ⟨by decide +kernel, by decide +kernel⟩, by decide +kernel⟩
theorem mi_X9_shedAt : MFi M_X9_shedAt := ⟨List.mem_append_right _ (List.mem_of_getElem? (i := 797) (by decide +kernel)), List.mem_append_left _ (List.mem_of_getElem? (i := 68) (by decide +kernel)), rfl, by decide⟩
theorem hp_X9_faultNow : plainName (mY M_X9_faultNow).cls = true ∧ (mY M_X9_faultNow).cls = mO M_X9_faultNow := ⟨by decide +kernel, rfl⟩
theorem mf_X9_faultNow : MFv M_X9_faultNow 0 := ⟨List.mem_append_right _ (List.mem_of_getElem? (i := 794) rfl), List.mem_append_right _ (List.mem_of_getElem? (i := 10) (by decide +kernel)), ⟨by decide +kernel, by decide +kernel⟩, by decide +kernel⟩
theorem mi_X9_faultNow : MFi M_X9_faultNow := ⟨List.mem_append_right _ (List.mem_of_getElem? (i := 793) (by decide +kernel)), List.mem_append_left _ (List.mem_of_getElem? (i := 67) (by decide +kernel)), rfl, by decide⟩
theorem hp_X9_fault : plainName (mY M_X9_fault).cls = true ∧ (mY M_X9_fault).cls = mO M_X9_fault := ⟨by decide +kernel, rfl⟩
theorem mf_X9_fault : MFv M_X9_fault 0 := ⟨List.mem_append_right _ (List.mem_of_getElem? (i := 790) rfl), List.mem_append_right _ (List.mem_of_getElem? (i := 10) (by decide +kernel)), ⟨by decide +kernel, by decide +kernel⟩, by decide +kernel⟩
theorem mi_X9_fault : MFi M_X9_fault := ⟨List.mem_append_right _ (List.mem_of_getElem? (i := 788) (by decide +kernel)), List.mem_append_right _ (List.mem_of_getElem? (i := 789) (by decide +kernel)), rfl, by decide⟩
theorem hp_X9_isNight : plainName (mY M_X9_isNight).cls = true ∧ (mY M_X9_isNight).cls = mO M_X9_isNight := ⟨by decide +kernel, rfl⟩
theorem mf_X9_isNight : MFv M_X9_isNight 1 := ⟨List.mem_append_right _ (List.mem_of_getElem? (i := 832) rfl), List.mem_append_right _ (List.mem_of_getElem? (i := 10) (by decide +kernel)), ⟨by decide +kernel, by decide +kernel⟩, by decide +kernel⟩
theorem mi_X9_isNight : MFi M_X9_isNight := ⟨List.mem_append_right _ (List.mem_of_getElem? (i := 831) (by decide +kernel)), List.mem_append_left _ (List.mem_of_getElem? (i := 70) (by decide +kernel)), rfl, by decide⟩
theorem hp_X9_isShed : plainName (mY M_X9_isShed).cls = true ∧ (mY M_X9_isShed).cls = mO M_X9_isShed := ⟨by decide +kernel, rfl⟩
theorem mf_X9_isShed : MFv M_X9_isShed 1 := ⟨List.mem_append_right _ (List.mem_of_getElem? (i := 805) rfl), List.mem_append_right _ (List.mem_of_getElem? (i := 10) (by decide +kernel)), ⟨by decide +kernel, by decide +kernel⟩, by decide +kernel⟩
theorem ms_X9_isShed : Cond.static (mY M_X9_isShed) ∈ lw_tbl := List.mem_append_right _ (List.mem_of_getElem? (i := 804) (by decide +kernel))
theorem hp_X9_worth : plainName (mY M_X9_worth).cls = true ∧ (mY M_X9_worth).cls = mO M_X9_worth := ⟨by decide +kernel, rfl⟩
theorem mf_X9_worth : MFv M_X9_worth 2 := ⟨List.mem_append_right _ (List.mem_of_getElem? (i := 802) rfl), List.mem_append_right _ (List.mem_of_getElem? (i := 10) (by decide +kernel)), ⟨by decide +kernel, by decide +kernel⟩, by decide +kernel⟩
theorem mi_X9_worth : MFi M_X9_worth := ⟨List.mem_append_right _ (List.mem_of_getElem? (i := 800) (by decide +kernel)), List.mem_append_right _ (List.mem_of_getElem? (i := 801) (by decide +kernel)), rfl, by decide⟩
theorem hp_X9_way : plainName (mY M_X9_way).cls = true ∧ (mY M_X9_way).cls = mO M_X9_way := ⟨by decide +kernel, rfl⟩
theorem mf_X9_way : MFv M_X9_way 3 := ⟨List.mem_append_right _ (List.mem_of_getElem? (i := 809) rfl), List.mem_append_right _ (List.mem_of_getElem? (i := 10) (by decide +kernel)), ⟨by decide +kernel, by decide +kernel⟩, by decide +kernel⟩
theorem mi_X9_way : MFi M_X9_way := ⟨List.mem_append_right _ (List.mem_of_getElem? (i := 807) (by decide +kernel)), List.mem_append_right _ (List.mem_of_getElem? (i := 808) (by decide +kernel)), rfl, by decide⟩
theorem hp_X9_set : plainName (mY M_X9_set).cls = true ∧ (mY M_X9_set).cls = mO M_X9_set := ⟨by decide +kernel, rfl⟩
theorem mf_X9_set : MFv M_X9_set 2 := ⟨List.mem_append_right _ (List.mem_of_getElem? (i := 813) rfl), List.mem_append_right _ (List.mem_of_getElem? (i := 10) (by decide +kernel)), ⟨by decide +kernel, by decide +kernel⟩, by decide +kernel⟩
theorem mi_X9_set : MFi M_X9_set := ⟨List.mem_append_right _ (List.mem_of_getElem? (i := 811) (by decide +kernel)), List.mem_append_right _ (List.mem_of_getElem? (i := 812) (by decide +kernel)), rfl, by decide⟩
theorem hp_X9_read : plainName (mY M_X9_read).cls = true ∧ (mY M_X9_read).cls = mO M_X9_read := ⟨by decide +kernel, rfl⟩
theorem mf_X9_read : MFv M_X9_read 1 := ⟨List.mem_append_right _ (List.mem_of_getElem? (i := 817) rfl), List.mem_append_right _ (List.mem_of_getElem? (i := 10) (by decide +kernel)), ⟨by decide +kernel, by decide +kernel⟩, by decide +kernel⟩
theorem mi_X9_read : MFi M_X9_read := ⟨List.mem_append_right _ (List.mem_of_getElem? (i := 815) (by decide +kernel)), List.mem_append_right _ (List.mem_of_getElem? (i := 816) (by decide +kernel)), rfl, by decide⟩
theorem hp_X9_nightOf : plainName (mY M_X9_nightOf).cls = true ∧ (mY M_X9_nightOf).cls = mO M_X9_nightOf := ⟨by decide +kernel, rfl⟩
theorem mf_X9_nightOf : MFv M_X9_nightOf 2 := ⟨List.mem_append_right _ (List.mem_of_getElem? (i := 836) rfl), List.mem_append_right _ (List.mem_of_getElem? (i := 10) (by decide +kernel)), ⟨by decide +kernel, by decide +kernel⟩, by decide +kernel⟩
theorem mi_X9_nightOf : MFi M_X9_nightOf := ⟨List.mem_append_right _ (List.mem_of_getElem? (i := 835) (by decide +kernel)), List.mem_append_left _ (List.mem_of_getElem? (i := 71) (by decide +kernel)), rfl, by decide⟩
theorem hp_X9_night : plainName (mY M_X9_night).cls = true ∧ (mY M_X9_night).cls = mO M_X9_night := ⟨by decide +kernel, rfl⟩
theorem mf_X9_night : MFv M_X9_night 2 := ⟨List.mem_append_right _ (List.mem_of_getElem? (i := 828) rfl), List.mem_append_right _ (List.mem_of_getElem? (i := 10) (by decide +kernel)), ⟨by decide +kernel, by decide +kernel⟩, by decide +kernel⟩
theorem mi_X9_night : MFi M_X9_night := ⟨List.mem_append_right _ (List.mem_of_getElem? (i := 826) (by decide +kernel)), List.mem_append_right _ (List.mem_of_getElem? (i := 827) (by decide +kernel)), rfl, by decide⟩
theorem hp_X9_atOf : plainName (mY M_X9_atOf).cls = true ∧ (mY M_X9_atOf).cls = mO M_X9_atOf := ⟨by decide +kernel, rfl⟩
theorem mf_X9_atOf : MFv M_X9_atOf 2 := ⟨List.mem_append_right _ (List.mem_of_getElem? (i := 844) rfl), List.mem_append_right _ (List.mem_of_getElem? (i := 10) (by decide +kernel)), ⟨by decide +kernel, by decide +kernel⟩, by decide +kernel⟩
theorem mi_X9_atOf : MFi M_X9_atOf := ⟨List.mem_append_right _ (List.mem_of_getElem? (i := 843) (by decide +kernel)), List.mem_append_left _ (List.mem_of_getElem? (i := 72) (by decide +kernel)), rfl, by decide⟩
theorem hp_X9_at : plainName (mY M_X9_at).cls = true ∧ (mY M_X9_at).cls = mO M_X9_at := ⟨by decide +kernel, rfl⟩
theorem mf_X9_at : MFv M_X9_at 2 := ⟨List.mem_append_right _ (List.mem_of_getElem? (i := 840) rfl), List.mem_append_right _ (List.mem_of_getElem? (i := 10) (by decide +kernel)), ⟨by decide +kernel, by decide +kernel⟩, by decide +kernel⟩
theorem mi_X9_at : MFi M_X9_at := ⟨List.mem_append_right _ (List.mem_of_getElem? (i := 838) (by decide +kernel)), List.mem_append_right _ (List.mem_of_getElem? (i := 839) (by decide +kernel)), rfl, by decide⟩
theorem hp_X9_whenOf : plainName (mY M_X9_whenOf).cls = true ∧ (mY M_X9_whenOf).cls = mO M_X9_whenOf := ⟨by decide +kernel, rfl⟩
theorem mf_X9_whenOf : MFv M_X9_whenOf 2 := ⟨List.mem_append_right _ (List.mem_of_getElem? (i := 852) rfl), List.mem_append_right _ (List.mem_of_getElem? (i := 10) (by decide +kernel)), ⟨by decide +kernel, by decide +kernel⟩, by decide +kernel⟩
theorem mi_X9_whenOf : MFi M_X9_whenOf := ⟨List.mem_append_right _ (List.mem_of_getElem? (i := 851) (by decide +kernel)), List.mem_append_left _ (List.mem_of_getElem? (i := 73) (by decide +kernel)), rfl, by decide⟩
theorem hp_X9_when : plainName (mY M_X9_when).cls = true ∧ (mY M_X9_when).cls = mO M_X9_when := ⟨by decide +kernel, rfl⟩
theorem mf_X9_when : MFv M_X9_when 2 := ⟨List.mem_append_right _ (List.mem_of_getElem? (i := 848) rfl), List.mem_append_right _ (List.mem_of_getElem? (i := 10) (by decide +kernel)), ⟨by decide +kernel, by decide +kernel⟩, by decide +kernel⟩
theorem mi_X9_when : MFi M_X9_when := ⟨List.mem_append_right _ (List.mem_of_getElem? (i := 846) (by decide +kernel)), List.mem_append_right _ (List.mem_of_getElem? (i := 847) (by decide +kernel)), rfl, by decide⟩
theorem hp_X9_aloneOf : plainName (mY M_X9_aloneOf).cls = true ∧ (mY M_X9_aloneOf).cls = mO M_X9_aloneOf := ⟨by decide +kernel, rfl⟩
theorem mf_X9_aloneOf : MFv M_X9_aloneOf 3 := ⟨List.mem_append_right _ (List.mem_of_getElem? (i := 860) rfl), List.mem_append_right _ (List.mem_of_getElem? (i := 10) (by decide +kernel)), ⟨by decide +kernel, by decide +kernel⟩, by decide +kernel⟩
theorem mi_X9_aloneOf : MFi M_X9_aloneOf := ⟨List.mem_append_right _ (List.mem_of_getElem? (i := 859) (by decide +kernel)), List.mem_append_left _ (List.mem_of_getElem? (i := 74) (by decide +kernel)), rfl, by decide⟩
theorem hp_X9_alone : plainName (mY M_X9_alone).cls = true ∧ (mY M_X9_alone).cls = mO M_X9_alone := ⟨by decide +kernel, rfl⟩
theorem mf_X9_alone : MFv M_X9_alone 3 := ⟨List.mem_append_right _ (List.mem_of_getElem? (i := 856) rfl), List.mem_append_right _ (List.mem_of_getElem? (i := 10) (by decide +kernel)), ⟨by decide +kernel, by decide +kernel⟩, by decide +kernel⟩
theorem mi_X9_alone : MFi M_X9_alone := ⟨List.mem_append_right _ (List.mem_of_getElem? (i := 854) (by decide +kernel)), List.mem_append_right _ (List.mem_of_getElem? (i := 855) (by decide +kernel)), rfl, by decide⟩
theorem hp_X9_stealsOf : plainName (mY M_X9_stealsOf).cls = true ∧ (mY M_X9_stealsOf).cls = mO M_X9_stealsOf := ⟨by decide +kernel, rfl⟩
theorem mf_X9_stealsOf : MFv M_X9_stealsOf 3 := ⟨List.mem_append_right _ (List.mem_of_getElem? (i := 868) rfl), List.mem_append_right _ (List.mem_of_getElem? (i := 10) (by decide +kernel)), ⟨by decide +kernel, by decide +kernel⟩, by decide +kernel⟩
theorem mi_X9_stealsOf : MFi M_X9_stealsOf := ⟨List.mem_append_right _ (List.mem_of_getElem? (i := 867) (by decide +kernel)), List.mem_append_left _ (List.mem_of_getElem? (i := 75) (by decide +kernel)), rfl, by decide⟩
theorem hp_X9_steals : plainName (mY M_X9_steals).cls = true ∧ (mY M_X9_steals).cls = mO M_X9_steals := ⟨by decide +kernel, rfl⟩
theorem mf_X9_steals : MFv M_X9_steals 3 := ⟨List.mem_append_right _ (List.mem_of_getElem? (i := 864) rfl), List.mem_append_right _ (List.mem_of_getElem? (i := 10) (by decide +kernel)), ⟨by decide +kernel, by decide +kernel⟩, by decide +kernel⟩
theorem mi_X9_steals : MFi M_X9_steals := ⟨List.mem_append_right _ (List.mem_of_getElem? (i := 862) (by decide +kernel)), List.mem_append_right _ (List.mem_of_getElem? (i := 863) (by decide +kernel)), rfl, by decide⟩
theorem hp_X9_goneIn : plainName (mY M_X9_goneIn).cls = true ∧ (mY M_X9_goneIn).cls = mO M_X9_goneIn := ⟨by decide +kernel, rfl⟩
theorem mf_X9_goneIn : MFv M_X9_goneIn 3 := ⟨List.mem_append_right _ (List.mem_of_getElem? (i := 880) rfl), List.mem_append_right _ (List.mem_of_getElem? (i := 10) (by decide +kernel)), ⟨by decide +kernel, by decide +kernel⟩, by decide +kernel⟩
theorem mi_X9_goneIn : MFi M_X9_goneIn := ⟨List.mem_append_right _ (List.mem_of_getElem? (i := 879) (by decide +kernel)), List.mem_append_left _ (List.mem_of_getElem? (i := 77) (by decide +kernel)), rfl, by decide⟩
theorem hp_X9_nextOf : plainName (mY M_X9_nextOf).cls = true ∧ (mY M_X9_nextOf).cls = mO M_X9_nextOf := ⟨by decide +kernel, rfl⟩
theorem mf_X9_nextOf : MFv M_X9_nextOf 4 := ⟨List.mem_append_right _ (List.mem_of_getElem? (i := 876) rfl), List.mem_append_right _ (List.mem_of_getElem? (i := 10) (by decide +kernel)), ⟨by decide +kernel, by decide +kernel⟩, by decide +kernel⟩
theorem mi_X9_nextOf : MFi M_X9_nextOf := ⟨List.mem_append_right _ (List.mem_of_getElem? (i := 875) (by decide +kernel)), List.mem_append_left _ (List.mem_of_getElem? (i := 76) (by decide +kernel)), rfl, by decide⟩
theorem hp_X9_next : plainName (mY M_X9_next).cls = true ∧ (mY M_X9_next).cls = mO M_X9_next := ⟨by decide +kernel, rfl⟩
theorem mf_X9_next : MFv M_X9_next 4 := ⟨List.mem_append_right _ (List.mem_of_getElem? (i := 872) rfl), List.mem_append_right _ (List.mem_of_getElem? (i := 10) (by decide +kernel)), ⟨by decide +kernel, by decide +kernel⟩, by decide +kernel⟩
theorem mi_X9_next : MFi M_X9_next := ⟨List.mem_append_right _ (List.mem_of_getElem? (i := 870) (by decide +kernel)), List.mem_append_right _ (List.mem_of_getElem? (i := 871) (by decide +kernel)), rfl, by decide⟩
theorem hp_X9_likelyOf : plainName (mY M_X9_likelyOf).cls = true ∧ (mY M_X9_likelyOf).cls = mO M_X9_likelyOf := ⟨by decide +kernel, rfl⟩
theorem mf_X9_likelyOf : MFv M_X9_likelyOf 2 := ⟨List.mem_append_right _ (List.mem_of_getElem? (i := 897) rfl), List.mem_append_right _ (List.mem_of_getElem? (i := 10) (by decide +kernel)), ⟨by decide +kernel, by decide +kernel⟩, by decide +kernel⟩
theorem mi_X9_likelyOf : MFi M_X9_likelyOf := ⟨List.mem_append_right _ (List.mem_of_getElem? (i := 896) (by decide +kernel)), List.mem_append_left _ (List.mem_of_getElem? (i := 78) (by decide +kernel)), rfl, by decide⟩
theorem hp_X9_likely : plainName (mY M_X9_likely).cls = true ∧ (mY M_X9_likely).cls = mO M_X9_likely := ⟨by decide +kernel, rfl⟩
theorem mf_X9_likely : MFv M_X9_likely 2 := ⟨List.mem_append_right _ (List.mem_of_getElem? (i := 893) rfl), List.mem_append_right _ (List.mem_of_getElem? (i := 10) (by decide +kernel)), ⟨by decide +kernel, by decide +kernel⟩, by decide +kernel⟩
theorem mi_X9_likely : MFi M_X9_likely := ⟨List.mem_append_right _ (List.mem_of_getElem? (i := 891) (by decide +kernel)), List.mem_append_right _ (List.mem_of_getElem? (i := 892) (by decide +kernel)), rfl, by decide⟩
theorem hp_X9_freshOf : plainName (mY M_X9_freshOf).cls = true ∧ (mY M_X9_freshOf).cls = mO M_X9_freshOf := ⟨by decide +kernel, rfl⟩
theorem mf_X9_freshOf : MFv M_X9_freshOf 1 := ⟨List.mem_append_right _ (List.mem_of_getElem? (i := 905) rfl), List.mem_append_right _ (List.mem_of_getElem? (i := 10) (by decide +kernel)), ⟨by decide +kernel, by decide +kernel⟩, by decide +kernel⟩
theorem mi_X9_freshOf : MFi M_X9_freshOf := ⟨List.mem_append_right _ (List.mem_of_getElem? (i := 904) (by decide +kernel)), List.mem_append_left _ (List.mem_of_getElem? (i := 79) (by decide +kernel)), rfl, by decide⟩
theorem hp_X9_isFresh : plainName (mY M_X9_isFresh).cls = true ∧ (mY M_X9_isFresh).cls = mO M_X9_isFresh := ⟨by decide +kernel, rfl⟩
theorem mf_X9_isFresh : MFv M_X9_isFresh 1 := ⟨List.mem_append_right _ (List.mem_of_getElem? (i := 910) rfl), List.mem_append_right _ (List.mem_of_getElem? (i := 10) (by decide +kernel)), ⟨by decide +kernel, by decide +kernel⟩, by decide +kernel⟩
theorem mi_X9_isFresh : MFi M_X9_isFresh := ⟨List.mem_append_right _ (List.mem_of_getElem? (i := 909) (by decide +kernel)), List.mem_append_left _ (List.mem_of_getElem? (i := 80) (by decide +kernel)), rfl, by decide⟩
theorem hp_X9_fresh : plainName (mY M_X9_fresh).cls = true ∧ (mY M_X9_fresh).cls = mO M_X9_fresh := ⟨by decide +kernel, rfl⟩
theorem mf_X9_fresh : MFv M_X9_fresh 1 := ⟨List.mem_append_right _ (List.mem_of_getElem? (i := 901) rfl), List.mem_append_right _ (List.mem_of_getElem? (i := 10) (by decide +kernel)), ⟨by decide +kernel, by decide +kernel⟩, by decide +kernel⟩
theorem mi_X9_fresh : MFi M_X9_fresh := ⟨List.mem_append_right _ (List.mem_of_getElem? (i := 899) (by decide +kernel)), List.mem_append_right _ (List.mem_of_getElem? (i := 900) (by decide +kernel)), rfl, by decide⟩
theorem hp_X9_lays : plainName (mY M_X9_lays).cls = true ∧ (mY M_X9_lays).cls = mO M_X9_lays := ⟨by decide +kernel, rfl⟩
theorem mf_X9_lays : MFv M_X9_lays 2 := ⟨List.mem_append_right _ (List.mem_of_getElem? (i := 926) rfl), List.mem_append_right _ (List.mem_of_getElem? (i := 10) (by decide +kernel)), ⟨by decide +kernel, by decide +kernel⟩, by decide +kernel⟩
theorem mi_X9_lays : MFi M_X9_lays := ⟨List.mem_append_right _ (List.mem_of_getElem? (i := 925) (by decide +kernel)), List.mem_append_left _ (List.mem_of_getElem? (i := 83) (by decide +kernel)), rfl, by decide⟩
theorem hp_X9_most : plainName (mY M_X9_most).cls = true ∧ (mY M_X9_most).cls = mO M_X9_most := ⟨by decide +kernel, rfl⟩
theorem mf_X9_most : MFv M_X9_most 4 := ⟨List.mem_append_right _ (List.mem_of_getElem? (i := 930) rfl), List.mem_append_right _ (List.mem_of_getElem? (i := 10) (by decide +kernel)), ⟨by decide +kernel, by decide +kernel⟩, by decide +kernel⟩
theorem mi_X9_most : MFi M_X9_most := ⟨List.mem_append_right _ (List.mem_of_getElem? (i := 929) (by decide +kernel)), List.mem_append_left _ (List.mem_of_getElem? (i := 84) (by decide +kernel)), rfl, by decide⟩
theorem hp_X9_areNights : plainName (mY M_X9_areNights).cls = true ∧ (mY M_X9_areNights).cls = mO M_X9_areNights := ⟨by decide +kernel, rfl⟩
theorem mf_X9_areNights : MFv M_X9_areNights 2 := ⟨List.mem_append_right _ (List.mem_of_getElem? (i := 918) rfl), List.mem_append_right _ (List.mem_of_getElem? (i := 10) (by decide +kernel)), ⟨by decide +kernel, by decide +kernel⟩, by decide +kernel⟩
theorem mi_X9_areNights : MFi M_X9_areNights := ⟨List.mem_append_right _ (List.mem_of_getElem? (i := 917) (by decide +kernel)), List.mem_append_left _ (List.mem_of_getElem? (i := 81) (by decide +kernel)), rfl, by decide⟩
theorem hp_X9_breaksOf : plainName (mY M_X9_breaksOf).cls = true ∧ (mY M_X9_breaksOf).cls = mO M_X9_breaksOf := ⟨by decide +kernel, rfl⟩
theorem mf_X9_breaksOf : MFv M_X9_breaksOf 4 := ⟨List.mem_append_right _ (List.mem_of_getElem? (i := 922) rfl), List.mem_append_right _ (List.mem_of_getElem? (i := 10) (by decide +kernel)), ⟨by decide +kernel, by decide +kernel⟩, by decide +kernel⟩
theorem mi_X9_breaksOf : MFi M_X9_breaksOf := ⟨List.mem_append_right _ (List.mem_of_getElem? (i := 921) (by decide +kernel)), List.mem_append_left _ (List.mem_of_getElem? (i := 82) (by decide +kernel)), rfl, by decide⟩
theorem hp_X9_breaks : plainName (mY M_X9_breaks).cls = true ∧ (mY M_X9_breaks).cls = mO M_X9_breaks := ⟨by decide +kernel, rfl⟩
theorem mf_X9_breaks : MFv M_X9_breaks 4 := ⟨List.mem_append_right _ (List.mem_of_getElem? (i := 914) rfl), List.mem_append_right _ (List.mem_of_getElem? (i := 10) (by decide +kernel)), ⟨by decide +kernel, by decide +kernel⟩, by decide +kernel⟩
theorem mi_X9_breaks : MFi M_X9_breaks := ⟨List.mem_append_right _ (List.mem_of_getElem? (i := 912) (by decide +kernel)), List.mem_append_right _ (List.mem_of_getElem? (i := 913) (by decide +kernel)), rfl, by decide⟩
theorem hp_X9_seenOf : plainName (mY M_X9_seenOf).cls = true ∧ (mY M_X9_seenOf).cls = mO M_X9_seenOf := ⟨by decide +kernel, rfl⟩
theorem mf_X9_seenOf : MFv M_X9_seenOf 5 := ⟨List.mem_append_right _ (List.mem_of_getElem? (i := 938) rfl), List.mem_append_right _ (List.mem_of_getElem? (i := 10) (by decide +kernel)), ⟨by decide +kernel, by decide +kernel⟩, by decide +kernel⟩
theorem mi_X9_seenOf : MFi M_X9_seenOf := ⟨List.mem_append_right _ (List.mem_of_getElem? (i := 937) (by decide +kernel)), List.mem_append_left _ (List.mem_of_getElem? (i := 85) (by decide +kernel)), rfl, by decide⟩
theorem hp_X9_seen : plainName (mY M_X9_seen).cls = true ∧ (mY M_X9_seen).cls = mO M_X9_seen := ⟨by decide +kernel, rfl⟩
theorem mf_X9_seen : MFv M_X9_seen 5 := ⟨List.mem_append_right _ (List.mem_of_getElem? (i := 934) rfl), List.mem_append_right _ (List.mem_of_getElem? (i := 10) (by decide +kernel)), ⟨by decide +kernel, by decide +kernel⟩, by decide +kernel⟩
theorem mi_X9_seen : MFi M_X9_seen := ⟨List.mem_append_right _ (List.mem_of_getElem? (i := 932) (by decide +kernel)), List.mem_append_right _ (List.mem_of_getElem? (i := 933) (by decide +kernel)), rfl, by decide⟩
theorem hp_X9_leastOf : plainName (mY M_X9_leastOf).cls = true ∧ (mY M_X9_leastOf).cls = mO M_X9_leastOf := ⟨by decide +kernel, rfl⟩
theorem mf_X9_leastOf : MFv M_X9_leastOf 3 := ⟨List.mem_append_right _ (List.mem_of_getElem? (i := 946) rfl), List.mem_append_right _ (List.mem_of_getElem? (i := 10) (by decide +kernel)), ⟨by decide +kernel, by decide +kernel⟩, by decide +kernel⟩
theorem mi_X9_leastOf : MFi M_X9_leastOf := ⟨List.mem_append_right _ (List.mem_of_getElem? (i := 945) (by decide +kernel)), List.mem_append_left _ (List.mem_of_getElem? (i := 86) (by decide +kernel)), rfl, by decide⟩
theorem hp_X9_least : plainName (mY M_X9_least).cls = true ∧ (mY M_X9_least).cls = mO M_X9_least := ⟨by decide +kernel, rfl⟩
theorem mf_X9_least : MFv M_X9_least 3 := ⟨List.mem_append_right _ (List.mem_of_getElem? (i := 942) rfl), List.mem_append_right _ (List.mem_of_getElem? (i := 10) (by decide +kernel)), ⟨by decide +kernel, by decide +kernel⟩, by decide +kernel⟩
theorem mi_X9_least : MFi M_X9_least := ⟨List.mem_append_right _ (List.mem_of_getElem? (i := 940) (by decide +kernel)), List.mem_append_right _ (List.mem_of_getElem? (i := 941) (by decide +kernel)), rfl, by decide⟩
theorem hp_X9_lampOf : plainName (mY M_X9_lampOf).cls = true ∧ (mY M_X9_lampOf).cls = mO M_X9_lampOf := ⟨by decide +kernel, rfl⟩
theorem mf_X9_lampOf : MFv M_X9_lampOf 4 := ⟨List.mem_append_right _ (List.mem_of_getElem? (i := 954) rfl), List.mem_append_right _ (List.mem_of_getElem? (i := 10) (by decide +kernel)), ⟨by decide +kernel, by decide +kernel⟩, by decide +kernel⟩
theorem mi_X9_lampOf : MFi M_X9_lampOf := ⟨List.mem_append_right _ (List.mem_of_getElem? (i := 953) (by decide +kernel)), List.mem_append_left _ (List.mem_of_getElem? (i := 87) (by decide +kernel)), rfl, by decide⟩
theorem hp_X9_lamp : plainName (mY M_X9_lamp).cls = true ∧ (mY M_X9_lamp).cls = mO M_X9_lamp := ⟨by decide +kernel, rfl⟩
theorem mf_X9_lamp : MFv M_X9_lamp 4 := ⟨List.mem_append_right _ (List.mem_of_getElem? (i := 950) rfl), List.mem_append_right _ (List.mem_of_getElem? (i := 10) (by decide +kernel)), ⟨by decide +kernel, by decide +kernel⟩, by decide +kernel⟩
theorem mi_X9_lamp : MFi M_X9_lamp := ⟨List.mem_append_right _ (List.mem_of_getElem? (i := 948) (by decide +kernel)), List.mem_append_right _ (List.mem_of_getElem? (i := 949) (by decide +kernel)), rfl, by decide⟩
theorem hp_X9_learnOf : plainName (mY M_X9_learnOf).cls = true ∧ (mY M_X9_learnOf).cls = mO M_X9_learnOf := ⟨by decide +kernel, rfl⟩
theorem mf_X9_learnOf : MFv M_X9_learnOf 4 := ⟨List.mem_append_right _ (List.mem_of_getElem? (i := 962) rfl), List.mem_append_right _ (List.mem_of_getElem? (i := 10) (by decide +kernel)), ⟨by decide +kernel, by decide +kernel⟩, by decide +kernel⟩
theorem mi_X9_learnOf : MFi M_X9_learnOf := ⟨List.mem_append_right _ (List.mem_of_getElem? (i := 961) (by decide +kernel)), List.mem_append_left _ (List.mem_of_getElem? (i := 88) (by decide +kernel)), rfl, by decide⟩
theorem hp_X9_learn : plainName (mY M_X9_learn).cls = true ∧ (mY M_X9_learn).cls = mO M_X9_learn := ⟨by decide +kernel, rfl⟩
theorem mf_X9_learn : MFv M_X9_learn 4 := ⟨List.mem_append_right _ (List.mem_of_getElem? (i := 958) rfl), List.mem_append_right _ (List.mem_of_getElem? (i := 10) (by decide +kernel)), ⟨by decide +kernel, by decide +kernel⟩, by decide +kernel⟩
theorem mi_X9_learn : MFi M_X9_learn := ⟨List.mem_append_right _ (List.mem_of_getElem? (i := 956) (by decide +kernel)), List.mem_append_right _ (List.mem_of_getElem? (i := 957) (by decide +kernel)), rfl, by decide⟩
theorem hp_X9_areAlike : plainName (mY M_X9_areAlike).cls = true ∧ (mY M_X9_areAlike).cls = mO M_X9_areAlike := ⟨by decide +kernel, rfl⟩
theorem mf_X9_areAlike : MFv M_X9_areAlike 2 := ⟨List.mem_append_right _ (List.mem_of_getElem? (i := 974) rfl), List.mem_append_right _ (List.mem_of_getElem? (i := 10) (by decide +kernel)), ⟨by decide +kernel, by decide +kernel⟩, by decide +kernel⟩
theorem mi_X9_areAlike : MFi M_X9_areAlike := ⟨List.mem_append_right _ (List.mem_of_getElem? (i := 973) (by decide +kernel)), List.mem_append_left _ (List.mem_of_getElem? (i := 90) (by decide +kernel)), rfl, by decide⟩
theorem hp_X9_diceOf : plainName (mY M_X9_diceOf).cls = true ∧ (mY M_X9_diceOf).cls = mO M_X9_diceOf := ⟨by decide +kernel, rfl⟩
theorem mf_X9_diceOf : MFv M_X9_diceOf 3 := ⟨List.mem_append_right _ (List.mem_of_getElem? (i := 970) rfl), List.mem_append_right _ (List.mem_of_getElem? (i := 10) (by decide +kernel)), ⟨by decide +kernel, by decide +kernel⟩, by decide +kernel⟩
theorem mi_X9_diceOf : MFi M_X9_diceOf := ⟨List.mem_append_right _ (List.mem_of_getElem? (i := 969) (by decide +kernel)), List.mem_append_left _ (List.mem_of_getElem? (i := 89) (by decide +kernel)), rfl, by decide⟩
theorem hp_X9_dice : plainName (mY M_X9_dice).cls = true ∧ (mY M_X9_dice).cls = mO M_X9_dice := ⟨by decide +kernel, rfl⟩
theorem mf_X9_dice : MFv M_X9_dice 3 := ⟨List.mem_append_right _ (List.mem_of_getElem? (i := 966) rfl), List.mem_append_right _ (List.mem_of_getElem? (i := 10) (by decide +kernel)), ⟨by decide +kernel, by decide +kernel⟩, by decide +kernel⟩
theorem mi_X9_dice : MFi M_X9_dice := ⟨List.mem_append_right _ (List.mem_of_getElem? (i := 964) (by decide +kernel)), List.mem_append_right _ (List.mem_of_getElem? (i := 965) (by decide +kernel)), rfl, by decide⟩
theorem hp_X9_seedsOf : plainName (mY M_X9_seedsOf).cls = true ∧ (mY M_X9_seedsOf).cls = mO M_X9_seedsOf := ⟨by decide +kernel, rfl⟩
theorem mf_X9_seedsOf : MFv M_X9_seedsOf 1 := ⟨List.mem_append_right _ (List.mem_of_getElem? (i := 983) rfl), List.mem_append_right _ (List.mem_of_getElem? (i := 10) (by decide +kernel)), ⟨by decide +kernel, by decide +kernel⟩, by decide +kernel⟩
theorem mi_X9_seedsOf : MFi M_X9_seedsOf := ⟨List.mem_append_right _ (List.mem_of_getElem? (i := 982) (by decide +kernel)), List.mem_append_left _ (List.mem_of_getElem? (i := 91) (by decide +kernel)), rfl, by decide⟩
theorem hp_X9_seeds : plainName (mY M_X9_seeds).cls = true ∧ (mY M_X9_seeds).cls = mO M_X9_seeds := ⟨by decide +kernel, rfl⟩
theorem mf_X9_seeds : MFv M_X9_seeds 1 := ⟨List.mem_append_right _ (List.mem_of_getElem? (i := 979) rfl), List.mem_append_right _ (List.mem_of_getElem? (i := 10) (by decide +kernel)), ⟨by decide +kernel, by decide +kernel⟩, by decide +kernel⟩
theorem mi_X9_seeds : MFi M_X9_seeds := ⟨List.mem_append_right _ (List.mem_of_getElem? (i := 977) (by decide +kernel)), List.mem_append_right _ (List.mem_of_getElem? (i := 978) (by decide +kernel)), rfl, by decide⟩
theorem hp_X9_meets : plainName (mY M_X9_meets).cls = true ∧ (mY M_X9_meets).cls = mO M_X9_meets := ⟨by decide +kernel, rfl⟩
theorem mf_X9_meets : MFv M_X9_meets 1 := ⟨List.mem_append_right _ (List.mem_of_getElem? (i := 824) rfl), List.mem_append_right _ (List.mem_of_getElem? (i := 10) (by decide +kernel)), ⟨by decide +kernel, by decide +kernel⟩, by decide +kernel⟩
theorem mi_X9_meets : MFi M_X9_meets := ⟨List.mem_append_right _ (List.mem_of_getElem? (i := 823) (by decide +kernel)), List.mem_append_left _ (List.mem_of_getElem? (i := 69) (by decide +kernel)), rfl, by decide⟩
theorem hp_X9_isSheet : plainName (mY M_X9_isSheet).cls = true ∧ (mY M_X9_isSheet).cls = mO M_X9_isSheet := ⟨by decide +kernel, rfl⟩
theorem mf_X9_isSheet : MFv M_X9_isSheet 1 := ⟨List.mem_append_right _ (List.mem_of_getElem? (i := 820) rfl), List.mem_append_right _ (List.mem_of_getElem? (i := 10) (by decide +kernel)), ⟨by decide +kernel, by decide +kernel⟩, by decide +kernel⟩
theorem ms_X9_isSheet : Cond.static (mY M_X9_isSheet) ∈ lw_tbl := List.mem_append_right _ (List.mem_of_getElem? (i := 819) (by decide +kernel))
theorem hp_X9_sheet : plainName (mY M_X9_sheet).cls = true ∧ (mY M_X9_sheet).cls = mO M_X9_sheet := ⟨by decide +kernel, rfl⟩
theorem mf_X9_sheet : MFv M_X9_sheet 3 := ⟨List.mem_append_right _ (List.mem_of_getElem? (i := 988) rfl), List.mem_append_right _ (List.mem_of_getElem? (i := 10) (by decide +kernel)), ⟨by decide +kernel, by decide +kernel⟩, by decide +kernel⟩
theorem mi_X9_sheet : MFi M_X9_sheet := ⟨List.mem_append_right _ (List.mem_of_getElem? (i := 986) (by decide +kernel)), List.mem_append_right _ (List.mem_of_getElem? (i := 987) (by decide +kernel)), rfl, by decide⟩
theorem hp_X9_lose : plainName (mY M_X9_lose).cls = true ∧ (mY M_X9_lose).cls = mO M_X9_lose := ⟨by decide +kernel, rfl⟩
theorem mf_X9_lose : MFv M_X9_lose 1 := ⟨List.mem_append_right _ (List.mem_of_getElem? (i := 992) rfl), List.mem_append_right _ (List.mem_of_getElem? (i := 10) (by decide +kernel)), ⟨by decide +kernel, by decide +kernel⟩, by decide +kernel⟩
theorem mi_X9_lose : MFi M_X9_lose := ⟨List.mem_append_right _ (List.mem_of_getElem? (i := 990) (by decide +kernel)), List.mem_append_right _ (List.mem_of_getElem? (i := 991) (by decide +kernel)), rfl, by decide⟩
theorem hp_X9_lacks : plainName (mY M_X9_lacks).cls = true ∧ (mY M_X9_lacks).cls = mO M_X9_lacks := ⟨by decide +kernel, rfl⟩
theorem mf_X9_lacks : MFv M_X9_lacks 3 := ⟨List.mem_append_right _ (List.mem_of_getElem? (i := 1000) rfl), List.mem_append_right _ (List.mem_of_getElem? (i := 10) (by decide +kernel)), ⟨by decide +kernel, by decide +kernel⟩, by decide +kernel⟩
theorem mi_X9_lacks : MFi M_X9_lacks := ⟨List.mem_append_right _ (List.mem_of_getElem? (i := 999) (by decide +kernel)), List.mem_append_left _ (List.mem_of_getElem? (i := 92) (by decide +kernel)), rfl, by decide⟩
theorem hp_X9_keep : plainName (mY M_X9_keep).cls = true ∧ (mY M_X9_keep).cls = mO M_X9_keep := ⟨by decide +kernel, rfl⟩
theorem mf_X9_keep : MFv M_X9_keep 3 := ⟨List.mem_append_right _ (List.mem_of_getElem? (i := 1004) rfl), List.mem_append_right _ (List.mem_of_getElem? (i := 10) (by decide +kernel)), ⟨by decide +kernel, by decide +kernel⟩, by decide +kernel⟩
theorem mi_X9_keep : MFi M_X9_keep := ⟨List.mem_append_right _ (List.mem_of_getElem? (i := 1003) (by decide +kernel)), List.mem_append_left _ (List.mem_of_getElem? (i := 93) (by decide +kernel)), rfl, by decide⟩
theorem hp_X9_put : plainName (mY M_X9_put).cls = true ∧ (mY M_X9_put).cls = mO M_X9_put := ⟨by decide +kernel, rfl⟩
theorem mf_X9_put : MFv M_X9_put 4 := ⟨List.mem_append_right _ (List.mem_of_getElem? (i := 996) rfl), List.mem_append_right _ (List.mem_of_getElem? (i := 10) (by decide +kernel)), ⟨by decide +kernel, by decide +kernel⟩, by decide +kernel⟩
theorem mi_X9_put : MFi M_X9_put := ⟨List.mem_append_right _ (List.mem_of_getElem? (i := 994) (by decide +kernel)), List.mem_append_right _ (List.mem_of_getElem? (i := 995) (by decide +kernel)), rfl, by decide⟩
theorem hp_X9_get : plainName (mY M_X9_get).cls = true ∧ (mY M_X9_get).cls = mO M_X9_get := ⟨by decide +kernel, rfl⟩
theorem mf_X9_get : MFv M_X9_get 3 := ⟨List.mem_append_right _ (List.mem_of_getElem? (i := 1008) rfl), List.mem_append_right _ (List.mem_of_getElem? (i := 10) (by decide +kernel)), ⟨by decide +kernel, by decide +kernel⟩, by decide +kernel⟩
theorem mi_X9_get : MFi M_X9_get := ⟨List.mem_append_right _ (List.mem_of_getElem? (i := 1006) (by decide +kernel)), List.mem_append_right _ (List.mem_of_getElem? (i := 1007) (by decide +kernel)), rfl, by decide⟩
theorem hp_X9_copy : plainName (mY M_X9_copy).cls = true ∧ (mY M_X9_copy).cls = mO M_X9_copy := ⟨by decide +kernel, rfl⟩
theorem mf_X9_copy : MFv M_X9_copy 5 := ⟨List.mem_append_right _ (List.mem_of_getElem? (i := 1013) rfl), List.mem_append_right _ (List.mem_of_getElem? (i := 10) (by decide +kernel)), ⟨by decide +kernel, by decide +kernel⟩, by decide +kernel⟩
theorem mi_X9_copy : MFi M_X9_copy := ⟨List.mem_append_right _ (List.mem_of_getElem? (i := 1011) (by decide +kernel)), List.mem_append_right _ (List.mem_of_getElem? (i := 1012) (by decide +kernel)), rfl, by decide⟩
theorem hp_X9_write : plainName (mY M_X9_write).cls = true ∧ (mY M_X9_write).cls = mO M_X9_write := ⟨by decide +kernel, rfl⟩
theorem mf_X9_write : MFv M_X9_write 2 := ⟨List.mem_append_right _ (List.mem_of_getElem? (i := 1017) rfl), List.mem_append_right _ (List.mem_of_getElem? (i := 10) (by decide +kernel)), ⟨by decide +kernel, by decide +kernel⟩, by decide +kernel⟩
theorem mi_X9_write : MFi M_X9_write := ⟨List.mem_append_right _ (List.mem_of_getElem? (i := 1015) (by decide +kernel)), List.mem_append_right _ (List.mem_of_getElem? (i := 1016) (by decide +kernel)), rfl, by decide⟩
theorem hp_X9_sumOf : plainName (mY M_X9_sumOf).cls = true ∧ (mY M_X9_sumOf).cls = mO M_X9_sumOf := ⟨by decide +kernel, rfl⟩
theorem mf_X9_sumOf : MFv M_X9_sumOf 1 := ⟨List.mem_append_right _ (List.mem_of_getElem? (i := 1025) rfl), List.mem_append_right _ (List.mem_of_getElem? (i := 10) (by decide +kernel)), ⟨by decide +kernel, by decide +kernel⟩, by decide +kernel⟩
theorem mi_X9_sumOf : MFi M_X9_sumOf := ⟨List.mem_append_right _ (List.mem_of_getElem? (i := 1024) (by decide +kernel)), List.mem_append_left _ (List.mem_of_getElem? (i := 94) (by decide +kernel)), rfl, by decide⟩
theorem hp_X9_count : plainName (mY M_X9_count).cls = true ∧ (mY M_X9_count).cls = mO M_X9_count := ⟨by decide +kernel, rfl⟩
theorem mf_X9_count : MFv M_X9_count 1 := ⟨List.mem_append_right _ (List.mem_of_getElem? (i := 1021) rfl), List.mem_append_right _ (List.mem_of_getElem? (i := 10) (by decide +kernel)), ⟨by decide +kernel, by decide +kernel⟩, by decide +kernel⟩
theorem mi_X9_count : MFi M_X9_count := ⟨List.mem_append_right _ (List.mem_of_getElem? (i := 1019) (by decide +kernel)), List.mem_append_right _ (List.mem_of_getElem? (i := 1020) (by decide +kernel)), rfl, by decide⟩
theorem hp_X9_digest : plainName (mY M_X9_digest).cls = true ∧ (mY M_X9_digest).cls = mO M_X9_digest := ⟨by decide +kernel, rfl⟩
theorem mf_X9_digest : MFv M_X9_digest 0 := ⟨List.mem_append_right _ (List.mem_of_getElem? (i := 1029) rfl), List.mem_append_right _ (List.mem_of_getElem? (i := 10) (by decide +kernel)), ⟨by decide +kernel, by decide +kernel⟩, by decide +kernel⟩
theorem mi_X9_digest : MFi M_X9_digest := ⟨List.mem_append_right _ (List.mem_of_getElem? (i := 1027) (by decide +kernel)), List.mem_append_right _ (List.mem_of_getElem? (i := 1028) (by decide +kernel)), rfl, by decide⟩
theorem fl_X0_9 : FL RX0 9 0 1 := ⟨⟨by decide, by decide⟩, Or.inl (List.mem_append_right _ (List.mem_of_getElem? (i := 114) (by decide +kernel)))⟩
theorem fl_X0_25 : FL RX0 25 0 0 := ⟨⟨by decide, by decide⟩, Or.inl (List.mem_append_right _ (List.mem_of_getElem? (i := 113) (by decide +kernel)))⟩
theorem fl_X0_21 : FL RX0 21 0 3 := ⟨⟨by decide, by decide⟩, Or.inl (List.mem_append_right _ (List.mem_of_getElem? (i := 116) (by decide +kernel)))⟩
theorem fl_X0_72 : FL RX0 72 4 4 := ⟨⟨by decide, by decide⟩, Or.inr (List.mem_append_right _ (List.mem_of_getElem? (i := 58) (by decide +kernel)))⟩
theorem fl_X0_15 : FL RX0 15 0 2 := ⟨⟨by decide, by decide⟩, Or.inl (List.mem_append_right _ (List.mem_of_getElem? (i := 115) (by decide +kernel)))⟩
theorem fl_X1_18 : FL RX1 18 1 0 := ⟨⟨by decide, by decide⟩, Or.inl (List.mem_append_right _ (List.mem_of_getElem? (i := 178) (by decide +kernel)))⟩
theorem fl_X1_22 : FL RX1 22 4 4 := ⟨⟨by decide, by decide⟩, Or.inr (List.mem_append_right _ (List.mem_of_getElem? (i := 57) (by decide +kernel)))⟩
theorem fl_X1_12 : FL RX1 12 1 1 := ⟨⟨by decide, by decide⟩, Or.inl (List.mem_append_right _ (List.mem_of_getElem? (i := 179) (by decide +kernel)))⟩
theorem fl_X2_7 : FL RX2 7 2 0 := ⟨⟨by decide, by decide⟩, Or.inl (List.mem_append_right _ (List.mem_of_getElem? (i := 106) (by decide +kernel)))⟩
theorem fl_X2_13 : FL RX2 13 2 1 := ⟨⟨by decide, by decide⟩, Or.inl (List.mem_append_right _ (List.mem_of_getElem? (i := 107) (by decide +kernel)))⟩
theorem fl_X3_9 : FL RX3 9 3 0 := ⟨⟨by decide, by decide⟩, Or.inl (List.mem_append_right _ (List.mem_of_getElem? (i := 26) (by decide +kernel)))⟩
theorem fl_X3_15 : FL RX3 15 3 1 := ⟨⟨by decide, by decide⟩, Or.inl (List.mem_append_right _ (List.mem_of_getElem? (i := 27) (by decide +kernel)))⟩
theorem fl_X3_18 : FL RX3 18 3 2 := ⟨⟨by decide, by decide⟩, Or.inl (List.mem_append_right _ (List.mem_of_getElem? (i := 28) (by decide +kernel)))⟩
theorem fl_X3_22 : FL RX3 22 3 3 := ⟨⟨by decide, by decide⟩, Or.inl (List.mem_append_right _ (List.mem_of_getElem? (i := 32) (by decide +kernel)))⟩
theorem fl_X4_21 : FL RX4 21 4 3 := ⟨⟨by decide, by decide⟩, Or.inl (List.mem_append_right _ (List.mem_of_getElem? (i := 54) (by decide +kernel)))⟩
theorem fl_X4_11 : FL RX4 11 4 0 := ⟨⟨by decide, by decide⟩, Or.inl (List.mem_append_right _ (List.mem_of_getElem? (i := 51) (by decide +kernel)))⟩
theorem fl_X4_18 : FL RX4 18 4 2 := ⟨⟨by decide, by decide⟩, Or.inl (List.mem_append_right _ (List.mem_of_getElem? (i := 53) (by decide +kernel)))⟩
theorem fl_X4_15 : FL RX4 15 4 1 := ⟨⟨by decide, by decide⟩, Or.inl (List.mem_append_right _ (List.mem_of_getElem? (i := 52) (by decide +kernel)))⟩
theorem fl_X4_28 : FL RX4 28 4 5 := ⟨⟨by decide, by decide⟩, Or.inl (List.mem_append_right _ (List.mem_of_getElem? (i := 60) (by decide +kernel)))⟩
theorem fl_X4_34 : FL RX4 34 4 7 := ⟨⟨by decide, by decide⟩, Or.inl (List.mem_append_right _ (List.mem_of_getElem? (i := 63) (by decide +kernel)))⟩
theorem fl_X4_31 : FL RX4 31 4 6 := ⟨⟨by decide, by decide⟩, Or.inl (List.mem_append_right _ (List.mem_of_getElem? (i := 62) (by decide +kernel)))⟩
theorem fl_X4_25 : FL RX4 25 4 4 := ⟨⟨by decide, by decide⟩, Or.inl (List.mem_append_right _ (List.mem_of_getElem? (i := 56) (by decide +kernel)))⟩
theorem fl_X5_11 : FL RX5 11 5 0 := ⟨⟨by decide, by decide⟩, Or.inl (List.mem_append_right _ (List.mem_of_getElem? (i := 191) (by decide +kernel)))⟩
theorem fl_X5_15 : FL RX5 15 5 1 := ⟨⟨by decide, by decide⟩, Or.inl (List.mem_append_right _ (List.mem_of_getElem? (i := 192) (by decide +kernel)))⟩
theorem fl_X5_18 : FL RX5 18 5 2 := ⟨⟨by decide, by decide⟩, Or.inl (List.mem_append_right _ (List.mem_of_getElem? (i := 193) (by decide +kernel)))⟩
theorem fl_X5_21 : FL RX5 21 5 3 := ⟨⟨by decide, by decide⟩, Or.inl (List.mem_append_right _ (List.mem_of_getElem? (i := 194) (by decide +kernel)))⟩
theorem fl_X6_43 : FL RX6 43 6 0 := ⟨⟨by decide, by decide⟩, Or.inl (List.mem_append_right _ (List.mem_of_getElem? (i := 134) (by decide +kernel)))⟩
theorem fl_X6_51 : FL RX6 51 3 3 := ⟨⟨by decide, by decide⟩, Or.inr (List.mem_append_right _ (List.mem_of_getElem? (i := 33) (by decide +kernel)))⟩
theorem fl_X6_56 : FL RX6 56 3 2 := ⟨⟨by decide, by decide⟩, Or.inr (List.mem_append_right _ (List.mem_of_getElem? (i := 29) (by decide +kernel)))⟩
theorem fl_X6_47 : FL RX6 47 6 1 := ⟨⟨by decide, by decide⟩, Or.inl (List.mem_append_right _ (List.mem_of_getElem? (i := 135) (by decide +kernel)))⟩
theorem fl_X6_25 : FL RX6 25 6 5 := ⟨⟨by decide, by decide⟩, Or.inl (List.mem_append_right _ (List.mem_of_getElem? (i := 139) (by decide +kernel)))⟩
theorem fl_X6_18 : FL RX6 18 6 3 := ⟨⟨by decide, by decide⟩, Or.inl (List.mem_append_right _ (List.mem_of_getElem? (i := 137) (by decide +kernel)))⟩
theorem fl_X6_22 : FL RX6 22 6 4 := ⟨⟨by decide, by decide⟩, Or.inl (List.mem_append_right _ (List.mem_of_getElem? (i := 138) (by decide +kernel)))⟩
theorem fl_X6_28 : FL RX6 28 6 6 := ⟨⟨by decide, by decide⟩, Or.inl (List.mem_append_right _ (List.mem_of_getElem? (i := 140) (by decide +kernel)))⟩
theorem fl_X6_31 : FL RX6 31 6 7 := ⟨⟨by decide, by decide⟩, Or.inl (List.mem_append_right _ (List.mem_of_getElem? (i := 141) (by decide +kernel)))⟩
theorem fl_X6_34 : FL RX6 34 6 8 := ⟨⟨by decide, by decide⟩, Or.inl (List.mem_append_right _ (List.mem_of_getElem? (i := 142) (by decide +kernel)))⟩
theorem fl_X6_12 : FL RX6 12 6 2 := ⟨⟨by decide, by decide⟩, Or.inl (List.mem_append_right _ (List.mem_of_getElem? (i := 136) (by decide +kernel)))⟩
theorem fl_X6_37 : FL RX6 37 6 9 := ⟨⟨by decide, by decide⟩, Or.inl (List.mem_append_right _ (List.mem_of_getElem? (i := 143) (by decide +kernel)))⟩
theorem fl_X6_40 : FL RX6 40 6 10 := ⟨⟨by decide, by decide⟩, Or.inl (List.mem_append_right _ (List.mem_of_getElem? (i := 145) (by decide +kernel)))⟩
theorem fl_X7_15 : FL RX7 15 7 1 := ⟨⟨by decide, by decide⟩, Or.inl (List.mem_append_right _ (List.mem_of_getElem? (i := 88) (by decide +kernel)))⟩
theorem fl_X7_9 : FL RX7 9 7 0 := ⟨⟨by decide, by decide⟩, Or.inl (List.mem_append_right _ (List.mem_of_getElem? (i := 87) (by decide +kernel)))⟩
theorem fl_X7_25 : FL RX7 25 3 2 := ⟨⟨by decide, by decide⟩, Or.inr (List.mem_append_right _ (List.mem_of_getElem? (i := 30) (by decide +kernel)))⟩
theorem fl_X8_24 : FL RX8 24 8 1 := ⟨⟨by decide, by decide⟩, Or.inl (List.mem_append_right _ (List.mem_of_getElem? (i := 209) (by decide +kernel)))⟩
theorem fl_X8_72 : FL RX8 72 4 3 := ⟨⟨by decide, by decide⟩, Or.inr (List.mem_append_right _ (List.mem_of_getElem? (i := 55) (by decide +kernel)))⟩
theorem fl_X8_80 : FL RX8 80 4 5 := ⟨⟨by decide, by decide⟩, Or.inr (List.mem_append_right _ (List.mem_of_getElem? (i := 61) (by decide +kernel)))⟩
theorem fl_X8_18 : FL RX8 18 8 0 := ⟨⟨by decide, by decide⟩, Or.inl (List.mem_append_right _ (List.mem_of_getElem? (i := 208) (by decide +kernel)))⟩
theorem fl_X8_60 : FL RX8 60 8 6 := ⟨⟨by decide, by decide⟩, Or.inl (List.mem_append_right _ (List.mem_of_getElem? (i := 214) (by decide +kernel)))⟩
theorem fl_X8_28 : FL RX8 28 8 2 := ⟨⟨by decide, by decide⟩, Or.inl (List.mem_append_right _ (List.mem_of_getElem? (i := 210) (by decide +kernel)))⟩
theorem fl_X8_137 : FL RX8 137 3 3 := ⟨⟨by decide, by decide⟩, Or.inr (List.mem_append_right _ (List.mem_of_getElem? (i := 34) (by decide +kernel)))⟩
theorem fl_X8_46 : FL RX8 46 8 4 := ⟨⟨by decide, by decide⟩, Or.inl (List.mem_append_right _ (List.mem_of_getElem? (i := 212) (by decide +kernel)))⟩
theorem fl_X8_143 : FL RX8 143 4 4 := ⟨⟨by decide, by decide⟩, Or.inr (List.mem_append_right _ (List.mem_of_getElem? (i := 59) (by decide +kernel)))⟩
theorem fl_X8_37 : FL RX8 37 8 3 := ⟨⟨by decide, by decide⟩, Or.inl (List.mem_append_right _ (List.mem_of_getElem? (i := 211) (by decide +kernel)))⟩
theorem fl_X8_192 : FL RX8 192 6 9 := ⟨⟨by decide, by decide⟩, Or.inr (List.mem_append_right _ (List.mem_of_getElem? (i := 144) (by decide +kernel)))⟩
theorem fl_X8_195 : FL RX8 195 6 10 := ⟨⟨by decide, by decide⟩, Or.inr (List.mem_append_right _ (List.mem_of_getElem? (i := 146) (by decide +kernel)))⟩
theorem fl_X8_53 : FL RX8 53 8 5 := ⟨⟨by decide, by decide⟩, Or.inl (List.mem_append_right _ (List.mem_of_getElem? (i := 213) (by decide +kernel)))⟩
theorem fl_X8_239 : FL RX8 239 3 2 := ⟨⟨by decide, by decide⟩, Or.inr (List.mem_append_right _ (List.mem_of_getElem? (i := 31) (by decide +kernel)))⟩
theorem fl_X8_254 : FL RX8 254 5 4 := ⟨⟨by decide, by decide⟩, Or.inr (List.mem_append_right _ (List.mem_of_getElem? (i := 196) (by decide +kernel)))⟩
theorem fl_X9_19 : FL RX9 19 9 5 := ⟨⟨by decide, by decide⟩, Or.inl (List.mem_append_right _ (List.mem_of_getElem? (i := 725) (by decide +kernel)))⟩
theorem fl_X9_22 : FL RX9 22 9 6 := ⟨⟨by decide, by decide⟩, Or.inl (List.mem_append_right _ (List.mem_of_getElem? (i := 726) (by decide +kernel)))⟩
theorem fl_X9_60 : FL RX9 60 9 1 := ⟨⟨by decide, by decide⟩, Or.inl (List.mem_append_right _ (List.mem_of_getElem? (i := 721) (by decide +kernel)))⟩
theorem fl_X9_7 : FL RX9 7 9 0 := ⟨⟨by decide, by decide⟩, Or.inl (List.mem_append_right _ (List.mem_of_getElem? (i := 720) (by decide +kernel)))⟩
theorem fl_X9_13 : FL RX9 13 9 3 := ⟨⟨by decide, by decide⟩, Or.inl (List.mem_append_right _ (List.mem_of_getElem? (i := 723) (by decide +kernel)))⟩
theorem fl_X9_16 : FL RX9 16 9 4 := ⟨⟨by decide, by decide⟩, Or.inl (List.mem_append_right _ (List.mem_of_getElem? (i := 724) (by decide +kernel)))⟩
theorem fl_X9_63 : FL RX9 63 9 2 := ⟨⟨by decide, by decide⟩, Or.inl (List.mem_append_right _ (List.mem_of_getElem? (i := 722) (by decide +kernel)))⟩
theorem fl_X9_47 : FL RX9 47 9 7 := ⟨⟨by decide, by decide⟩, Or.inl (List.mem_append_right _ (List.mem_of_getElem? (i := 727) (by decide +kernel)))⟩
theorem fl_X9_51 : FL RX9 51 9 8 := ⟨⟨by decide, by decide⟩, Or.inl (List.mem_append_right _ (List.mem_of_getElem? (i := 728) (by decide +kernel)))⟩
theorem fl_X9_31 : FL RX9 31 9 12 := ⟨⟨by decide, by decide⟩, Or.inl (List.mem_append_right _ (List.mem_of_getElem? (i := 732) (by decide +kernel)))⟩
theorem fl_X9_38 : FL RX9 38 9 14 := ⟨⟨by decide, by decide⟩, Or.inl (List.mem_append_right _ (List.mem_of_getElem? (i := 734) (by decide +kernel)))⟩
theorem fl_X9_41 : FL RX9 41 9 15 := ⟨⟨by decide, by decide⟩, Or.inl (List.mem_append_right _ (List.mem_of_getElem? (i := 735) (by decide +kernel)))⟩
theorem fl_X9_25 : FL RX9 25 9 9 := ⟨⟨by decide, by decide⟩, Or.inl (List.mem_append_right _ (List.mem_of_getElem? (i := 729) (by decide +kernel)))⟩
theorem fl_X9_28 : FL RX9 28 9 10 := ⟨⟨by decide, by decide⟩, Or.inl (List.mem_append_right _ (List.mem_of_getElem? (i := 730) (by decide +kernel)))⟩
theorem fl_X9_134 : FL RX9 134 9 11 := ⟨⟨by decide, by decide⟩, Or.inl (List.mem_append_right _ (List.mem_of_getElem? (i := 731) (by decide +kernel)))⟩
theorem fl_X9_35 : FL RX9 35 9 13 := ⟨⟨by decide, by decide⟩, Or.inl (List.mem_append_right _ (List.mem_of_getElem? (i := 733) (by decide +kernel)))⟩
theorem fl_X9_44 : FL RX9 44 9 16 := ⟨⟨by decide, by decide⟩, Or.inl (List.mem_append_right _ (List.mem_of_getElem? (i := 736) (by decide +kernel)))⟩
theorem fl_X9_178 : FL RX9 178 9 17 := ⟨⟨by decide, by decide⟩, Or.inl (List.mem_append_right _ (List.mem_of_getElem? (i := 737) (by decide +kernel)))⟩
