set_option maxRecDepth 100000 in
theorem kX0_init : ∀ e ∈ am_cd mX0_init, decode (am_bc mX0_init) e.1 = .ok (e.2.1, e.2.2) := by decide +kernel
set_option maxRecDepth 100000 in
theorem kX0_copyFrom : ∀ e ∈ am_cd mX0_copyFrom, decode (am_bc mX0_copyFrom) e.1 = .ok (e.2.1, e.2.2) := by decide +kernel
set_option maxRecDepth 100000 in
theorem kX0_has : ∀ e ∈ am_cd mX0_has, decode (am_bc mX0_has) e.1 = .ok (e.2.1, e.2.2) := by decide +kernel
set_option maxRecDepth 100000 in
theorem kX0_tell : ∀ e ∈ am_cd mX0_tell, decode (am_bc mX0_tell) e.1 = .ok (e.2.1, e.2.2) := by decide +kernel
set_option maxRecDepth 100000 in
theorem kX0_add : ∀ e ∈ am_cd mX0_add, decode (am_bc mX0_add) e.1 = .ok (e.2.1, e.2.2) := by decide +kernel
set_option maxRecDepth 100000 in
theorem kX0_drop : ∀ e ∈ am_cd mX0_drop, decode (am_bc mX0_drop) e.1 = .ok (e.2.1, e.2.2) := by decide +kernel
set_option maxRecDepth 100000 in
theorem kX0_tellsX : ∀ e ∈ am_cd mX0_tellsX, decode (am_bc mX0_tellsX) e.1 = .ok (e.2.1, e.2.2) := by decide +kernel
set_option maxRecDepth 100000 in
theorem kX0_readFrom : ∀ e ∈ am_cd mX0_readFrom, decode (am_bc mX0_readFrom) e.1 = .ok (e.2.1, e.2.2) := by decide +kernel
set_option maxRecDepth 100000 in
theorem kX0_readDeed : ∀ e ∈ am_cd mX0_readDeed, decode (am_bc mX0_readDeed) e.1 = .ok (e.2.1, e.2.2) := by decide +kernel
set_option maxRecDepth 100000 in
theorem kX0_sortOf : ∀ e ∈ am_cd mX0_sortOf, decode (am_bc mX0_sortOf) e.1 = .ok (e.2.1, e.2.2) := by decide +kernel
set_option maxRecDepth 100000 in
theorem kX0_lastOf : ∀ e ∈ am_cd mX0_lastOf, decode (am_bc mX0_lastOf) e.1 = .ok (e.2.1, e.2.2) := by decide +kernel
set_option maxRecDepth 100000 in
theorem kX0_timesOf : ∀ e ∈ am_cd mX0_timesOf, decode (am_bc mX0_timesOf) e.1 = .ok (e.2.1, e.2.2) := by decide +kernel
set_option maxRecDepth 100000 in
theorem kX0_isThere : ∀ e ∈ am_cd mX0_isThere, decode (am_bc mX0_isThere) e.1 = .ok (e.2.1, e.2.2) := by decide +kernel
set_option maxRecDepth 100000 in
theorem kX0_isHidden : ∀ e ∈ am_cd mX0_isHidden, decode (am_bc mX0_isHidden) e.1 = .ok (e.2.1, e.2.2) := by decide +kernel
set_option maxRecDepth 100000 in
theorem kX0_kind : ∀ e ∈ am_cd mX0_kind, decode (am_bc mX0_kind) e.1 = .ok (e.2.1, e.2.2) := by decide +kernel
set_option maxRecDepth 100000 in
theorem kX0_lastColour : ∀ e ∈ am_cd mX0_lastColour, decode (am_bc mX0_lastColour) e.1 = .ok (e.2.1, e.2.2) := by decide +kernel
set_option maxRecDepth 100000 in
theorem kX0_under : ∀ e ∈ am_cd mX0_under, decode (am_bc mX0_under) e.1 = .ok (e.2.1, e.2.2) := by decide +kernel
set_option maxRecDepth 100000 in
theorem kX0_over : ∀ e ∈ am_cd mX0_over, decode (am_bc mX0_over) e.1 = .ok (e.2.1, e.2.2) := by decide +kernel
set_option maxRecDepth 100000 in
theorem kX0_storeys : ∀ e ∈ am_cd mX0_storeys, decode (am_bc mX0_storeys) e.1 = .ok (e.2.1, e.2.2) := by decide +kernel
set_option maxRecDepth 100000 in
theorem kX0_height : ∀ e ∈ am_cd mX0_height, decode (am_bc mX0_height) e.1 = .ok (e.2.1, e.2.2) := by decide +kernel
set_option maxRecDepth 100000 in
theorem kX0_partsThere : ∀ e ∈ am_cd mX0_partsThere, decode (am_bc mX0_partsThere) e.1 = .ok (e.2.1, e.2.2) := by decide +kernel
set_option maxRecDepth 100000 in
theorem kX0_looseParts : ∀ e ∈ am_cd mX0_looseParts, decode (am_bc mX0_looseParts) e.1 = .ok (e.2.1, e.2.2) := by decide +kernel
set_option maxRecDepth 100000 in
theorem kX0_canBe : ∀ e ∈ am_cd mX0_canBe, decode (am_bc mX0_canBe) e.1 = .ok (e.2.1, e.2.2) := by decide +kernel
set_option maxRecDepth 100000 in
theorem kX0_standsOn : ∀ e ∈ am_cd mX0_standsOn, decode (am_bc mX0_standsOn) e.1 = .ok (e.2.1, e.2.2) := by decide +kernel
set_option maxRecDepth 100000 in
theorem kX0_leansOn : ∀ e ∈ am_cd mX0_leansOn, decode (am_bc mX0_leansOn) e.1 = .ok (e.2.1, e.2.2) := by decide +kernel
set_option maxRecDepth 100000 in
theorem kX0_canBeTakenBack : ∀ e ∈ am_cd mX0_canBeTakenBack, decode (am_bc mX0_canBeTakenBack) e.1 = .ok (e.2.1, e.2.2) := by decide +kernel
set_option maxRecDepth 100000 in
theorem kX0_follow : ∀ e ∈ am_cd mX0_follow, decode (am_bc mX0_follow) e.1 = .ok (e.2.1, e.2.2) := by decide +kernel
set_option maxRecDepth 100000 in
theorem kX0_looksLike : ∀ e ∈ am_cd mX0_looksLike, decode (am_bc mX0_looksLike) e.1 = .ok (e.2.1, e.2.2) := by decide +kernel
set_option maxRecDepth 100000 in
theorem kX0_coatsAsNumber : ∀ e ∈ am_cd mX0_coatsAsNumber, decode (am_bc mX0_coatsAsNumber) e.1 = .ok (e.2.1, e.2.2) := by decide +kernel
set_option maxRecDepth 100000 in
theorem kX1_init : ∀ e ∈ am_cd mX1_init, decode (am_bc mX1_init) e.1 = .ok (e.2.1, e.2.2) := by decide +kernel
set_option maxRecDepth 100000 in
theorem kX1_below : ∀ e ∈ am_cd mX1_below, decode (am_bc mX1_below) e.1 = .ok (e.2.1, e.2.2) := by decide +kernel
set_option maxRecDepth 100000 in
theorem kX2_init : ∀ e ∈ am_cd mX2_init, decode (am_bc mX2_init) e.1 = .ok (e.2.1, e.2.2) := by decide +kernel
set_option maxRecDepth 100000 in
theorem kX2_copyFrom : ∀ e ∈ am_cd mX2_copyFrom, decode (am_bc mX2_copyFrom) e.1 = .ok (e.2.1, e.2.2) := by decide +kernel
set_option maxRecDepth 100000 in
theorem kX2_addNumber : ∀ e ∈ am_cd mX2_addNumber, decode (am_bc mX2_addNumber) e.1 = .ok (e.2.1, e.2.2) := by decide +kernel
set_option maxRecDepth 100000 in
theorem kX2_addLetter : ∀ e ∈ am_cd mX2_addLetter, decode (am_bc mX2_addLetter) e.1 = .ok (e.2.1, e.2.2) := by decide +kernel
set_option maxRecDepth 100000 in
theorem kX2_addSign : ∀ e ∈ am_cd mX2_addSign, decode (am_bc mX2_addSign) e.1 = .ok (e.2.1, e.2.2) := by decide +kernel
set_option maxRecDepth 100000 in
theorem kX2_addStop : ∀ e ∈ am_cd mX2_addStop, decode (am_bc mX2_addStop) e.1 = .ok (e.2.1, e.2.2) := by decide +kernel
set_option maxRecDepth 100000 in
theorem kX2_addQuestion : ∀ e ∈ am_cd mX2_addQuestion, decode (am_bc mX2_addQuestion) e.1 = .ok (e.2.1, e.2.2) := by decide +kernel
set_option maxRecDepth 100000 in
theorem kX2_setNextClause : ∀ e ∈ am_cd mX2_setNextClause, decode (am_bc mX2_setNextClause) e.1 = .ok (e.2.1, e.2.2) := by decide +kernel
set_option maxRecDepth 100000 in
theorem kX2_worth : ∀ e ∈ am_cd mX2_worth, decode (am_bc mX2_worth) e.1 = .ok (e.2.1, e.2.2) := by decide +kernel
set_option maxRecDepth 100000 in
theorem kX2_letterOf : ∀ e ∈ am_cd mX2_letterOf, decode (am_bc mX2_letterOf) e.1 = .ok (e.2.1, e.2.2) := by decide +kernel
set_option maxRecDepth 100000 in
theorem kX2_joined : ∀ e ∈ am_cd mX2_joined, decode (am_bc mX2_joined) e.1 = .ok (e.2.1, e.2.2) := by decide +kernel
set_option maxRecDepth 100000 in
theorem kX3_init : ∀ e ∈ am_cd mX3_init, decode (am_bc mX3_init) e.1 = .ok (e.2.1, e.2.2) := by decide +kernel
set_option maxRecDepth 100000 in
theorem kX3_keep : ∀ e ∈ am_cd mX3_keep, decode (am_bc mX3_keep) e.1 = .ok (e.2.1, e.2.2) := by decide +kernel
set_option maxRecDepth 100000 in
theorem kX3_priceOf : ∀ e ∈ am_cd mX3_priceOf, decode (am_bc mX3_priceOf) e.1 = .ok (e.2.1, e.2.2) := by decide +kernel
set_option maxRecDepth 100000 in
theorem kX4_init : ∀ e ∈ am_cd mX4_init, decode (am_bc mX4_init) e.1 = .ok (e.2.1, e.2.2) := by decide +kernel
set_option maxRecDepth 100000 in
theorem kX4_readFrom : ∀ e ∈ am_cd mX4_readFrom, decode (am_bc mX4_readFrom) e.1 = .ok (e.2.1, e.2.2) := by decide +kernel
set_option maxRecDepth 100000 in
theorem kX4_readClause : ∀ e ∈ am_cd mX4_readClause, decode (am_bc mX4_readClause) e.1 = .ok (e.2.1, e.2.2) := by decide +kernel
set_option maxRecDepth 100000 in
theorem kX4_readCondition : ∀ e ∈ am_cd mX4_readCondition, decode (am_bc mX4_readCondition) e.1 = .ok (e.2.1, e.2.2) := by decide +kernel
set_option maxRecDepth 100000 in
theorem kX4_readTruth : ∀ e ∈ am_cd mX4_readTruth, decode (am_bc mX4_readTruth) e.1 = .ok (e.2.1, e.2.2) := by decide +kernel
set_option maxRecDepth 100000 in
theorem kX4_readUnit : ∀ e ∈ am_cd mX4_readUnit, decode (am_bc mX4_readUnit) e.1 = .ok (e.2.1, e.2.2) := by decide +kernel
set_option maxRecDepth 100000 in
theorem kX4_readCompared : ∀ e ∈ am_cd mX4_readCompared, decode (am_bc mX4_readCompared) e.1 = .ok (e.2.1, e.2.2) := by decide +kernel
set_option maxRecDepth 100000 in
theorem kX4_isCompare : ∀ e ∈ am_cd mX4_isCompare, decode (am_bc mX4_isCompare) e.1 = .ok (e.2.1, e.2.2) := by decide +kernel
set_option maxRecDepth 100000 in
theorem kX4_readSum : ∀ e ∈ am_cd mX4_readSum, decode (am_bc mX4_readSum) e.1 = .ok (e.2.1, e.2.2) := by decide +kernel
set_option maxRecDepth 100000 in
theorem kX4_readTerm : ∀ e ∈ am_cd mX4_readTerm, decode (am_bc mX4_readTerm) e.1 = .ok (e.2.1, e.2.2) := by decide +kernel
set_option maxRecDepth 100000 in
theorem kX4_readAtom : ∀ e ∈ am_cd mX4_readAtom, decode (am_bc mX4_readAtom) e.1 = .ok (e.2.1, e.2.2) := by decide +kernel
set_option maxRecDepth 100000 in
theorem kX4_letterOf : ∀ e ∈ am_cd mX4_letterOf, decode (am_bc mX4_letterOf) e.1 = .ok (e.2.1, e.2.2) := by decide +kernel
set_option maxRecDepth 100000 in
theorem kX5_init : ∀ e ∈ am_cd mX5_init, decode (am_bc mX5_init) e.1 = .ok (e.2.1, e.2.2) := by decide +kernel
set_option maxRecDepth 100000 in
theorem kX5_look : ∀ e ∈ am_cd mX5_look, decode (am_bc mX5_look) e.1 = .ok (e.2.1, e.2.2) := by decide +kernel
set_option maxRecDepth 100000 in
theorem kX5_everything : ∀ e ∈ am_cd mX5_everything, decode (am_bc mX5_everything) e.1 = .ok (e.2.1, e.2.2) := by decide +kernel
set_option maxRecDepth 100000 in
theorem kX5_lasts : ∀ e ∈ am_cd mX5_lasts, decode (am_bc mX5_lasts) e.1 = .ok (e.2.1, e.2.2) := by decide +kernel
set_option maxRecDepth 100000 in
theorem kX5_firsts : ∀ e ∈ am_cd mX5_firsts, decode (am_bc mX5_firsts) e.1 = .ok (e.2.1, e.2.2) := by decide +kernel
set_option maxRecDepth 100000 in
theorem kX5_fixed : ∀ e ∈ am_cd mX5_fixed, decode (am_bc mX5_fixed) e.1 = .ok (e.2.1, e.2.2) := by decide +kernel
set_option maxRecDepth 100000 in
theorem kX5_earliest : ∀ e ∈ am_cd mX5_earliest, decode (am_bc mX5_earliest) e.1 = .ok (e.2.1, e.2.2) := by decide +kernel
set_option maxRecDepth 100000 in
theorem kX5_latest : ∀ e ∈ am_cd mX5_latest, decode (am_bc mX5_latest) e.1 = .ok (e.2.1, e.2.2) := by decide +kernel
set_option maxRecDepth 100000 in
theorem kX5_leftBy : ∀ e ∈ am_cd mX5_leftBy, decode (am_bc mX5_leftBy) e.1 = .ok (e.2.1, e.2.2) := by decide +kernel
set_option maxRecDepth 100000 in
theorem kX5_canFollow : ∀ e ∈ am_cd mX5_canFollow, decode (am_bc mX5_canFollow) e.1 = .ok (e.2.1, e.2.2) := by decide +kernel
set_option maxRecDepth 100000 in
theorem kX5_canLeave : ∀ e ∈ am_cd mX5_canLeave, decode (am_bc mX5_canLeave) e.1 = .ok (e.2.1, e.2.2) := by decide +kernel
set_option maxRecDepth 100000 in
theorem kX5_markWhole : ∀ e ∈ am_cd mX5_markWhole, decode (am_bc mX5_markWhole) e.1 = .ok (e.2.1, e.2.2) := by decide +kernel
set_option maxRecDepth 100000 in
theorem kX5_countWays : ∀ e ∈ am_cd mX5_countWays, decode (am_bc mX5_countWays) e.1 = .ok (e.2.1, e.2.2) := by decide +kernel
set_option maxRecDepth 100000 in
theorem kX5_waysFrom : ∀ e ∈ am_cd mX5_waysFrom, decode (am_bc mX5_waysFrom) e.1 = .ok (e.2.1, e.2.2) := by decide +kernel
set_option maxRecDepth 100000 in
theorem kX5_deedOfWay : ∀ e ∈ am_cd mX5_deedOfWay, decode (am_bc mX5_deedOfWay) e.1 = .ok (e.2.1, e.2.2) := by decide +kernel
set_option maxRecDepth 100000 in
theorem kX5_findLeast : ∀ e ∈ am_cd mX5_findLeast, decode (am_bc mX5_findLeast) e.1 = .ok (e.2.1, e.2.2) := by decide +kernel
set_option maxRecDepth 100000 in
theorem kX5_setPrices : ∀ e ∈ am_cd mX5_setPrices, decode (am_bc mX5_setPrices) e.1 = .ok (e.2.1, e.2.2) := by decide +kernel
set_option maxRecDepth 100000 in
theorem kX5_priceAt : ∀ e ∈ am_cd mX5_priceAt, decode (am_bc mX5_priceAt) e.1 = .ok (e.2.1, e.2.2) := by decide +kernel
set_option maxRecDepth 100000 in
theorem kX5_setLeasts : ∀ e ∈ am_cd mX5_setLeasts, decode (am_bc mX5_setLeasts) e.1 = .ok (e.2.1, e.2.2) := by decide +kernel
set_option maxRecDepth 100000 in
theorem kX5_sortsOfLatest : ∀ e ∈ am_cd mX5_sortsOfLatest, decode (am_bc mX5_sortsOfLatest) e.1 = .ok (e.2.1, e.2.2) := by decide +kernel
set_option maxRecDepth 100000 in
theorem kX5_costThrough : ∀ e ∈ am_cd mX5_costThrough, decode (am_bc mX5_costThrough) e.1 = .ok (e.2.1, e.2.2) := by decide +kernel
set_option maxRecDepth 100000 in
theorem kX5_deedOfLeast : ∀ e ∈ am_cd mX5_deedOfLeast, decode (am_bc mX5_deedOfLeast) e.1 = .ok (e.2.1, e.2.2) := by decide +kernel
set_option maxRecDepth 100000 in
theorem kX5_playGame : ∀ e ∈ am_cd mX5_playGame, decode (am_bc mX5_playGame) e.1 = .ok (e.2.1, e.2.2) := by decide +kernel
set_option maxRecDepth 100000 in
theorem kX5_firstMove : ∀ e ∈ am_cd mX5_firstMove, decode (am_bc mX5_firstMove) e.1 = .ok (e.2.1, e.2.2) := by decide +kernel
set_option maxRecDepth 100000 in
theorem kX5_bestMove : ∀ e ∈ am_cd mX5_bestMove, decode (am_bc mX5_bestMove) e.1 = .ok (e.2.1, e.2.2) := by decide +kernel
set_option maxRecDepth 100000 in
theorem kX5_moveWorth : ∀ e ∈ am_cd mX5_moveWorth, decode (am_bc mX5_moveWorth) e.1 = .ok (e.2.1, e.2.2) := by decide +kernel
set_option maxRecDepth 100000 in
theorem kX6_init : ∀ e ∈ am_cd mX6_init, decode (am_bc mX6_init) e.1 = .ok (e.2.1, e.2.2) := by decide +kernel
set_option maxRecDepth 100000 in
theorem kX6_clear : ∀ e ∈ am_cd mX6_clear, decode (am_bc mX6_clear) e.1 = .ok (e.2.1, e.2.2) := by decide +kernel
set_option maxRecDepth 100000 in
theorem kX6_save : ∀ e ∈ am_cd mX6_save, decode (am_bc mX6_save) e.1 = .ok (e.2.1, e.2.2) := by decide +kernel
set_option maxRecDepth 100000 in
theorem kX6_restore : ∀ e ∈ am_cd mX6_restore, decode (am_bc mX6_restore) e.1 = .ok (e.2.1, e.2.2) := by decide +kernel
set_option maxRecDepth 100000 in
theorem kX7_init : ∀ e ∈ am_cd mX7_init, decode (am_bc mX7_init) e.1 = .ok (e.2.1, e.2.2) := by decide +kernel
set_option maxRecDepth 100000 in
theorem kX7_add : ∀ e ∈ am_cd mX7_add, decode (am_bc mX7_add) e.1 = .ok (e.2.1, e.2.2) := by decide +kernel
set_option maxRecDepth 100000 in
theorem kX7_fitting : ∀ e ∈ am_cd mX7_fitting, decode (am_bc mX7_fitting) e.1 = .ok (e.2.1, e.2.2) := by decide +kernel
set_option maxRecDepth 100000 in
theorem kX7_fits : ∀ e ∈ am_cd mX7_fits, decode (am_bc mX7_fits) e.1 = .ok (e.2.1, e.2.2) := by decide +kernel
set_option maxRecDepth 100000 in
theorem kX7_bestQuestion : ∀ e ∈ am_cd mX7_bestQuestion, decode (am_bc mX7_bestQuestion) e.1 = .ok (e.2.1, e.2.2) := by decide +kernel
set_option maxRecDepth 100000 in
theorem kX7_moreThanLess : ∀ e ∈ am_cd mX7_moreThanLess, decode (am_bc mX7_moreThanLess) e.1 = .ok (e.2.1, e.2.2) := by decide +kernel
set_option maxRecDepth 100000 in
theorem kX8_init : ∀ e ∈ am_cd mX8_init, decode (am_bc mX8_init) e.1 = .ok (e.2.1, e.2.2) := by decide +kernel
set_option maxRecDepth 100000 in
theorem kX8_copyFrom : ∀ e ∈ am_cd mX8_copyFrom, decode (am_bc mX8_copyFrom) e.1 = .ok (e.2.1, e.2.2) := by decide +kernel
