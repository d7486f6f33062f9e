set_option maxRecDepth 100000 in
theorem kX8_readFrom : ∀ e ∈ am_cd mX8_readFrom, decode (am_bc mX8_readFrom) e.1 = .ok (e.2.1, e.2.2) := by decide +kernel
set_option maxRecDepth 100000 in
theorem kX8_readRules : ∀ e ∈ am_cd mX8_readRules, decode (am_bc mX8_readRules) e.1 = .ok (e.2.1, e.2.2) := by decide +kernel
set_option maxRecDepth 100000 in
theorem kX8_readApprentice : ∀ e ∈ am_cd mX8_readApprentice, decode (am_bc mX8_readApprentice) e.1 = .ok (e.2.1, e.2.2) := by decide +kernel
set_option maxRecDepth 100000 in
theorem kX8_hasApprentice : ∀ e ∈ am_cd mX8_hasApprentice, decode (am_bc mX8_hasApprentice) e.1 = .ok (e.2.1, e.2.2) := by decide +kernel
set_option maxRecDepth 100000 in
theorem kX8_knows : ∀ e ∈ am_cd mX8_knows, decode (am_bc mX8_knows) e.1 = .ok (e.2.1, e.2.2) := by decide +kernel
set_option maxRecDepth 100000 in
theorem kX8_knownTogether : ∀ e ∈ am_cd mX8_knownTogether, decode (am_bc mX8_knownTogether) e.1 = .ok (e.2.1, e.2.2) := by decide +kernel
set_option maxRecDepth 100000 in
theorem kX8_thoseInRoom : ∀ e ∈ am_cd mX8_thoseInRoom, decode (am_bc mX8_thoseInRoom) e.1 = .ok (e.2.1, e.2.2) := by decide +kernel
set_option maxRecDepth 100000 in
theorem kX8_doDeed : ∀ e ∈ am_cd mX8_doDeed, decode (am_bc mX8_doDeed) e.1 = .ok (e.2.1, e.2.2) := by decide +kernel
set_option maxRecDepth 100000 in
theorem kX8_takeBack : ∀ e ∈ am_cd mX8_takeBack, decode (am_bc mX8_takeBack) e.1 = .ok (e.2.1, e.2.2) := by decide +kernel
set_option maxRecDepth 100000 in
theorem kX8_note : ∀ e ∈ am_cd mX8_note, decode (am_bc mX8_note) e.1 = .ok (e.2.1, e.2.2) := by decide +kernel
set_option maxRecDepth 100000 in
theorem kX8_logLength : ∀ e ∈ am_cd mX8_logLength, decode (am_bc mX8_logLength) e.1 = .ok (e.2.1, e.2.2) := by decide +kernel
set_option maxRecDepth 100000 in
theorem kX9_init : ∀ e ∈ am_cd mX9_init, decode (am_bc mX9_init) e.1 = .ok (e.2.1, e.2.2) := by decide +kernel
set_option maxRecDepth 100000 in
theorem kX9_signsOf : ∀ e ∈ am_cd mX9_signsOf, decode (am_bc mX9_signsOf) e.1 = .ok (e.2.1, e.2.2) := by decide +kernel
set_option maxRecDepth 100000 in
theorem kX9_append : ∀ e ∈ am_cd mX9_append, decode (am_bc mX9_append) e.1 = .ok (e.2.1, e.2.2) := by decide +kernel
set_option maxRecDepth 100000 in
theorem kX9_peek : ∀ e ∈ am_cd mX9_peek, decode (am_bc mX9_peek) e.1 = .ok (e.2.1, e.2.2) := by decide +kernel
set_option maxRecDepth 100000 in
theorem kX9_accept : ∀ e ∈ am_cd mX9_accept, decode (am_bc mX9_accept) e.1 = .ok (e.2.1, e.2.2) := by decide +kernel
set_option maxRecDepth 100000 in
theorem kX9_isDigit : ∀ e ∈ am_cd mX9_isDigit, decode (am_bc mX9_isDigit) e.1 = .ok (e.2.1, e.2.2) := by decide +kernel
set_option maxRecDepth 100000 in
theorem kX9_readDigit : ∀ e ∈ am_cd mX9_readDigit, decode (am_bc mX9_readDigit) e.1 = .ok (e.2.1, e.2.2) := by decide +kernel
set_option maxRecDepth 100000 in
theorem kX9_readNumber : ∀ e ∈ am_cd mX9_readNumber, decode (am_bc mX9_readNumber) e.1 = .ok (e.2.1, e.2.2) := by decide +kernel
set_option maxRecDepth 100000 in
theorem kX9_readBounded : ∀ e ∈ am_cd mX9_readBounded, decode (am_bc mX9_readBounded) e.1 = .ok (e.2.1, e.2.2) := by decide +kernel
set_option maxRecDepth 100000 in
theorem kX10_init : ∀ e ∈ am_cd mX10_init, decode (am_bc mX10_init) e.1 = .ok (e.2.1, e.2.2) := by decide +kernel
set_option maxRecDepth 100000 in
theorem kX10_feed : ∀ e ∈ am_cd mX10_feed, decode (am_bc mX10_feed) e.1 = .ok (e.2.1, e.2.2) := by decide +kernel
set_option maxRecDepth 100000 in
theorem kX10_end : ∀ e ∈ am_cd mX10_end, decode (am_bc mX10_end) e.1 = .ok (e.2.1, e.2.2) := by decide +kernel
set_option maxRecDepth 100000 in
theorem kX10_fault : ∀ e ∈ am_cd mX10_fault, decode (am_bc mX10_fault) e.1 = .ok (e.2.1, e.2.2) := by decide +kernel
set_option maxRecDepth 100000 in
theorem kX10_text : ∀ e ∈ am_cd mX10_text, decode (am_bc mX10_text) e.1 = .ok (e.2.1, e.2.2) := by decide +kernel
set_option maxRecDepth 100000 in
theorem kX10_reads : ∀ e ∈ am_cd mX10_reads, decode (am_bc mX10_reads) e.1 = .ok (e.2.1, e.2.2) := by decide +kernel
set_option maxRecDepth 100000 in
theorem kX10_openWorkshop : ∀ e ∈ am_cd mX10_openWorkshop, decode (am_bc mX10_openWorkshop) e.1 = .ok (e.2.1, e.2.2) := by decide +kernel
set_option maxRecDepth 100000 in
theorem kX10_keepMaking : ∀ e ∈ am_cd mX10_keepMaking, decode (am_bc mX10_keepMaking) e.1 = .ok (e.2.1, e.2.2) := by decide +kernel
set_option maxRecDepth 100000 in
theorem kX10_shape : ∀ e ∈ am_cd mX10_shape, decode (am_bc mX10_shape) e.1 = .ok (e.2.1, e.2.2) := by decide +kernel
set_option maxRecDepth 100000 in
theorem kX10_deed : ∀ e ∈ am_cd mX10_deed, decode (am_bc mX10_deed) e.1 = .ok (e.2.1, e.2.2) := by decide +kernel
set_option maxRecDepth 100000 in
theorem kX10_law : ∀ e ∈ am_cd mX10_law, decode (am_bc mX10_law) e.1 = .ok (e.2.1, e.2.2) := by decide +kernel
set_option maxRecDepth 100000 in
theorem kX10_haste : ∀ e ∈ am_cd mX10_haste, decode (am_bc mX10_haste) e.1 = .ok (e.2.1, e.2.2) := by decide +kernel
set_option maxRecDepth 100000 in
theorem kX10_make : ∀ e ∈ am_cd mX10_make, decode (am_bc mX10_make) e.1 = .ok (e.2.1, e.2.2) := by decide +kernel
set_option maxRecDepth 100000 in
theorem kX10_undoes : ∀ e ∈ am_cd mX10_undoes, decode (am_bc mX10_undoes) e.1 = .ok (e.2.1, e.2.2) := by decide +kernel
set_option maxRecDepth 100000 in
theorem kX10_takes : ∀ e ∈ am_cd mX10_takes, decode (am_bc mX10_takes) e.1 = .ok (e.2.1, e.2.2) := by decide +kernel
set_option maxRecDepth 100000 in
theorem kX10_enter : ∀ e ∈ am_cd mX10_enter, decode (am_bc mX10_enter) e.1 = .ok (e.2.1, e.2.2) := by decide +kernel
set_option maxRecDepth 100000 in
theorem kX10_forgets : ∀ e ∈ am_cd mX10_forgets, decode (am_bc mX10_forgets) e.1 = .ok (e.2.1, e.2.2) := by decide +kernel
set_option maxRecDepth 100000 in
theorem kX10_sell : ∀ e ∈ am_cd mX10_sell, decode (am_bc mX10_sell) e.1 = .ok (e.2.1, e.2.2) := by decide +kernel
set_option maxRecDepth 100000 in
theorem kX10_years : ∀ e ∈ am_cd mX10_years, decode (am_bc mX10_years) e.1 = .ok (e.2.1, e.2.2) := by decide +kernel
set_option maxRecDepth 100000 in
theorem kX10_undo : ∀ e ∈ am_cd mX10_undo, decode (am_bc mX10_undo) e.1 = .ok (e.2.1, e.2.2) := by decide +kernel
set_option maxRecDepth 100000 in
theorem kX10_perform : ∀ e ∈ am_cd mX10_perform, decode (am_bc mX10_perform) e.1 = .ok (e.2.1, e.2.2) := by decide +kernel
set_option maxRecDepth 100000 in
theorem kX10_isOpen : ∀ e ∈ am_cd mX10_isOpen, decode (am_bc mX10_isOpen) e.1 = .ok (e.2.1, e.2.2) := by decide +kernel
set_option maxRecDepth 100000 in
theorem kX10_canAct : ∀ e ∈ am_cd mX10_canAct, decode (am_bc mX10_canAct) e.1 = .ok (e.2.1, e.2.2) := by decide +kernel
set_option maxRecDepth 100000 in
theorem kX10_beginAct : ∀ e ∈ am_cd mX10_beginAct, decode (am_bc mX10_beginAct) e.1 = .ok (e.2.1, e.2.2) := by decide +kernel
set_option maxRecDepth 100000 in
theorem kX10_takeBackByDraw : ∀ e ∈ am_cd mX10_takeBackByDraw, decode (am_bc mX10_takeBackByDraw) e.1 = .ok (e.2.1, e.2.2) := by decide +kernel
set_option maxRecDepth 100000 in
theorem kX10_doByDraw : ∀ e ∈ am_cd mX10_doByDraw, decode (am_bc mX10_doByDraw) e.1 = .ok (e.2.1, e.2.2) := by decide +kernel
set_option maxRecDepth 100000 in
theorem kX10_within : ∀ e ∈ am_cd mX10_within, decode (am_bc mX10_within) e.1 = .ok (e.2.1, e.2.2) := by decide +kernel
set_option maxRecDepth 100000 in
theorem kX10_isSort : ∀ e ∈ am_cd mX10_isSort, decode (am_bc mX10_isSort) e.1 = .ok (e.2.1, e.2.2) := by decide +kernel
set_option maxRecDepth 100000 in
theorem kX10_isMaking : ∀ e ∈ am_cd mX10_isMaking, decode (am_bc mX10_isMaking) e.1 = .ok (e.2.1, e.2.2) := by decide +kernel
set_option maxRecDepth 100000 in
theorem kX10_log : ∀ e ∈ am_cd mX10_log, decode (am_bc mX10_log) e.1 = .ok (e.2.1, e.2.2) := by decide +kernel
set_option maxRecDepth 100000 in
theorem kX10_step : ∀ e ∈ am_cd mX10_step, decode (am_bc mX10_step) e.1 = .ok (e.2.1, e.2.2) := by decide +kernel
set_option maxRecDepth 100000 in
theorem kX10_run : ∀ e ∈ am_cd mX10_run, decode (am_bc mX10_run) e.1 = .ok (e.2.1, e.2.2) := by decide +kernel
set_option maxRecDepth 100000 in
theorem kX10_alike : ∀ e ∈ am_cd mX10_alike, decode (am_bc mX10_alike) e.1 = .ok (e.2.1, e.2.2) := by decide +kernel
set_option maxRecDepth 100000 in
theorem kX10_cost : ∀ e ∈ am_cd mX10_cost, decode (am_bc mX10_cost) e.1 = .ok (e.2.1, e.2.2) := by decide +kernel
set_option maxRecDepth 100000 in
theorem kX10_rows : ∀ e ∈ am_cd mX10_rows, decode (am_bc mX10_rows) e.1 = .ok (e.2.1, e.2.2) := by decide +kernel
set_option maxRecDepth 100000 in
theorem kX10_row : ∀ e ∈ am_cd mX10_row, decode (am_bc mX10_row) e.1 = .ok (e.2.1, e.2.2) := by decide +kernel
set_option maxRecDepth 100000 in
theorem kX10_drawn : ∀ e ∈ am_cd mX10_drawn, decode (am_bc mX10_drawn) e.1 = .ok (e.2.1, e.2.2) := by decide +kernel
set_option maxRecDepth 100000 in
theorem kX10_cheapest : ∀ e ∈ am_cd mX10_cheapest, decode (am_bc mX10_cheapest) e.1 = .ok (e.2.1, e.2.2) := by decide +kernel
set_option maxRecDepth 100000 in
theorem kX10_places : ∀ e ∈ am_cd mX10_places, decode (am_bc mX10_places) e.1 = .ok (e.2.1, e.2.2) := by decide +kernel
set_option maxRecDepth 100000 in
theorem kX10_needs : ∀ e ∈ am_cd mX10_needs, decode (am_bc mX10_needs) e.1 = .ok (e.2.1, e.2.2) := by decide +kernel
set_option maxRecDepth 100000 in
theorem kX10_sure : ∀ e ∈ am_cd mX10_sure, decode (am_bc mX10_sure) e.1 = .ok (e.2.1, e.2.2) := by decide +kernel
set_option maxRecDepth 100000 in
theorem kX10_alone : ∀ e ∈ am_cd mX10_alone, decode (am_bc mX10_alone) e.1 = .ok (e.2.1, e.2.2) := by decide +kernel
set_option maxRecDepth 100000 in
theorem kX10_stuck : ∀ e ∈ am_cd mX10_stuck, decode (am_bc mX10_stuck) e.1 = .ok (e.2.1, e.2.2) := by decide +kernel
set_option maxRecDepth 100000 in
theorem kX10_team : ∀ e ∈ am_cd mX10_team, decode (am_bc mX10_team) e.1 = .ok (e.2.1, e.2.2) := by decide +kernel
set_option maxRecDepth 100000 in
theorem kX10_lesson : ∀ e ∈ am_cd mX10_lesson, decode (am_bc mX10_lesson) e.1 = .ok (e.2.1, e.2.2) := by decide +kernel
set_option maxRecDepth 100000 in
theorem kX10_game : ∀ e ∈ am_cd mX10_game, decode (am_bc mX10_game) e.1 = .ok (e.2.1, e.2.2) := by decide +kernel
set_option maxRecDepth 100000 in
theorem kX10_odds : ∀ e ∈ am_cd mX10_odds, decode (am_bc mX10_odds) e.1 = .ok (e.2.1, e.2.2) := by decide +kernel
set_option maxRecDepth 100000 in
theorem kX10_seen : ∀ e ∈ am_cd mX10_seen, decode (am_bc mX10_seen) e.1 = .ok (e.2.1, e.2.2) := by decide +kernel
set_option maxRecDepth 100000 in
theorem kX10_args : ∀ e ∈ am_cd mX10_args, decode (am_bc mX10_args) e.1 = .ok (e.2.1, e.2.2) := by decide +kernel
set_option maxRecDepth 100000 in
theorem kX10_ask : ∀ e ∈ am_cd mX10_ask, decode (am_bc mX10_ask) e.1 = .ok (e.2.1, e.2.2) := by decide +kernel
set_option maxRecDepth 100000 in
theorem kX10_upon : ∀ e ∈ am_cd mX10_upon, decode (am_bc mX10_upon) e.1 = .ok (e.2.1, e.2.2) := by decide +kernel
set_option maxRecDepth 100000 in
theorem kX10_all : ∀ e ∈ am_cd mX10_all, decode (am_bc mX10_all) e.1 = .ok (e.2.1, e.2.2) := by decide +kernel
set_option maxRecDepth 100000 in
theorem kX10_image : ∀ e ∈ am_cd mX10_image, decode (am_bc mX10_image) e.1 = .ok (e.2.1, e.2.2) := by decide +kernel
set_option maxRecDepth 100000 in
theorem kX10_back : ∀ e ∈ am_cd mX10_back, decode (am_bc mX10_back) e.1 = .ok (e.2.1, e.2.2) := by decide +kernel
set_option maxRecDepth 100000 in
theorem kX10_count : ∀ e ∈ am_cd mX10_count, decode (am_bc mX10_count) e.1 = .ok (e.2.1, e.2.2) := by decide +kernel
set_option maxRecDepth 100000 in
theorem kX11_init : ∀ e ∈ am_cd mX11_init, decode (am_bc mX11_init) e.1 = .ok (e.2.1, e.2.2) := by decide +kernel
set_option maxRecDepth 100000 in
theorem kX11_thrown : ∀ e ∈ am_cd mX11_thrown, decode (am_bc mX11_thrown) e.1 = .ok (e.2.1, e.2.2) := by decide +kernel
set_option maxRecDepth 100000 in
theorem kX11_isIn : ∀ e ∈ am_cd mX11_isIn, decode (am_bc mX11_isIn) e.1 = .ok (e.2.1, e.2.2) := by decide +kernel
set_option maxRecDepth 100000 in
theorem kX11_has : ∀ e ∈ am_cd mX11_has, decode (am_bc mX11_has) e.1 = .ok (e.2.1, e.2.2) := by decide +kernel
set_option maxRecDepth 100000 in
theorem kX11_isAmong : ∀ e ∈ am_cd mX11_isAmong, decode (am_bc mX11_isAmong) e.1 = .ok (e.2.1, e.2.2) := by decide +kernel
set_option maxRecDepth 100000 in
theorem kX11_bytesIn : ∀ e ∈ am_cd mX11_bytesIn, decode (am_bc mX11_bytesIn) e.1 = .ok (e.2.1, e.2.2) := by decide +kernel
set_option maxRecDepth 100000 in
theorem kX11_put : ∀ e ∈ am_cd mX11_put, decode (am_bc mX11_put) e.1 = .ok (e.2.1, e.2.2) := by decide +kernel
set_option maxRecDepth 100000 in
theorem kX11_feed : ∀ e ∈ am_cd mX11_feed, decode (am_bc mX11_feed) e.1 = .ok (e.2.1, e.2.2) := by decide +kernel
set_option maxRecDepth 100000 in
theorem kX11_end : ∀ e ∈ am_cd mX11_end, decode (am_bc mX11_end) e.1 = .ok (e.2.1, e.2.2) := by decide +kernel
set_option maxRecDepth 100000 in
theorem kX11_look : ∀ e ∈ am_cd mX11_look, decode (am_bc mX11_look) e.1 = .ok (e.2.1, e.2.2) := by decide +kernel
set_option maxRecDepth 100000 in
theorem kX11_fails : ∀ e ∈ am_cd mX11_fails, decode (am_bc mX11_fails) e.1 = .ok (e.2.1, e.2.2) := by decide +kernel
set_option maxRecDepth 100000 in
theorem kX11_goesIn : ∀ e ∈ am_cd mX11_goesIn, decode (am_bc mX11_goesIn) e.1 = .ok (e.2.1, e.2.2) := by decide +kernel
set_option maxRecDepth 100000 in
theorem kX11_takes : ∀ e ∈ am_cd mX11_takes, decode (am_bc mX11_takes) e.1 = .ok (e.2.1, e.2.2) := by decide +kernel
set_option maxRecDepth 100000 in
theorem kX11_isDigit : ∀ e ∈ am_cd mX11_isDigit, decode (am_bc mX11_isDigit) e.1 = .ok (e.2.1, e.2.2) := by decide +kernel
set_option maxRecDepth 100000 in
theorem kX11_within : ∀ e ∈ am_cd mX11_within, decode (am_bc mX11_within) e.1 = .ok (e.2.1, e.2.2) := by decide +kernel
set_option maxRecDepth 100000 in
theorem kX11_atom : ∀ e ∈ am_cd mX11_atom, decode (am_bc mX11_atom) e.1 = .ok (e.2.1, e.2.2) := by decide +kernel
set_option maxRecDepth 100000 in
theorem kX11_term : ∀ e ∈ am_cd mX11_term, decode (am_bc mX11_term) e.1 = .ok (e.2.1, e.2.2) := by decide +kernel
set_option maxRecDepth 100000 in
theorem kX11_sum : ∀ e ∈ am_cd mX11_sum, decode (am_bc mX11_sum) e.1 = .ok (e.2.1, e.2.2) := by decide +kernel
set_option maxRecDepth 100000 in
theorem kX11_isSign : ∀ e ∈ am_cd mX11_isSign, decode (am_bc mX11_isSign) e.1 = .ok (e.2.1, e.2.2) := by decide +kernel
set_option maxRecDepth 100000 in
theorem kX11_compares : ∀ e ∈ am_cd mX11_compares, decode (am_bc mX11_compares) e.1 = .ok (e.2.1, e.2.2) := by decide +kernel
set_option maxRecDepth 100000 in
theorem kX11_unit : ∀ e ∈ am_cd mX11_unit, decode (am_bc mX11_unit) e.1 = .ok (e.2.1, e.2.2) := by decide +kernel
set_option maxRecDepth 100000 in
theorem kX11_part : ∀ e ∈ am_cd mX11_part, decode (am_bc mX11_part) e.1 = .ok (e.2.1, e.2.2) := by decide +kernel
set_option maxRecDepth 100000 in
theorem kX11_condition : ∀ e ∈ am_cd mX11_condition, decode (am_bc mX11_condition) e.1 = .ok (e.2.1, e.2.2) := by decide +kernel
set_option maxRecDepth 100000 in
theorem kX11_clause : ∀ e ∈ am_cd mX11_clause, decode (am_bc mX11_clause) e.1 = .ok (e.2.1, e.2.2) := by decide +kernel
