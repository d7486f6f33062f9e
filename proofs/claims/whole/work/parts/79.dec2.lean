set_option maxRecDepth 100000 in
theorem kX11_starts : ∀ e ∈ am_cd mX11_starts, decode (am_bc mX11_starts) e.1 = .ok (e.2.1, e.2.2) := by decide +kernel
set_option maxRecDepth 100000 in
theorem kX11_goThrough : ∀ e ∈ am_cd mX11_goThrough, decode (am_bc mX11_goThrough) e.1 = .ok (e.2.1, e.2.2) := by decide +kernel
set_option maxRecDepth 100000 in
theorem kX11_here : ∀ e ∈ am_cd mX11_here, decode (am_bc mX11_here) e.1 = .ok (e.2.1, e.2.2) := by decide +kernel
set_option maxRecDepth 100000 in
theorem kX11_spotOf : ∀ e ∈ am_cd mX11_spotOf, decode (am_bc mX11_spotOf) e.1 = .ok (e.2.1, e.2.2) := by decide +kernel
set_option maxRecDepth 100000 in
theorem kX11_number : ∀ e ∈ am_cd mX11_number, decode (am_bc mX11_number) e.1 = .ok (e.2.1, e.2.2) := by decide +kernel
set_option maxRecDepth 100000 in
theorem kX11_readRules : ∀ e ∈ am_cd mX11_readRules, decode (am_bc mX11_readRules) e.1 = .ok (e.2.1, e.2.2) := by decide +kernel
set_option maxRecDepth 100000 in
theorem kX11_readApprentice : ∀ e ∈ am_cd mX11_readApprentice, decode (am_bc mX11_readApprentice) e.1 = .ok (e.2.1, e.2.2) := by decide +kernel
set_option maxRecDepth 100000 in
theorem kX11_readClause : ∀ e ∈ am_cd mX11_readClause, decode (am_bc mX11_readClause) e.1 = .ok (e.2.1, e.2.2) := by decide +kernel
set_option maxRecDepth 100000 in
theorem kX11_readWorkshop : ∀ e ∈ am_cd mX11_readWorkshop, decode (am_bc mX11_readWorkshop) e.1 = .ok (e.2.1, e.2.2) := by decide +kernel
set_option maxRecDepth 100000 in
theorem kX11_digit : ∀ e ∈ am_cd mX11_digit, decode (am_bc mX11_digit) e.1 = .ok (e.2.1, e.2.2) := by decide +kernel
set_option maxRecDepth 100000 in
theorem kX11_hasX : ∀ e ∈ am_cd mX11_hasX, decode (am_bc mX11_hasX) e.1 = .ok (e.2.1, e.2.2) := by decide +kernel
set_option maxRecDepth 100000 in
theorem kX11_readStep : ∀ e ∈ am_cd mX11_readStep, decode (am_bc mX11_readStep) e.1 = .ok (e.2.1, e.2.2) := by decide +kernel
set_option maxRecDepth 100000 in
theorem kX11_readPlan : ∀ e ∈ am_cd mX11_readPlan, decode (am_bc mX11_readPlan) e.1 = .ok (e.2.1, e.2.2) := by decide +kernel
set_option maxRecDepth 100000 in
theorem kX11_fault : ∀ e ∈ am_cd mX11_fault, decode (am_bc mX11_fault) e.1 = .ok (e.2.1, e.2.2) := by decide +kernel
set_option maxRecDepth 100000 in
theorem kX11_text_0 : ∀ e ∈ ((am_cd mX11_text).drop 0).take 50, decode (am_bc mX11_text) e.1 = .ok (e.2.1, e.2.2) := by decide +kernel
set_option maxRecDepth 100000 in
theorem kX11_text_1 : ∀ e ∈ ((am_cd mX11_text).drop 50).take 50, decode (am_bc mX11_text) e.1 = .ok (e.2.1, e.2.2) := by decide +kernel
set_option maxRecDepth 100000 in
theorem kX11_text_2 : ∀ e ∈ ((am_cd mX11_text).drop 100).take 50, decode (am_bc mX11_text) e.1 = .ok (e.2.1, e.2.2) := by decide +kernel
set_option maxRecDepth 100000 in
theorem kX11_text_3 : ∀ e ∈ ((am_cd mX11_text).drop 150).take 50, decode (am_bc mX11_text) e.1 = .ok (e.2.1, e.2.2) := by decide +kernel
set_option maxRecDepth 100000 in
theorem kX11_stands : ∀ e ∈ am_cd mX11_stands, decode (am_bc mX11_stands) e.1 = .ok (e.2.1, e.2.2) := by decide +kernel
set_option maxRecDepth 100000 in
theorem kX11_upon0 : ∀ e ∈ am_cd mX11_upon0, decode (am_bc mX11_upon0) e.1 = .ok (e.2.1, e.2.2) := by decide +kernel
set_option maxRecDepth 100000 in
theorem kX11_isPart : ∀ e ∈ am_cd mX11_isPart, decode (am_bc mX11_isPart) e.1 = .ok (e.2.1, e.2.2) := by decide +kernel
set_option maxRecDepth 100000 in
theorem kX11_isThere : ∀ e ∈ am_cd mX11_isThere, decode (am_bc mX11_isThere) e.1 = .ok (e.2.1, e.2.2) := by decide +kernel
set_option maxRecDepth 100000 in
theorem kX11_doesStandOn : ∀ e ∈ am_cd mX11_doesStandOn, decode (am_bc mX11_doesStandOn) e.1 = .ok (e.2.1, e.2.2) := by decide +kernel
set_option maxRecDepth 100000 in
theorem kX11_canDo : ∀ e ∈ am_cd mX11_canDo, decode (am_bc mX11_canDo) e.1 = .ok (e.2.1, e.2.2) := by decide +kernel
set_option maxRecDepth 100000 in
theorem kX11_does : ∀ e ∈ am_cd mX11_does, decode (am_bc mX11_does) e.1 = .ok (e.2.1, e.2.2) := by decide +kernel
set_option maxRecDepth 100000 in
theorem kX11_gone : ∀ e ∈ am_cd mX11_gone, decode (am_bc mX11_gone) e.1 = .ok (e.2.1, e.2.2) := by decide +kernel
set_option maxRecDepth 100000 in
theorem kX11_needs0 : ∀ e ∈ am_cd mX11_needs0, decode (am_bc mX11_needs0) e.1 = .ok (e.2.1, e.2.2) := by decide +kernel
set_option maxRecDepth 100000 in
theorem kX11_laysNeeds : ∀ e ∈ am_cd mX11_laysNeeds, decode (am_bc mX11_laysNeeds) e.1 = .ok (e.2.1, e.2.2) := by decide +kernel
set_option maxRecDepth 100000 in
theorem kX11_isDeed : ∀ e ∈ am_cd mX11_isDeed, decode (am_bc mX11_isDeed) e.1 = .ok (e.2.1, e.2.2) := by decide +kernel
set_option maxRecDepth 100000 in
theorem kX11_isHand : ∀ e ∈ am_cd mX11_isHand, decode (am_bc mX11_isHand) e.1 = .ok (e.2.1, e.2.2) := by decide +kernel
set_option maxRecDepth 100000 in
theorem kX11_isSort : ∀ e ∈ am_cd mX11_isSort, decode (am_bc mX11_isSort) e.1 = .ok (e.2.1, e.2.2) := by decide +kernel
set_option maxRecDepth 100000 in
theorem kX11_apprentice : ∀ e ∈ am_cd mX11_apprentice, decode (am_bc mX11_apprentice) e.1 = .ok (e.2.1, e.2.2) := by decide +kernel
set_option maxRecDepth 100000 in
theorem kX11_shape : ∀ e ∈ am_cd mX11_shape, decode (am_bc mX11_shape) e.1 = .ok (e.2.1, e.2.2) := by decide +kernel
set_option maxRecDepth 100000 in
theorem kX11_deed : ∀ e ∈ am_cd mX11_deed, decode (am_bc mX11_deed) e.1 = .ok (e.2.1, e.2.2) := by decide +kernel
set_option maxRecDepth 100000 in
theorem kX11_law : ∀ e ∈ am_cd mX11_law, decode (am_bc mX11_law) e.1 = .ok (e.2.1, e.2.2) := by decide +kernel
set_option maxRecDepth 100000 in
theorem kX11_haste : ∀ e ∈ am_cd mX11_haste, decode (am_bc mX11_haste) e.1 = .ok (e.2.1, e.2.2) := by decide +kernel
set_option maxRecDepth 100000 in
theorem kX11_remember : ∀ e ∈ am_cd mX11_remember, decode (am_bc mX11_remember) e.1 = .ok (e.2.1, e.2.2) := by decide +kernel
set_option maxRecDepth 100000 in
theorem kX11_begins0 : ∀ e ∈ am_cd mX11_begins0, decode (am_bc mX11_begins0) e.1 = .ok (e.2.1, e.2.2) := by decide +kernel
set_option maxRecDepth 100000 in
theorem kX11_writes : ∀ e ∈ am_cd mX11_writes, decode (am_bc mX11_writes) e.1 = .ok (e.2.1, e.2.2) := by decide +kernel
set_option maxRecDepth 100000 in
theorem kX11_isLate : ∀ e ∈ am_cd mX11_isLate, decode (am_bc mX11_isLate) e.1 = .ok (e.2.1, e.2.2) := by decide +kernel
set_option maxRecDepth 100000 in
theorem kX11_actMake : ∀ e ∈ am_cd mX11_actMake, decode (am_bc mX11_actMake) e.1 = .ok (e.2.1, e.2.2) := by decide +kernel
set_option maxRecDepth 100000 in
theorem kX11_actTake : ∀ e ∈ am_cd mX11_actTake, decode (am_bc mX11_actTake) e.1 = .ok (e.2.1, e.2.2) := by decide +kernel
set_option maxRecDepth 100000 in
theorem kX11_canTake : ∀ e ∈ am_cd mX11_canTake, decode (am_bc mX11_canTake) e.1 = .ok (e.2.1, e.2.2) := by decide +kernel
set_option maxRecDepth 100000 in
theorem kX11_make : ∀ e ∈ am_cd mX11_make, decode (am_bc mX11_make) e.1 = .ok (e.2.1, e.2.2) := by decide +kernel
set_option maxRecDepth 100000 in
theorem kX11_undoes : ∀ e ∈ am_cd mX11_undoes, decode (am_bc mX11_undoes) e.1 = .ok (e.2.1, e.2.2) := by decide +kernel
set_option maxRecDepth 100000 in
theorem kX11_takes_ : ∀ e ∈ am_cd mX11_takes_, decode (am_bc mX11_takes_) e.1 = .ok (e.2.1, e.2.2) := by decide +kernel
set_option maxRecDepth 100000 in
theorem kX11_enter : ∀ e ∈ am_cd mX11_enter, decode (am_bc mX11_enter) e.1 = .ok (e.2.1, e.2.2) := by decide +kernel
set_option maxRecDepth 100000 in
theorem kX11_forgets : ∀ e ∈ am_cd mX11_forgets, decode (am_bc mX11_forgets) e.1 = .ok (e.2.1, e.2.2) := by decide +kernel
set_option maxRecDepth 100000 in
theorem kX11_sell : ∀ e ∈ am_cd mX11_sell, decode (am_bc mX11_sell) e.1 = .ok (e.2.1, e.2.2) := by decide +kernel
set_option maxRecDepth 100000 in
theorem kX11_draw : ∀ e ∈ am_cd mX11_draw, decode (am_bc mX11_draw) e.1 = .ok (e.2.1, e.2.2) := by decide +kernel
set_option maxRecDepth 100000 in
theorem kX11_happens : ∀ e ∈ am_cd mX11_happens, decode (am_bc mX11_happens) e.1 = .ok (e.2.1, e.2.2) := by decide +kernel
set_option maxRecDepth 100000 in
theorem kX11_years : ∀ e ∈ am_cd mX11_years, decode (am_bc mX11_years) e.1 = .ok (e.2.1, e.2.2) := by decide +kernel
set_option maxRecDepth 100000 in
theorem kX11_undo : ∀ e ∈ am_cd mX11_undo, decode (am_bc mX11_undo) e.1 = .ok (e.2.1, e.2.2) := by decide +kernel
set_option maxRecDepth 100000 in
theorem kX11_log : ∀ e ∈ am_cd mX11_log, decode (am_bc mX11_log) e.1 = .ok (e.2.1, e.2.2) := by decide +kernel
set_option maxRecDepth 100000 in
theorem kX11_isPlan : ∀ e ∈ am_cd mX11_isPlan, decode (am_bc mX11_isPlan) e.1 = .ok (e.2.1, e.2.2) := by decide +kernel
set_option maxRecDepth 100000 in
theorem kX11_step : ∀ e ∈ am_cd mX11_step, decode (am_bc mX11_step) e.1 = .ok (e.2.1, e.2.2) := by decide +kernel
set_option maxRecDepth 100000 in
theorem kX11_goPlan : ∀ e ∈ am_cd mX11_goPlan, decode (am_bc mX11_goPlan) e.1 = .ok (e.2.1, e.2.2) := by decide +kernel
set_option maxRecDepth 100000 in
theorem kX11_copy : ∀ e ∈ am_cd mX11_copy, decode (am_bc mX11_copy) e.1 = .ok (e.2.1, e.2.2) := by decide +kernel
set_option maxRecDepth 100000 in
theorem kX11_run : ∀ e ∈ am_cd mX11_run, decode (am_bc mX11_run) e.1 = .ok (e.2.1, e.2.2) := by decide +kernel
set_option maxRecDepth 100000 in
theorem kX11_perform : ∀ e ∈ am_cd mX11_perform, decode (am_bc mX11_perform) e.1 = .ok (e.2.1, e.2.2) := by decide +kernel
set_option maxRecDepth 100000 in
theorem kX11_laysMade : ∀ e ∈ am_cd mX11_laysMade, decode (am_bc mX11_laysMade) e.1 = .ok (e.2.1, e.2.2) := by decide +kernel
set_option maxRecDepth 100000 in
theorem kX11_alike : ∀ e ∈ am_cd mX11_alike, decode (am_bc mX11_alike) e.1 = .ok (e.2.1, e.2.2) := by decide +kernel
set_option maxRecDepth 100000 in
theorem kX11_costOf : ∀ e ∈ am_cd mX11_costOf, decode (am_bc mX11_costOf) e.1 = .ok (e.2.1, e.2.2) := by decide +kernel
set_option maxRecDepth 100000 in
theorem kX11_costAt : ∀ e ∈ am_cd mX11_costAt, decode (am_bc mX11_costAt) e.1 = .ok (e.2.1, e.2.2) := by decide +kernel
set_option maxRecDepth 100000 in
theorem kX11_cost : ∀ e ∈ am_cd mX11_cost, decode (am_bc mX11_cost) e.1 = .ok (e.2.1, e.2.2) := by decide +kernel
set_option maxRecDepth 100000 in
theorem kX11_canLay : ∀ e ∈ am_cd mX11_canLay, decode (am_bc mX11_canLay) e.1 = .ok (e.2.1, e.2.2) := by decide +kernel
set_option maxRecDepth 100000 in
theorem kX11_laysWays : ∀ e ∈ am_cd mX11_laysWays, decode (am_bc mX11_laysWays) e.1 = .ok (e.2.1, e.2.2) := by decide +kernel
set_option maxRecDepth 100000 in
theorem kX11_picks : ∀ e ∈ am_cd mX11_picks, decode (am_bc mX11_picks) e.1 = .ok (e.2.1, e.2.2) := by decide +kernel
set_option maxRecDepth 100000 in
theorem kX11_rows : ∀ e ∈ am_cd mX11_rows, decode (am_bc mX11_rows) e.1 = .ok (e.2.1, e.2.2) := by decide +kernel
set_option maxRecDepth 100000 in
theorem kX11_row : ∀ e ∈ am_cd mX11_row, decode (am_bc mX11_row) e.1 = .ok (e.2.1, e.2.2) := by decide +kernel
set_option maxRecDepth 100000 in
theorem kX11_drawn : ∀ e ∈ am_cd mX11_drawn, decode (am_bc mX11_drawn) e.1 = .ok (e.2.1, e.2.2) := by decide +kernel
