set_option maxRecDepth 100000 in
theorem kX11_laysCosts : ∀ e ∈ am_cd mX11_laysCosts, decode (am_bc mX11_laysCosts) e.1 = .ok (e.2.1, e.2.2) := by decide +kernel
set_option maxRecDepth 100000 in
theorem kX11_cheapest : ∀ e ∈ am_cd mX11_cheapest, decode (am_bc mX11_cheapest) e.1 = .ok (e.2.1, e.2.2) := by decide +kernel
set_option maxRecDepth 100000 in
theorem kX11_places : ∀ e ∈ am_cd mX11_places, decode (am_bc mX11_places) e.1 = .ok (e.2.1, e.2.2) := by decide +kernel
set_option maxRecDepth 100000 in
theorem kX11_needs : ∀ e ∈ am_cd mX11_needs, decode (am_bc mX11_needs) e.1 = .ok (e.2.1, e.2.2) := by decide +kernel
set_option maxRecDepth 100000 in
theorem kX11_sure : ∀ e ∈ am_cd mX11_sure, decode (am_bc mX11_sure) e.1 = .ok (e.2.1, e.2.2) := by decide +kernel
set_option maxRecDepth 100000 in
theorem kX11_leftBy : ∀ e ∈ am_cd mX11_leftBy, decode (am_bc mX11_leftBy) e.1 = .ok (e.2.1, e.2.2) := by decide +kernel
set_option maxRecDepth 100000 in
theorem kX11_knownBy : ∀ e ∈ am_cd mX11_knownBy, decode (am_bc mX11_knownBy) e.1 = .ok (e.2.1, e.2.2) := by decide +kernel
set_option maxRecDepth 100000 in
theorem kX11_takenBy : ∀ e ∈ am_cd mX11_takenBy, decode (am_bc mX11_takenBy) e.1 = .ok (e.2.1, e.2.2) := by decide +kernel
set_option maxRecDepth 100000 in
theorem kX11_areHands : ∀ e ∈ am_cd mX11_areHands, decode (am_bc mX11_areHands) e.1 = .ok (e.2.1, e.2.2) := by decide +kernel
set_option maxRecDepth 100000 in
theorem kX11_alone : ∀ e ∈ am_cd mX11_alone, decode (am_bc mX11_alone) e.1 = .ok (e.2.1, e.2.2) := by decide +kernel
set_option maxRecDepth 100000 in
theorem kX11_stuck : ∀ e ∈ am_cd mX11_stuck, decode (am_bc mX11_stuck) e.1 = .ok (e.2.1, e.2.2) := by decide +kernel
set_option maxRecDepth 100000 in
theorem kX11_team : ∀ e ∈ am_cd mX11_team, decode (am_bc mX11_team) e.1 = .ok (e.2.1, e.2.2) := by decide +kernel
set_option maxRecDepth 100000 in
theorem kX11_lesson : ∀ e ∈ am_cd mX11_lesson, decode (am_bc mX11_lesson) e.1 = .ok (e.2.1, e.2.2) := by decide +kernel
set_option maxRecDepth 100000 in
theorem kX11_laysGame : ∀ e ∈ am_cd mX11_laysGame, decode (am_bc mX11_laysGame) e.1 = .ok (e.2.1, e.2.2) := by decide +kernel
set_option maxRecDepth 100000 in
theorem kX11_game : ∀ e ∈ am_cd mX11_game, decode (am_bc mX11_game) e.1 = .ok (e.2.1, e.2.2) := by decide +kernel
set_option maxRecDepth 100000 in
theorem kX11_odds : ∀ e ∈ am_cd mX11_odds, decode (am_bc mX11_odds) e.1 = .ok (e.2.1, e.2.2) := by decide +kernel
set_option maxRecDepth 100000 in
theorem kX11_seen : ∀ e ∈ am_cd mX11_seen, decode (am_bc mX11_seen) e.1 = .ok (e.2.1, e.2.2) := by decide +kernel
set_option maxRecDepth 100000 in
theorem kX11_firstCost : ∀ e ∈ am_cd mX11_firstCost, decode (am_bc mX11_firstCost) e.1 = .ok (e.2.1, e.2.2) := by decide +kernel
set_option maxRecDepth 100000 in
theorem kX11_argsOf : ∀ e ∈ am_cd mX11_argsOf, decode (am_bc mX11_argsOf) e.1 = .ok (e.2.1, e.2.2) := by decide +kernel
set_option maxRecDepth 100000 in
theorem kX11_args : ∀ e ∈ am_cd mX11_args, decode (am_bc mX11_args) e.1 = .ok (e.2.1, e.2.2) := by decide +kernel
set_option maxRecDepth 100000 in
theorem kX11_ask : ∀ e ∈ am_cd mX11_ask, decode (am_bc mX11_ask) e.1 = .ok (e.2.1, e.2.2) := by decide +kernel
set_option maxRecDepth 100000 in
theorem kX11_upon : ∀ e ∈ am_cd mX11_upon, decode (am_bc mX11_upon) e.1 = .ok (e.2.1, e.2.2) := by decide +kernel
set_option maxRecDepth 100000 in
theorem kX11_high : ∀ e ∈ am_cd mX11_high, decode (am_bc mX11_high) e.1 = .ok (e.2.1, e.2.2) := by decide +kernel
set_option maxRecDepth 100000 in
theorem kX11_partsOf : ∀ e ∈ am_cd mX11_partsOf, decode (am_bc mX11_partsOf) e.1 = .ok (e.2.1, e.2.2) := by decide +kernel
set_option maxRecDepth 100000 in
theorem kX11_ends0 : ∀ e ∈ am_cd mX11_ends0, decode (am_bc mX11_ends0) e.1 = .ok (e.2.1, e.2.2) := by decide +kernel
set_option maxRecDepth 100000 in
theorem kX11_all : ∀ e ∈ am_cd mX11_all, decode (am_bc mX11_all) e.1 = .ok (e.2.1, e.2.2) := by decide +kernel
set_option maxRecDepth 100000 in
theorem kX11_image : ∀ e ∈ am_cd mX11_image, decode (am_bc mX11_image) e.1 = .ok (e.2.1, e.2.2) := by decide +kernel
set_option maxRecDepth 100000 in
theorem kX11_back : ∀ e ∈ am_cd mX11_back, decode (am_bc mX11_back) e.1 = .ok (e.2.1, e.2.2) := by decide +kernel
set_option maxRecDepth 100000 in
theorem kX11_count : ∀ e ∈ am_cd mX11_count, decode (am_bc mX11_count) e.1 = .ok (e.2.1, e.2.2) := by decide +kernel
set_option maxRecDepth 100000 in
theorem kJ6_bitCount_0f7a4 : ∀ e ∈ am_cd mJ6_bitCount_0f7a4, decode (am_bc mJ6_bitCount_0f7a4) e.1 = .ok (e.2.1, e.2.2) := by decide +kernel
set_option maxRecDepth 100000 in
theorem kL_law_0 : ∀ e ∈ ((am_cd mL_law).drop 0).take 50, decode (am_bc mL_law) e.1 = .ok (e.2.1, e.2.2) := by decide +kernel
set_option maxRecDepth 100000 in
theorem kL_law_1 : ∀ e ∈ ((am_cd mL_law).drop 50).take 50, decode (am_bc mL_law) e.1 = .ok (e.2.1, e.2.2) := by decide +kernel
set_option maxRecDepth 100000 in
theorem kL_law_2 : ∀ e ∈ ((am_cd mL_law).drop 100).take 50, decode (am_bc mL_law) e.1 = .ok (e.2.1, e.2.2) := by decide +kernel
set_option maxRecDepth 100000 in
theorem kL_law_3 : ∀ e ∈ ((am_cd mL_law).drop 150).take 50, decode (am_bc mL_law) e.1 = .ok (e.2.1, e.2.2) := by decide +kernel
set_option maxRecDepth 100000 in
theorem kL_law_4 : ∀ e ∈ ((am_cd mL_law).drop 200).take 50, decode (am_bc mL_law) e.1 = .ok (e.2.1, e.2.2) := by decide +kernel
set_option maxRecDepth 100000 in
theorem kL_law_5 : ∀ e ∈ ((am_cd mL_law).drop 250).take 50, decode (am_bc mL_law) e.1 = .ok (e.2.1, e.2.2) := by decide +kernel
set_option maxRecDepth 100000 in
theorem kL_law_6 : ∀ e ∈ ((am_cd mL_law).drop 300).take 50, decode (am_bc mL_law) e.1 = .ok (e.2.1, e.2.2) := by decide +kernel
set_option maxRecDepth 100000 in
theorem kL_law_7 : ∀ e ∈ ((am_cd mL_law).drop 350).take 50, decode (am_bc mL_law) e.1 = .ok (e.2.1, e.2.2) := by decide +kernel
set_option maxRecDepth 100000 in
theorem kL_law_8 : ∀ e ∈ ((am_cd mL_law).drop 400).take 50, decode (am_bc mL_law) e.1 = .ok (e.2.1, e.2.2) := by decide +kernel
set_option maxRecDepth 100000 in
theorem kL_law_9 : ∀ e ∈ ((am_cd mL_law).drop 450).take 50, decode (am_bc mL_law) e.1 = .ok (e.2.1, e.2.2) := by decide +kernel
set_option maxRecDepth 100000 in
theorem kL_law_10 : ∀ e ∈ ((am_cd mL_law).drop 500).take 50, decode (am_bc mL_law) e.1 = .ok (e.2.1, e.2.2) := by decide +kernel
set_option maxRecDepth 100000 in
theorem kL_law_11 : ∀ e ∈ ((am_cd mL_law).drop 550).take 50, decode (am_bc mL_law) e.1 = .ok (e.2.1, e.2.2) := by decide +kernel
set_option maxRecDepth 100000 in
theorem kL_law_12 : ∀ e ∈ ((am_cd mL_law).drop 600).take 50, decode (am_bc mL_law) e.1 = .ok (e.2.1, e.2.2) := by decide +kernel
set_option maxRecDepth 100000 in
theorem kL_law_13 : ∀ e ∈ ((am_cd mL_law).drop 650).take 50, decode (am_bc mL_law) e.1 = .ok (e.2.1, e.2.2) := by decide +kernel
set_option maxRecDepth 100000 in
theorem kL_law_14 : ∀ e ∈ ((am_cd mL_law).drop 700).take 50, decode (am_bc mL_law) e.1 = .ok (e.2.1, e.2.2) := by decide +kernel
set_option maxRecDepth 100000 in
theorem kL_law_15 : ∀ e ∈ ((am_cd mL_law).drop 750).take 50, decode (am_bc mL_law) e.1 = .ok (e.2.1, e.2.2) := by decide +kernel
set_option maxRecDepth 100000 in
theorem kL_law_16 : ∀ e ∈ ((am_cd mL_law).drop 800).take 50, decode (am_bc mL_law) e.1 = .ok (e.2.1, e.2.2) := by decide +kernel
set_option maxRecDepth 100000 in
theorem kL_law_17 : ∀ e ∈ ((am_cd mL_law).drop 850).take 50, decode (am_bc mL_law) e.1 = .ok (e.2.1, e.2.2) := by decide +kernel
set_option maxRecDepth 100000 in
theorem kL_law_18 : ∀ e ∈ ((am_cd mL_law).drop 900).take 50, decode (am_bc mL_law) e.1 = .ok (e.2.1, e.2.2) := by decide +kernel
set_option maxRecDepth 100000 in
theorem kL_law_19 : ∀ e ∈ ((am_cd mL_law).drop 950).take 50, decode (am_bc mL_law) e.1 = .ok (e.2.1, e.2.2) := by decide +kernel
set_option maxRecDepth 100000 in
theorem kL_law_20 : ∀ e ∈ ((am_cd mL_law).drop 1000).take 50, decode (am_bc mL_law) e.1 = .ok (e.2.1, e.2.2) := by decide +kernel
set_option maxRecDepth 100000 in
theorem kL_law_21 : ∀ e ∈ ((am_cd mL_law).drop 1050).take 50, decode (am_bc mL_law) e.1 = .ok (e.2.1, e.2.2) := by decide +kernel
