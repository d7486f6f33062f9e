theorem am_chunks {α : Type} {P : α → Prop} (l : List α) (q : Nat) (hl : l.length ≤ 50 * q) (h : ∀ j, j < q → ∀ e ∈ (l.drop (50 * j)).take 50, P e) : ∀ e ∈ l, P e := by
  intro e he
  obtain ⟨i, hi⟩ := List.getElem?_of_mem he
  have hlt : i < l.length := (List.getElem?_eq_some_iff.mp hi).1
  refine h (i / 50) (by omega) e (List.mem_of_getElem? (i := i % 50) ?_)
  rw [List.getElem?_take, if_pos (by omega), List.getElem?_drop]
  have : 50 * (i / 50) + i % 50 = i := Nat.div_add_mod i 50
  rw [this]
  exact hi
theorem am_gy {y : am_Y} (h1 : ∀ e ∈ am_cd y, decode (am_bc y) e.1 = .ok (e.2.1, e.2.2)) (h2 : (am_cd y).all (fun e => am_il e.2.1 e.2.2) = true) (h3 : am_mx y ≤ 29) (h4 : (am_nm y).cls = am_cls (am_cn y)) : am_Gy y := ⟨fun e he => ⟨h1 e he, List.all_eq_true.mp h2 e he⟩, h3, h4⟩
theorem am_fa0 {α : Type} {P : α → Prop} : ∀ e ∈ ([] : List α), P e := fun _ h => absurd h List.not_mem_nil
theorem am_fa1 {α : Type} {P : α → Prop} {a : α} {l : List α} (h : P a) (hl : ∀ e ∈ l, P e) : ∀ e ∈ a :: l, P e := List.forall_mem_cons.mpr ⟨h, hl⟩
set_option maxRecDepth 100000 in
theorem gyX0_init : am_Gy mX0_init := am_gy kX0_init (by decide +kernel) (by decide) rfl
set_option maxRecDepth 100000 in
theorem gyX0_copyFrom : am_Gy mX0_copyFrom := am_gy kX0_copyFrom (by decide +kernel) (by decide) rfl
set_option maxRecDepth 100000 in
theorem gyX0_has : am_Gy mX0_has := am_gy kX0_has (by decide +kernel) (by decide) rfl
set_option maxRecDepth 100000 in
theorem gyX0_tell : am_Gy mX0_tell := am_gy kX0_tell (by decide +kernel) (by decide) rfl
set_option maxRecDepth 100000 in
theorem gyX0_add : am_Gy mX0_add := am_gy kX0_add (by decide +kernel) (by decide) rfl
set_option maxRecDepth 100000 in
theorem gyX0_drop : am_Gy mX0_drop := am_gy kX0_drop (by decide +kernel) (by decide) rfl
set_option maxRecDepth 100000 in
theorem gyX0_tellsX : am_Gy mX0_tellsX := am_gy kX0_tellsX (by decide +kernel) (by decide) rfl
set_option maxRecDepth 100000 in
theorem gyX0_readFrom : am_Gy mX0_readFrom := am_gy kX0_readFrom (by decide +kernel) (by decide) rfl
set_option maxRecDepth 100000 in
theorem gyX0_readDeed : am_Gy mX0_readDeed := am_gy kX0_readDeed (by decide +kernel) (by decide) rfl
set_option maxRecDepth 100000 in
theorem gyX0_sortOf : am_Gy mX0_sortOf := am_gy kX0_sortOf (by decide +kernel) (by decide) rfl
set_option maxRecDepth 100000 in
theorem gyX0_lastOf : am_Gy mX0_lastOf := am_gy kX0_lastOf (by decide +kernel) (by decide) rfl
set_option maxRecDepth 100000 in
theorem gyX0_timesOf : am_Gy mX0_timesOf := am_gy kX0_timesOf (by decide +kernel) (by decide) rfl
set_option maxRecDepth 100000 in
theorem gyX0_isThere : am_Gy mX0_isThere := am_gy kX0_isThere (by decide +kernel) (by decide) rfl
set_option maxRecDepth 100000 in
theorem gyX0_isHidden : am_Gy mX0_isHidden := am_gy kX0_isHidden (by decide +kernel) (by decide) rfl
set_option maxRecDepth 100000 in
theorem gyX0_kind : am_Gy mX0_kind := am_gy kX0_kind (by decide +kernel) (by decide) rfl
set_option maxRecDepth 100000 in
theorem gyX0_lastColour : am_Gy mX0_lastColour := am_gy kX0_lastColour (by decide +kernel) (by decide) rfl
set_option maxRecDepth 100000 in
theorem gyX0_under : am_Gy mX0_under := am_gy kX0_under (by decide +kernel) (by decide) rfl
set_option maxRecDepth 100000 in
theorem gyX0_over : am_Gy mX0_over := am_gy kX0_over (by decide +kernel) (by decide) rfl
set_option maxRecDepth 100000 in
theorem gyX0_storeys : am_Gy mX0_storeys := am_gy kX0_storeys (by decide +kernel) (by decide) rfl
set_option maxRecDepth 100000 in
theorem gyX0_height : am_Gy mX0_height := am_gy kX0_height (by decide +kernel) (by decide) rfl
set_option maxRecDepth 100000 in
theorem gyX0_partsThere : am_Gy mX0_partsThere := am_gy kX0_partsThere (by decide +kernel) (by decide) rfl
set_option maxRecDepth 100000 in
theorem gyX0_looseParts : am_Gy mX0_looseParts := am_gy kX0_looseParts (by decide +kernel) (by decide) rfl
set_option maxRecDepth 100000 in
theorem gyX0_canBe : am_Gy mX0_canBe := am_gy kX0_canBe (by decide +kernel) (by decide) rfl
set_option maxRecDepth 100000 in
theorem gyX0_standsOn : am_Gy mX0_standsOn := am_gy kX0_standsOn (by decide +kernel) (by decide) rfl
set_option maxRecDepth 100000 in
theorem gyX0_leansOn : am_Gy mX0_leansOn := am_gy kX0_leansOn (by decide +kernel) (by decide) rfl
set_option maxRecDepth 100000 in
theorem gyX0_canBeTakenBack : am_Gy mX0_canBeTakenBack := am_gy kX0_canBeTakenBack (by decide +kernel) (by decide) rfl
set_option maxRecDepth 100000 in
theorem gyX0_follow : am_Gy mX0_follow := am_gy kX0_follow (by decide +kernel) (by decide) rfl
set_option maxRecDepth 100000 in
theorem gyX0_looksLike : am_Gy mX0_looksLike := am_gy kX0_looksLike (by decide +kernel) (by decide) rfl
set_option maxRecDepth 100000 in
theorem gyX0_coatsAsNumber : am_Gy mX0_coatsAsNumber := am_gy kX0_coatsAsNumber (by decide +kernel) (by decide) rfl
set_option maxRecDepth 100000 in
theorem gyX1_init : am_Gy mX1_init := am_gy kX1_init (by decide +kernel) (by decide) rfl
set_option maxRecDepth 100000 in
theorem gyX1_below : am_Gy mX1_below := am_gy kX1_below (by decide +kernel) (by decide) rfl
set_option maxRecDepth 100000 in
theorem gyX2_init : am_Gy mX2_init := am_gy kX2_init (by decide +kernel) (by decide) rfl
set_option maxRecDepth 100000 in
theorem gyX2_copyFrom : am_Gy mX2_copyFrom := am_gy kX2_copyFrom (by decide +kernel) (by decide) rfl
set_option maxRecDepth 100000 in
theorem gyX2_addNumber : am_Gy mX2_addNumber := am_gy kX2_addNumber (by decide +kernel) (by decide) rfl
set_option maxRecDepth 100000 in
theorem gyX2_addLetter : am_Gy mX2_addLetter := am_gy kX2_addLetter (by decide +kernel) (by decide) rfl
set_option maxRecDepth 100000 in
theorem gyX2_addSign : am_Gy mX2_addSign := am_gy kX2_addSign (by decide +kernel) (by decide) rfl
set_option maxRecDepth 100000 in
theorem gyX2_addStop : am_Gy mX2_addStop := am_gy kX2_addStop (by decide +kernel) (by decide) rfl
set_option maxRecDepth 100000 in
theorem gyX2_addQuestion : am_Gy mX2_addQuestion := am_gy kX2_addQuestion (by decide +kernel) (by decide) rfl
set_option maxRecDepth 100000 in
theorem gyX2_setNextClause : am_Gy mX2_setNextClause := am_gy kX2_setNextClause (by decide +kernel) (by decide) rfl
set_option maxRecDepth 100000 in
theorem gyX2_worth : am_Gy mX2_worth := am_gy kX2_worth (by decide +kernel) (by decide) rfl
set_option maxRecDepth 100000 in
theorem gyX2_letterOf : am_Gy mX2_letterOf := am_gy kX2_letterOf (by decide +kernel) (by decide) rfl
set_option maxRecDepth 100000 in
theorem gyX2_joined : am_Gy mX2_joined := am_gy kX2_joined (by decide +kernel) (by decide) rfl
set_option maxRecDepth 100000 in
theorem gyX3_init : am_Gy mX3_init := am_gy kX3_init (by decide +kernel) (by decide) rfl
set_option maxRecDepth 100000 in
theorem gyX3_keep : am_Gy mX3_keep := am_gy kX3_keep (by decide +kernel) (by decide) rfl
set_option maxRecDepth 100000 in
theorem gyX3_priceOf : am_Gy mX3_priceOf := am_gy kX3_priceOf (by decide +kernel) (by decide) rfl
set_option maxRecDepth 100000 in
theorem gyX4_init : am_Gy mX4_init := am_gy kX4_init (by decide +kernel) (by decide) rfl
set_option maxRecDepth 100000 in
theorem gyX4_readFrom : am_Gy mX4_readFrom := am_gy kX4_readFrom (by decide +kernel) (by decide) rfl
set_option maxRecDepth 100000 in
theorem gyX4_readClause : am_Gy mX4_readClause := am_gy kX4_readClause (by decide +kernel) (by decide) rfl
set_option maxRecDepth 100000 in
theorem gyX4_readCondition : am_Gy mX4_readCondition := am_gy kX4_readCondition (by decide +kernel) (by decide) rfl
set_option maxRecDepth 100000 in
theorem gyX4_readTruth : am_Gy mX4_readTruth := am_gy kX4_readTruth (by decide +kernel) (by decide) rfl
set_option maxRecDepth 100000 in
theorem gyX4_readUnit : am_Gy mX4_readUnit := am_gy kX4_readUnit (by decide +kernel) (by decide) rfl
set_option maxRecDepth 100000 in
theorem gyX4_readCompared : am_Gy mX4_readCompared := am_gy kX4_readCompared (by decide +kernel) (by decide) rfl
set_option maxRecDepth 100000 in
theorem gyX4_isCompare : am_Gy mX4_isCompare := am_gy kX4_isCompare (by decide +kernel) (by decide) rfl
set_option maxRecDepth 100000 in
theorem gyX4_readSum : am_Gy mX4_readSum := am_gy kX4_readSum (by decide +kernel) (by decide) rfl
set_option maxRecDepth 100000 in
theorem gyX4_readTerm : am_Gy mX4_readTerm := am_gy kX4_readTerm (by decide +kernel) (by decide) rfl
set_option maxRecDepth 100000 in
theorem gyX4_readAtom : am_Gy mX4_readAtom := am_gy kX4_readAtom (by decide +kernel) (by decide) rfl
set_option maxRecDepth 100000 in
theorem gyX4_letterOf : am_Gy mX4_letterOf := am_gy kX4_letterOf (by decide +kernel) (by decide) rfl
set_option maxRecDepth 100000 in
theorem gyX5_init : am_Gy mX5_init := am_gy kX5_init (by decide +kernel) (by decide) rfl
set_option maxRecDepth 100000 in
theorem gyX5_look : am_Gy mX5_look := am_gy kX5_look (by decide +kernel) (by decide) rfl
set_option maxRecDepth 100000 in
theorem gyX5_everything : am_Gy mX5_everything := am_gy kX5_everything (by decide +kernel) (by decide) rfl
set_option maxRecDepth 100000 in
theorem gyX5_lasts : am_Gy mX5_lasts := am_gy kX5_lasts (by decide +kernel) (by decide) rfl
set_option maxRecDepth 100000 in
theorem gyX5_firsts : am_Gy mX5_firsts := am_gy kX5_firsts (by decide +kernel) (by decide) rfl
set_option maxRecDepth 100000 in
theorem gyX5_fixed : am_Gy mX5_fixed := am_gy kX5_fixed (by decide +kernel) (by decide) rfl
set_option maxRecDepth 100000 in
theorem gyX5_earliest : am_Gy mX5_earliest := am_gy kX5_earliest (by decide +kernel) (by decide) rfl
set_option maxRecDepth 100000 in
theorem gyX5_latest : am_Gy mX5_latest := am_gy kX5_latest (by decide +kernel) (by decide) rfl
set_option maxRecDepth 100000 in
theorem gyX5_leftBy : am_Gy mX5_leftBy := am_gy kX5_leftBy (by decide +kernel) (by decide) rfl
set_option maxRecDepth 100000 in
theorem gyX5_canFollow : am_Gy mX5_canFollow := am_gy kX5_canFollow (by decide +kernel) (by decide) rfl
set_option maxRecDepth 100000 in
theorem gyX5_canLeave : am_Gy mX5_canLeave := am_gy kX5_canLeave (by decide +kernel) (by decide) rfl
set_option maxRecDepth 100000 in
theorem gyX5_markWhole : am_Gy mX5_markWhole := am_gy kX5_markWhole (by decide +kernel) (by decide) rfl
set_option maxRecDepth 100000 in
theorem gyX5_countWays : am_Gy mX5_countWays := am_gy kX5_countWays (by decide +kernel) (by decide) rfl
set_option maxRecDepth 100000 in
theorem gyX5_waysFrom : am_Gy mX5_waysFrom := am_gy kX5_waysFrom (by decide +kernel) (by decide) rfl
set_option maxRecDepth 100000 in
theorem gyX5_deedOfWay : am_Gy mX5_deedOfWay := am_gy kX5_deedOfWay (by decide +kernel) (by decide) rfl
set_option maxRecDepth 100000 in
theorem gyX5_findLeast : am_Gy mX5_findLeast := am_gy kX5_findLeast (by decide +kernel) (by decide) rfl
set_option maxRecDepth 100000 in
theorem gyX5_setPrices : am_Gy mX5_setPrices := am_gy kX5_setPrices (by decide +kernel) (by decide) rfl
set_option maxRecDepth 100000 in
theorem gyX5_priceAt : am_Gy mX5_priceAt := am_gy kX5_priceAt (by decide +kernel) (by decide) rfl
set_option maxRecDepth 100000 in
theorem gyX5_setLeasts : am_Gy mX5_setLeasts := am_gy kX5_setLeasts (by decide +kernel) (by decide) rfl
set_option maxRecDepth 100000 in
theorem gyX5_sortsOfLatest : am_Gy mX5_sortsOfLatest := am_gy kX5_sortsOfLatest (by decide +kernel) (by decide) rfl
set_option maxRecDepth 100000 in
theorem gyX5_costThrough : am_Gy mX5_costThrough := am_gy kX5_costThrough (by decide +kernel) (by decide) rfl
set_option maxRecDepth 100000 in
theorem gyX5_deedOfLeast : am_Gy mX5_deedOfLeast := am_gy kX5_deedOfLeast (by decide +kernel) (by decide) rfl
set_option maxRecDepth 100000 in
theorem gyX5_playGame : am_Gy mX5_playGame := am_gy kX5_playGame (by decide +kernel) (by decide) rfl
set_option maxRecDepth 100000 in
theorem gyX5_firstMove : am_Gy mX5_firstMove := am_gy kX5_firstMove (by decide +kernel) (by decide) rfl
set_option maxRecDepth 100000 in
theorem gyX5_bestMove : am_Gy mX5_bestMove := am_gy kX5_bestMove (by decide +kernel) (by decide) rfl
set_option maxRecDepth 100000 in
theorem gyX5_moveWorth : am_Gy mX5_moveWorth := am_gy kX5_moveWorth (by decide +kernel) (by decide) rfl
set_option maxRecDepth 100000 in
theorem gyX6_init : am_Gy mX6_init := am_gy kX6_init (by decide +kernel) (by decide) rfl
set_option maxRecDepth 100000 in
theorem gyX6_clear : am_Gy mX6_clear := am_gy kX6_clear (by decide +kernel) (by decide) rfl
set_option maxRecDepth 100000 in
theorem gyX6_save : am_Gy mX6_save := am_gy kX6_save (by decide +kernel) (by decide) rfl
set_option maxRecDepth 100000 in
theorem gyX6_restore : am_Gy mX6_restore := am_gy kX6_restore (by decide +kernel) (by decide) rfl
set_option maxRecDepth 100000 in
theorem gyX7_init : am_Gy mX7_init := am_gy kX7_init (by decide +kernel) (by decide) rfl
set_option maxRecDepth 100000 in
theorem gyX7_add : am_Gy mX7_add := am_gy kX7_add (by decide +kernel) (by decide) rfl
set_option maxRecDepth 100000 in
theorem gyX7_fitting : am_Gy mX7_fitting := am_gy kX7_fitting (by decide +kernel) (by decide) rfl
set_option maxRecDepth 100000 in
theorem gyX7_fits : am_Gy mX7_fits := am_gy kX7_fits (by decide +kernel) (by decide) rfl
set_option maxRecDepth 100000 in
theorem gyX7_bestQuestion : am_Gy mX7_bestQuestion := am_gy kX7_bestQuestion (by decide +kernel) (by decide) rfl
set_option maxRecDepth 100000 in
theorem gyX7_moreThanLess : am_Gy mX7_moreThanLess := am_gy kX7_moreThanLess (by decide +kernel) (by decide) rfl
set_option maxRecDepth 100000 in
theorem gyX8_init : am_Gy mX8_init := am_gy kX8_init (by decide +kernel) (by decide) rfl
set_option maxRecDepth 100000 in
theorem gyX8_copyFrom : am_Gy mX8_copyFrom := am_gy kX8_copyFrom (by decide +kernel) (by decide) rfl
set_option maxRecDepth 100000 in
theorem gyX8_readFrom : am_Gy mX8_readFrom := am_gy kX8_readFrom (by decide +kernel) (by decide) rfl
set_option maxRecDepth 100000 in
theorem gyX8_readRules : am_Gy mX8_readRules := am_gy kX8_readRules (by decide +kernel) (by decide) rfl
set_option maxRecDepth 100000 in
theorem gyX8_readApprentice : am_Gy mX8_readApprentice := am_gy kX8_readApprentice (by decide +kernel) (by decide) rfl
set_option maxRecDepth 100000 in
theorem gyX8_hasApprentice : am_Gy mX8_hasApprentice := am_gy kX8_hasApprentice (by decide +kernel) (by decide) rfl
set_option maxRecDepth 100000 in
theorem gyX8_knows : am_Gy mX8_knows := am_gy kX8_knows (by decide +kernel) (by decide) rfl
set_option maxRecDepth 100000 in
theorem gyX8_knownTogether : am_Gy mX8_knownTogether := am_gy kX8_knownTogether (by decide +kernel) (by decide) rfl
set_option maxRecDepth 100000 in
theorem gyX8_thoseInRoom : am_Gy mX8_thoseInRoom := am_gy kX8_thoseInRoom (by decide +kernel) (by decide) rfl
set_option maxRecDepth 100000 in
theorem gyX8_doDeed : am_Gy mX8_doDeed := am_gy kX8_doDeed (by decide +kernel) (by decide) rfl
set_option maxRecDepth 100000 in
theorem gyX8_takeBack : am_Gy mX8_takeBack := am_gy kX8_takeBack (by decide +kernel) (by decide) rfl
set_option maxRecDepth 100000 in
theorem gyX8_note : am_Gy mX8_note := am_gy kX8_note (by decide +kernel) (by decide) rfl
set_option maxRecDepth 100000 in
theorem gyX8_logLength : am_Gy mX8_logLength := am_gy kX8_logLength (by decide +kernel) (by decide) rfl
set_option maxRecDepth 100000 in
theorem gyX9_init : am_Gy mX9_init := am_gy kX9_init (by decide +kernel) (by decide) rfl
set_option maxRecDepth 100000 in
theorem gyX9_signsOf : am_Gy mX9_signsOf := am_gy kX9_signsOf (by decide +kernel) (by decide) rfl
set_option maxRecDepth 100000 in
theorem gyX9_append : am_Gy mX9_append := am_gy kX9_append (by decide +kernel) (by decide) rfl
set_option maxRecDepth 100000 in
theorem gyX9_peek : am_Gy mX9_peek := am_gy kX9_peek (by decide +kernel) (by decide) rfl
set_option maxRecDepth 100000 in
theorem gyX9_accept : am_Gy mX9_accept := am_gy kX9_accept (by decide +kernel) (by decide) rfl
set_option maxRecDepth 100000 in
theorem gyX9_isDigit : am_Gy mX9_isDigit := am_gy kX9_isDigit (by decide +kernel) (by decide) rfl
set_option maxRecDepth 100000 in
theorem gyX9_readDigit : am_Gy mX9_readDigit := am_gy kX9_readDigit (by decide +kernel) (by decide) rfl
set_option maxRecDepth 100000 in
theorem gyX9_readNumber : am_Gy mX9_readNumber := am_gy kX9_readNumber (by decide +kernel) (by decide) rfl
set_option maxRecDepth 100000 in
theorem gyX9_readBounded : am_Gy mX9_readBounded := am_gy kX9_readBounded (by decide +kernel) (by decide) rfl
set_option maxRecDepth 100000 in
theorem gyX10_init : am_Gy mX10_init := am_gy kX10_init (by decide +kernel) (by decide) rfl
set_option maxRecDepth 100000 in
theorem gyX10_feed : am_Gy mX10_feed := am_gy kX10_feed (by decide +kernel) (by decide) rfl
set_option maxRecDepth 100000 in
theorem gyX10_end : am_Gy mX10_end := am_gy kX10_end (by decide +kernel) (by decide) rfl
set_option maxRecDepth 100000 in
theorem gyX10_fault : am_Gy mX10_fault := am_gy kX10_fault (by decide +kernel) (by decide) rfl
set_option maxRecDepth 100000 in
theorem gyX10_text : am_Gy mX10_text := am_gy kX10_text (by decide +kernel) (by decide) rfl
set_option maxRecDepth 100000 in
theorem gyX10_reads : am_Gy mX10_reads := am_gy kX10_reads (by decide +kernel) (by decide) rfl
set_option maxRecDepth 100000 in
theorem gyX10_openWorkshop : am_Gy mX10_openWorkshop := am_gy kX10_openWorkshop (by decide +kernel) (by decide) rfl
set_option maxRecDepth 100000 in
theorem gyX10_keepMaking : am_Gy mX10_keepMaking := am_gy kX10_keepMaking (by decide +kernel) (by decide) rfl
set_option maxRecDepth 100000 in
theorem gyX10_shape : am_Gy mX10_shape := am_gy kX10_shape (by decide +kernel) (by decide) rfl
set_option maxRecDepth 100000 in
theorem gyX10_deed : am_Gy mX10_deed := am_gy kX10_deed (by decide +kernel) (by decide) rfl
set_option maxRecDepth 100000 in
theorem gyX10_law : am_Gy mX10_law := am_gy kX10_law (by decide +kernel) (by decide) rfl
set_option maxRecDepth 100000 in
theorem gyX10_haste : am_Gy mX10_haste := am_gy kX10_haste (by decide +kernel) (by decide) rfl
set_option maxRecDepth 100000 in
theorem gyX10_make : am_Gy mX10_make := am_gy kX10_make (by decide +kernel) (by decide) rfl
set_option maxRecDepth 100000 in
theorem gyX10_undoes : am_Gy mX10_undoes := am_gy kX10_undoes (by decide +kernel) (by decide) rfl
set_option maxRecDepth 100000 in
theorem gyX10_takes : am_Gy mX10_takes := am_gy kX10_takes (by decide +kernel) (by decide) rfl
set_option maxRecDepth 100000 in
theorem gyX10_enter : am_Gy mX10_enter := am_gy kX10_enter (by decide +kernel) (by decide) rfl
set_option maxRecDepth 100000 in
theorem gyX10_forgets : am_Gy mX10_forgets := am_gy kX10_forgets (by decide +kernel) (by decide) rfl
set_option maxRecDepth 100000 in
theorem gyX10_sell : am_Gy mX10_sell := am_gy kX10_sell (by decide +kernel) (by decide) rfl
set_option maxRecDepth 100000 in
theorem gyX10_years : am_Gy mX10_years := am_gy kX10_years (by decide +kernel) (by decide) rfl
set_option maxRecDepth 100000 in
theorem gyX10_undo : am_Gy mX10_undo := am_gy kX10_undo (by decide +kernel) (by decide) rfl
set_option maxRecDepth 100000 in
theorem gyX10_perform : am_Gy mX10_perform := am_gy kX10_perform (by decide +kernel) (by decide) rfl
set_option maxRecDepth 100000 in
theorem gyX10_isOpen : am_Gy mX10_isOpen := am_gy kX10_isOpen (by decide +kernel) (by decide) rfl
set_option maxRecDepth 100000 in
theorem gyX10_canAct : am_Gy mX10_canAct := am_gy kX10_canAct (by decide +kernel) (by decide) rfl
set_option maxRecDepth 100000 in
theorem gyX10_beginAct : am_Gy mX10_beginAct := am_gy kX10_beginAct (by decide +kernel) (by decide) rfl
set_option maxRecDepth 100000 in
theorem gyX10_takeBackByDraw : am_Gy mX10_takeBackByDraw := am_gy kX10_takeBackByDraw (by decide +kernel) (by decide) rfl
set_option maxRecDepth 100000 in
theorem gyX10_doByDraw : am_Gy mX10_doByDraw := am_gy kX10_doByDraw (by decide +kernel) (by decide) rfl
set_option maxRecDepth 100000 in
theorem gyX10_within : am_Gy mX10_within := am_gy kX10_within (by decide +kernel) (by decide) rfl
set_option maxRecDepth 100000 in
theorem gyX10_isSort : am_Gy mX10_isSort := am_gy kX10_isSort (by decide +kernel) (by decide) rfl
set_option maxRecDepth 100000 in
theorem gyX10_isMaking : am_Gy mX10_isMaking := am_gy kX10_isMaking (by decide +kernel) (by decide) rfl
set_option maxRecDepth 100000 in
theorem gyX10_log : am_Gy mX10_log := am_gy kX10_log (by decide +kernel) (by decide) rfl
set_option maxRecDepth 100000 in
theorem gyX10_step : am_Gy mX10_step := am_gy kX10_step (by decide +kernel) (by decide) rfl
set_option maxRecDepth 100000 in
theorem gyX10_run : am_Gy mX10_run := am_gy kX10_run (by decide +kernel) (by decide) rfl
set_option maxRecDepth 100000 in
theorem gyX10_alike : am_Gy mX10_alike := am_gy kX10_alike (by decide +kernel) (by decide) rfl
set_option maxRecDepth 100000 in
theorem gyX10_cost : am_Gy mX10_cost := am_gy kX10_cost (by decide +kernel) (by decide) rfl
set_option maxRecDepth 100000 in
theorem gyX10_rows : am_Gy mX10_rows := am_gy kX10_rows (by decide +kernel) (by decide) rfl
set_option maxRecDepth 100000 in
theorem gyX10_row : am_Gy mX10_row := am_gy kX10_row (by decide +kernel) (by decide) rfl
set_option maxRecDepth 100000 in
theorem gyX10_drawn : am_Gy mX10_drawn := am_gy kX10_drawn (by decide +kernel) (by decide) rfl
set_option maxRecDepth 100000 in
theorem gyX10_cheapest : am_Gy mX10_cheapest := am_gy kX10_cheapest (by decide +kernel) (by decide) rfl
set_option maxRecDepth 100000 in
theorem gyX10_places : am_Gy mX10_places := am_gy kX10_places (by decide +kernel) (by decide) rfl
set_option maxRecDepth 100000 in
theorem gyX10_needs : am_Gy mX10_needs := am_gy kX10_needs (by decide +kernel) (by decide) rfl
set_option maxRecDepth 100000 in
theorem gyX10_sure : am_Gy mX10_sure := am_gy kX10_sure (by decide +kernel) (by decide) rfl
set_option maxRecDepth 100000 in
theorem gyX10_alone : am_Gy mX10_alone := am_gy kX10_alone (by decide +kernel) (by decide) rfl
set_option maxRecDepth 100000 in
theorem gyX10_stuck : am_Gy mX10_stuck := am_gy kX10_stuck (by decide +kernel) (by decide) rfl
set_option maxRecDepth 100000 in
theorem gyX10_team : am_Gy mX10_team := am_gy kX10_team (by decide +kernel) (by decide) rfl
set_option maxRecDepth 100000 in
theorem gyX10_lesson : am_Gy mX10_lesson := am_gy kX10_lesson (by decide +kernel) (by decide) rfl
set_option maxRecDepth 100000 in
theorem gyX10_game : am_Gy mX10_game := am_gy kX10_game (by decide +kernel) (by decide) rfl
set_option maxRecDepth 100000 in
theorem gyX10_odds : am_Gy mX10_odds := am_gy kX10_odds (by decide +kernel) (by decide) rfl
set_option maxRecDepth 100000 in
theorem gyX10_seen : am_Gy mX10_seen := am_gy kX10_seen (by decide +kernel) (by decide) rfl
set_option maxRecDepth 100000 in
theorem gyX10_args : am_Gy mX10_args := am_gy kX10_args (by decide +kernel) (by decide) rfl
set_option maxRecDepth 100000 in
theorem gyX10_ask : am_Gy mX10_ask := am_gy kX10_ask (by decide +kernel) (by decide) rfl
set_option maxRecDepth 100000 in
theorem gyX10_upon : am_Gy mX10_upon := am_gy kX10_upon (by decide +kernel) (by decide) rfl
set_option maxRecDepth 100000 in
theorem gyX10_all : am_Gy mX10_all := am_gy kX10_all (by decide +kernel) (by decide) rfl
set_option maxRecDepth 100000 in
theorem gyX10_image : am_Gy mX10_image := am_gy kX10_image (by decide +kernel) (by decide) rfl
set_option maxRecDepth 100000 in
theorem gyX10_back : am_Gy mX10_back := am_gy kX10_back (by decide +kernel) (by decide) rfl
set_option maxRecDepth 100000 in
theorem gyX10_count : am_Gy mX10_count := am_gy kX10_count (by decide +kernel) (by decide) rfl
set_option maxRecDepth 100000 in
theorem gyX11_init : am_Gy mX11_init := am_gy kX11_init (by decide +kernel) (by decide) rfl
set_option maxRecDepth 100000 in
theorem gyX11_thrown : am_Gy mX11_thrown := am_gy kX11_thrown (by decide +kernel) (by decide) rfl
set_option maxRecDepth 100000 in
theorem gyX11_isIn : am_Gy mX11_isIn := am_gy kX11_isIn (by decide +kernel) (by decide) rfl
set_option maxRecDepth 100000 in
theorem gyX11_has : am_Gy mX11_has := am_gy kX11_has (by decide +kernel) (by decide) rfl
set_option maxRecDepth 100000 in
theorem gyX11_isAmong : am_Gy mX11_isAmong := am_gy kX11_isAmong (by decide +kernel) (by decide) rfl
set_option maxRecDepth 100000 in
theorem gyX11_bytesIn : am_Gy mX11_bytesIn := am_gy kX11_bytesIn (by decide +kernel) (by decide) rfl
set_option maxRecDepth 100000 in
theorem gyX11_put : am_Gy mX11_put := am_gy kX11_put (by decide +kernel) (by decide) rfl
set_option maxRecDepth 100000 in
theorem gyX11_feed : am_Gy mX11_feed := am_gy kX11_feed (by decide +kernel) (by decide) rfl
set_option maxRecDepth 100000 in
theorem gyX11_end : am_Gy mX11_end := am_gy kX11_end (by decide +kernel) (by decide) rfl
set_option maxRecDepth 100000 in
theorem gyX11_look : am_Gy mX11_look := am_gy kX11_look (by decide +kernel) (by decide) rfl
set_option maxRecDepth 100000 in
theorem gyX11_fails : am_Gy mX11_fails := am_gy kX11_fails (by decide +kernel) (by decide) rfl
set_option maxRecDepth 100000 in
theorem gyX11_goesIn : am_Gy mX11_goesIn := am_gy kX11_goesIn (by decide +kernel) (by decide) rfl
set_option maxRecDepth 100000 in
theorem gyX11_takes : am_Gy mX11_takes := am_gy kX11_takes (by decide +kernel) (by decide) rfl
set_option maxRecDepth 100000 in
theorem gyX11_isDigit : am_Gy mX11_isDigit := am_gy kX11_isDigit (by decide +kernel) (by decide) rfl
set_option maxRecDepth 100000 in
theorem gyX11_within : am_Gy mX11_within := am_gy kX11_within (by decide +kernel) (by decide) rfl
set_option maxRecDepth 100000 in
theorem gyX11_atom : am_Gy mX11_atom := am_gy kX11_atom (by decide +kernel) (by decide) rfl
set_option maxRecDepth 100000 in
theorem gyX11_term : am_Gy mX11_term := am_gy kX11_term (by decide +kernel) (by decide) rfl
set_option maxRecDepth 100000 in
theorem gyX11_sum : am_Gy mX11_sum := am_gy kX11_sum (by decide +kernel) (by decide) rfl
set_option maxRecDepth 100000 in
theorem gyX11_isSign : am_Gy mX11_isSign := am_gy kX11_isSign (by decide +kernel) (by decide) rfl
set_option maxRecDepth 100000 in
theorem gyX11_compares : am_Gy mX11_compares := am_gy kX11_compares (by decide +kernel) (by decide) rfl
set_option maxRecDepth 100000 in
theorem gyX11_unit : am_Gy mX11_unit := am_gy kX11_unit (by decide +kernel) (by decide) rfl
set_option maxRecDepth 100000 in
theorem gyX11_part : am_Gy mX11_part := am_gy kX11_part (by decide +kernel) (by decide) rfl
set_option maxRecDepth 100000 in
theorem gyX11_condition : am_Gy mX11_condition := am_gy kX11_condition (by decide +kernel) (by decide) rfl
set_option maxRecDepth 100000 in
theorem gyX11_clause : am_Gy mX11_clause := am_gy kX11_clause (by decide +kernel) (by decide) rfl
set_option maxRecDepth 100000 in
theorem gyX11_starts : am_Gy mX11_starts := am_gy kX11_starts (by decide +kernel) (by decide) rfl
set_option maxRecDepth 100000 in
theorem gyX11_goThrough : am_Gy mX11_goThrough := am_gy kX11_goThrough (by decide +kernel) (by decide) rfl
set_option maxRecDepth 100000 in
theorem gyX11_here : am_Gy mX11_here := am_gy kX11_here (by decide +kernel) (by decide) rfl
set_option maxRecDepth 100000 in
theorem gyX11_spotOf : am_Gy mX11_spotOf := am_gy kX11_spotOf (by decide +kernel) (by decide) rfl
set_option maxRecDepth 100000 in
theorem gyX11_number : am_Gy mX11_number := am_gy kX11_number (by decide +kernel) (by decide) rfl
set_option maxRecDepth 100000 in
theorem gyX11_readRules : am_Gy mX11_readRules := am_gy kX11_readRules (by decide +kernel) (by decide) rfl
set_option maxRecDepth 100000 in
theorem gyX11_readApprentice : am_Gy mX11_readApprentice := am_gy kX11_readApprentice (by decide +kernel) (by decide) rfl
set_option maxRecDepth 100000 in
theorem gyX11_readClause : am_Gy mX11_readClause := am_gy kX11_readClause (by decide +kernel) (by decide) rfl
set_option maxRecDepth 100000 in
theorem gyX11_readWorkshop : am_Gy mX11_readWorkshop := am_gy kX11_readWorkshop (by decide +kernel) (by decide) rfl
set_option maxRecDepth 100000 in
theorem gyX11_digit : am_Gy mX11_digit := am_gy kX11_digit (by decide +kernel) (by decide) rfl
set_option maxRecDepth 100000 in
theorem gyX11_hasX : am_Gy mX11_hasX := am_gy kX11_hasX (by decide +kernel) (by decide) rfl
set_option maxRecDepth 100000 in
theorem gyX11_readStep : am_Gy mX11_readStep := am_gy kX11_readStep (by decide +kernel) (by decide) rfl
set_option maxRecDepth 100000 in
theorem gyX11_readPlan : am_Gy mX11_readPlan := am_gy kX11_readPlan (by decide +kernel) (by decide) rfl
set_option maxRecDepth 100000 in
theorem gyX11_fault : am_Gy mX11_fault := am_gy kX11_fault (by decide +kernel) (by decide) rfl
set_option maxRecDepth 100000 in
theorem gyX11_text : am_Gy mX11_text := am_gy (am_chunks (am_cd mX11_text) 4 (by decide) (fun j hj => by
  match j, hj with
  | 0, _ => exact kX11_text_0
  | 1, _ => exact kX11_text_1
  | 2, _ => exact kX11_text_2
  | 3, _ => exact kX11_text_3
  | j + 4, hj => exact absurd hj (by omega))) (by decide +kernel) (by decide) rfl
set_option maxRecDepth 100000 in
theorem gyX11_stands : am_Gy mX11_stands := am_gy kX11_stands (by decide +kernel) (by decide) rfl
set_option maxRecDepth 100000 in
theorem gyX11_upon0 : am_Gy mX11_upon0 := am_gy kX11_upon0 (by decide +kernel) (by decide) rfl
set_option maxRecDepth 100000 in
theorem gyX11_isPart : am_Gy mX11_isPart := am_gy kX11_isPart (by decide +kernel) (by decide) rfl
set_option maxRecDepth 100000 in
theorem gyX11_isThere : am_Gy mX11_isThere := am_gy kX11_isThere (by decide +kernel) (by decide) rfl
set_option maxRecDepth 100000 in
theorem gyX11_doesStandOn : am_Gy mX11_doesStandOn := am_gy kX11_doesStandOn (by decide +kernel) (by decide) rfl
set_option maxRecDepth 100000 in
theorem gyX11_canDo : am_Gy mX11_canDo := am_gy kX11_canDo (by decide +kernel) (by decide) rfl
set_option maxRecDepth 100000 in
theorem gyX11_does : am_Gy mX11_does := am_gy kX11_does (by decide +kernel) (by decide) rfl
set_option maxRecDepth 100000 in
theorem gyX11_gone : am_Gy mX11_gone := am_gy kX11_gone (by decide +kernel) (by decide) rfl
set_option maxRecDepth 100000 in
theorem gyX11_needs0 : am_Gy mX11_needs0 := am_gy kX11_needs0 (by decide +kernel) (by decide) rfl
set_option maxRecDepth 100000 in
theorem gyX11_laysNeeds : am_Gy mX11_laysNeeds := am_gy kX11_laysNeeds (by decide +kernel) (by decide) rfl
set_option maxRecDepth 100000 in
theorem gyX11_isDeed : am_Gy mX11_isDeed := am_gy kX11_isDeed (by decide +kernel) (by decide) rfl
set_option maxRecDepth 100000 in
theorem gyX11_isHand : am_Gy mX11_isHand := am_gy kX11_isHand (by decide +kernel) (by decide) rfl
set_option maxRecDepth 100000 in
theorem gyX11_isSort : am_Gy mX11_isSort := am_gy kX11_isSort (by decide +kernel) (by decide) rfl
set_option maxRecDepth 100000 in
theorem gyX11_apprentice : am_Gy mX11_apprentice := am_gy kX11_apprentice (by decide +kernel) (by decide) rfl
set_option maxRecDepth 100000 in
theorem gyX11_shape : am_Gy mX11_shape := am_gy kX11_shape (by decide +kernel) (by decide) rfl
set_option maxRecDepth 100000 in
theorem gyX11_deed : am_Gy mX11_deed := am_gy kX11_deed (by decide +kernel) (by decide) rfl
set_option maxRecDepth 100000 in
theorem gyX11_law : am_Gy mX11_law := am_gy kX11_law (by decide +kernel) (by decide) rfl
set_option maxRecDepth 100000 in
theorem gyX11_haste : am_Gy mX11_haste := am_gy kX11_haste (by decide +kernel) (by decide) rfl
set_option maxRecDepth 100000 in
theorem gyX11_remember : am_Gy mX11_remember := am_gy kX11_remember (by decide +kernel) (by decide) rfl
set_option maxRecDepth 100000 in
theorem gyX11_begins0 : am_Gy mX11_begins0 := am_gy kX11_begins0 (by decide +kernel) (by decide) rfl
set_option maxRecDepth 100000 in
theorem gyX11_writes : am_Gy mX11_writes := am_gy kX11_writes (by decide +kernel) (by decide) rfl
set_option maxRecDepth 100000 in
theorem gyX11_isLate : am_Gy mX11_isLate := am_gy kX11_isLate (by decide +kernel) (by decide) rfl
set_option maxRecDepth 100000 in
theorem gyX11_actMake : am_Gy mX11_actMake := am_gy kX11_actMake (by decide +kernel) (by decide) rfl
set_option maxRecDepth 100000 in
theorem gyX11_actTake : am_Gy mX11_actTake := am_gy kX11_actTake (by decide +kernel) (by decide) rfl
set_option maxRecDepth 100000 in
theorem gyX11_canTake : am_Gy mX11_canTake := am_gy kX11_canTake (by decide +kernel) (by decide) rfl
set_option maxRecDepth 100000 in
theorem gyX11_make : am_Gy mX11_make := am_gy kX11_make (by decide +kernel) (by decide) rfl
set_option maxRecDepth 100000 in
theorem gyX11_undoes : am_Gy mX11_undoes := am_gy kX11_undoes (by decide +kernel) (by decide) rfl
set_option maxRecDepth 100000 in
theorem gyX11_takes_ : am_Gy mX11_takes_ := am_gy kX11_takes_ (by decide +kernel) (by decide) rfl
set_option maxRecDepth 100000 in
theorem gyX11_enter : am_Gy mX11_enter := am_gy kX11_enter (by decide +kernel) (by decide) rfl
set_option maxRecDepth 100000 in
theorem gyX11_forgets : am_Gy mX11_forgets := am_gy kX11_forgets (by decide +kernel) (by decide) rfl
set_option maxRecDepth 100000 in
theorem gyX11_sell : am_Gy mX11_sell := am_gy kX11_sell (by decide +kernel) (by decide) rfl
set_option maxRecDepth 100000 in
theorem gyX11_draw : am_Gy mX11_draw := am_gy kX11_draw (by decide +kernel) (by decide) rfl
set_option maxRecDepth 100000 in
theorem gyX11_happens : am_Gy mX11_happens := am_gy kX11_happens (by decide +kernel) (by decide) rfl
set_option maxRecDepth 100000 in
theorem gyX11_years : am_Gy mX11_years := am_gy kX11_years (by decide +kernel) (by decide) rfl
set_option maxRecDepth 100000 in
theorem gyX11_undo : am_Gy mX11_undo := am_gy kX11_undo (by decide +kernel) (by decide) rfl
set_option maxRecDepth 100000 in
theorem gyX11_log : am_Gy mX11_log := am_gy kX11_log (by decide +kernel) (by decide) rfl
set_option maxRecDepth 100000 in
theorem gyX11_isPlan : am_Gy mX11_isPlan := am_gy kX11_isPlan (by decide +kernel) (by decide) rfl
set_option maxRecDepth 100000 in
theorem gyX11_step : am_Gy mX11_step := am_gy kX11_step (by decide +kernel) (by decide) rfl
set_option maxRecDepth 100000 in
theorem gyX11_goPlan : am_Gy mX11_goPlan := am_gy kX11_goPlan (by decide +kernel) (by decide) rfl
set_option maxRecDepth 100000 in
theorem gyX11_copy : am_Gy mX11_copy := am_gy kX11_copy (by decide +kernel) (by decide) rfl
set_option maxRecDepth 100000 in
theorem gyX11_run : am_Gy mX11_run := am_gy kX11_run (by decide +kernel) (by decide) rfl
set_option maxRecDepth 100000 in
theorem gyX11_perform : am_Gy mX11_perform := am_gy kX11_perform (by decide +kernel) (by decide) rfl
set_option maxRecDepth 100000 in
theorem gyX11_laysMade : am_Gy mX11_laysMade := am_gy kX11_laysMade (by decide +kernel) (by decide) rfl
set_option maxRecDepth 100000 in
theorem gyX11_alike : am_Gy mX11_alike := am_gy kX11_alike (by decide +kernel) (by decide) rfl
set_option maxRecDepth 100000 in
theorem gyX11_costOf : am_Gy mX11_costOf := am_gy kX11_costOf (by decide +kernel) (by decide) rfl
set_option maxRecDepth 100000 in
theorem gyX11_costAt : am_Gy mX11_costAt := am_gy kX11_costAt (by decide +kernel) (by decide) rfl
set_option maxRecDepth 100000 in
theorem gyX11_cost : am_Gy mX11_cost := am_gy kX11_cost (by decide +kernel) (by decide) rfl
set_option maxRecDepth 100000 in
theorem gyX11_canLay : am_Gy mX11_canLay := am_gy kX11_canLay (by decide +kernel) (by decide) rfl
set_option maxRecDepth 100000 in
theorem gyX11_laysWays : am_Gy mX11_laysWays := am_gy kX11_laysWays (by decide +kernel) (by decide) rfl
set_option maxRecDepth 100000 in
theorem gyX11_picks : am_Gy mX11_picks := am_gy kX11_picks (by decide +kernel) (by decide) rfl
set_option maxRecDepth 100000 in
theorem gyX11_rows : am_Gy mX11_rows := am_gy kX11_rows (by decide +kernel) (by decide) rfl
set_option maxRecDepth 100000 in
theorem gyX11_row : am_Gy mX11_row := am_gy kX11_row (by decide +kernel) (by decide) rfl
set_option maxRecDepth 100000 in
theorem gyX11_drawn : am_Gy mX11_drawn := am_gy kX11_drawn (by decide +kernel) (by decide) rfl
set_option maxRecDepth 100000 in
theorem gyX11_laysCosts : am_Gy mX11_laysCosts := am_gy kX11_laysCosts (by decide +kernel) (by decide) rfl
set_option maxRecDepth 100000 in
theorem gyX11_cheapest : am_Gy mX11_cheapest := am_gy kX11_cheapest (by decide +kernel) (by decide) rfl
set_option maxRecDepth 100000 in
theorem gyX11_places : am_Gy mX11_places := am_gy kX11_places (by decide +kernel) (by decide) rfl
set_option maxRecDepth 100000 in
theorem gyX11_needs : am_Gy mX11_needs := am_gy kX11_needs (by decide +kernel) (by decide) rfl
set_option maxRecDepth 100000 in
theorem gyX11_sure : am_Gy mX11_sure := am_gy kX11_sure (by decide +kernel) (by decide) rfl
set_option maxRecDepth 100000 in
theorem gyX11_leftBy : am_Gy mX11_leftBy := am_gy kX11_leftBy (by decide +kernel) (by decide) rfl
set_option maxRecDepth 100000 in
theorem gyX11_knownBy : am_Gy mX11_knownBy := am_gy kX11_knownBy (by decide +kernel) (by decide) rfl
set_option maxRecDepth 100000 in
theorem gyX11_takenBy : am_Gy mX11_takenBy := am_gy kX11_takenBy (by decide +kernel) (by decide) rfl
set_option maxRecDepth 100000 in
theorem gyX11_areHands : am_Gy mX11_areHands := am_gy kX11_areHands (by decide +kernel) (by decide) rfl
set_option maxRecDepth 100000 in
theorem gyX11_alone : am_Gy mX11_alone := am_gy kX11_alone (by decide +kernel) (by decide) rfl
set_option maxRecDepth 100000 in
theorem gyX11_stuck : am_Gy mX11_stuck := am_gy kX11_stuck (by decide +kernel) (by decide) rfl
set_option maxRecDepth 100000 in
theorem gyX11_team : am_Gy mX11_team := am_gy kX11_team (by decide +kernel) (by decide) rfl
set_option maxRecDepth 100000 in
theorem gyX11_lesson : am_Gy mX11_lesson := am_gy kX11_lesson (by decide +kernel) (by decide) rfl
set_option maxRecDepth 100000 in
theorem gyX11_laysGame : am_Gy mX11_laysGame := am_gy kX11_laysGame (by decide +kernel) (by decide) rfl
set_option maxRecDepth 100000 in
theorem gyX11_game : am_Gy mX11_game := am_gy kX11_game (by decide +kernel) (by decide) rfl
set_option maxRecDepth 100000 in
theorem gyX11_odds : am_Gy mX11_odds := am_gy kX11_odds (by decide +kernel) (by decide) rfl
set_option maxRecDepth 100000 in
theorem gyX11_seen : am_Gy mX11_seen := am_gy kX11_seen (by decide +kernel) (by decide) rfl
set_option maxRecDepth 100000 in
theorem gyX11_firstCost : am_Gy mX11_firstCost := am_gy kX11_firstCost (by decide +kernel) (by decide) rfl
set_option maxRecDepth 100000 in
theorem gyX11_argsOf : am_Gy mX11_argsOf := am_gy kX11_argsOf (by decide +kernel) (by decide) rfl
set_option maxRecDepth 100000 in
theorem gyX11_args : am_Gy mX11_args := am_gy kX11_args (by decide +kernel) (by decide) rfl
set_option maxRecDepth 100000 in
theorem gyX11_ask : am_Gy mX11_ask := am_gy kX11_ask (by decide +kernel) (by decide) rfl
set_option maxRecDepth 100000 in
theorem gyX11_upon : am_Gy mX11_upon := am_gy kX11_upon (by decide +kernel) (by decide) rfl
set_option maxRecDepth 100000 in
theorem gyX11_high : am_Gy mX11_high := am_gy kX11_high (by decide +kernel) (by decide) rfl
set_option maxRecDepth 100000 in
theorem gyX11_partsOf : am_Gy mX11_partsOf := am_gy kX11_partsOf (by decide +kernel) (by decide) rfl
set_option maxRecDepth 100000 in
theorem gyX11_ends0 : am_Gy mX11_ends0 := am_gy kX11_ends0 (by decide +kernel) (by decide) rfl
set_option maxRecDepth 100000 in
theorem gyX11_all : am_Gy mX11_all := am_gy kX11_all (by decide +kernel) (by decide) rfl
set_option maxRecDepth 100000 in
theorem gyX11_image : am_Gy mX11_image := am_gy kX11_image (by decide +kernel) (by decide) rfl
set_option maxRecDepth 100000 in
theorem gyX11_back : am_Gy mX11_back := am_gy kX11_back (by decide +kernel) (by decide) rfl
set_option maxRecDepth 100000 in
theorem gyX11_count : am_Gy mX11_count := am_gy kX11_count (by decide +kernel) (by decide) rfl
set_option maxRecDepth 100000 in
theorem gyJ6_bitCount_0f7a4 : am_Gy mJ6_bitCount_0f7a4 := am_gy kJ6_bitCount_0f7a4 (by decide +kernel) (by decide) rfl
set_option maxRecDepth 100000 in
theorem gyL_law : am_Gy mL_law := am_gy (am_chunks (am_cd mL_law) 22 (by decide) (fun j hj => by
  match j, hj with
  | 0, _ => exact kL_law_0
  | 1, _ => exact kL_law_1
  | 2, _ => exact kL_law_2
  | 3, _ => exact kL_law_3
  | 4, _ => exact kL_law_4
  | 5, _ => exact kL_law_5
  | 6, _ => exact kL_law_6
  | 7, _ => exact kL_law_7
  | 8, _ => exact kL_law_8
  | 9, _ => exact kL_law_9
  | 10, _ => exact kL_law_10
  | 11, _ => exact kL_law_11
  | 12, _ => exact kL_law_12
  | 13, _ => exact kL_law_13
  | 14, _ => exact kL_law_14
  | 15, _ => exact kL_law_15
  | 16, _ => exact kL_law_16
  | 17, _ => exact kL_law_17
  | 18, _ => exact kL_law_18
  | 19, _ => exact kL_law_19
  | 20, _ => exact kL_law_20
  | 21, _ => exact kL_law_21
  | j + 22, hj => exact absurd hj (by omega))) (by decide +kernel) (by decide) rfl
